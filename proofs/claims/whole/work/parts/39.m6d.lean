set_option maxHeartbeats 4000000 in
set_option maxRecDepth 100000 in
theorem c_X6_setCount (l : Launch) (dC : Nat → ClassId) (dI : Nat → Nat → Nat) (sz : Nat) (cI cL : ClassId) (m0 m1 m2 m3 m4 m5 m6 m7 m8 m9 m10 m11 m12 : Nat) (bm ty sp fa fp kn lf yo ol : Nat) (un hh : Int64) (dr : Int32) (P hs : Nat → Nat) (a b : Int32) (h1 : bm ≤ 8) : Met l yX6_setCount (kw yX6_setCount cX6_setCount 3 (some .int)) (kR 2 44) (kPq (dC, dI) [.ref m0, .int a, .int b] sz [(m0, .inr (6, [.ref m1, .ref m2, .int (nI bm), .long un, .ref m3, .int (nI ty), .ref m4, .int (nI sp), .int (nI fa), .int (nI fp), .int (nI kn), .ref m5, .ref m6, .ref m7, .ref m8, .ref m9, .int dr, .ref m10, .ref m11, .int (nI lf), .int (nI yo), .int (nI ol), .ref m12, .long hh])), (m1, .inl (cI, 22, .inl (fun zz => nI (P zz)))), (m2, .inl (cI, 176, .inl (fun zz => nI (hs zz))))] [(cI, .int)]) (va_Qi (fun (res : Int32) (u : (Nat → Nat) × (Nat → Nat) × Nat × Nat) => (res, u.1, u.2.1, u.2.2.1, u.2.2.2) = setO P hs bm kn ((nI 0 ≤ a ∧ a ≤ nI 2) ∧ (nI (lsO (nO a)) ≤ b ∧ b ≤ nI (msO (nO a)))) (nO a) (nO b)) (fun u : (Nat → Nat) × (Nat → Nat) × Nat × Nat => kB (dC, dI) [(cI, .int)] (va_A [(m0, .inr (6, [.ref m1, .ref m2, .int (nI bm), .long un, .ref m3, .int (nI ty), .ref m4, .int (nI sp), .int (nI fa), .int (nI fp), .int (nI kn), .ref m5, .ref m6, .ref m7, .ref m8, .ref m9, .int dr, .ref m10, .ref m11, .int (nI lf), .int (nI yo), .int (nI ol), .ref m12, .long hh])), (m1, .inl (cI, 22, .inl (fun zz => nI (P zz)))), (m2, .inl (cI, 176, .inl (fun zz => nI (hs zz))))] sz) ([(m0, .inr (6, [.ref m1, .ref m2, .int (nI u.2.2.1), .long un, .ref m3, .int (nI ty), .ref m4, .int (nI sp), .int (nI fa), .int (nI fp), .int (nI u.2.2.2), .ref m5, .ref m6, .ref m7, .ref m8, .ref m9, .int dr, .ref m10, .ref m11, .int (nI lf), .int (nI yo), .int (nI ol), .ref m12, .long hh])), (m1, .inl (cI, 22, .inl (fun zz => nI (u.1 zz)))), (m2, .inl (cI, 176, .inl (fun zz => nI (u.2.1 zz))))])) (va_A [(m0, .inr (6, [.ref m1, .ref m2, .int (nI bm), .long un, .ref m3, .int (nI ty), .ref m4, .int (nI sp), .int (nI fa), .int (nI fp), .int (nI kn), .ref m5, .ref m6, .ref m7, .ref m8, .ref m9, .int dr, .ref m10, .ref m11, .int (nI lf), .int (nI yo), .int (nI ol), .ref m12, .long hh])), (m1, .inl (cI, 22, .inl (fun zz => nI (P zz)))), (m2, .inl (cI, 176, .inl (fun zz => nI (hs zz))))] sz)) 0 0 (va_A [(m0, .inr (6, [.ref m1, .ref m2, .int (nI bm), .long un, .ref m3, .int (nI ty), .ref m4, .int (nI sp), .int (nI fa), .int (nI fp), .int (nI kn), .ref m5, .ref m6, .ref m7, .ref m8, .ref m9, .int dr, .ref m10, .ref m11, .int (nI lf), .int (nI yo), .int (nI ol), .ref m12, .long hh])), (m1, .inl (cI, 22, .inl (fun zz => nI (P zz)))), (m2, .inl (cI, 176, .inl (fun zz => nI (hs zz))))] sz) := by
  refine kmet (by decide) ?_
  intro p e s m args below meth c Y hr hlocks hin hv
  obtain ⟨rfl, A, hAe, hsz, hP, hK, hD, hZ, hA⟩ := kinQ hv
  rw [hAe]
  have hS : va_S A s.heap s.heap [] := va_S.rf
  have hx := Y.1
  have hb := Y.2.1
  have hml := Y.2.2.1
  have hown := Y.2.2.2.1
  have hts := Y.2.2.2.2
  have hl := lv_entry ([.ref m0, .int a, .int b]) (n := 3) (Nat.le_of_ble_eq_true rfl)
  rw [lg_entry_eq]
  generalize (lg_sl ([.ref m0, .int a, .int b]) ++ List.replicate (3 - (lg_sl ([.ref m0, .int a, .int b])).length) Slot.unset).toArray = ls at hl ⊢
  have hl : lv_has ls 3 [(0, .ref m0), (1, .int a), (2, .int b)] := hl
  refine lv_iload_n hx hb dX6_setCount_0 rfl (lv_at hl 1 rfl) ?_
  refine lv_iconst (v := nI 0) hx hb dX6_setCount_1 (by decide) ?_
  refine lv_iconst (v := nI 2) hx hb dX6_setCount_2 (by decide) ?_
  refine kSi (As := [.int a, .int (nI 0), .int (nI 2)]) (rest := []) Y m_X6_in (c_X6_in l dC dI a (nI 0) (nI 2) ) qm_X6_69 (kpS hK hP hZ hS [] [] rfl rfl) rfl hl.1 rfl (Nat.le_of_ble_eq_true rfl) dX6_setCount_3 ⟨Nat.le_of_ble_eq_true rfl, Nat.le_of_ble_eq_true rfl⟩ ⟨Nat.zero_le _, Nat.zero_le _⟩ (fun r3 hr3 => ?_)
  obtain rfl : r3 = b2i ((nI 0) ≤ a ∧ a ≤ (nI 2)) := hr3
  refine ri_beq (tgt := 26) hx hb dX6_setCount_6 (by decide) (fun c6 => ?_) (fun c6 => ?_)
  · refine lv_iconst (v := -1) hx hb dX6_setCount_26 (by decide) ?_
    exact kqi (w1 := (fun u : (Nat → Nat) × (Nat → Nat) × Nat × Nat => [(m0, .inr (6, [.ref m1, .ref m2, .int (nI u.2.2.1), .long un, .ref m3, .int (nI ty), .ref m4, .int (nI sp), .int (nI fa), .int (nI fp), .int (nI u.2.2.2), .ref m5, .ref m6, .ref m7, .ref m8, .ref m9, .int dr, .ref m10, .ref m11, .int (nI lf), .int (nI yo), .int (nI ol), .ref m12, .long hh])), (m1, .inl (cI, 22, .inl (fun zz => nI (u.1 zz)))), (m2, .inl (cI, 176, .inl (fun zz => nI (u.2.1 zz))))])) (v := (-1)) Y hr hlocks hK hP hD hS [0, 1, 2] (by decide) (P, hs, bm, kn) rfl (if_neg (fun q => c6 q.1)).symm dX6_setCount_27
  · obtain ⟨xa, rfl, hxa1, hxa2⟩ := in_n (by decide) (by decide) c6
    refine lv_iload_n hx hb dX6_setCount_9 rfl (lv_at hl 1 rfl) ?_
    refine lv_iload_n hx hb dX6_setCount_10 rfl (lv_at hl 2 rfl) ?_
    refine kSi (As := [.int (nI xa), .int b]) (rest := []) Y m_X6_isRight (c_X6_isRight l dC dI xa b (by omega)) qm_X6_73 (kpS hK hP hZ hS [] [] rfl rfl) rfl hl.1 rfl (Nat.le_of_ble_eq_true rfl) dX6_setCount_11 ⟨Nat.le_of_ble_eq_true rfl, Nat.le_of_ble_eq_true rfl⟩ ⟨Nat.zero_le _, Nat.zero_le _⟩ (fun r11 hr11 => ?_)
    obtain rfl : r11 = b2i (nI (lsO xa) ≤ b ∧ b ≤ nI (msO xa)) := hr11
    refine ri_beq (tgt := 26) hx hb dX6_setCount_14 (by decide) (fun c14 => ?_) (fun c14 => ?_)
    · refine lv_iconst (v := -1) hx hb dX6_setCount_26 (by decide) ?_
      exact kqi (w1 := (fun u : (Nat → Nat) × (Nat → Nat) × Nat × Nat => [(m0, .inr (6, [.ref m1, .ref m2, .int (nI u.2.2.1), .long un, .ref m3, .int (nI ty), .ref m4, .int (nI sp), .int (nI fa), .int (nI fp), .int (nI u.2.2.2), .ref m5, .ref m6, .ref m7, .ref m8, .ref m9, .int dr, .ref m10, .ref m11, .int (nI lf), .int (nI yo), .int (nI ol), .ref m12, .long hh])), (m1, .inl (cI, 22, .inl (fun zz => nI (u.1 zz)))), (m2, .inl (cI, 176, .inl (fun zz => nI (u.2.1 zz))))])) (v := (-1)) Y hr hlocks hK hP hD hS [0, 1, 2] (by decide) (P, hs, bm, kn) rfl (by rw [nO_n (by omega)]; exact (if_neg (fun q => c14 q.2)).symm) dX6_setCount_27
    · obtain ⟨xb, rfl, hxb1, hxb2⟩ := in_n (by have := lsO_b xa; omega) (by have := msO_b xa; omega) c14
      have hxm := msO_b xa
      refine lv_aload_n hx hb dX6_setCount_17 rfl (lv_at hl 0 rfl) ?_
      refine lv_iload_n hx hb dX6_setCount_18 rfl (lv_at hl 1 rfl) ?_
      refine lv_iload_n hx hb dX6_setCount_19 rfl (lv_at hl 2 rfl) ?_
      refine kQi (As := [.int (nI xa), .int (nI xb)]) (rest := []) (wr := []) Y m_X6_sets (c_X6_sets l dC dI _ cI cL m0 m1 m2 m3 m4 m5 m6 m7 m8 m9 m10 m11 m12 bm ty sp fa fp kn lf yo ol un hh dr P hs xa xb (by omega) (by omega)) qm_X6_77 hP hD hS hA [0, 1, 2] [] rfl rfl (by decide) (by decide) (kqV (ci := 6) hK hP hD hZ hS hA [0, 1, 2] [0] rfl (by decide) rfl 0 rfl rfl rfl) rfl hl.1 rfl (Nat.le_of_ble_eq_true rfl) dX6_setCount_20 ⟨Nat.le_of_ble_eq_true rfl, Nat.le_of_ble_eq_true rfl⟩ ⟨Nat.zero_le _, Nat.zero_le _⟩ (fun r20 u20 H locs hr20 hP hD hS => ?_)
      have hP : va_P (dC, dI) vwCl [(m0, .inr (6, [.ref m1, .ref m2, .int (nI (recN bm)), .long un, .ref m3, .int (nI ty), .ref m4, .int (nI sp), .int (nI fa), .int (nI fp), .int (nI 0), .ref m5, .ref m6, .ref m7, .ref m8, .ref m9, .int dr, .ref m10, .ref m11, .int (nI lf), .int (nI yo), .int (nI ol), .ref m12, .long hh])), (m1, .inl (cI, 22, .inl (fun zz => nI (updN P xa xb zz)))), (m2, .inl (cI, 176, .inl (fun zz => nI (recS P hs bm zz))))] H := hP
      have hD : va_D A [(m0, .inr (6, [.ref m1, .ref m2, .int (nI (recN bm)), .long un, .ref m3, .int (nI ty), .ref m4, .int (nI sp), .int (nI fa), .int (nI fp), .int (nI 0), .ref m5, .ref m6, .ref m7, .ref m8, .ref m9, .int dr, .ref m10, .ref m11, .int (nI lf), .int (nI yo), .int (nI ol), .ref m12, .long hh])), (m1, .inl (cI, 22, .inl (fun zz => nI (updN P xa xb zz)))), (m2, .inl (cI, 176, .inl (fun zz => nI (recS P hs bm zz))))] := hD
      obtain rfl : r20 = nI (P xa) := hr20
      refine lv_goto (tgt := 27) hx hb dX6_setCount_23 (by decide) ?_
      exact kqi (w1 := (fun u : (Nat → Nat) × (Nat → Nat) × Nat × Nat => [(m0, .inr (6, [.ref m1, .ref m2, .int (nI u.2.2.1), .long un, .ref m3, .int (nI ty), .ref m4, .int (nI sp), .int (nI fa), .int (nI fp), .int (nI u.2.2.2), .ref m5, .ref m6, .ref m7, .ref m8, .ref m9, .int dr, .ref m10, .ref m11, .int (nI lf), .int (nI yo), .int (nI ol), .ref m12, .long hh])), (m1, .inl (cI, 22, .inl (fun zz => nI (u.1 zz)))), (m2, .inl (cI, 176, .inl (fun zz => nI (u.2.1 zz))))])) (v := nI (P xa)) Y hr hlocks hK hP hD hS [0, 1, 2] (by decide) (updN P xa xb, recS P hs bm, recN bm, 0) rfl (by rw [nO_n (by omega), nO_n (by omega)]; exact (if_pos ⟨c6, c14⟩).symm) dX6_setCount_27
set_option maxHeartbeats 4000000 in
set_option maxRecDepth 100000 in
theorem c_X6_setPayoff (l : Launch) (dC : Nat → ClassId) (dI : Nat → Nat → Nat) (sz : Nat) (cI cL : ClassId) (m0 m1 m2 m3 m4 m5 m6 m7 m8 m9 m10 m11 m12 : Nat) (bm ty sp fa fp kn lf yo ol : Nat) (un hh : Int64) (dr : Int32) (P hs : Nat → Nat) (a b : Int32) (h1 : bm ≤ 8) : Met l yX6_setPayoff (kw yX6_setPayoff cX6_setPayoff 3 (some .int)) (kR 2 44) (kPq (dC, dI) [.ref m0, .int a, .int b] sz [(m0, .inr (6, [.ref m1, .ref m2, .int (nI bm), .long un, .ref m3, .int (nI ty), .ref m4, .int (nI sp), .int (nI fa), .int (nI fp), .int (nI kn), .ref m5, .ref m6, .ref m7, .ref m8, .ref m9, .int dr, .ref m10, .ref m11, .int (nI lf), .int (nI yo), .int (nI ol), .ref m12, .long hh])), (m1, .inl (cI, 22, .inl (fun zz => nI (P zz)))), (m2, .inl (cI, 176, .inl (fun zz => nI (hs zz))))] [(cI, .int)]) (va_Qi (fun (res : Int32) (u : (Nat → Nat) × (Nat → Nat) × Nat × Nat) => (res, u.1, u.2.1, u.2.2.1, u.2.2.2) = setO P hs bm kn ((nI 1 ≤ a ∧ a ≤ nI 7) ∧ (nI 0 ≤ b ∧ b ≤ nI 99)) (3 + nO a - 1) (nO b)) (fun u : (Nat → Nat) × (Nat → Nat) × Nat × Nat => kB (dC, dI) [(cI, .int)] (va_A [(m0, .inr (6, [.ref m1, .ref m2, .int (nI bm), .long un, .ref m3, .int (nI ty), .ref m4, .int (nI sp), .int (nI fa), .int (nI fp), .int (nI kn), .ref m5, .ref m6, .ref m7, .ref m8, .ref m9, .int dr, .ref m10, .ref m11, .int (nI lf), .int (nI yo), .int (nI ol), .ref m12, .long hh])), (m1, .inl (cI, 22, .inl (fun zz => nI (P zz)))), (m2, .inl (cI, 176, .inl (fun zz => nI (hs zz))))] sz) ([(m0, .inr (6, [.ref m1, .ref m2, .int (nI u.2.2.1), .long un, .ref m3, .int (nI ty), .ref m4, .int (nI sp), .int (nI fa), .int (nI fp), .int (nI u.2.2.2), .ref m5, .ref m6, .ref m7, .ref m8, .ref m9, .int dr, .ref m10, .ref m11, .int (nI lf), .int (nI yo), .int (nI ol), .ref m12, .long hh])), (m1, .inl (cI, 22, .inl (fun zz => nI (u.1 zz)))), (m2, .inl (cI, 176, .inl (fun zz => nI (u.2.1 zz))))])) (va_A [(m0, .inr (6, [.ref m1, .ref m2, .int (nI bm), .long un, .ref m3, .int (nI ty), .ref m4, .int (nI sp), .int (nI fa), .int (nI fp), .int (nI kn), .ref m5, .ref m6, .ref m7, .ref m8, .ref m9, .int dr, .ref m10, .ref m11, .int (nI lf), .int (nI yo), .int (nI ol), .ref m12, .long hh])), (m1, .inl (cI, 22, .inl (fun zz => nI (P zz)))), (m2, .inl (cI, 176, .inl (fun zz => nI (hs zz))))] sz)) 0 0 (va_A [(m0, .inr (6, [.ref m1, .ref m2, .int (nI bm), .long un, .ref m3, .int (nI ty), .ref m4, .int (nI sp), .int (nI fa), .int (nI fp), .int (nI kn), .ref m5, .ref m6, .ref m7, .ref m8, .ref m9, .int dr, .ref m10, .ref m11, .int (nI lf), .int (nI yo), .int (nI ol), .ref m12, .long hh])), (m1, .inl (cI, 22, .inl (fun zz => nI (P zz)))), (m2, .inl (cI, 176, .inl (fun zz => nI (hs zz))))] sz) := by
  refine kmet (by decide) ?_
  intro p e s m args below meth c Y hr hlocks hin hv
  obtain ⟨rfl, A, hAe, hsz, hP, hK, hD, hZ, hA⟩ := kinQ hv
  rw [hAe]
  have hS : va_S A s.heap s.heap [] := va_S.rf
  have hx := Y.1
  have hb := Y.2.1
  have hml := Y.2.2.1
  have hown := Y.2.2.2.1
  have hts := Y.2.2.2.2
  have hl := lv_entry ([.ref m0, .int a, .int b]) (n := 3) (Nat.le_of_ble_eq_true rfl)
  rw [lg_entry_eq]
  generalize (lg_sl ([.ref m0, .int a, .int b]) ++ List.replicate (3 - (lg_sl ([.ref m0, .int a, .int b])).length) Slot.unset).toArray = ls at hl ⊢
  have hl : lv_has ls 3 [(0, .ref m0), (1, .int a), (2, .int b)] := hl
  refine lv_iload_n hx hb dX6_setPayoff_0 rfl (lv_at hl 1 rfl) ?_
  refine lv_iconst (v := nI 1) hx hb dX6_setPayoff_1 (by decide) ?_
  refine lv_bipush (v := nI 7) hx hb dX6_setPayoff_2 (by decide) ?_
  refine kSi (As := [.int a, .int (nI 1), .int (nI 7)]) (rest := []) Y m_X6_in (c_X6_in l dC dI a (nI 1) (nI 7) ) qm_X6_69 (kpS hK hP hZ hS [] [] rfl rfl) rfl hl.1 rfl (Nat.le_of_ble_eq_true rfl) dX6_setPayoff_4 ⟨Nat.le_of_ble_eq_true rfl, Nat.le_of_ble_eq_true rfl⟩ ⟨Nat.zero_le _, Nat.zero_le _⟩ (fun r4 hr4 => ?_)
  obtain rfl : r4 = b2i ((nI 1) ≤ a ∧ a ≤ (nI 7)) := hr4
  refine ri_beq (tgt := 33) hx hb dX6_setPayoff_7 (by decide) (fun c7 => ?_) (fun c7 => ?_)
  · refine lv_iconst (v := -1) hx hb dX6_setPayoff_33 (by decide) ?_
    exact kqi (w1 := (fun u : (Nat → Nat) × (Nat → Nat) × Nat × Nat => [(m0, .inr (6, [.ref m1, .ref m2, .int (nI u.2.2.1), .long un, .ref m3, .int (nI ty), .ref m4, .int (nI sp), .int (nI fa), .int (nI fp), .int (nI u.2.2.2), .ref m5, .ref m6, .ref m7, .ref m8, .ref m9, .int dr, .ref m10, .ref m11, .int (nI lf), .int (nI yo), .int (nI ol), .ref m12, .long hh])), (m1, .inl (cI, 22, .inl (fun zz => nI (u.1 zz)))), (m2, .inl (cI, 176, .inl (fun zz => nI (u.2.1 zz))))])) (v := (-1)) Y hr hlocks hK hP hD hS [0, 1, 2] (by decide) (P, hs, bm, kn) rfl (if_neg (fun q => c7 q.1)).symm dX6_setPayoff_34
  · obtain ⟨xa, rfl, hxa1, hxa2⟩ := in_n (by decide) (by decide) c7
    refine lv_iload_n hx hb dX6_setPayoff_10 rfl (lv_at hl 2 rfl) ?_
    refine lv_iconst (v := nI 0) hx hb dX6_setPayoff_11 (by decide) ?_
    refine lv_bipush (v := nI 99) hx hb dX6_setPayoff_12 (by decide) ?_
    refine kSi (As := [.int b, .int (nI 0), .int (nI 99)]) (rest := []) Y m_X6_in (c_X6_in l dC dI b (nI 0) (nI 99) ) qm_X6_69 (kpS hK hP hZ hS [] [] rfl rfl) rfl hl.1 rfl (Nat.le_of_ble_eq_true rfl) dX6_setPayoff_14 ⟨Nat.le_of_ble_eq_true rfl, Nat.le_of_ble_eq_true rfl⟩ ⟨Nat.zero_le _, Nat.zero_le _⟩ (fun r14 hr14 => ?_)
    obtain rfl : r14 = b2i ((nI 0) ≤ b ∧ b ≤ (nI 99)) := hr14
    refine ri_beq (tgt := 33) hx hb dX6_setPayoff_17 (by decide) (fun c17 => ?_) (fun c17 => ?_)
    · refine lv_iconst (v := -1) hx hb dX6_setPayoff_33 (by decide) ?_
      exact kqi (w1 := (fun u : (Nat → Nat) × (Nat → Nat) × Nat × Nat => [(m0, .inr (6, [.ref m1, .ref m2, .int (nI u.2.2.1), .long un, .ref m3, .int (nI ty), .ref m4, .int (nI sp), .int (nI fa), .int (nI fp), .int (nI u.2.2.2), .ref m5, .ref m6, .ref m7, .ref m8, .ref m9, .int dr, .ref m10, .ref m11, .int (nI lf), .int (nI yo), .int (nI ol), .ref m12, .long hh])), (m1, .inl (cI, 22, .inl (fun zz => nI (u.1 zz)))), (m2, .inl (cI, 176, .inl (fun zz => nI (u.2.1 zz))))])) (v := (-1)) Y hr hlocks hK hP hD hS [0, 1, 2] (by decide) (P, hs, bm, kn) rfl (if_neg (fun q => c17 q.2)).symm dX6_setPayoff_34
    · obtain ⟨xb, rfl, hxb1, hxb2⟩ := in_n (by decide) (by decide) c17
      refine lv_aload_n hx hb dX6_setPayoff_20 rfl (lv_at hl 0 rfl) ?_
      refine lv_iconst (v := nI 3) hx hb dX6_setPayoff_21 (by decide) ?_
      refine lv_iload_n hx hb dX6_setPayoff_22 rfl (lv_at hl 1 rfl) ?_
      refine ri_add hx hb dX6_setPayoff_23 ?_
      refine lv_iconst (v := nI 1) hx hb dX6_setPayoff_24 (by decide) ?_
      refine ri_sub hx hb dX6_setPayoff_25 (by omega) ?_
      refine lv_iload_n hx hb dX6_setPayoff_26 rfl (lv_at hl 2 rfl) ?_
      refine kQi (As := [.int (nI ((3 + xa) - 1)), .int (nI xb)]) (rest := []) (wr := []) Y m_X6_sets (c_X6_sets l dC dI _ cI cL m0 m1 m2 m3 m4 m5 m6 m7 m8 m9 m10 m11 m12 bm ty sp fa fp kn lf yo ol un hh dr P hs ((3 + xa) - 1) xb (by omega) (by omega)) qm_X6_77 hP hD hS hA [0, 1, 2] [] rfl rfl (by decide) (by decide) (kqV (ci := 6) hK hP hD hZ hS hA [0, 1, 2] [0] rfl (by decide) rfl 0 rfl rfl rfl) rfl hl.1 rfl (Nat.le_of_ble_eq_true rfl) dX6_setPayoff_27 ⟨Nat.le_of_ble_eq_true rfl, Nat.le_of_ble_eq_true rfl⟩ ⟨Nat.zero_le _, Nat.zero_le _⟩ (fun r27 u27 H locs hr27 hP hD hS => ?_)
      have hP : va_P (dC, dI) vwCl [(m0, .inr (6, [.ref m1, .ref m2, .int (nI (recN bm)), .long un, .ref m3, .int (nI ty), .ref m4, .int (nI sp), .int (nI fa), .int (nI fp), .int (nI 0), .ref m5, .ref m6, .ref m7, .ref m8, .ref m9, .int dr, .ref m10, .ref m11, .int (nI lf), .int (nI yo), .int (nI ol), .ref m12, .long hh])), (m1, .inl (cI, 22, .inl (fun zz => nI (updN P ((3 + xa) - 1) xb zz)))), (m2, .inl (cI, 176, .inl (fun zz => nI (recS P hs bm zz))))] H := hP
      have hD : va_D A [(m0, .inr (6, [.ref m1, .ref m2, .int (nI (recN bm)), .long un, .ref m3, .int (nI ty), .ref m4, .int (nI sp), .int (nI fa), .int (nI fp), .int (nI 0), .ref m5, .ref m6, .ref m7, .ref m8, .ref m9, .int dr, .ref m10, .ref m11, .int (nI lf), .int (nI yo), .int (nI ol), .ref m12, .long hh])), (m1, .inl (cI, 22, .inl (fun zz => nI (updN P ((3 + xa) - 1) xb zz)))), (m2, .inl (cI, 176, .inl (fun zz => nI (recS P hs bm zz))))] := hD
      obtain rfl : r27 = nI (P ((3 + xa) - 1)) := hr27
      refine lv_goto (tgt := 34) hx hb dX6_setPayoff_30 (by decide) ?_
      exact kqi (w1 := (fun u : (Nat → Nat) × (Nat → Nat) × Nat × Nat => [(m0, .inr (6, [.ref m1, .ref m2, .int (nI u.2.2.1), .long un, .ref m3, .int (nI ty), .ref m4, .int (nI sp), .int (nI fa), .int (nI fp), .int (nI u.2.2.2), .ref m5, .ref m6, .ref m7, .ref m8, .ref m9, .int dr, .ref m10, .ref m11, .int (nI lf), .int (nI yo), .int (nI ol), .ref m12, .long hh])), (m1, .inl (cI, 22, .inl (fun zz => nI (u.1 zz)))), (m2, .inl (cI, 176, .inl (fun zz => nI (u.2.1 zz))))])) (v := nI (P ((3 + xa) - 1))) Y hr hlocks hK hP hD hS [0, 1, 2] (by decide) (updN P ((3 + xa) - 1) xb, recS P hs bm, recN bm, 0) rfl (by rw [nO_n (n := xa) (by omega), nO_n (by omega)]; exact (if_pos ⟨c7, c17⟩).symm) dX6_setPayoff_34
set_option maxHeartbeats 4000000 in
set_option maxRecDepth 100000 in
theorem c_X6_setLevel (l : Launch) (dC : Nat → ClassId) (dI : Nat → Nat → Nat) (sz : Nat) (cI cL : ClassId) (m0 m1 m2 m3 m4 m5 m6 m7 m8 m9 m10 m11 m12 : Nat) (bm ty sp fa fp kn lf yo ol : Nat) (un hh : Int64) (dr : Int32) (P hs : Nat → Nat) (a b : Int32) (h1 : bm ≤ 8) : Met l yX6_setLevel (kw yX6_setLevel cX6_setLevel 3 (some .int)) (kR 2 44) (kPq (dC, dI) [.ref m0, .int a, .int b] sz [(m0, .inr (6, [.ref m1, .ref m2, .int (nI bm), .long un, .ref m3, .int (nI ty), .ref m4, .int (nI sp), .int (nI fa), .int (nI fp), .int (nI kn), .ref m5, .ref m6, .ref m7, .ref m8, .ref m9, .int dr, .ref m10, .ref m11, .int (nI lf), .int (nI yo), .int (nI ol), .ref m12, .long hh])), (m1, .inl (cI, 22, .inl (fun zz => nI (P zz)))), (m2, .inl (cI, 176, .inl (fun zz => nI (hs zz))))] [(cI, .int)]) (va_Qi (fun (res : Int32) (u : (Nat → Nat) × (Nat → Nat) × Nat × Nat) => (res, u.1, u.2.1, u.2.2.1, u.2.2.2) = setO P hs bm kn ((nI 0 ≤ a ∧ a ≤ nI 4) ∧ (nI 0 ≤ b ∧ b ≤ nI 99)) (10 + nO a) (nO b)) (fun u : (Nat → Nat) × (Nat → Nat) × Nat × Nat => kB (dC, dI) [(cI, .int)] (va_A [(m0, .inr (6, [.ref m1, .ref m2, .int (nI bm), .long un, .ref m3, .int (nI ty), .ref m4, .int (nI sp), .int (nI fa), .int (nI fp), .int (nI kn), .ref m5, .ref m6, .ref m7, .ref m8, .ref m9, .int dr, .ref m10, .ref m11, .int (nI lf), .int (nI yo), .int (nI ol), .ref m12, .long hh])), (m1, .inl (cI, 22, .inl (fun zz => nI (P zz)))), (m2, .inl (cI, 176, .inl (fun zz => nI (hs zz))))] sz) ([(m0, .inr (6, [.ref m1, .ref m2, .int (nI u.2.2.1), .long un, .ref m3, .int (nI ty), .ref m4, .int (nI sp), .int (nI fa), .int (nI fp), .int (nI u.2.2.2), .ref m5, .ref m6, .ref m7, .ref m8, .ref m9, .int dr, .ref m10, .ref m11, .int (nI lf), .int (nI yo), .int (nI ol), .ref m12, .long hh])), (m1, .inl (cI, 22, .inl (fun zz => nI (u.1 zz)))), (m2, .inl (cI, 176, .inl (fun zz => nI (u.2.1 zz))))])) (va_A [(m0, .inr (6, [.ref m1, .ref m2, .int (nI bm), .long un, .ref m3, .int (nI ty), .ref m4, .int (nI sp), .int (nI fa), .int (nI fp), .int (nI kn), .ref m5, .ref m6, .ref m7, .ref m8, .ref m9, .int dr, .ref m10, .ref m11, .int (nI lf), .int (nI yo), .int (nI ol), .ref m12, .long hh])), (m1, .inl (cI, 22, .inl (fun zz => nI (P zz)))), (m2, .inl (cI, 176, .inl (fun zz => nI (hs zz))))] sz)) 0 0 (va_A [(m0, .inr (6, [.ref m1, .ref m2, .int (nI bm), .long un, .ref m3, .int (nI ty), .ref m4, .int (nI sp), .int (nI fa), .int (nI fp), .int (nI kn), .ref m5, .ref m6, .ref m7, .ref m8, .ref m9, .int dr, .ref m10, .ref m11, .int (nI lf), .int (nI yo), .int (nI ol), .ref m12, .long hh])), (m1, .inl (cI, 22, .inl (fun zz => nI (P zz)))), (m2, .inl (cI, 176, .inl (fun zz => nI (hs zz))))] sz) := by
  refine kmet (by decide) ?_
  intro p e s m args below meth c Y hr hlocks hin hv
  obtain ⟨rfl, A, hAe, hsz, hP, hK, hD, hZ, hA⟩ := kinQ hv
  rw [hAe]
  have hS : va_S A s.heap s.heap [] := va_S.rf
  have hx := Y.1
  have hb := Y.2.1
  have hml := Y.2.2.1
  have hown := Y.2.2.2.1
  have hts := Y.2.2.2.2
  have hl := lv_entry ([.ref m0, .int a, .int b]) (n := 3) (Nat.le_of_ble_eq_true rfl)
  rw [lg_entry_eq]
  generalize (lg_sl ([.ref m0, .int a, .int b]) ++ List.replicate (3 - (lg_sl ([.ref m0, .int a, .int b])).length) Slot.unset).toArray = ls at hl ⊢
  have hl : lv_has ls 3 [(0, .ref m0), (1, .int a), (2, .int b)] := hl
  refine lv_iload_n hx hb dX6_setLevel_0 rfl (lv_at hl 1 rfl) ?_
  refine lv_iconst (v := nI 0) hx hb dX6_setLevel_1 (by decide) ?_
  refine lv_iconst (v := nI 4) hx hb dX6_setLevel_2 (by decide) ?_
  refine kSi (As := [.int a, .int (nI 0), .int (nI 4)]) (rest := []) Y m_X6_in (c_X6_in l dC dI a (nI 0) (nI 4) ) qm_X6_69 (kpS hK hP hZ hS [] [] rfl rfl) rfl hl.1 rfl (Nat.le_of_ble_eq_true rfl) dX6_setLevel_3 ⟨Nat.le_of_ble_eq_true rfl, Nat.le_of_ble_eq_true rfl⟩ ⟨Nat.zero_le _, Nat.zero_le _⟩ (fun r3 hr3 => ?_)
  obtain rfl : r3 = b2i ((nI 0) ≤ a ∧ a ≤ (nI 4)) := hr3
  refine ri_beq (tgt := 31) hx hb dX6_setLevel_6 (by decide) (fun c6 => ?_) (fun c6 => ?_)
  · refine lv_iconst (v := -1) hx hb dX6_setLevel_31 (by decide) ?_
    exact kqi (w1 := (fun u : (Nat → Nat) × (Nat → Nat) × Nat × Nat => [(m0, .inr (6, [.ref m1, .ref m2, .int (nI u.2.2.1), .long un, .ref m3, .int (nI ty), .ref m4, .int (nI sp), .int (nI fa), .int (nI fp), .int (nI u.2.2.2), .ref m5, .ref m6, .ref m7, .ref m8, .ref m9, .int dr, .ref m10, .ref m11, .int (nI lf), .int (nI yo), .int (nI ol), .ref m12, .long hh])), (m1, .inl (cI, 22, .inl (fun zz => nI (u.1 zz)))), (m2, .inl (cI, 176, .inl (fun zz => nI (u.2.1 zz))))])) (v := (-1)) Y hr hlocks hK hP hD hS [0, 1, 2] (by decide) (P, hs, bm, kn) rfl (if_neg (fun q => c6 q.1)).symm dX6_setLevel_32
  · obtain ⟨xa, rfl, hxa1, hxa2⟩ := in_n (by decide) (by decide) c6
    refine lv_iload_n hx hb dX6_setLevel_9 rfl (lv_at hl 2 rfl) ?_
    refine lv_iconst (v := nI 0) hx hb dX6_setLevel_10 (by decide) ?_
    refine lv_bipush (v := nI 99) hx hb dX6_setLevel_11 (by decide) ?_
    refine kSi (As := [.int b, .int (nI 0), .int (nI 99)]) (rest := []) Y m_X6_in (c_X6_in l dC dI b (nI 0) (nI 99) ) qm_X6_69 (kpS hK hP hZ hS [] [] rfl rfl) rfl hl.1 rfl (Nat.le_of_ble_eq_true rfl) dX6_setLevel_13 ⟨Nat.le_of_ble_eq_true rfl, Nat.le_of_ble_eq_true rfl⟩ ⟨Nat.zero_le _, Nat.zero_le _⟩ (fun r13 hr13 => ?_)
    obtain rfl : r13 = b2i ((nI 0) ≤ b ∧ b ≤ (nI 99)) := hr13
    refine ri_beq (tgt := 31) hx hb dX6_setLevel_16 (by decide) (fun c16 => ?_) (fun c16 => ?_)
    · refine lv_iconst (v := -1) hx hb dX6_setLevel_31 (by decide) ?_
      exact kqi (w1 := (fun u : (Nat → Nat) × (Nat → Nat) × Nat × Nat => [(m0, .inr (6, [.ref m1, .ref m2, .int (nI u.2.2.1), .long un, .ref m3, .int (nI ty), .ref m4, .int (nI sp), .int (nI fa), .int (nI fp), .int (nI u.2.2.2), .ref m5, .ref m6, .ref m7, .ref m8, .ref m9, .int dr, .ref m10, .ref m11, .int (nI lf), .int (nI yo), .int (nI ol), .ref m12, .long hh])), (m1, .inl (cI, 22, .inl (fun zz => nI (u.1 zz)))), (m2, .inl (cI, 176, .inl (fun zz => nI (u.2.1 zz))))])) (v := (-1)) Y hr hlocks hK hP hD hS [0, 1, 2] (by decide) (P, hs, bm, kn) rfl (if_neg (fun q => c16 q.2)).symm dX6_setLevel_32
    · obtain ⟨xb, rfl, hxb1, hxb2⟩ := in_n (by decide) (by decide) c16
      refine lv_aload_n hx hb dX6_setLevel_19 rfl (lv_at hl 0 rfl) ?_
      refine lv_bipush (v := nI 10) hx hb dX6_setLevel_20 (by decide) ?_
      refine lv_iload_n hx hb dX6_setLevel_22 rfl (lv_at hl 1 rfl) ?_
      refine ri_add hx hb dX6_setLevel_23 ?_
      refine lv_iload_n hx hb dX6_setLevel_24 rfl (lv_at hl 2 rfl) ?_
      refine kQi (As := [.int (nI (10 + xa)), .int (nI xb)]) (rest := []) (wr := []) Y m_X6_sets (c_X6_sets l dC dI _ cI cL m0 m1 m2 m3 m4 m5 m6 m7 m8 m9 m10 m11 m12 bm ty sp fa fp kn lf yo ol un hh dr P hs (10 + xa) xb (by omega) (by omega)) qm_X6_77 hP hD hS hA [0, 1, 2] [] rfl rfl (by decide) (by decide) (kqV (ci := 6) hK hP hD hZ hS hA [0, 1, 2] [0] rfl (by decide) rfl 0 rfl rfl rfl) rfl hl.1 rfl (Nat.le_of_ble_eq_true rfl) dX6_setLevel_25 ⟨Nat.le_of_ble_eq_true rfl, Nat.le_of_ble_eq_true rfl⟩ ⟨Nat.zero_le _, Nat.zero_le _⟩ (fun r25 u25 H locs hr25 hP hD hS => ?_)
      have hP : va_P (dC, dI) vwCl [(m0, .inr (6, [.ref m1, .ref m2, .int (nI (recN bm)), .long un, .ref m3, .int (nI ty), .ref m4, .int (nI sp), .int (nI fa), .int (nI fp), .int (nI 0), .ref m5, .ref m6, .ref m7, .ref m8, .ref m9, .int dr, .ref m10, .ref m11, .int (nI lf), .int (nI yo), .int (nI ol), .ref m12, .long hh])), (m1, .inl (cI, 22, .inl (fun zz => nI (updN P (10 + xa) xb zz)))), (m2, .inl (cI, 176, .inl (fun zz => nI (recS P hs bm zz))))] H := hP
      have hD : va_D A [(m0, .inr (6, [.ref m1, .ref m2, .int (nI (recN bm)), .long un, .ref m3, .int (nI ty), .ref m4, .int (nI sp), .int (nI fa), .int (nI fp), .int (nI 0), .ref m5, .ref m6, .ref m7, .ref m8, .ref m9, .int dr, .ref m10, .ref m11, .int (nI lf), .int (nI yo), .int (nI ol), .ref m12, .long hh])), (m1, .inl (cI, 22, .inl (fun zz => nI (updN P (10 + xa) xb zz)))), (m2, .inl (cI, 176, .inl (fun zz => nI (recS P hs bm zz))))] := hD
      obtain rfl : r25 = nI (P (10 + xa)) := hr25
      refine lv_goto (tgt := 32) hx hb dX6_setLevel_28 (by decide) ?_
      exact kqi (w1 := (fun u : (Nat → Nat) × (Nat → Nat) × Nat × Nat => [(m0, .inr (6, [.ref m1, .ref m2, .int (nI u.2.2.1), .long un, .ref m3, .int (nI ty), .ref m4, .int (nI sp), .int (nI fa), .int (nI fp), .int (nI u.2.2.2), .ref m5, .ref m6, .ref m7, .ref m8, .ref m9, .int dr, .ref m10, .ref m11, .int (nI lf), .int (nI yo), .int (nI ol), .ref m12, .long hh])), (m1, .inl (cI, 22, .inl (fun zz => nI (u.1 zz)))), (m2, .inl (cI, 176, .inl (fun zz => nI (u.2.1 zz))))])) (v := nI (P (10 + xa))) Y hr hlocks hK hP hD hS [0, 1, 2] (by decide) (updN P (10 + xa) xb, recS P hs bm, recN bm, 0) rfl (by rw [nO_n (n := xa) (by omega), nO_n (by omega)]; exact (if_pos ⟨c6, c16⟩).symm) dX6_setLevel_32
set_option maxHeartbeats 4000000 in
set_option maxRecDepth 100000 in
theorem c_X6_setRecall (l : Launch) (dC : Nat → ClassId) (dI : Nat → Nat → Nat) (sz : Nat) (cI cL : ClassId) (m0 m1 m2 m3 m4 m5 m6 m7 m8 m9 m10 m11 m12 : Nat) (bm ty sp fa fp kn lf yo ol : Nat) (un hh : Int64) (dr : Int32) (P hs : Nat → Nat) (a b : Int32) (h1 : bm ≤ 8) : Met l yX6_setRecall (kw yX6_setRecall cX6_setRecall 3 (some .int)) (kR 2 44) (kPq (dC, dI) [.ref m0, .int a, .int b] sz [(m0, .inr (6, [.ref m1, .ref m2, .int (nI bm), .long un, .ref m3, .int (nI ty), .ref m4, .int (nI sp), .int (nI fa), .int (nI fp), .int (nI kn), .ref m5, .ref m6, .ref m7, .ref m8, .ref m9, .int dr, .ref m10, .ref m11, .int (nI lf), .int (nI yo), .int (nI ol), .ref m12, .long hh])), (m1, .inl (cI, 22, .inl (fun zz => nI (P zz)))), (m2, .inl (cI, 176, .inl (fun zz => nI (hs zz))))] [(cI, .int)]) (va_Qi (fun (res : Int32) (u : (Nat → Nat) × (Nat → Nat) × Nat × Nat) => (res, u.1, u.2.1, u.2.2.1, u.2.2.2) = setO P hs bm kn ((nI 1 ≤ a ∧ a ≤ nI 2) ∧ (nI 0 ≤ b ∧ b ≤ nI 10)) (20 + nO a - 1) (nO b)) (fun u : (Nat → Nat) × (Nat → Nat) × Nat × Nat => kB (dC, dI) [(cI, .int)] (va_A [(m0, .inr (6, [.ref m1, .ref m2, .int (nI bm), .long un, .ref m3, .int (nI ty), .ref m4, .int (nI sp), .int (nI fa), .int (nI fp), .int (nI kn), .ref m5, .ref m6, .ref m7, .ref m8, .ref m9, .int dr, .ref m10, .ref m11, .int (nI lf), .int (nI yo), .int (nI ol), .ref m12, .long hh])), (m1, .inl (cI, 22, .inl (fun zz => nI (P zz)))), (m2, .inl (cI, 176, .inl (fun zz => nI (hs zz))))] sz) ([(m0, .inr (6, [.ref m1, .ref m2, .int (nI u.2.2.1), .long un, .ref m3, .int (nI ty), .ref m4, .int (nI sp), .int (nI fa), .int (nI fp), .int (nI u.2.2.2), .ref m5, .ref m6, .ref m7, .ref m8, .ref m9, .int dr, .ref m10, .ref m11, .int (nI lf), .int (nI yo), .int (nI ol), .ref m12, .long hh])), (m1, .inl (cI, 22, .inl (fun zz => nI (u.1 zz)))), (m2, .inl (cI, 176, .inl (fun zz => nI (u.2.1 zz))))])) (va_A [(m0, .inr (6, [.ref m1, .ref m2, .int (nI bm), .long un, .ref m3, .int (nI ty), .ref m4, .int (nI sp), .int (nI fa), .int (nI fp), .int (nI kn), .ref m5, .ref m6, .ref m7, .ref m8, .ref m9, .int dr, .ref m10, .ref m11, .int (nI lf), .int (nI yo), .int (nI ol), .ref m12, .long hh])), (m1, .inl (cI, 22, .inl (fun zz => nI (P zz)))), (m2, .inl (cI, 176, .inl (fun zz => nI (hs zz))))] sz)) 0 0 (va_A [(m0, .inr (6, [.ref m1, .ref m2, .int (nI bm), .long un, .ref m3, .int (nI ty), .ref m4, .int (nI sp), .int (nI fa), .int (nI fp), .int (nI kn), .ref m5, .ref m6, .ref m7, .ref m8, .ref m9, .int dr, .ref m10, .ref m11, .int (nI lf), .int (nI yo), .int (nI ol), .ref m12, .long hh])), (m1, .inl (cI, 22, .inl (fun zz => nI (P zz)))), (m2, .inl (cI, 176, .inl (fun zz => nI (hs zz))))] sz) := by
  refine kmet (by decide) ?_
  intro p e s m args below meth c Y hr hlocks hin hv
  obtain ⟨rfl, A, hAe, hsz, hP, hK, hD, hZ, hA⟩ := kinQ hv
  rw [hAe]
  have hS : va_S A s.heap s.heap [] := va_S.rf
  have hx := Y.1
  have hb := Y.2.1
  have hml := Y.2.2.1
  have hown := Y.2.2.2.1
  have hts := Y.2.2.2.2
  have hl := lv_entry ([.ref m0, .int a, .int b]) (n := 3) (Nat.le_of_ble_eq_true rfl)
  rw [lg_entry_eq]
  generalize (lg_sl ([.ref m0, .int a, .int b]) ++ List.replicate (3 - (lg_sl ([.ref m0, .int a, .int b])).length) Slot.unset).toArray = ls at hl ⊢
  have hl : lv_has ls 3 [(0, .ref m0), (1, .int a), (2, .int b)] := hl
  refine lv_iload_n hx hb dX6_setRecall_0 rfl (lv_at hl 1 rfl) ?_
  refine lv_iconst (v := nI 1) hx hb dX6_setRecall_1 (by decide) ?_
  refine lv_iconst (v := nI 2) hx hb dX6_setRecall_2 (by decide) ?_
  refine kSi (As := [.int a, .int (nI 1), .int (nI 2)]) (rest := []) Y m_X6_in (c_X6_in l dC dI a (nI 1) (nI 2) ) qm_X6_69 (kpS hK hP hZ hS [] [] rfl rfl) rfl hl.1 rfl (Nat.le_of_ble_eq_true rfl) dX6_setRecall_3 ⟨Nat.le_of_ble_eq_true rfl, Nat.le_of_ble_eq_true rfl⟩ ⟨Nat.zero_le _, Nat.zero_le _⟩ (fun r3 hr3 => ?_)
  obtain rfl : r3 = b2i ((nI 1) ≤ a ∧ a ≤ (nI 2)) := hr3
  refine ri_beq (tgt := 33) hx hb dX6_setRecall_6 (by decide) (fun c6 => ?_) (fun c6 => ?_)
  · refine lv_iconst (v := -1) hx hb dX6_setRecall_33 (by decide) ?_
    exact kqi (w1 := (fun u : (Nat → Nat) × (Nat → Nat) × Nat × Nat => [(m0, .inr (6, [.ref m1, .ref m2, .int (nI u.2.2.1), .long un, .ref m3, .int (nI ty), .ref m4, .int (nI sp), .int (nI fa), .int (nI fp), .int (nI u.2.2.2), .ref m5, .ref m6, .ref m7, .ref m8, .ref m9, .int dr, .ref m10, .ref m11, .int (nI lf), .int (nI yo), .int (nI ol), .ref m12, .long hh])), (m1, .inl (cI, 22, .inl (fun zz => nI (u.1 zz)))), (m2, .inl (cI, 176, .inl (fun zz => nI (u.2.1 zz))))])) (v := (-1)) Y hr hlocks hK hP hD hS [0, 1, 2] (by decide) (P, hs, bm, kn) rfl (if_neg (fun q => c6 q.1)).symm dX6_setRecall_34
  · obtain ⟨xa, rfl, hxa1, hxa2⟩ := in_n (by decide) (by decide) c6
    refine lv_iload_n hx hb dX6_setRecall_9 rfl (lv_at hl 2 rfl) ?_
    refine lv_iconst (v := nI 0) hx hb dX6_setRecall_10 (by decide) ?_
    refine lv_bipush (v := nI 10) hx hb dX6_setRecall_11 (by decide) ?_
    refine kSi (As := [.int b, .int (nI 0), .int (nI 10)]) (rest := []) Y m_X6_in (c_X6_in l dC dI b (nI 0) (nI 10) ) qm_X6_69 (kpS hK hP hZ hS [] [] rfl rfl) rfl hl.1 rfl (Nat.le_of_ble_eq_true rfl) dX6_setRecall_13 ⟨Nat.le_of_ble_eq_true rfl, Nat.le_of_ble_eq_true rfl⟩ ⟨Nat.zero_le _, Nat.zero_le _⟩ (fun r13 hr13 => ?_)
    obtain rfl : r13 = b2i ((nI 0) ≤ b ∧ b ≤ (nI 10)) := hr13
    refine ri_beq (tgt := 33) hx hb dX6_setRecall_16 (by decide) (fun c16 => ?_) (fun c16 => ?_)
    · refine lv_iconst (v := -1) hx hb dX6_setRecall_33 (by decide) ?_
      exact kqi (w1 := (fun u : (Nat → Nat) × (Nat → Nat) × Nat × Nat => [(m0, .inr (6, [.ref m1, .ref m2, .int (nI u.2.2.1), .long un, .ref m3, .int (nI ty), .ref m4, .int (nI sp), .int (nI fa), .int (nI fp), .int (nI u.2.2.2), .ref m5, .ref m6, .ref m7, .ref m8, .ref m9, .int dr, .ref m10, .ref m11, .int (nI lf), .int (nI yo), .int (nI ol), .ref m12, .long hh])), (m1, .inl (cI, 22, .inl (fun zz => nI (u.1 zz)))), (m2, .inl (cI, 176, .inl (fun zz => nI (u.2.1 zz))))])) (v := (-1)) Y hr hlocks hK hP hD hS [0, 1, 2] (by decide) (P, hs, bm, kn) rfl (if_neg (fun q => c16 q.2)).symm dX6_setRecall_34
    · obtain ⟨xb, rfl, hxb1, hxb2⟩ := in_n (by decide) (by decide) c16
      refine lv_aload_n hx hb dX6_setRecall_19 rfl (lv_at hl 0 rfl) ?_
      refine lv_bipush (v := nI 20) hx hb dX6_setRecall_20 (by decide) ?_
      refine lv_iload_n hx hb dX6_setRecall_22 rfl (lv_at hl 1 rfl) ?_
      refine ri_add hx hb dX6_setRecall_23 ?_
      refine lv_iconst (v := nI 1) hx hb dX6_setRecall_24 (by decide) ?_
      refine ri_sub hx hb dX6_setRecall_25 (by omega) ?_
      refine lv_iload_n hx hb dX6_setRecall_26 rfl (lv_at hl 2 rfl) ?_
      refine kQi (As := [.int (nI ((20 + xa) - 1)), .int (nI xb)]) (rest := []) (wr := []) Y m_X6_sets (c_X6_sets l dC dI _ cI cL m0 m1 m2 m3 m4 m5 m6 m7 m8 m9 m10 m11 m12 bm ty sp fa fp kn lf yo ol un hh dr P hs ((20 + xa) - 1) xb (by omega) (by omega)) qm_X6_77 hP hD hS hA [0, 1, 2] [] rfl rfl (by decide) (by decide) (kqV (ci := 6) hK hP hD hZ hS hA [0, 1, 2] [0] rfl (by decide) rfl 0 rfl rfl rfl) rfl hl.1 rfl (Nat.le_of_ble_eq_true rfl) dX6_setRecall_27 ⟨Nat.le_of_ble_eq_true rfl, Nat.le_of_ble_eq_true rfl⟩ ⟨Nat.zero_le _, Nat.zero_le _⟩ (fun r27 u27 H locs hr27 hP hD hS => ?_)
      have hP : va_P (dC, dI) vwCl [(m0, .inr (6, [.ref m1, .ref m2, .int (nI (recN bm)), .long un, .ref m3, .int (nI ty), .ref m4, .int (nI sp), .int (nI fa), .int (nI fp), .int (nI 0), .ref m5, .ref m6, .ref m7, .ref m8, .ref m9, .int dr, .ref m10, .ref m11, .int (nI lf), .int (nI yo), .int (nI ol), .ref m12, .long hh])), (m1, .inl (cI, 22, .inl (fun zz => nI (updN P ((20 + xa) - 1) xb zz)))), (m2, .inl (cI, 176, .inl (fun zz => nI (recS P hs bm zz))))] H := hP
      have hD : va_D A [(m0, .inr (6, [.ref m1, .ref m2, .int (nI (recN bm)), .long un, .ref m3, .int (nI ty), .ref m4, .int (nI sp), .int (nI fa), .int (nI fp), .int (nI 0), .ref m5, .ref m6, .ref m7, .ref m8, .ref m9, .int dr, .ref m10, .ref m11, .int (nI lf), .int (nI yo), .int (nI ol), .ref m12, .long hh])), (m1, .inl (cI, 22, .inl (fun zz => nI (updN P ((20 + xa) - 1) xb zz)))), (m2, .inl (cI, 176, .inl (fun zz => nI (recS P hs bm zz))))] := hD
      obtain rfl : r27 = nI (P ((20 + xa) - 1)) := hr27
      refine lv_goto (tgt := 34) hx hb dX6_setRecall_30 (by decide) ?_
      exact kqi (w1 := (fun u : (Nat → Nat) × (Nat → Nat) × Nat × Nat => [(m0, .inr (6, [.ref m1, .ref m2, .int (nI u.2.2.1), .long un, .ref m3, .int (nI ty), .ref m4, .int (nI sp), .int (nI fa), .int (nI fp), .int (nI u.2.2.2), .ref m5, .ref m6, .ref m7, .ref m8, .ref m9, .int dr, .ref m10, .ref m11, .int (nI lf), .int (nI yo), .int (nI ol), .ref m12, .long hh])), (m1, .inl (cI, 22, .inl (fun zz => nI (u.1 zz)))), (m2, .inl (cI, 176, .inl (fun zz => nI (u.2.1 zz))))])) (v := nI (P ((20 + xa) - 1))) Y hr hlocks hK hP hD hS [0, 1, 2] (by decide) (updN P ((20 + xa) - 1) xb, recS P hs bm, recN bm, 0) rfl (by rw [nO_n (n := xa) (by omega), nO_n (by omega)]; exact (if_pos ⟨c6, c16⟩).symm) dX6_setRecall_34
set_option maxHeartbeats 4000000 in
set_option maxRecDepth 100000 in
theorem c_X6_shiftWeight (l : Launch) (dC : Nat → ClassId) (dI : Nat → Nat → Nat) (sz : Nat) (cI cL : ClassId) (m0 m1 m2 m3 m4 m5 m6 m7 m8 m9 m10 m11 m12 : Nat) (bm ty sp fa fp kn lf yo ol : Nat) (un hh : Int64) (dr : Int32) (P hs : Nat → Nat) (a b v : Int32) (h1 : bm ≤ 8) (hPI : PI P) : Met l yX6_shiftWeight (kw yX6_shiftWeight cX6_shiftWeight 4 (some .int)) (kR 1 22) (kPq (dC, dI) [.ref m0, .int a, .int b, .int v] sz [(m0, .inr (6, [.ref m1, .ref m2, .int (nI bm), .long un, .ref m3, .int (nI ty), .ref m4, .int (nI sp), .int (nI fa), .int (nI fp), .int (nI kn), .ref m5, .ref m6, .ref m7, .ref m8, .ref m9, .int dr, .ref m10, .ref m11, .int (nI lf), .int (nI yo), .int (nI ol), .ref m12, .long hh])), (m1, .inl (cI, 22, .inl (fun zz => nI (P zz)))), (m2, .inl (cI, 176, .inl (fun zz => nI (hs zz))))] [(cI, .int)]) (va_Qi (fun (res : Int32) (u : (Nat → Nat) × (Nat → Nat) × Nat × Nat) => (res, u.1, u.2.1, u.2.2.1, u.2.2.2) = shO P hs bm kn a b v) (fun u : (Nat → Nat) × (Nat → Nat) × Nat × Nat => kB (dC, dI) [(cI, .int)] (va_A [(m0, .inr (6, [.ref m1, .ref m2, .int (nI bm), .long un, .ref m3, .int (nI ty), .ref m4, .int (nI sp), .int (nI fa), .int (nI fp), .int (nI kn), .ref m5, .ref m6, .ref m7, .ref m8, .ref m9, .int dr, .ref m10, .ref m11, .int (nI lf), .int (nI yo), .int (nI ol), .ref m12, .long hh])), (m1, .inl (cI, 22, .inl (fun zz => nI (P zz)))), (m2, .inl (cI, 176, .inl (fun zz => nI (hs zz))))] sz) ([(m0, .inr (6, [.ref m1, .ref m2, .int (nI u.2.2.1), .long un, .ref m3, .int (nI ty), .ref m4, .int (nI sp), .int (nI fa), .int (nI fp), .int (nI u.2.2.2), .ref m5, .ref m6, .ref m7, .ref m8, .ref m9, .int dr, .ref m10, .ref m11, .int (nI lf), .int (nI yo), .int (nI ol), .ref m12, .long hh])), (m1, .inl (cI, 22, .inl (fun zz => nI (u.1 zz)))), (m2, .inl (cI, 176, .inl (fun zz => nI (u.2.1 zz))))])) (va_A [(m0, .inr (6, [.ref m1, .ref m2, .int (nI bm), .long un, .ref m3, .int (nI ty), .ref m4, .int (nI sp), .int (nI fa), .int (nI fp), .int (nI kn), .ref m5, .ref m6, .ref m7, .ref m8, .ref m9, .int dr, .ref m10, .ref m11, .int (nI lf), .int (nI yo), .int (nI ol), .ref m12, .long hh])), (m1, .inl (cI, 22, .inl (fun zz => nI (P zz)))), (m2, .inl (cI, 176, .inl (fun zz => nI (hs zz))))] sz)) 0 0 (va_A [(m0, .inr (6, [.ref m1, .ref m2, .int (nI bm), .long un, .ref m3, .int (nI ty), .ref m4, .int (nI sp), .int (nI fa), .int (nI fp), .int (nI kn), .ref m5, .ref m6, .ref m7, .ref m8, .ref m9, .int dr, .ref m10, .ref m11, .int (nI lf), .int (nI yo), .int (nI ol), .ref m12, .long hh])), (m1, .inl (cI, 22, .inl (fun zz => nI (P zz)))), (m2, .inl (cI, 176, .inl (fun zz => nI (hs zz))))] sz) := by
  refine kmet (by decide) ?_
  intro p e s m args below meth c Y hr hlocks hin hv
  obtain ⟨rfl, A, hAe, hsz, hP, hK, hD, hZ, hA⟩ := kinQ hv
  rw [hAe]
  have hS : va_S A s.heap s.heap [] := va_S.rf
  have hx := Y.1
  have hb := Y.2.1
  have hml := Y.2.2.1
  have hown := Y.2.2.2.1
  have hts := Y.2.2.2.2
  have hl := lv_entry ([.ref m0, .int a, .int b, .int v]) (n := 4) (Nat.le_of_ble_eq_true rfl)
  rw [lg_entry_eq]
  generalize (lg_sl ([.ref m0, .int a, .int b, .int v]) ++ List.replicate (4 - (lg_sl ([.ref m0, .int a, .int b, .int v])).length) Slot.unset).toArray = ls at hl ⊢
  have hl : lv_has ls 4 [(0, .ref m0), (1, .int a), (2, .int b), (3, .int v)] := hl
  refine lv_iload_n hx hb dX6_shiftWeight_0 rfl (lv_at hl 1 rfl) ?_
  refine lv_iconst (v := nI 0) hx hb dX6_shiftWeight_1 (by decide) ?_
  refine lv_iconst (v := nI 4) hx hb dX6_shiftWeight_2 (by decide) ?_
  refine kSi (As := [.int a, .int (nI 0), .int (nI 4)]) (rest := []) Y m_X6_in (c_X6_in l dC dI a (nI 0) (nI 4) ) qm_X6_69 (kpS hK hP hZ hS [] [] rfl rfl) rfl hl.1 rfl (Nat.le_of_ble_eq_true rfl) dX6_shiftWeight_3 ⟨Nat.le_of_ble_eq_true rfl, Nat.le_of_ble_eq_true rfl⟩ ⟨Nat.zero_le _, Nat.zero_le _⟩ (fun r3 hr3 => ?_)
  obtain rfl : r3 = b2i ((nI 0) ≤ a ∧ a ≤ (nI 4)) := hr3
  refine ri_beq (tgt := 35) hx hb dX6_shiftWeight_6 (by decide) (fun c6 => ?_) (fun c6 => ?_)
  · refine lv_iconst (v := -1) hx hb dX6_shiftWeight_35 (by decide) ?_
    exact kqi (w1 := (fun u : (Nat → Nat) × (Nat → Nat) × Nat × Nat => [(m0, .inr (6, [.ref m1, .ref m2, .int (nI u.2.2.1), .long un, .ref m3, .int (nI ty), .ref m4, .int (nI sp), .int (nI fa), .int (nI fp), .int (nI u.2.2.2), .ref m5, .ref m6, .ref m7, .ref m8, .ref m9, .int dr, .ref m10, .ref m11, .int (nI lf), .int (nI yo), .int (nI ol), .ref m12, .long hh])), (m1, .inl (cI, 22, .inl (fun zz => nI (u.1 zz)))), (m2, .inl (cI, 176, .inl (fun zz => nI (u.2.1 zz))))])) (v := (-1)) Y hr hlocks hK hP hD hS [0, 1, 2] (by decide) (P, hs, bm, kn) rfl (if_neg (fun q => c6 q.1.1)).symm dX6_shiftWeight_36
  · obtain ⟨xa, rfl, hxa1, hxa2⟩ := in_n (by decide) (by decide) c6
    refine lv_iload_n hx hb dX6_shiftWeight_9 rfl (lv_at hl 2 rfl) ?_
    refine lv_iconst (v := nI 0) hx hb dX6_shiftWeight_10 (by decide) ?_
    refine lv_iconst (v := nI 4) hx hb dX6_shiftWeight_11 (by decide) ?_
    refine kSi (As := [.int b, .int (nI 0), .int (nI 4)]) (rest := []) Y m_X6_in (c_X6_in l dC dI b (nI 0) (nI 4) ) qm_X6_69 (kpS hK hP hZ hS [] [] rfl rfl) rfl hl.1 rfl (Nat.le_of_ble_eq_true rfl) dX6_shiftWeight_12 ⟨Nat.le_of_ble_eq_true rfl, Nat.le_of_ble_eq_true rfl⟩ ⟨Nat.zero_le _, Nat.zero_le _⟩ (fun r12 hr12 => ?_)
    obtain rfl : r12 = b2i ((nI 0) ≤ b ∧ b ≤ (nI 4)) := hr12
    refine ri_beq (tgt := 35) hx hb dX6_shiftWeight_15 (by decide) (fun c15 => ?_) (fun c15 => ?_)
    · refine lv_iconst (v := -1) hx hb dX6_shiftWeight_35 (by decide) ?_
      exact kqi (w1 := (fun u : (Nat → Nat) × (Nat → Nat) × Nat × Nat => [(m0, .inr (6, [.ref m1, .ref m2, .int (nI u.2.2.1), .long un, .ref m3, .int (nI ty), .ref m4, .int (nI sp), .int (nI fa), .int (nI fp), .int (nI u.2.2.2), .ref m5, .ref m6, .ref m7, .ref m8, .ref m9, .int dr, .ref m10, .ref m11, .int (nI lf), .int (nI yo), .int (nI ol), .ref m12, .long hh])), (m1, .inl (cI, 22, .inl (fun zz => nI (u.1 zz)))), (m2, .inl (cI, 176, .inl (fun zz => nI (u.2.1 zz))))])) (v := (-1)) Y hr hlocks hK hP hD hS [0, 1, 2] (by decide) (P, hs, bm, kn) rfl (if_neg (fun q => c15 q.1.2)).symm dX6_shiftWeight_36
    · obtain ⟨xb, rfl, hxb1, hxb2⟩ := in_n (by decide) (by decide) c15
      refine lv_iload_n hx hb dX6_shiftWeight_18 rfl (lv_at hl 3 rfl) ?_
      refine lv_iconst (v := nI 0) hx hb dX6_shiftWeight_19 (by decide) ?_
      refine lv_aload_n hx hb dX6_shiftWeight_20 rfl (lv_at hl 0 rfl) ?_
      refine va_get (D := (dC, dI)) (ci := 6) (v := .ref m1) (C := RX6) (T := TX6) (N := 24) hx hb hts inlX6 hown hK hP 0 rfl rfl 0 (by decide) (hts _ qf_X6_7) (fun _ h9 => h9) rfl dX6_shiftWeight_21 ?_
      refine lv_bipush (v := nI 15) hx hb dX6_shiftWeight_24 (by decide) ?_
      refine lv_iload_n hx hb dX6_shiftWeight_26 rfl (lv_at hl 1 rfl) ?_
      refine ri_add hx hb dX6_shiftWeight_27 ?_
      refine ri_ald hx hb hK hP 1 0 (F := P) rfl rfl dX6_shiftWeight_28 (by decide) (by omega) ?_
      refine kSi (As := [.int v, .int (nI 0), .int (nI (P (15 + xa)))]) (rest := []) Y m_X6_in (c_X6_in l dC dI v (nI 0) (nI (P (15 + xa))) ) qm_X6_69 (kpS hK hP hZ hS [] [] rfl rfl) rfl hl.1 rfl (Nat.le_of_ble_eq_true rfl) dX6_shiftWeight_29 ⟨Nat.le_of_ble_eq_true rfl, Nat.le_of_ble_eq_true rfl⟩ ⟨Nat.zero_le _, Nat.zero_le _⟩ (fun r29 hr29 => ?_)
      obtain rfl : r29 = b2i ((nI 0) ≤ v ∧ v ≤ (nI (P (15 + xa)))) := hr29
      refine ri_bne (tgt := 37) hx hb dX6_shiftWeight_32 (by decide) (fun c32 => ?_) (fun c32 => ?_)
      · have hw5 := hPI.2.2.2.2.1 xa (by omega)
        obtain ⟨xv, rfl, hxv1, hxv2⟩ := in_n (by decide) (by omega) c32
        refine lv_aload_n hx hb dX6_shiftWeight_37 rfl (lv_at hl 0 rfl) ?_
        refine kQv (As := []) (rest := []) (wr := []) Y m_X6_begins (c_X6_begins l dC dI _ cI cL m0 m1 m2 m3 m4 m5 m6 m7 m8 m9 m10 m11 m12 bm ty sp fa fp kn lf yo ol un hh dr P hs (by omega)) qm_X6_59 hP hD hS hA [0, 1, 2] [] rfl rfl (by decide) (by decide) (kqV (ci := 6) hK hP hD hZ hS hA [0, 1, 2] [0] rfl (by decide) rfl 0 rfl rfl rfl) rfl hl.1 rfl (Nat.le_of_ble_eq_true rfl) dX6_shiftWeight_38 ⟨Nat.le_of_ble_eq_true rfl, Nat.le_of_ble_eq_true rfl⟩ ⟨Nat.zero_le _, Nat.zero_le _⟩ (fun u38 H locs hr38 hP hD hS => ?_)
        have hP : va_P (dC, dI) vwCl [(m0, .inr (6, [.ref m1, .ref m2, .int (nI (recN bm)), .long un, .ref m3, .int (nI ty), .ref m4, .int (nI sp), .int (nI fa), .int (nI fp), .int (nI 0), .ref m5, .ref m6, .ref m7, .ref m8, .ref m9, .int dr, .ref m10, .ref m11, .int (nI lf), .int (nI yo), .int (nI ol), .ref m12, .long hh])), (m1, .inl (cI, 22, .inl (fun zz => nI (P zz)))), (m2, .inl (cI, 176, .inl (fun zz => nI (recS P hs bm zz))))] H := hP
        have hD : va_D A [(m0, .inr (6, [.ref m1, .ref m2, .int (nI (recN bm)), .long un, .ref m3, .int (nI ty), .ref m4, .int (nI sp), .int (nI fa), .int (nI fp), .int (nI 0), .ref m5, .ref m6, .ref m7, .ref m8, .ref m9, .int dr, .ref m10, .ref m11, .int (nI lf), .int (nI yo), .int (nI ol), .ref m12, .long hh])), (m1, .inl (cI, 22, .inl (fun zz => nI (P zz)))), (m2, .inl (cI, 176, .inl (fun zz => nI (recS P hs bm zz))))] := hD
        refine lv_aload_n hx hb dX6_shiftWeight_41 rfl (lv_at hl 0 rfl) ?_
        refine va_get (D := (dC, dI)) (ci := 6) (v := .ref m1) (C := RX6) (T := TX6) (N := 24) hx hb hts inlX6 hown hK hP 0 rfl rfl 0 (by decide) (hts _ qf_X6_7) (fun _ h9 => h9) rfl dX6_shiftWeight_42 ?_
        refine lv_bipush (v := nI 15) hx hb dX6_shiftWeight_45 (by decide) ?_
        refine lv_iload_n hx hb dX6_shiftWeight_47 rfl (lv_at hl 1 rfl) ?_
        refine ri_add hx hb dX6_shiftWeight_48 ?_
        refine lv_dup2_11 hx hb dX6_shiftWeight_49 rfl rfl ?_
        refine ri_ald hx hb hK hP 1 0 (F := P) rfl rfl dX6_shiftWeight_50 (by decide) (by omega) ?_
        refine lv_iload_n hx hb dX6_shiftWeight_51 rfl (lv_at hl 3 rfl) ?_
        refine ri_sub hx hb dX6_shiftWeight_52 (by omega) ?_
        refine ri_ast hx hb hK hP hD hS 1 0 (F := P) rfl rfl dX6_shiftWeight_53 (by decide) (by omega) (fun H locs hP hD hS => ?_)
        have hP : va_P (dC, dI) vwCl [(m0, .inr (6, [.ref m1, .ref m2, .int (nI (recN bm)), .long un, .ref m3, .int (nI ty), .ref m4, .int (nI sp), .int (nI fa), .int (nI fp), .int (nI 0), .ref m5, .ref m6, .ref m7, .ref m8, .ref m9, .int dr, .ref m10, .ref m11, .int (nI lf), .int (nI yo), .int (nI ol), .ref m12, .long hh])), (m1, .inl (cI, 22, .inl (fun zz => nI (updN P (15 + xa) ((P (15 + xa)) - xv) zz)))), (m2, .inl (cI, 176, .inl (fun zz => nI (recS P hs bm zz))))] H := hP
        have hD : va_D A [(m0, .inr (6, [.ref m1, .ref m2, .int (nI (recN bm)), .long un, .ref m3, .int (nI ty), .ref m4, .int (nI sp), .int (nI fa), .int (nI fp), .int (nI 0), .ref m5, .ref m6, .ref m7, .ref m8, .ref m9, .int dr, .ref m10, .ref m11, .int (nI lf), .int (nI yo), .int (nI ol), .ref m12, .long hh])), (m1, .inl (cI, 22, .inl (fun zz => nI (updN P (15 + xa) ((P (15 + xa)) - xv) zz)))), (m2, .inl (cI, 176, .inl (fun zz => nI (recS P hs bm zz))))] := hD
        refine lv_aload_n hx hb dX6_shiftWeight_54 rfl (lv_at hl 0 rfl) ?_
        refine va_get (D := (dC, dI)) (ci := 6) (v := .ref m1) (C := RX6) (T := TX6) (N := 24) hx hb hts inlX6 hown hK hP 0 rfl rfl 0 (by decide) (hts _ qf_X6_7) (fun _ h9 => h9) rfl dX6_shiftWeight_55 ?_
        refine lv_bipush (v := nI 15) hx hb dX6_shiftWeight_58 (by decide) ?_
        refine lv_iload_n hx hb dX6_shiftWeight_60 rfl (lv_at hl 2 rfl) ?_
        refine ri_add hx hb dX6_shiftWeight_61 ?_
        refine lv_dup2_11 hx hb dX6_shiftWeight_62 rfl rfl ?_
        refine ri_ald hx hb hK hP 1 0 (F := (updN P (15 + xa) ((P (15 + xa)) - xv))) rfl rfl dX6_shiftWeight_63 (by decide) (by omega) ?_
        refine lv_iload_n hx hb dX6_shiftWeight_64 rfl (lv_at hl 3 rfl) ?_
        refine ri_add hx hb dX6_shiftWeight_65 ?_
        refine ri_ast hx hb hK hP hD hS 1 0 (F := (updN P (15 + xa) ((P (15 + xa)) - xv))) rfl rfl dX6_shiftWeight_66 (by decide) (by omega) (fun H locs hP hD hS => ?_)
        have hP : va_P (dC, dI) vwCl [(m0, .inr (6, [.ref m1, .ref m2, .int (nI (recN bm)), .long un, .ref m3, .int (nI ty), .ref m4, .int (nI sp), .int (nI fa), .int (nI fp), .int (nI 0), .ref m5, .ref m6, .ref m7, .ref m8, .ref m9, .int dr, .ref m10, .ref m11, .int (nI lf), .int (nI yo), .int (nI ol), .ref m12, .long hh])), (m1, .inl (cI, 22, .inl (fun zz => nI (updN (updN P (15 + xa) ((P (15 + xa)) - xv)) (15 + xb) (((updN P (15 + xa) ((P (15 + xa)) - xv)) (15 + xb)) + xv) zz)))), (m2, .inl (cI, 176, .inl (fun zz => nI (recS P hs bm zz))))] H := hP
        have hD : va_D A [(m0, .inr (6, [.ref m1, .ref m2, .int (nI (recN bm)), .long un, .ref m3, .int (nI ty), .ref m4, .int (nI sp), .int (nI fa), .int (nI fp), .int (nI 0), .ref m5, .ref m6, .ref m7, .ref m8, .ref m9, .int dr, .ref m10, .ref m11, .int (nI lf), .int (nI yo), .int (nI ol), .ref m12, .long hh])), (m1, .inl (cI, 22, .inl (fun zz => nI (updN (updN P (15 + xa) ((P (15 + xa)) - xv)) (15 + xb) (((updN P (15 + xa) ((P (15 + xa)) - xv)) (15 + xb)) + xv) zz)))), (m2, .inl (cI, 176, .inl (fun zz => nI (recS P hs bm zz))))] := hD
        refine lv_aload_n hx hb dX6_shiftWeight_67 rfl (lv_at hl 0 rfl) ?_
        refine va_get (D := (dC, dI)) (ci := 6) (v := .ref m1) (C := RX6) (T := TX6) (N := 24) hx hb hts inlX6 hown hK hP 0 rfl rfl 0 (by decide) (hts _ qf_X6_7) (fun _ h9 => h9) rfl dX6_shiftWeight_68 ?_
        refine lv_bipush (v := nI 15) hx hb dX6_shiftWeight_71 (by decide) ?_
        refine lv_iload_n hx hb dX6_shiftWeight_73 rfl (lv_at hl 2 rfl) ?_
        refine ri_add hx hb dX6_shiftWeight_74 ?_
        refine ri_ald hx hb hK hP 1 0 (F := (updN (updN P (15 + xa) ((P (15 + xa)) - xv)) (15 + xb) (((updN P (15 + xa) ((P (15 + xa)) - xv)) (15 + xb)) + xv))) rfl rfl dX6_shiftWeight_75 (by decide) (by omega) ?_
        exact kqi (w1 := (fun u : (Nat → Nat) × (Nat → Nat) × Nat × Nat => [(m0, .inr (6, [.ref m1, .ref m2, .int (nI u.2.2.1), .long un, .ref m3, .int (nI ty), .ref m4, .int (nI sp), .int (nI fa), .int (nI fp), .int (nI u.2.2.2), .ref m5, .ref m6, .ref m7, .ref m8, .ref m9, .int dr, .ref m10, .ref m11, .int (nI lf), .int (nI yo), .int (nI ol), .ref m12, .long hh])), (m1, .inl (cI, 22, .inl (fun zz => nI (u.1 zz)))), (m2, .inl (cI, 176, .inl (fun zz => nI (u.2.1 zz))))])) (v := nI ((updN (updN P (15 + xa) ((P (15 + xa)) - xv)) (15 + xb) (((updN P (15 + xa) ((P (15 + xa)) - xv)) (15 + xb)) + xv)) (15 + xb))) Y hr hlocks hK hP hD hS [0, 1, 2] (by decide) (updN (updN P (15 + xa) ((P (15 + xa)) - xv)) (15 + xb) (((updN P (15 + xa) ((P (15 + xa)) - xv)) (15 + xb)) + xv), recS P hs bm, recN bm, 0) rfl (by unfold shO; rw [nO_n (n := xa) (by omega), nO_n (n := xb) (by omega), nO_n (n := xv) (by omega)]; exact (if_pos ⟨⟨c6, c15⟩, c32⟩).symm) dX6_shiftWeight_76
      · refine lv_iconst (v := -1) hx hb dX6_shiftWeight_35 (by decide) ?_
        exact kqi (w1 := (fun u : (Nat → Nat) × (Nat → Nat) × Nat × Nat => [(m0, .inr (6, [.ref m1, .ref m2, .int (nI u.2.2.1), .long un, .ref m3, .int (nI ty), .ref m4, .int (nI sp), .int (nI fa), .int (nI fp), .int (nI u.2.2.2), .ref m5, .ref m6, .ref m7, .ref m8, .ref m9, .int dr, .ref m10, .ref m11, .int (nI lf), .int (nI yo), .int (nI ol), .ref m12, .long hh])), (m1, .inl (cI, 22, .inl (fun zz => nI (u.1 zz)))), (m2, .inl (cI, 176, .inl (fun zz => nI (u.2.1 zz))))])) (v := (-1)) Y hr hlocks hK hP hD hS [0, 1, 2] (by decide) (P, hs, bm, kn) rfl (by unfold shO; rw [nO_n (n := xa) (by omega)]; exact (if_neg (fun q => c32 q.2)).symm) dX6_shiftWeight_36
set_option maxHeartbeats 4000000 in
set_option maxRecDepth 100000 in
theorem c_X6_parameter (l : Launch) (dC : Nat → ClassId) (dI : Nat → Nat → Nat) (cI cL : ClassId) (m0 m1 m2 m3 m4 m5 m6 m7 m8 m9 m10 m11 m12 : Nat) (bm ty sp fa fp kn lf yo ol : Nat) (un hh : Int64) (dr : Int32) (P : Nat → Nat) (a : Int32)  : Met l yX6_parameter (kw yX6_parameter cX6_parameter 2 (some .int)) (kR 1 22) (kPr (dC, dI) [.ref m0, .int a] [(m0, .inr (6, [.ref m1, .ref m2, .int (nI bm), .long un, .ref m3, .int (nI ty), .ref m4, .int (nI sp), .int (nI fa), .int (nI fp), .int (nI kn), .ref m5, .ref m6, .ref m7, .ref m8, .ref m9, .int dr, .ref m10, .ref m11, .int (nI lf), .int (nI yo), .int (nI ol), .ref m12, .long hh])), (m1, .inl (cI, 22, .inl (fun zz => nI (P zz))))] [(cI, .int)]) (vp_Si (fun res : Int32 => res = if nI 0 ≤ a ∧ a ≤ nI 21 then nI (P (nO a)) else -1)) 0 0 kNo := by
  refine kmet (by decide) ?_
  intro p e s m args below meth c Y hr hlocks hin hv
  obtain ⟨rfl, hP, hK, hZ⟩ := kinR hv
  have hS : va_S kNo s.heap s.heap [] := va_S.rf
  have hx := Y.1
  have hb := Y.2.1
  have hml := Y.2.2.1
  have hown := Y.2.2.2.1
  have hts := Y.2.2.2.2
  have hl := lv_entry ([.ref m0, .int a]) (n := 2) (Nat.le_of_ble_eq_true rfl)
  rw [lg_entry_eq]
  generalize (lg_sl ([.ref m0, .int a]) ++ List.replicate (2 - (lg_sl ([.ref m0, .int a])).length) Slot.unset).toArray = ls at hl ⊢
  have hl : lv_has ls 2 [(0, .ref m0), (1, .int a)] := hl
  refine lv_iload_n hx hb dX6_parameter_0 rfl (lv_at hl 1 rfl) ?_
  refine lv_iconst (v := nI 0) hx hb dX6_parameter_1 (by decide) ?_
  refine lv_bipush (v := nI 21) hx hb dX6_parameter_2 (by decide) ?_
  refine kSi (As := [.int a, .int (nI 0), .int (nI 21)]) (rest := []) Y m_X6_in (c_X6_in l dC dI a (nI 0) (nI 21) ) qm_X6_69 (kpS hK hP hZ hS [] [] rfl rfl) rfl hl.1 rfl (Nat.le_of_ble_eq_true rfl) dX6_parameter_4 ⟨Nat.le_of_ble_eq_true rfl, Nat.le_of_ble_eq_true rfl⟩ ⟨Nat.zero_le _, Nat.zero_le _⟩ (fun r4 hr4 => ?_)
  obtain rfl : r4 = b2i ((nI 0) ≤ a ∧ a ≤ (nI 21)) := hr4
  refine ri_beq (tgt := 19) hx hb dX6_parameter_7 (by decide) (fun c7 => ?_) (fun c7 => ?_)
  · refine lv_iconst (v := -1) hx hb dX6_parameter_19 (by decide) ?_
    exact kri (v := (-1)) Y hr hlocks (if_neg c7).symm dX6_parameter_20
  · obtain ⟨xa, rfl, hxa1, hxa2⟩ := in_n (by decide) (by decide) c7
    refine lv_aload_n hx hb dX6_parameter_10 rfl (lv_at hl 0 rfl) ?_
    refine va_get (D := (dC, dI)) (ci := 6) (v := .ref m1) (C := RX6) (T := TX6) (N := 24) hx hb hts inlX6 hown hK hP 0 rfl rfl 0 (by decide) (hts _ qf_X6_7) (fun _ h9 => h9) rfl dX6_parameter_11 ?_
    refine lv_iload_n hx hb dX6_parameter_14 rfl (lv_at hl 1 rfl) ?_
    refine ri_ald hx hb hK hP 1 0 (F := P) rfl rfl dX6_parameter_15 (by decide) (by omega) ?_
    refine lv_goto (tgt := 20) hx hb dX6_parameter_16 (by decide) ?_
    exact kri (v := nI (P xa)) Y hr hlocks (by rw [nO_n (by omega)]; exact (if_pos c7).symm) dX6_parameter_20
set_option maxHeartbeats 4000000 in
set_option maxRecDepth 100000 in
theorem c_X6_type (l : Launch) (dC : Nat → ClassId) (dI : Nat → Nat → Nat) (sz : Nat) (cI cL : ClassId) (m0 m1 m2 m3 m4 m5 m6 m7 m8 m9 m10 m11 m12 : Nat) (bm ty sp fa fp kn lf yo ol : Nat) (un hh : Int64) (dr : Int32) (tx : Nat → Nat) (a : Int32) (h1 : ty ≤ 60) : Met l yX6_type (kw yX6_type cX6_type 2 (some .int)) (kR 1 22) (kPq (dC, dI) [.ref m0, .int a] sz [(m0, .inr (6, [.ref m1, .ref m2, .int (nI bm), .long un, .ref m3, .int (nI ty), .ref m4, .int (nI sp), .int (nI fa), .int (nI fp), .int (nI kn), .ref m5, .ref m6, .ref m7, .ref m8, .ref m9, .int dr, .ref m10, .ref m11, .int (nI lf), .int (nI yo), .int (nI ol), .ref m12, .long hh])), (m3, .inl (cI, 60, .inl (fun zz => nI (tx zz))))] [(cI, .int)]) (va_Qi (fun (res : Int32) (u : (Nat → Nat) × Nat) => (res, u.1, u.2) = typO tx ty a) (fun u : (Nat → Nat) × Nat => kB (dC, dI) [(cI, .int)] (va_A [(m0, .inr (6, [.ref m1, .ref m2, .int (nI bm), .long un, .ref m3, .int (nI ty), .ref m4, .int (nI sp), .int (nI fa), .int (nI fp), .int (nI kn), .ref m5, .ref m6, .ref m7, .ref m8, .ref m9, .int dr, .ref m10, .ref m11, .int (nI lf), .int (nI yo), .int (nI ol), .ref m12, .long hh])), (m3, .inl (cI, 60, .inl (fun zz => nI (tx zz))))] sz) ([(m0, .inr (6, [.ref m1, .ref m2, .int (nI bm), .long un, .ref m3, .int (nI u.2), .ref m4, .int (nI sp), .int (nI fa), .int (nI fp), .int (nI kn), .ref m5, .ref m6, .ref m7, .ref m8, .ref m9, .int dr, .ref m10, .ref m11, .int (nI lf), .int (nI yo), .int (nI ol), .ref m12, .long hh])), (m3, .inl (cI, 60, .inl (fun zz => nI (u.1 zz))))])) (va_A [(m0, .inr (6, [.ref m1, .ref m2, .int (nI bm), .long un, .ref m3, .int (nI ty), .ref m4, .int (nI sp), .int (nI fa), .int (nI fp), .int (nI kn), .ref m5, .ref m6, .ref m7, .ref m8, .ref m9, .int dr, .ref m10, .ref m11, .int (nI lf), .int (nI yo), .int (nI ol), .ref m12, .long hh])), (m3, .inl (cI, 60, .inl (fun zz => nI (tx zz))))] sz)) 0 0 (va_A [(m0, .inr (6, [.ref m1, .ref m2, .int (nI bm), .long un, .ref m3, .int (nI ty), .ref m4, .int (nI sp), .int (nI fa), .int (nI fp), .int (nI kn), .ref m5, .ref m6, .ref m7, .ref m8, .ref m9, .int dr, .ref m10, .ref m11, .int (nI lf), .int (nI yo), .int (nI ol), .ref m12, .long hh])), (m3, .inl (cI, 60, .inl (fun zz => nI (tx zz))))] sz) := by
  refine kmet (by decide) ?_
  intro p e s m args below meth c Y hr hlocks hin hv
  obtain ⟨rfl, A, hAe, hsz, hP, hK, hD, hZ, hA⟩ := kinQ hv
  rw [hAe]
  have hS : va_S A s.heap s.heap [] := va_S.rf
  have hx := Y.1
  have hb := Y.2.1
  have hml := Y.2.2.1
  have hown := Y.2.2.2.1
  have hts := Y.2.2.2.2
  have hl := lv_entry ([.ref m0, .int a]) (n := 2) (Nat.le_of_ble_eq_true rfl)
  rw [lg_entry_eq]
  generalize (lg_sl ([.ref m0, .int a]) ++ List.replicate (2 - (lg_sl ([.ref m0, .int a])).length) Slot.unset).toArray = ls at hl ⊢
  have hl : lv_has ls 2 [(0, .ref m0), (1, .int a)] := hl
  refine lv_iload_n hx hb dX6_type_0 rfl (lv_at hl 1 rfl) ?_
  refine lv_bipush (v := nI 32) hx hb dX6_type_1 (by decide) ?_
  refine lv_bipush (v := nI 126) hx hb dX6_type_3 (by decide) ?_
  refine kSi (As := [.int a, .int (nI 32), .int (nI 126)]) (rest := []) Y m_X6_in (c_X6_in l dC dI a (nI 32) (nI 126) ) qm_X6_69 (kpS hK hP hZ hS [] [] rfl rfl) rfl hl.1 rfl (Nat.le_of_ble_eq_true rfl) dX6_type_5 ⟨Nat.le_of_ble_eq_true rfl, Nat.le_of_ble_eq_true rfl⟩ ⟨Nat.zero_le _, Nat.zero_le _⟩ (fun r5 hr5 => ?_)
  obtain rfl : r5 = b2i ((nI 32) ≤ a ∧ a ≤ (nI 126)) := hr5
  refine ri_bne (tgt := 13) hx hb dX6_type_8 (by decide) (fun c8 => ?_) (fun c8 => ?_)
  · obtain ⟨xa, rfl, hxa1, hxa2⟩ := in_n (by decide) (by decide) c8
    refine lv_aload_n hx hb dX6_type_13 rfl (lv_at hl 0 rfl) ?_
    refine va_get (D := (dC, dI)) (ci := 6) (v := .int (nI ty)) (C := RX6) (T := TX6) (N := 24) hx hb hts inlX6 hown hK hP 0 rfl rfl 5 (by decide) (hts _ qf_X6_81) (fun _ h9 => h9) rfl dX6_type_14 ?_
    refine lv_bipush (v := nI 60) hx hb dX6_type_17 (by decide) ?_
    refine ri_cne (tgt := 25) hx hb dX6_type_19 (by decide) (by omega) (by omega) (fun c19 => ?_) (fun c19 => ?_)
    · refine lv_aload_n hx hb dX6_type_25 rfl (lv_at hl 0 rfl) ?_
      refine va_get (D := (dC, dI)) (ci := 6) (v := .ref m3) (C := RX6) (T := TX6) (N := 24) hx hb hts inlX6 hown hK hP 0 rfl rfl 4 (by decide) (hts _ qf_X6_20) (fun _ h9 => h9) rfl dX6_type_26 ?_
      refine lv_aload_n hx hb dX6_type_29 rfl (lv_at hl 0 rfl) ?_
      refine va_get (D := (dC, dI)) (ci := 6) (v := .int (nI ty)) (C := RX6) (T := TX6) (N := 24) hx hb hts inlX6 hown hK hP 0 rfl rfl 5 (by decide) (hts _ qf_X6_81) (fun _ h9 => h9) rfl dX6_type_30 ?_
      refine lv_iload_n hx hb dX6_type_33 rfl (lv_at hl 1 rfl) ?_
      refine ri_ast hx hb hK hP hD hS 1 0 (F := tx) rfl rfl dX6_type_34 (by decide) (by omega) (fun H locs hP hD hS => ?_)
      have hP : va_P (dC, dI) vwCl [(m0, .inr (6, [.ref m1, .ref m2, .int (nI bm), .long un, .ref m3, .int (nI ty), .ref m4, .int (nI sp), .int (nI fa), .int (nI fp), .int (nI kn), .ref m5, .ref m6, .ref m7, .ref m8, .ref m9, .int dr, .ref m10, .ref m11, .int (nI lf), .int (nI yo), .int (nI ol), .ref m12, .long hh])), (m3, .inl (cI, 60, .inl (fun zz => nI (updN tx ty xa zz))))] H := hP
      have hD : va_D A [(m0, .inr (6, [.ref m1, .ref m2, .int (nI bm), .long un, .ref m3, .int (nI ty), .ref m4, .int (nI sp), .int (nI fa), .int (nI fp), .int (nI kn), .ref m5, .ref m6, .ref m7, .ref m8, .ref m9, .int dr, .ref m10, .ref m11, .int (nI lf), .int (nI yo), .int (nI ol), .ref m12, .long hh])), (m3, .inl (cI, 60, .inl (fun zz => nI (updN tx ty xa zz))))] := hD
      refine lv_aload_n hx hb dX6_type_35 rfl (lv_at hl 0 rfl) ?_
      refine lv_dup hx hb dX6_type_36 rfl ?_
      refine va_get (D := (dC, dI)) (ci := 6) (v := .int (nI ty)) (C := RX6) (T := TX6) (N := 24) hx hb hts inlX6 hown hK hP 0 rfl rfl 5 (by decide) (hts _ qf_X6_81) (fun _ h9 => h9) rfl dX6_type_37 ?_
      refine lv_iconst (v := nI 1) hx hb dX6_type_40 (by decide) ?_
      refine ri_add hx hb dX6_type_41 ?_
      refine va_put (D := (dC, dI)) (ci := 6) (v := .int (nI (ty + 1))) (ty := .int) (C := RX6) (T := TX6) (N := 24) hx hb hts inlX6 tyX6 tyX6_ok nmX6 hown hK hP hD hS 0 rfl rfl 5 (by decide) (hts _ qf_X6_81) (fun _ h9 => h9) rfl (by decide +kernel) rfl rfl (Nat.le_of_ble_eq_true rfl) dX6_type_42 (fun H locs hP hD hS => ?_)
      have hP : va_P (dC, dI) vwCl [(m0, .inr (6, [.ref m1, .ref m2, .int (nI bm), .long un, .ref m3, .int (nI (ty + 1)), .ref m4, .int (nI sp), .int (nI fa), .int (nI fp), .int (nI kn), .ref m5, .ref m6, .ref m7, .ref m8, .ref m9, .int dr, .ref m10, .ref m11, .int (nI lf), .int (nI yo), .int (nI ol), .ref m12, .long hh])), (m3, .inl (cI, 60, .inl (fun zz => nI (updN tx ty xa zz))))] H := hP
      have hD : va_D A [(m0, .inr (6, [.ref m1, .ref m2, .int (nI bm), .long un, .ref m3, .int (nI (ty + 1)), .ref m4, .int (nI sp), .int (nI fa), .int (nI fp), .int (nI kn), .ref m5, .ref m6, .ref m7, .ref m8, .ref m9, .int dr, .ref m10, .ref m11, .int (nI lf), .int (nI yo), .int (nI ol), .ref m12, .long hh])), (m3, .inl (cI, 60, .inl (fun zz => nI (updN tx ty xa zz))))] := hD
      refine lv_aload_n hx hb dX6_type_45 rfl (lv_at hl 0 rfl) ?_
      refine va_get (D := (dC, dI)) (ci := 6) (v := .int (nI (ty + 1))) (C := RX6) (T := TX6) (N := 24) hx hb hts inlX6 hown hK hP 0 rfl rfl 5 (by decide) (hts _ qf_X6_81) (fun _ h9 => h9) rfl dX6_type_46 ?_
      exact kqi (w1 := (fun u : (Nat → Nat) × Nat => [(m0, .inr (6, [.ref m1, .ref m2, .int (nI bm), .long un, .ref m3, .int (nI u.2), .ref m4, .int (nI sp), .int (nI fa), .int (nI fp), .int (nI kn), .ref m5, .ref m6, .ref m7, .ref m8, .ref m9, .int dr, .ref m10, .ref m11, .int (nI lf), .int (nI yo), .int (nI ol), .ref m12, .long hh])), (m3, .inl (cI, 60, .inl (fun zz => nI (u.1 zz))))])) (v := nI (ty + 1)) Y hr hlocks hK hP hD hS [0, 1] (by decide) (updN tx ty xa, ty + 1) rfl (by unfold typO; rw [if_neg (fun q => q c8), if_neg (by omega), nO_n (by omega)]) dX6_type_49
    · refine lv_bipush (v := -3) hx hb dX6_type_22 (by decide) ?_
      exact kqi (w1 := (fun u : (Nat → Nat) × Nat => [(m0, .inr (6, [.ref m1, .ref m2, .int (nI bm), .long un, .ref m3, .int (nI u.2), .ref m4, .int (nI sp), .int (nI fa), .int (nI fp), .int (nI kn), .ref m5, .ref m6, .ref m7, .ref m8, .ref m9, .int dr, .ref m10, .ref m11, .int (nI lf), .int (nI yo), .int (nI ol), .ref m12, .long hh])), (m3, .inl (cI, 60, .inl (fun zz => nI (u.1 zz))))])) (v := (-3)) Y hr hlocks hK hP hD hS [0, 1] (by decide) (tx, ty) rfl (by unfold typO; rw [if_neg (fun q => q c8), if_pos (by omega)]) dX6_type_24
  · refine lv_iconst (v := -1) hx hb dX6_type_11 (by decide) ?_
    exact kqi (w1 := (fun u : (Nat → Nat) × Nat => [(m0, .inr (6, [.ref m1, .ref m2, .int (nI bm), .long un, .ref m3, .int (nI u.2), .ref m4, .int (nI sp), .int (nI fa), .int (nI fp), .int (nI kn), .ref m5, .ref m6, .ref m7, .ref m8, .ref m9, .int dr, .ref m10, .ref m11, .int (nI lf), .int (nI yo), .int (nI ol), .ref m12, .long hh])), (m3, .inl (cI, 60, .inl (fun zz => nI (u.1 zz))))])) (v := (-1)) Y hr hlocks hK hP hD hS [0, 1] (by decide) (tx, ty) rfl (if_pos c8).symm dX6_type_12
