set_option maxHeartbeats 4000000 in
set_option maxRecDepth 100000 in
theorem c_X6_fixed (l : Launch) (dC : Nat → ClassId) (dI : Nat → Nat → Nat) (sz : Nat) (cI cL : ClassId) (m0 m1 m2 m3 m4 m5 m6 m7 m8 m9 m10 m11 m12 : Nat) (bm ty sp fa fp kn lf yo ol : Nat) (un hh : Int64) (dr : Int32) (P : Nat → Nat) (xe : Nat → Int64) (a : Int32) (hPI : PI P) : Met l yX6_fixed (kw yX6_fixed cX6_fixed 2 (some .long)) (kR 2 55) (kPq (dC, dI) [.ref m0, .int a] sz [(m0, .inr (6, [.ref m1, .ref m2, .int (nI bm), .long un, .ref m3, .int (nI ty), .ref m4, .int (nI sp), .int (nI fa), .int (nI fp), .int (nI kn), .ref m5, .ref m6, .ref m7, .ref m8, .ref m9, .int dr, .ref m10, .ref m11, .int (nI lf), .int (nI yo), .int (nI ol), .ref m12, .long hh])), (m1, .inl (cI, 22, .inl (fun zz => nI (P zz)))), (m9, .inl (cL, 40, .inr (.inl xe)))] [(cI, .int), (cL, .long)]) (va_Ql (fun (res : Int64) (u : Int64 × (Nat → Int64)) => (res, u.1) = frO (nI 0 ≤ a ∧ a ≤ nI 99) (FX P (nO a) (P 0) (P 1)) 1000000000000000 un) (fun u : Int64 × (Nat → Int64) => kB (dC, dI) [(cI, .int), (cL, .long)] (va_A [(m0, .inr (6, [.ref m1, .ref m2, .int (nI bm), .long un, .ref m3, .int (nI ty), .ref m4, .int (nI sp), .int (nI fa), .int (nI fp), .int (nI kn), .ref m5, .ref m6, .ref m7, .ref m8, .ref m9, .int dr, .ref m10, .ref m11, .int (nI lf), .int (nI yo), .int (nI ol), .ref m12, .long hh])), (m1, .inl (cI, 22, .inl (fun zz => nI (P zz)))), (m9, .inl (cL, 40, .inr (.inl xe)))] sz) ([(m0, .inr (6, [.ref m1, .ref m2, .int (nI bm), .long u.1, .ref m3, .int (nI ty), .ref m4, .int (nI sp), .int (nI fa), .int (nI fp), .int (nI kn), .ref m5, .ref m6, .ref m7, .ref m8, .ref m9, .int dr, .ref m10, .ref m11, .int (nI lf), .int (nI yo), .int (nI ol), .ref m12, .long hh])), (m1, .inl (cI, 22, .inl (fun zz => nI (P zz)))), (m9, .inl (cL, 40, .inr (.inl u.2)))])) (va_A [(m0, .inr (6, [.ref m1, .ref m2, .int (nI bm), .long un, .ref m3, .int (nI ty), .ref m4, .int (nI sp), .int (nI fa), .int (nI fp), .int (nI kn), .ref m5, .ref m6, .ref m7, .ref m8, .ref m9, .int dr, .ref m10, .ref m11, .int (nI lf), .int (nI yo), .int (nI ol), .ref m12, .long hh])), (m1, .inl (cI, 22, .inl (fun zz => nI (P zz)))), (m9, .inl (cL, 40, .inr (.inl xe)))] sz)) 0 0 (va_A [(m0, .inr (6, [.ref m1, .ref m2, .int (nI bm), .long un, .ref m3, .int (nI ty), .ref m4, .int (nI sp), .int (nI fa), .int (nI fp), .int (nI kn), .ref m5, .ref m6, .ref m7, .ref m8, .ref m9, .int dr, .ref m10, .ref m11, .int (nI lf), .int (nI yo), .int (nI ol), .ref m12, .long hh])), (m1, .inl (cI, 22, .inl (fun zz => nI (P zz)))), (m9, .inl (cL, 40, .inr (.inl xe)))] sz) := by
  refine kmet (by decide) ?_
  intro p e s m args below meth c Y hr hlocks hin hv
  obtain ⟨rfl, A, hAe, hsz, hP, hK, hD, hZ, hA⟩ := kinQ hv
  rw [hAe]
  have hS : va_S A s.heap s.heap [] := va_S.rf
  have hx := Y.1
  have hb := Y.2.1
  have hml := Y.2.2.1
  have hown := Y.2.2.2.1
  have hts := Y.2.2.2.2
  have hl := lv_entry ([.ref m0, .int a]) (n := 2) (Nat.le_of_ble_eq_true rfl)
  rw [lg_entry_eq]
  generalize (lg_sl ([.ref m0, .int a]) ++ List.replicate (2 - (lg_sl ([.ref m0, .int a])).length) Slot.unset).toArray = ls at hl ⊢
  have hl : lv_has ls 2 [(0, .ref m0), (1, .int a)] := hl
  refine lv_iload_n hx hb dX6_fixed_0 rfl (lv_at hl 1 rfl) ?_
  refine lv_iconst (v := nI 0) hx hb dX6_fixed_1 (by decide) ?_
  refine lv_bipush (v := nI 99) hx hb dX6_fixed_2 (by decide) ?_
  refine kSi (As := [.int a, .int (nI 0), .int (nI 99)]) (rest := []) Y m_X6_in (c_X6_in l dC dI a (nI 0) (nI 99) ) qm_X6_69 (kpS hK hP hZ hS [] [] rfl rfl) rfl hl.1 rfl (Nat.le_of_ble_eq_true rfl) dX6_fixed_4 ⟨Nat.le_of_ble_eq_true rfl, Nat.le_of_ble_eq_true rfl⟩ ⟨Nat.zero_le _, Nat.zero_le _⟩ (fun r4 hr4 => ?_)
  obtain rfl : r4 = b2i ((nI 0) ≤ a ∧ a ≤ (nI 99)) := hr4
  refine ri_beq (tgt := 25) hx hb dX6_fixed_7 (by decide) (fun c7 => ?_) (fun c7 => ?_)
  · refine lv_ldc2 (v := (-4000000000000000000)) hx hb hown (hts _ ql_X6_176) dX6_fixed_25 ?_
    exact kql (w1 := (fun u : Int64 × (Nat → Int64) => [(m0, .inr (6, [.ref m1, .ref m2, .int (nI bm), .long u.1, .ref m3, .int (nI ty), .ref m4, .int (nI sp), .int (nI fa), .int (nI fp), .int (nI kn), .ref m5, .ref m6, .ref m7, .ref m8, .ref m9, .int dr, .ref m10, .ref m11, .int (nI lf), .int (nI yo), .int (nI ol), .ref m12, .long hh])), (m1, .inl (cI, 22, .inl (fun zz => nI (P zz)))), (m9, .inl (cL, 40, .inr (.inl u.2)))])) (v := (-4000000000000000000)) Y hr hlocks hK hP hD hS [0, 1, 2] (by decide) (un, xe) rfl (frO_f c7) dX6_fixed_28
  · obtain ⟨xa, rfl, hxa1, hxa2⟩ := in_n (by decide) (by decide) c7
    refine lv_aload_n hx hb dX6_fixed_10 rfl (lv_at hl 0 rfl) ?_
    refine lv_aload_n hx hb dX6_fixed_11 rfl (lv_at hl 0 rfl) ?_
    refine lv_iload_n hx hb dX6_fixed_12 rfl (lv_at hl 1 rfl) ?_
    refine kQl (As := [.int (nI xa)]) (rest := [.ref m0]) (wr := []) Y m_X6_fixedAt (c_X6_fixedAt l dC dI _ cI cL m0 m1 m2 m3 m4 m5 m6 m7 m8 m9 m10 m11 m12 bm ty sp fa fp kn lf yo ol un hh dr P xe xa (by omega) hPI) qm_X6_213 hP hD hS hA [0, 1, 2] [] rfl rfl (by decide) (by decide) (kqV (ci := 6) hK hP hD hZ hS hA [0, 1, 2] [0, 1] rfl (by decide) rfl 0 rfl rfl rfl) rfl hl.1 rfl (Nat.le_of_ble_eq_true rfl) dX6_fixed_13 ⟨Nat.le_of_ble_eq_true rfl, Nat.le_of_ble_eq_true rfl⟩ ⟨Nat.zero_le _, Nat.zero_le _⟩ (fun r13 u13 H locs hr13 hP hD hS => ?_)
    obtain ⟨xe2_13, rfl⟩ : ∃ z, z = u13 := ⟨_, rfl⟩
    have hP : va_P (dC, dI) vwCl [(m0, .inr (6, [.ref m1, .ref m2, .int (nI bm), .long un, .ref m3, .int (nI ty), .ref m4, .int (nI sp), .int (nI fa), .int (nI fp), .int (nI kn), .ref m5, .ref m6, .ref m7, .ref m8, .ref m9, .int dr, .ref m10, .ref m11, .int (nI lf), .int (nI yo), .int (nI ol), .ref m12, .long hh])), (m1, .inl (cI, 22, .inl (fun zz => nI (P zz)))), (m9, .inl (cL, 40, .inr (.inl xe2_13)))] H := hP
    have hD : va_D A [(m0, .inr (6, [.ref m1, .ref m2, .int (nI bm), .long un, .ref m3, .int (nI ty), .ref m4, .int (nI sp), .int (nI fa), .int (nI fp), .int (nI kn), .ref m5, .ref m6, .ref m7, .ref m8, .ref m9, .int dr, .ref m10, .ref m11, .int (nI lf), .int (nI yo), .int (nI ol), .ref m12, .long hh])), (m1, .inl (cI, 22, .inl (fun zz => nI (P zz)))), (m9, .inl (cL, 40, .inr (.inl xe2_13)))] := hD
    obtain rfl : r13 = iN (FX P xa (P 0) (P 1)) := hr13
    have hwo := FX_bb hPI xa
    refine lv_ldc2 (v := lN 1000000000000000) hx hb hown (hts _ ql_X6_146) dX6_fixed_16 ?_
    refine kQl (As := [.long (iN (FX P xa (P 0) (P 1))), .long (lN 1000000000000000)]) (rest := []) (wr := [(m1, .inl (cI, 22, .inl (fun zz => nI (P zz)))), (m9, .inl (cL, 40, .inr (.inl xe2_13)))]) Y m_X6_told (c_X6_told l dC dI H.size cI cL m0 m1 m2 m3 m4 m5 m6 m7 m8 m9 m10 m11 m12 bm ty sp fa fp kn lf yo ol un hh dr (FX P xa (P 0) (P 1)) 1000000000000000 (by omega) (by omega) (by omega) (by omega)) qm_X6_181 hP hD hS hA [0] [1, 2] rfl rfl (by decide) (by decide) (kqV (ci := 6) hK hP hD hZ hS hA [0] [] rfl (by decide) rfl 0 rfl rfl rfl) rfl hl.1 rfl (Nat.le_of_ble_eq_true rfl) dX6_fixed_19 ⟨Nat.le_of_ble_eq_true rfl, Nat.le_of_ble_eq_true rfl⟩ ⟨Nat.zero_le _, Nat.zero_le _⟩ (fun r19 u19 H locs hr19 hP hD hS => ?_)
    have hP : va_P (dC, dI) vwCl [(m1, .inl (cI, 22, .inl (fun zz => nI (P zz)))), (m9, .inl (cL, 40, .inr (.inl xe2_13))), (m0, .inr (6, [.ref m1, .ref m2, .int (nI bm), .long (lN (FRd (FX P xa (P 0) (P 1)) 1000000000000000)), .ref m3, .int (nI ty), .ref m4, .int (nI sp), .int (nI fa), .int (nI fp), .int (nI kn), .ref m5, .ref m6, .ref m7, .ref m8, .ref m9, .int dr, .ref m10, .ref m11, .int (nI lf), .int (nI yo), .int (nI ol), .ref m12, .long hh]))] H := hP
    have hD : va_D A [(m1, .inl (cI, 22, .inl (fun zz => nI (P zz)))), (m9, .inl (cL, 40, .inr (.inl xe2_13))), (m0, .inr (6, [.ref m1, .ref m2, .int (nI bm), .long (lN (FRd (FX P xa (P 0) (P 1)) 1000000000000000)), .ref m3, .int (nI ty), .ref m4, .int (nI sp), .int (nI fa), .int (nI fp), .int (nI kn), .ref m5, .ref m6, .ref m7, .ref m8, .ref m9, .int dr, .ref m10, .ref m11, .int (nI lf), .int (nI yo), .int (nI ol), .ref m12, .long hh]))] := hD
    obtain rfl : r19 = iN (FRn (FX P xa (P 0) (P 1)) 1000000000000000) := hr19
    refine lv_goto (tgt := 28) hx hb dX6_fixed_22 (by decide) ?_
    exact kql (w1 := (fun u : Int64 × (Nat → Int64) => [(m0, .inr (6, [.ref m1, .ref m2, .int (nI bm), .long u.1, .ref m3, .int (nI ty), .ref m4, .int (nI sp), .int (nI fa), .int (nI fp), .int (nI kn), .ref m5, .ref m6, .ref m7, .ref m8, .ref m9, .int dr, .ref m10, .ref m11, .int (nI lf), .int (nI yo), .int (nI ol), .ref m12, .long hh])), (m1, .inl (cI, 22, .inl (fun zz => nI (P zz)))), (m9, .inl (cL, 40, .inr (.inl u.2)))])) (v := iN (FRn (FX P xa (P 0) (P 1)) 1000000000000000)) Y hr hlocks hK hP hD hS [2, 0, 1] (by decide) (lN (FRd (FX P xa (P 0) (P 1)) 1000000000000000), xe2_13) rfl (by rw [nO_n (n := xa) (by omega)]; exact frO_t c7) dX6_fixed_28
set_option maxHeartbeats 4000000 in
set_option maxRecDepth 100000 in
theorem c_X6_bestFixed (l : Launch) (dC : Nat → ClassId) (dI : Nat → Nat → Nat) (sz : Nat) (cI cL : ClassId) (m0 m1 m2 m3 m4 m5 m6 m7 m8 m9 m10 m11 m12 : Nat) (bm ty sp fa fp kn lf yo ol : Nat) (un hh : Int64) (dr : Int32) (P : Nat → Nat) (xe : Nat → Int64) (hPI : PI P) : Met l yX6_bestFixed (kw yX6_bestFixed cX6_bestFixed 7 (some .int)) (kR 2 49) (kPq (dC, dI) [.ref m0] sz [(m0, .inr (6, [.ref m1, .ref m2, .int (nI bm), .long un, .ref m3, .int (nI ty), .ref m4, .int (nI sp), .int (nI fa), .int (nI fp), .int (nI kn), .ref m5, .ref m6, .ref m7, .ref m8, .ref m9, .int dr, .ref m10, .ref m11, .int (nI lf), .int (nI yo), .int (nI ol), .ref m12, .long hh])), (m1, .inl (cI, 22, .inl (fun zz => nI (P zz)))), (m9, .inl (cL, 40, .inr (.inl xe)))] [(cI, .int), (cL, .long)]) (va_Qi (fun (res : Int32) (u : Nat → Int64) => res = nI (argG (fun z => FX P z (P 0) (P 1)) 99)) (fun u : Nat → Int64 => kB (dC, dI) [(cI, .int), (cL, .long)] (va_A [(m0, .inr (6, [.ref m1, .ref m2, .int (nI bm), .long un, .ref m3, .int (nI ty), .ref m4, .int (nI sp), .int (nI fa), .int (nI fp), .int (nI kn), .ref m5, .ref m6, .ref m7, .ref m8, .ref m9, .int dr, .ref m10, .ref m11, .int (nI lf), .int (nI yo), .int (nI ol), .ref m12, .long hh])), (m1, .inl (cI, 22, .inl (fun zz => nI (P zz)))), (m9, .inl (cL, 40, .inr (.inl xe)))] sz) ([(m0, .inr (6, [.ref m1, .ref m2, .int (nI bm), .long un, .ref m3, .int (nI ty), .ref m4, .int (nI sp), .int (nI fa), .int (nI fp), .int (nI kn), .ref m5, .ref m6, .ref m7, .ref m8, .ref m9, .int dr, .ref m10, .ref m11, .int (nI lf), .int (nI yo), .int (nI ol), .ref m12, .long hh])), (m1, .inl (cI, 22, .inl (fun zz => nI (P zz)))), (m9, .inl (cL, 40, .inr (.inl u)))])) (va_A [(m0, .inr (6, [.ref m1, .ref m2, .int (nI bm), .long un, .ref m3, .int (nI ty), .ref m4, .int (nI sp), .int (nI fa), .int (nI fp), .int (nI kn), .ref m5, .ref m6, .ref m7, .ref m8, .ref m9, .int dr, .ref m10, .ref m11, .int (nI lf), .int (nI yo), .int (nI ol), .ref m12, .long hh])), (m1, .inl (cI, 22, .inl (fun zz => nI (P zz)))), (m9, .inl (cL, 40, .inr (.inl xe)))] sz)) 0 0 (va_A [(m0, .inr (6, [.ref m1, .ref m2, .int (nI bm), .long un, .ref m3, .int (nI ty), .ref m4, .int (nI sp), .int (nI fa), .int (nI fp), .int (nI kn), .ref m5, .ref m6, .ref m7, .ref m8, .ref m9, .int dr, .ref m10, .ref m11, .int (nI lf), .int (nI yo), .int (nI ol), .ref m12, .long hh])), (m1, .inl (cI, 22, .inl (fun zz => nI (P zz)))), (m9, .inl (cL, 40, .inr (.inl xe)))] sz) := by
  refine kmet (by decide) ?_
  intro p e s m args below meth c Y hr hlocks hin hv
  obtain ⟨rfl, A, hAe, hsz, hP, hK, hD, hZ, hA⟩ := kinQ hv
  rw [hAe]
  have hS : va_S A s.heap s.heap [] := va_S.rf
  have hx := Y.1
  have hb := Y.2.1
  have hml := Y.2.2.1
  have hown := Y.2.2.2.1
  have hts := Y.2.2.2.2
  have hl := lv_entry ([.ref m0]) (n := 7) (Nat.le_of_ble_eq_true rfl)
  rw [lg_entry_eq]
  generalize (lg_sl ([.ref m0]) ++ List.replicate (7 - (lg_sl ([.ref m0])).length) Slot.unset).toArray = ls at hl ⊢
  have hl : lv_has ls 7 [(0, .ref m0)] := hl
  refine lv_iconst (v := nI 0) hx hb dX6_bestFixed_0 (by decide) ?_
  refine lv_istore_n (lv' := [(1, .int (nI 0)), (0, .ref m0)]) hx hb dX6_bestFixed_1 rfl hl (by decide) rfl (fun ls hl => ?_)
  refine lv_aload_n hx hb dX6_bestFixed_2 rfl (lv_at hl 1 rfl) ?_
  refine lv_iconst (v := nI 0) hx hb dX6_bestFixed_3 (by decide) ?_
  refine kQl (As := [.int (nI 0)]) (rest := []) (wr := []) Y m_X6_fixedAt (c_X6_fixedAt l dC dI _ cI cL m0 m1 m2 m3 m4 m5 m6 m7 m8 m9 m10 m11 m12 bm ty sp fa fp kn lf yo ol un hh dr P xe 0 (by omega) hPI) qm_X6_213 hP hD hS hA [0, 1, 2] [] rfl rfl (by decide) (by decide) (kqV (ci := 6) hK hP hD hZ hS hA [0, 1, 2] [0, 1] rfl (by decide) rfl 0 rfl rfl rfl) rfl hl.1 rfl (Nat.le_of_ble_eq_true rfl) dX6_bestFixed_4 ⟨Nat.le_of_ble_eq_true rfl, Nat.le_of_ble_eq_true rfl⟩ ⟨Nat.zero_le _, Nat.zero_le _⟩ (fun r4 u4 H locs hr4 hP hD hS => ?_)
  obtain ⟨xe2_4, rfl⟩ : ∃ z, z = u4 := ⟨_, rfl⟩
  have hP : va_P (dC, dI) vwCl [(m0, .inr (6, [.ref m1, .ref m2, .int (nI bm), .long un, .ref m3, .int (nI ty), .ref m4, .int (nI sp), .int (nI fa), .int (nI fp), .int (nI kn), .ref m5, .ref m6, .ref m7, .ref m8, .ref m9, .int dr, .ref m10, .ref m11, .int (nI lf), .int (nI yo), .int (nI ol), .ref m12, .long hh])), (m1, .inl (cI, 22, .inl (fun zz => nI (P zz)))), (m9, .inl (cL, 40, .inr (.inl xe2_4)))] H := hP
  have hD : va_D A [(m0, .inr (6, [.ref m1, .ref m2, .int (nI bm), .long un, .ref m3, .int (nI ty), .ref m4, .int (nI sp), .int (nI fa), .int (nI fp), .int (nI kn), .ref m5, .ref m6, .ref m7, .ref m8, .ref m9, .int dr, .ref m10, .ref m11, .int (nI lf), .int (nI yo), .int (nI ol), .ref m12, .long hh])), (m1, .inl (cI, 22, .inl (fun zz => nI (P zz)))), (m9, .inl (cL, 40, .inr (.inl xe2_4)))] := hD
  obtain rfl : r4 = iN (FX P 0 (P 0) (P 1)) := hr4
  refine lv_lstore_n (lv' := [(2, .long (iN (FX P 0 (P 0) (P 1)))), (1, .int (nI 0)), (0, .ref m0)]) hx hb dX6_bestFixed_7 rfl hl (by decide) rfl (fun ls hl => ?_)
  refine lv_iconst (v := nI 1) hx hb dX6_bestFixed_8 (by decide) ?_
  refine lv_istore (lv' := [(4, .int (nI 1)), (2, .long (iN (FX P 0 (P 0) (P 1)))), (1, .int (nI 0)), (0, .ref m0)]) hx hb dX6_bestFixed_9 hl (by decide) rfl (fun ls hl => ?_)
  refine wl3 (fun (h9 : Nat) (bb : Nat) (x1 : Nat → Int64) => 100 - h9) (fun (h9 : Nat) (bb : Nat) (x1 : Nat → Int64) (ls : Array Slot) (H : Heap) (locs : List Loc) => lv_has ls 7 [(0, .ref m0), (1, .int (nI bb)), (2, .long (iN (FX P bb (P 0) (P 1)))), (4, .int (nI h9))] ∧ va_P (dC, dI) vwCl [(m0, .inr (6, [.ref m1, .ref m2, .int (nI bm), .long un, .ref m3, .int (nI ty), .ref m4, .int (nI sp), .int (nI fa), .int (nI fp), .int (nI kn), .ref m5, .ref m6, .ref m7, .ref m8, .ref m9, .int dr, .ref m10, .ref m11, .int (nI lf), .int (nI yo), .int (nI ol), .ref m12, .long hh])), (m1, .inl (cI, 22, .inl (fun zz => nI (P zz)))), (m9, .inl (cL, 40, .inr (.inl x1)))] H ∧ va_D A [(m0, .inr (6, [.ref m1, .ref m2, .int (nI bm), .long un, .ref m3, .int (nI ty), .ref m4, .int (nI sp), .int (nI fa), .int (nI fp), .int (nI kn), .ref m5, .ref m6, .ref m7, .ref m8, .ref m9, .int dr, .ref m10, .ref m11, .int (nI lf), .int (nI yo), .int (nI ol), .ref m12, .long hh])), (m1, .inl (cI, 22, .inl (fun zz => nI (P zz)))), (m9, .inl (cL, 40, .inr (.inl x1)))] ∧ va_S A s.heap H locs ∧ (1 ≤ h9 ∧ h9 ≤ 100 ∧ bb = argG (fun z => FX P z (P 0) (P 1)) (h9 - 1))) 1 0 xe2_4 (by exact ⟨lv_sub hl [3, 2, 1, 0] rfl, hP.sub [0, 1, 2] rfl, hD.sub [0, 1, 2] (by decide) rfl, hS, by omega, by omega, rfl⟩) (fun h9 bb x1 ls H locs hI ih => ?_)
  obtain ⟨hl, hP, hD, hS, hh1, hh2, hbb⟩ := hI
  have ih11 := ih
  refine lv_iload hx hb dX6_bestFixed_11 (lv_at hl 3 rfl) ?_
  refine lv_bipush (v := nI 100) hx hb dX6_bestFixed_13 (by decide) ?_
  refine ri_cge (tgt := 60) hx hb dX6_bestFixed_15 (by decide) (by omega) (by omega) (fun c15 => ?_) (fun c15 => ?_)
  · refine lv_iload_n hx hb dX6_bestFixed_60 rfl (lv_at hl 1 rfl) ?_
    exact kqi (w1 := (fun u : Nat → Int64 => [(m0, .inr (6, [.ref m1, .ref m2, .int (nI bm), .long un, .ref m3, .int (nI ty), .ref m4, .int (nI sp), .int (nI fa), .int (nI fp), .int (nI kn), .ref m5, .ref m6, .ref m7, .ref m8, .ref m9, .int dr, .ref m10, .ref m11, .int (nI lf), .int (nI yo), .int (nI ol), .ref m12, .long hh])), (m1, .inl (cI, 22, .inl (fun zz => nI (P zz)))), (m9, .inl (cL, 40, .inr (.inl u)))])) (v := nI bb) Y hr hlocks hK hP hD hS [0, 1, 2] (by decide) (x1) rfl (congrArg nI (by rw [hbb, show h9 - 1 = 99 by omega])) dX6_bestFixed_61
  · have hsa := FX_bb hPI h9
    have hsb := FX_bb hPI bb
    refine lv_aload_n hx hb dX6_bestFixed_18 rfl (lv_at hl 0 rfl) ?_
    refine lv_iload hx hb dX6_bestFixed_19 (lv_at hl 3 rfl) ?_
    refine kQl (As := [.int (nI h9)]) (rest := []) (wr := []) Y m_X6_fixedAt (c_X6_fixedAt l dC dI H.size cI cL m0 m1 m2 m3 m4 m5 m6 m7 m8 m9 m10 m11 m12 bm ty sp fa fp kn lf yo ol un hh dr P x1 h9 (by omega) hPI) qm_X6_213 hP hD hS hA [0, 1, 2] [] rfl rfl (by decide) (by decide) (kqV (ci := 6) hK hP hD hZ hS hA [0, 1, 2] [0, 1] rfl (by decide) rfl 0 rfl rfl rfl) rfl hl.1 rfl (Nat.le_of_ble_eq_true rfl) dX6_bestFixed_21 ⟨Nat.le_of_ble_eq_true rfl, Nat.le_of_ble_eq_true rfl⟩ ⟨Nat.zero_le _, Nat.zero_le _⟩ (fun r21 u21 H locs hr21 hP hD hS => ?_)
    obtain ⟨xe2_21, rfl⟩ : ∃ z, z = u21 := ⟨_, rfl⟩
    have hP : va_P (dC, dI) vwCl [(m0, .inr (6, [.ref m1, .ref m2, .int (nI bm), .long un, .ref m3, .int (nI ty), .ref m4, .int (nI sp), .int (nI fa), .int (nI fp), .int (nI kn), .ref m5, .ref m6, .ref m7, .ref m8, .ref m9, .int dr, .ref m10, .ref m11, .int (nI lf), .int (nI yo), .int (nI ol), .ref m12, .long hh])), (m1, .inl (cI, 22, .inl (fun zz => nI (P zz)))), (m9, .inl (cL, 40, .inr (.inl xe2_21)))] H := hP
    have hD : va_D A [(m0, .inr (6, [.ref m1, .ref m2, .int (nI bm), .long un, .ref m3, .int (nI ty), .ref m4, .int (nI sp), .int (nI fa), .int (nI fp), .int (nI kn), .ref m5, .ref m6, .ref m7, .ref m8, .ref m9, .int dr, .ref m10, .ref m11, .int (nI lf), .int (nI yo), .int (nI ol), .ref m12, .long hh])), (m1, .inl (cI, 22, .inl (fun zz => nI (P zz)))), (m9, .inl (cL, 40, .inr (.inl xe2_21)))] := hD
    obtain rfl : r21 = iN (FX P h9 (P 0) (P 1)) := hr21
    refine lv_lstore (lv' := [(5, .long (iN (FX P h9 (P 0) (P 1)))), (0, .ref m0), (1, .int (nI bb)), (2, .long (iN (FX P bb (P 0) (P 1)))), (4, .int (nI h9))]) hx hb dX6_bestFixed_24 hl (by decide) rfl (fun ls hl => ?_)
    refine lv_lload hx hb dX6_bestFixed_26 (lv_at hl 0 rfl) ?_
    refine lv_lload_n hx hb dX6_bestFixed_28 rfl (lv_at hl 3 rfl) ?_
    refine rl_le (tgt := 38) hx hb dX6_bestFixed_29 dX6_bestFixed_30 (by decide) (fun c29 => ?_) (fun c29 => ?_)
    · refine lv_iload_n hx hb dX6_bestFixed_38 rfl (lv_at hl 2 rfl) ?_
      refine lv_istore_n (lv' := [(1, .int (nI bb)), (5, .long (iN (FX P h9 (P 0) (P 1)))), (0, .ref m0), (2, .long (iN (FX P bb (P 0) (P 1)))), (4, .int (nI h9))]) hx hb dX6_bestFixed_39 rfl hl (by decide) rfl (fun ls hl => ?_)
      refine lv_lload hx hb dX6_bestFixed_40 (lv_at hl 1 rfl) ?_
      refine lv_lload_n hx hb dX6_bestFixed_42 rfl (lv_at hl 3 rfl) ?_
      refine rl_le (tgt := 52) hx hb dX6_bestFixed_43 dX6_bestFixed_44 (by decide) (fun c43 => ?_) (fun c43 => ?_)
      · refine lv_lload_n hx hb dX6_bestFixed_52 rfl (lv_at hl 3 rfl) ?_
        refine lv_lstore_n (lv' := [(2, .long (iN (FX P bb (P 0) (P 1)))), (1, .int (nI bb)), (5, .long (iN (FX P h9 (P 0) (P 1)))), (0, .ref m0), (4, .int (nI h9))]) hx hb dX6_bestFixed_53 rfl hl (by decide) rfl (fun ls hl => ?_)
        refine lv_iinc (v := nI (h9 + 1)) (lv' := [(4, .int (nI (h9 + 1))), (2, .long (iN (FX P bb (P 0) (P 1)))), (1, .int (nI bb)), (5, .long (iN (FX P h9 (P 0) (P 1)))), (0, .ref m0)]) hx hb dX6_bestFixed_54 hl (k := 4) rfl (inc1 _) (by decide) rfl (fun ls hl => ?_)
        refine lv_goto (tgt := 11) hx hb dX6_bestFixed_57 (by decide) ?_
        exact ih11 (h9 + 1) bb xe2_21 _ _ _ (by show _ < _; omega) (by exact ⟨lv_sub hl [4, 2, 1, 0] rfl, hP.sub [0, 1, 2] rfl, hD.sub [0, 1, 2] (by decide) rfl, hS, by omega, by omega, argG_F (f := (fun z => FX P z (P 0) (P 1))) (bb := bb) hh1 hbb (Int.not_lt.mpr ((iN_le (by omega) (by omega) (by omega) (by omega)).mp c29))⟩)
      · exact absurd c29 c43
    · refine lv_iload hx hb dX6_bestFixed_33 (lv_at hl 4 rfl) ?_
      refine lv_goto (tgt := 39) hx hb dX6_bestFixed_35 (by decide) ?_
      refine lv_istore_n (lv' := [(1, .int (nI h9)), (5, .long (iN (FX P h9 (P 0) (P 1)))), (0, .ref m0), (2, .long (iN (FX P bb (P 0) (P 1)))), (4, .int (nI h9))]) hx hb dX6_bestFixed_39 rfl hl (by decide) rfl (fun ls hl => ?_)
      refine lv_lload hx hb dX6_bestFixed_40 (lv_at hl 1 rfl) ?_
      refine lv_lload_n hx hb dX6_bestFixed_42 rfl (lv_at hl 3 rfl) ?_
      refine rl_le (tgt := 52) hx hb dX6_bestFixed_43 dX6_bestFixed_44 (by decide) (fun c43 => ?_) (fun c43 => ?_)
      · exact absurd c43 c29
      · refine lv_lload hx hb dX6_bestFixed_47 (lv_at hl 1 rfl) ?_
        refine lv_goto (tgt := 53) hx hb dX6_bestFixed_49 (by decide) ?_
        refine lv_lstore_n (lv' := [(2, .long (iN (FX P h9 (P 0) (P 1)))), (1, .int (nI h9)), (5, .long (iN (FX P h9 (P 0) (P 1)))), (0, .ref m0), (4, .int (nI h9))]) hx hb dX6_bestFixed_53 rfl hl (by decide) rfl (fun ls hl => ?_)
        refine lv_iinc (v := nI (h9 + 1)) (lv' := [(4, .int (nI (h9 + 1))), (2, .long (iN (FX P h9 (P 0) (P 1)))), (1, .int (nI h9)), (5, .long (iN (FX P h9 (P 0) (P 1)))), (0, .ref m0)]) hx hb dX6_bestFixed_54 hl (k := 4) rfl (inc1 _) (by decide) rfl (fun ls hl => ?_)
        refine lv_goto (tgt := 11) hx hb dX6_bestFixed_57 (by decide) ?_
        exact ih11 (h9 + 1) h9 xe2_21 _ _ _ (by show _ < _; omega) (by exact ⟨lv_sub hl [4, 2, 1, 0] rfl, hP.sub [0, 1, 2] rfl, hD.sub [0, 1, 2] (by decide) rfl, hS, by omega, by omega, argG_T (f := (fun z => FX P z (P 0) (P 1))) (bb := bb) hh1 hbb (Int.not_le.mp (fun q => c29 ((iN_le (by omega) (by omega) (by omega) (by omega)).mpr q)))⟩)
