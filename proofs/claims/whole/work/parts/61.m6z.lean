set_option maxHeartbeats 4000000 in
set_option maxRecDepth 100000 in
theorem c_X6_isTaken (l : Launch) (dC : Nat → ClassId) (dI : Nat → Nat → Nat) (cI cL : ClassId) (m0 m1 m2 m3 m4 m5 m6 m7 m8 m9 m10 m11 m12 : Nat) (bm ty sp fa fp kn lf yo ol : Nat) (un hh : Int64) (dr : Int32) (P sy gz : Nat → Nat) (i j a v : Nat) (h1 : 1 ≤ i) (h2 : i ≤ P 0) (h3 : 1 ≤ j) (h4 : j ≤ 3) (h5 : a ≤ 5) (h6 : v < 5) (hPI : PI P) (hMZ : MZ P sy gz) : Met l yX6_isTaken (kw yX6_isTaken cX6_isTaken 5 (some .boolean)) (kR 1 23) (kPr (dC, dI) [.ref m0, .int (nI i), .int (nI j), .int (nI a), .int (nI v)] [(m0, .inr (6, [.ref m1, .ref m2, .int (nI bm), .long un, .ref m3, .int (nI ty), .ref m4, .int (nI sp), .int (nI fa), .int (nI fp), .int (nI kn), .ref m5, .ref m6, .ref m7, .ref m8, .ref m9, .int dr, .ref m10, .ref m11, .int (nI lf), .int (nI yo), .int (nI ol), .ref m12, .long hh])), (m1, .inl (cI, 22, .inl (fun zz => nI (P zz)))), (m7, .inl (cL, 1152, .inr (.inl (fun zz => lN (sy zz))))), (m8, .inl (cL, 1152, .inr (.inl (fun zz => lN (gz zz)))))] [(cI, .int), (cL, .long)]) (vp_Si (fun res : Int32 => res = b2i (tkP P (P 0 - i) j a v))) 0 0 kNo := by
  refine kmet (by decide) ?_
  intro p e s m args below meth c Y hr hlocks hin hv
  obtain ⟨rfl, hP, hK, hZ⟩ := kinR hv
  have hS : va_S kNo s.heap s.heap [] := va_S.rf
  have hx := Y.1
  have hb := Y.2.1
  have hml := Y.2.2.1
  have hown := Y.2.2.2.1
  have hts := Y.2.2.2.2
  have hl := lv_entry ([.ref m0, .int (nI i), .int (nI j), .int (nI a), .int (nI v)]) (n := 5) (Nat.le_of_ble_eq_true rfl)
  rw [lg_entry_eq]
  generalize (lg_sl ([.ref m0, .int (nI i), .int (nI j), .int (nI a), .int (nI v)]) ++ List.replicate (5 - (lg_sl ([.ref m0, .int (nI i), .int (nI j), .int (nI a), .int (nI v)])).length) Slot.unset).toArray = ls at hl ⊢
  have hl : lv_has ls 5 [(0, .ref m0), (1, .int (nI i)), (2, .int (nI j)), (3, .int (nI a)), (4, .int (nI v))] := hl
  have hp0 := hPI.1
  have hp1 := hPI.2.1
  have hp2 := hPI.2.2.1
  have hc1 := hPI.2.2.2.2.2.2.1
  have hc2 := hPI.2.2.2.2.2.2.2
  have hpv := hPI.le (k := 10 + v) (by omega)
  refine lv_aload_n hx hb dX6_isTaken_0 rfl (lv_at hl 0 rfl) ?_
  refine lv_iload hx hb dX6_isTaken_1 (lv_at hl 4 rfl) ?_
  refine kVi (As := [.int (nI v)]) (rest := []) Y m_X6_valueOf (c_X6_valueOf l dC dI cI cL m0 m1 m2 m3 m4 m5 m6 m7 m8 m9 m10 m11 m12 bm ty sp fa fp kn lf yo ol un hh dr P v (by omega)) qm_X6_143 (kpV (ci := 6) hK hP hZ hS [0, 1] [0] rfl rfl 0 rfl rfl rfl) rfl hl.1 rfl (Nat.le_of_ble_eq_true rfl) dX6_isTaken_3 ⟨Nat.le_of_ble_eq_true rfl, Nat.le_of_ble_eq_true rfl⟩ ⟨Nat.zero_le _, Nat.zero_le _⟩ (fun r3 hr3 => ?_)
  obtain rfl : r3 = nI (P (10 + v)) := hr3
  refine ri_i2l hx hb dX6_isTaken_6 (by omega) ?_
  refine lv_ldc2 (v := lN 1000000000000000) hx hb hown (hts _ ql_X6_146) dX6_isTaken_7 ?_
  refine rl_muln hx hb dX6_isTaken_10 ?_
  refine lv_aload_n hx hb dX6_isTaken_11 rfl (lv_at hl 0 rfl) ?_
  refine va_get (D := (dC, dI)) (ci := 6) (v := .ref m7) (C := RX6) (T := TX6) (N := 24) hx hb hts inlX6 hown hK hP 0 rfl rfl 13 (by decide) (hts _ qf_X6_33) (fun _ h9 => h9) rfl dX6_isTaken_12 ?_
  refine lv_iload_n hx hb dX6_isTaken_15 rfl (lv_at hl 1 rfl) ?_
  refine lv_iconst (v := nI 1) hx hb dX6_isTaken_16 (by decide) ?_
  refine ri_add hx hb dX6_isTaken_17 ?_
  refine lv_iload_n hx hb dX6_isTaken_18 rfl (lv_at hl 2 rfl) ?_
  refine lv_iconst (v := nI 1) hx hb dX6_isTaken_19 (by decide) ?_
  refine ri_sub hx hb dX6_isTaken_20 (by omega) ?_
  refine lv_iconst (v := nI 5) hx hb dX6_isTaken_21 (by decide) ?_
  refine lv_iload_n hx hb dX6_isTaken_22 rfl (lv_at hl 3 rfl) ?_
  refine kSi (As := [.int (nI (i + 1)), .int (nI (j - 1)), .int (nI 5), .int (nI a)]) (rest := [.ref m7, .long (lN ((P (10 + v)) * 1000000000000000))]) Y m_X6_spotOf (c_X6_spotOf l dC dI (i + 1) (j - 1) 5 a (by omega)) qm_X6_148 (kpS hK hP hZ hS [] [] rfl rfl) rfl hl.1 rfl (Nat.le_of_ble_eq_true rfl) dX6_isTaken_23 ⟨Nat.le_of_ble_eq_true rfl, Nat.le_of_ble_eq_true rfl⟩ ⟨Nat.zero_le _, Nat.zero_le _⟩ (fun r23 hr23 => ?_)
  obtain rfl : r23 = nI (pB (i + 1) (j - 1) 5 a) := hr23
  refine rm_ald hx hb hK hP 2 1 (F := sy) rfl rfl dX6_isTaken_26 (by decide) (pB_lt (by omega) (by omega) (by omega) (by omega)) ?_
  refine rl_set (x' := lN (SV P (P 20) (P 21) (P 0 - i) (j - 1) 5 a)) (congrArg lN (MZ_s hMZ (by omega) (by omega) (by omega) (by omega))) ?_
  have hb1 := Nat.le_trans (scB hPI (j := j) (l := 10 + v) (by omega) (by omega) (SV_le hPI hc1 hc2 (P 0 - i) (j := j - 1) (a := 5) (b := a) (by omega) h5)) (B3 h4)
  refine rl_addn hx hb dX6_isTaken_27 ?_
  refine lv_aload_n hx hb dX6_isTaken_28 rfl (lv_at hl 0 rfl) ?_
  refine va_get (D := (dC, dI)) (ci := 6) (v := .ref m7) (C := RX6) (T := TX6) (N := 24) hx hb hts inlX6 hown hK hP 0 rfl rfl 13 (by decide) (hts _ qf_X6_33) (fun _ h9 => h9) rfl dX6_isTaken_29 ?_
  refine lv_iload_n hx hb dX6_isTaken_32 rfl (lv_at hl 1 rfl) ?_
  refine lv_iconst (v := nI 1) hx hb dX6_isTaken_33 (by decide) ?_
  refine ri_add hx hb dX6_isTaken_34 ?_
  refine lv_iload_n hx hb dX6_isTaken_35 rfl (lv_at hl 2 rfl) ?_
  refine lv_iload hx hb dX6_isTaken_36 (lv_at hl 4 rfl) ?_
  refine lv_iload_n hx hb dX6_isTaken_38 rfl (lv_at hl 3 rfl) ?_
  refine kSi (As := [.int (nI (i + 1)), .int (nI j), .int (nI v), .int (nI a)]) (rest := [.ref m7, .long (lN (((P (10 + v)) * 1000000000000000) + (SV P (P 20) (P 21) (P 0 - i) (j - 1) 5 a)))]) Y m_X6_spotOf (c_X6_spotOf l dC dI (i + 1) j v a (by omega)) qm_X6_148 (kpS hK hP hZ hS [] [] rfl rfl) rfl hl.1 rfl (Nat.le_of_ble_eq_true rfl) dX6_isTaken_39 ⟨Nat.le_of_ble_eq_true rfl, Nat.le_of_ble_eq_true rfl⟩ ⟨Nat.zero_le _, Nat.zero_le _⟩ (fun r39 hr39 => ?_)
  obtain rfl : r39 = nI (pB (i + 1) j v a) := hr39
  refine rm_ald hx hb hK hP 2 1 (F := sy) rfl rfl dX6_isTaken_42 (by decide) (pB_lt (by omega) (by omega) (by omega) (by omega)) ?_
  refine rl_set (x' := lN (SV P (P 20) (P 21) (P 0 - i) j v a)) (congrArg lN (MZ_s hMZ (by omega) (by omega) (by omega) (by omega))) ?_
  have hb2 := SVBx hPI hc1 hc2 (P 0 - i) j v a (by omega) (by omega) (by omega)
  refine rl_ltn (tgt := 51) hx hb dX6_isTaken_43 dX6_isTaken_44 (by decide) (Nat.lt_of_le_of_lt hb1 (Nat.le_of_ble_eq_true rfl)) (Nat.lt_of_le_of_lt hb2 (Nat.le_of_ble_eq_true rfl)) (fun c43 => ?_) (fun c43 => ?_)
  · refine lv_iconst (v := nI 0) hx hb dX6_isTaken_51 (by decide) ?_
    exact krz (v := nI 0) Y hr hlocks (by decide) (b2i_f (Nat.not_le.mpr c43)).symm dX6_isTaken_52
  · refine lv_iconst (v := nI 1) hx hb dX6_isTaken_47 (by decide) ?_
    refine lv_goto (tgt := 52) hx hb dX6_isTaken_48 (by decide) ?_
    exact krz (v := nI 1) Y hr hlocks (by decide) (b2i_t c43).symm dX6_isTaken_52
set_option maxHeartbeats 4000000 in
set_option maxRecDepth 100000 in
theorem c_X6_choosesLevel (l : Launch) (dC : Nat → ClassId) (dI : Nat → Nat → Nat) (sz : Nat) (cI cL : ClassId) (m0 m1 m2 m3 m4 m5 m6 m7 m8 m9 m10 m11 m12 : Nat) (bm ty sp fa fp kn lf yo ol : Nat) (un hh : Int64) (dr : Int32) (P ww rv sy gz : Nat → Nat) (a b v w : Int32) (hPI : PI P) (hKI : KI P kn ww rv sy gz) : Met l yX6_choosesLevel (kw yX6_choosesLevel cX6_choosesLevel 5 (some .int)) (kR 5 127) (kPq (dC, dI) [.ref m0, .int a, .int b, .int v, .int w] sz [(m0, .inr (6, [.ref m1, .ref m2, .int (nI bm), .long un, .ref m3, .int (nI ty), .ref m4, .int (nI sp), .int (nI fa), .int (nI fp), .int (nI kn), .ref m5, .ref m6, .ref m7, .ref m8, .ref m9, .int dr, .ref m10, .ref m11, .int (nI lf), .int (nI yo), .int (nI ol), .ref m12, .long hh])), (m1, .inl (cI, 22, .inl (fun zz => nI (P zz)))), (m5, .inl (cL, 72, .inr (.inl (fun zz => lN (ww zz))))), (m6, .inl (cL, 40, .inr (.inl (fun zz => lN (rv zz))))), (m7, .inl (cL, 1152, .inr (.inl (fun zz => lN (sy zz))))), (m8, .inl (cL, 1152, .inr (.inl (fun zz => lN (gz zz)))))] [(cI, .int), (cL, .long)]) (va_Qi (fun (res : Int32) (u : Nat × (Nat → Nat) × (Nat → Nat) × (Nat → Nat) × (Nat → Nat)) => res = clO P a b v w ∧ KI P u.1 u.2.1 u.2.2.1 u.2.2.2.1 u.2.2.2.2) (fun u : Nat × (Nat → Nat) × (Nat → Nat) × (Nat → Nat) × (Nat → Nat) => kB (dC, dI) [(cI, .int), (cL, .long)] (va_A [(m0, .inr (6, [.ref m1, .ref m2, .int (nI bm), .long un, .ref m3, .int (nI ty), .ref m4, .int (nI sp), .int (nI fa), .int (nI fp), .int (nI kn), .ref m5, .ref m6, .ref m7, .ref m8, .ref m9, .int dr, .ref m10, .ref m11, .int (nI lf), .int (nI yo), .int (nI ol), .ref m12, .long hh])), (m1, .inl (cI, 22, .inl (fun zz => nI (P zz)))), (m5, .inl (cL, 72, .inr (.inl (fun zz => lN (ww zz))))), (m6, .inl (cL, 40, .inr (.inl (fun zz => lN (rv zz))))), (m7, .inl (cL, 1152, .inr (.inl (fun zz => lN (sy zz))))), (m8, .inl (cL, 1152, .inr (.inl (fun zz => lN (gz zz)))))] sz) ([(m0, .inr (6, [.ref m1, .ref m2, .int (nI bm), .long un, .ref m3, .int (nI ty), .ref m4, .int (nI sp), .int (nI fa), .int (nI fp), .int (nI u.1), .ref m5, .ref m6, .ref m7, .ref m8, .ref m9, .int dr, .ref m10, .ref m11, .int (nI lf), .int (nI yo), .int (nI ol), .ref m12, .long hh])), (m1, .inl (cI, 22, .inl (fun zz => nI (P zz)))), (m5, .inl (cL, 72, .inr (.inl (fun zz => lN (u.2.1 zz))))), (m6, .inl (cL, 40, .inr (.inl (fun zz => lN (u.2.2.1 zz))))), (m7, .inl (cL, 1152, .inr (.inl (fun zz => lN (u.2.2.2.1 zz))))), (m8, .inl (cL, 1152, .inr (.inl (fun zz => lN (u.2.2.2.2 zz)))))])) (va_A [(m0, .inr (6, [.ref m1, .ref m2, .int (nI bm), .long un, .ref m3, .int (nI ty), .ref m4, .int (nI sp), .int (nI fa), .int (nI fp), .int (nI kn), .ref m5, .ref m6, .ref m7, .ref m8, .ref m9, .int dr, .ref m10, .ref m11, .int (nI lf), .int (nI yo), .int (nI ol), .ref m12, .long hh])), (m1, .inl (cI, 22, .inl (fun zz => nI (P zz)))), (m5, .inl (cL, 72, .inr (.inl (fun zz => lN (ww zz))))), (m6, .inl (cL, 40, .inr (.inl (fun zz => lN (rv zz))))), (m7, .inl (cL, 1152, .inr (.inl (fun zz => lN (sy zz))))), (m8, .inl (cL, 1152, .inr (.inl (fun zz => lN (gz zz)))))] sz)) 0 0 (va_A [(m0, .inr (6, [.ref m1, .ref m2, .int (nI bm), .long un, .ref m3, .int (nI ty), .ref m4, .int (nI sp), .int (nI fa), .int (nI fp), .int (nI kn), .ref m5, .ref m6, .ref m7, .ref m8, .ref m9, .int dr, .ref m10, .ref m11, .int (nI lf), .int (nI yo), .int (nI ol), .ref m12, .long hh])), (m1, .inl (cI, 22, .inl (fun zz => nI (P zz)))), (m5, .inl (cL, 72, .inr (.inl (fun zz => lN (ww zz))))), (m6, .inl (cL, 40, .inr (.inl (fun zz => lN (rv zz))))), (m7, .inl (cL, 1152, .inr (.inl (fun zz => lN (sy zz))))), (m8, .inl (cL, 1152, .inr (.inl (fun zz => lN (gz zz)))))] sz) := by
  refine kmet (by decide) ?_
  intro p e s m args below meth c Y hr hlocks hin hv
  obtain ⟨rfl, A, hAe, hsz, hP, hK, hD, hZ, hA⟩ := kinQ hv
  rw [hAe]
  have hS : va_S A s.heap s.heap [] := va_S.rf
  have hx := Y.1
  have hb := Y.2.1
  have hml := Y.2.2.1
  have hown := Y.2.2.2.1
  have hts := Y.2.2.2.2
  have hl := lv_entry ([.ref m0, .int a, .int b, .int v, .int w]) (n := 5) (Nat.le_of_ble_eq_true rfl)
  rw [lg_entry_eq]
  generalize (lg_sl ([.ref m0, .int a, .int b, .int v, .int w]) ++ List.replicate (5 - (lg_sl ([.ref m0, .int a, .int b, .int v, .int w])).length) Slot.unset).toArray = ls at hl ⊢
  have hl : lv_has ls 5 [(0, .ref m0), (1, .int a), (2, .int b), (3, .int v), (4, .int w)] := hl
  have hp0 := hPI.1
  have hp1 := hPI.2.1
  have hp2 := hPI.2.2.1
  have hc1 := hPI.2.2.2.2.2.2.1
  have hc2 := hPI.2.2.2.2.2.2.2
  refine lv_aload_n hx hb dX6_choosesLevel_0 rfl (lv_at hl 0 rfl) ?_
  refine lv_iload_n hx hb dX6_choosesLevel_1 rfl (lv_at hl 1 rfl) ?_
  refine kVi (As := [.int a]) (rest := []) Y m_X6_isCandidate (c_X6_isCandidate l dC dI cI cL m0 m1 m2 m3 m4 m5 m6 m7 m8 m9 m10 m11 m12 bm ty sp fa fp kn lf yo ol un hh dr P a ) qm_X6_172 (kpV (ci := 6) hK hP hZ hS [0, 1] [0] rfl rfl 0 rfl rfl rfl) rfl hl.1 rfl (Nat.le_of_ble_eq_true rfl) dX6_choosesLevel_2 ⟨Nat.le_of_ble_eq_true rfl, Nat.le_of_ble_eq_true rfl⟩ ⟨Nat.zero_le _, Nat.zero_le _⟩ (fun r2 hr2 => ?_)
  obtain rfl : r2 = b2i (nI 1 ≤ a ∧ a ≤ nI (P 0)) := hr2
  refine ri_beq (tgt := 39) hx hb dX6_choosesLevel_5 (by decide) (fun c5 => ?_) (fun c5 => ?_)
  · refine lv_iconst (v := -1) hx hb dX6_choosesLevel_39 (by decide) ?_
    exact kqi (w1 := (fun u : Nat × (Nat → Nat) × (Nat → Nat) × (Nat → Nat) × (Nat → Nat) => [(m0, .inr (6, [.ref m1, .ref m2, .int (nI bm), .long un, .ref m3, .int (nI ty), .ref m4, .int (nI sp), .int (nI fa), .int (nI fp), .int (nI u.1), .ref m5, .ref m6, .ref m7, .ref m8, .ref m9, .int dr, .ref m10, .ref m11, .int (nI lf), .int (nI yo), .int (nI ol), .ref m12, .long hh])), (m1, .inl (cI, 22, .inl (fun zz => nI (P zz)))), (m5, .inl (cL, 72, .inr (.inl (fun zz => lN (u.2.1 zz))))), (m6, .inl (cL, 40, .inr (.inl (fun zz => lN (u.2.2.1 zz))))), (m7, .inl (cL, 1152, .inr (.inl (fun zz => lN (u.2.2.2.1 zz))))), (m8, .inl (cL, 1152, .inr (.inl (fun zz => lN (u.2.2.2.2 zz)))))])) (v := (-1)) Y hr hlocks hK hP hD hS [0, 1, 2, 3, 4, 5] (by decide) (kn, ww, rv, sy, gz) rfl ⟨(if_neg (fun q => c5 q.1.1)).symm, hKI⟩ dX6_choosesLevel_40
  · refine lv_iload_n hx hb dX6_choosesLevel_8 rfl (lv_at hl 2 rfl) ?_
    refine lv_iconst (v := nI 1) hx hb dX6_choosesLevel_9 (by decide) ?_
    refine lv_aload_n hx hb dX6_choosesLevel_10 rfl (lv_at hl 0 rfl) ?_
    refine kVi (As := []) (rest := [.int (nI 1), .int b]) Y m_X6_k (c_X6_k l dC dI cI cL m0 m1 m2 m3 m4 m5 m6 m7 m8 m9 m10 m11 m12 bm ty sp fa fp kn lf yo ol un hh dr P ) qm_X6_184 (kpV (ci := 6) hK hP hZ hS [0, 1] [0] rfl rfl 0 rfl rfl rfl) rfl hl.1 rfl (Nat.le_of_ble_eq_true rfl) dX6_choosesLevel_11 ⟨Nat.le_of_ble_eq_true rfl, Nat.le_of_ble_eq_true rfl⟩ ⟨Nat.zero_le _, Nat.zero_le _⟩ (fun r11 hr11 => ?_)
    obtain rfl : r11 = nI (P 1) := hr11
    refine kSi (As := [.int b, .int (nI 1), .int (nI (P 1))]) (rest := []) Y m_X6_in (c_X6_in l dC dI b (nI 1) (nI (P 1)) ) qm_X6_69 (kpS hK hP hZ hS [] [] rfl rfl) rfl hl.1 rfl (Nat.le_of_ble_eq_true rfl) dX6_choosesLevel_14 ⟨Nat.le_of_ble_eq_true rfl, Nat.le_of_ble_eq_true rfl⟩ ⟨Nat.zero_le _, Nat.zero_le _⟩ (fun r14 hr14 => ?_)
    obtain rfl : r14 = b2i ((nI 1) ≤ b ∧ b ≤ (nI (P 1))) := hr14
    refine ri_beq (tgt := 39) hx hb dX6_choosesLevel_17 (by decide) (fun c17 => ?_) (fun c17 => ?_)
    · refine lv_iconst (v := -1) hx hb dX6_choosesLevel_39 (by decide) ?_
      exact kqi (w1 := (fun u : Nat × (Nat → Nat) × (Nat → Nat) × (Nat → Nat) × (Nat → Nat) => [(m0, .inr (6, [.ref m1, .ref m2, .int (nI bm), .long un, .ref m3, .int (nI ty), .ref m4, .int (nI sp), .int (nI fa), .int (nI fp), .int (nI u.1), .ref m5, .ref m6, .ref m7, .ref m8, .ref m9, .int dr, .ref m10, .ref m11, .int (nI lf), .int (nI yo), .int (nI ol), .ref m12, .long hh])), (m1, .inl (cI, 22, .inl (fun zz => nI (P zz)))), (m5, .inl (cL, 72, .inr (.inl (fun zz => lN (u.2.1 zz))))), (m6, .inl (cL, 40, .inr (.inl (fun zz => lN (u.2.2.1 zz))))), (m7, .inl (cL, 1152, .inr (.inl (fun zz => lN (u.2.2.2.1 zz))))), (m8, .inl (cL, 1152, .inr (.inl (fun zz => lN (u.2.2.2.2 zz)))))])) (v := (-1)) Y hr hlocks hK hP hD hS [0, 1, 2, 3, 4, 5] (by decide) (kn, ww, rv, sy, gz) rfl ⟨(if_neg (fun q => c17 q.1.2)).symm, hKI⟩ dX6_choosesLevel_40
    · refine lv_iload_n hx hb dX6_choosesLevel_20 rfl (lv_at hl 3 rfl) ?_
      refine lv_iconst (v := nI 0) hx hb dX6_choosesLevel_21 (by decide) ?_
      refine lv_iconst (v := nI 5) hx hb dX6_choosesLevel_22 (by decide) ?_
      refine kSi (As := [.int v, .int (nI 0), .int (nI 5)]) (rest := []) Y m_X6_in (c_X6_in l dC dI v (nI 0) (nI 5) ) qm_X6_69 (kpS hK hP hZ hS [] [] rfl rfl) rfl hl.1 rfl (Nat.le_of_ble_eq_true rfl) dX6_choosesLevel_23 ⟨Nat.le_of_ble_eq_true rfl, Nat.le_of_ble_eq_true rfl⟩ ⟨Nat.zero_le _, Nat.zero_le _⟩ (fun r23 hr23 => ?_)
      obtain rfl : r23 = b2i ((nI 0) ≤ v ∧ v ≤ (nI 5)) := hr23
      refine ri_beq (tgt := 39) hx hb dX6_choosesLevel_26 (by decide) (fun c26 => ?_) (fun c26 => ?_)
      · refine lv_iconst (v := -1) hx hb dX6_choosesLevel_39 (by decide) ?_
        exact kqi (w1 := (fun u : Nat × (Nat → Nat) × (Nat → Nat) × (Nat → Nat) × (Nat → Nat) => [(m0, .inr (6, [.ref m1, .ref m2, .int (nI bm), .long un, .ref m3, .int (nI ty), .ref m4, .int (nI sp), .int (nI fa), .int (nI fp), .int (nI u.1), .ref m5, .ref m6, .ref m7, .ref m8, .ref m9, .int dr, .ref m10, .ref m11, .int (nI lf), .int (nI yo), .int (nI ol), .ref m12, .long hh])), (m1, .inl (cI, 22, .inl (fun zz => nI (P zz)))), (m5, .inl (cL, 72, .inr (.inl (fun zz => lN (u.2.1 zz))))), (m6, .inl (cL, 40, .inr (.inl (fun zz => lN (u.2.2.1 zz))))), (m7, .inl (cL, 1152, .inr (.inl (fun zz => lN (u.2.2.2.1 zz))))), (m8, .inl (cL, 1152, .inr (.inl (fun zz => lN (u.2.2.2.2 zz)))))])) (v := (-1)) Y hr hlocks hK hP hD hS [0, 1, 2, 3, 4, 5] (by decide) (kn, ww, rv, sy, gz) rfl ⟨(if_neg (fun q => c26 q.2.1)).symm, hKI⟩ dX6_choosesLevel_40
      · refine lv_iload hx hb dX6_choosesLevel_29 (lv_at hl 4 rfl) ?_
        refine lv_iconst (v := nI 0) hx hb dX6_choosesLevel_31 (by decide) ?_
        refine lv_iconst (v := nI 4) hx hb dX6_choosesLevel_32 (by decide) ?_
        refine kSi (As := [.int w, .int (nI 0), .int (nI 4)]) (rest := []) Y m_X6_in (c_X6_in l dC dI w (nI 0) (nI 4) ) qm_X6_69 (kpS hK hP hZ hS [] [] rfl rfl) rfl hl.1 rfl (Nat.le_of_ble_eq_true rfl) dX6_choosesLevel_33 ⟨Nat.le_of_ble_eq_true rfl, Nat.le_of_ble_eq_true rfl⟩ ⟨Nat.zero_le _, Nat.zero_le _⟩ (fun r33 hr33 => ?_)
        obtain rfl : r33 = b2i ((nI 0) ≤ w ∧ w ≤ (nI 4)) := hr33
        refine ri_bne (tgt := 41) hx hb dX6_choosesLevel_36 (by decide) (fun c36 => ?_) (fun c36 => ?_)
        · have c9 := And.intro (And.intro c5 c17) (And.intro c26 c36)
          obtain ⟨xa, rfl, hxa1, hxa2⟩ := in_n (by decide) (by omega) c9.1.1
          obtain ⟨xb, rfl, hxb1, hxb2⟩ := in_n (by decide) (by omega) c9.1.2
          obtain ⟨xv, rfl, hxv1, hxv2⟩ := in_n (by decide) (by decide) c9.2.1
          obtain ⟨xw, rfl, hxw1, hxw2⟩ := in_n (by decide) (by decide) c9.2.2
          refine lv_aload_n hx hb dX6_choosesLevel_41 rfl (lv_at hl 0 rfl) ?_
          refine kQv (As := []) (rest := []) (wr := []) Y m_X6_knows (c_X6_knows l dC dI _ cI cL m0 m1 m2 m3 m4 m5 m6 m7 m8 m9 m10 m11 m12 bm ty sp fa fp kn lf yo ol un hh dr P ww rv sy gz hPI hKI) qm_X6_178 hP hD hS hA [0, 1, 2, 3, 4, 5] [] rfl rfl (by decide) (by decide) (kqV (ci := 6) hK hP hD hZ hS hA [0, 1, 2, 3, 4, 5] [0, 1] rfl (by decide) rfl 0 rfl rfl rfl) rfl hl.1 rfl (Nat.le_of_ble_eq_true rfl) dX6_choosesLevel_42 ⟨Nat.le_of_ble_eq_true rfl, Nat.le_of_ble_eq_true rfl⟩ ⟨Nat.zero_le _, Nat.zero_le _⟩ (fun u42 H locs hr42 hP hD hS => ?_)
          obtain ⟨ww2_42, rv2_42, sy2_42, gz2_42⟩ := u42
          have hP : va_P (dC, dI) vwCl [(m0, .inr (6, [.ref m1, .ref m2, .int (nI bm), .long un, .ref m3, .int (nI ty), .ref m4, .int (nI sp), .int (nI fa), .int (nI fp), .int (nI 1), .ref m5, .ref m6, .ref m7, .ref m8, .ref m9, .int dr, .ref m10, .ref m11, .int (nI lf), .int (nI yo), .int (nI ol), .ref m12, .long hh])), (m1, .inl (cI, 22, .inl (fun zz => nI (P zz)))), (m5, .inl (cL, 72, .inr (.inl (fun zz => lN (ww2_42 zz))))), (m6, .inl (cL, 40, .inr (.inl (fun zz => lN (rv2_42 zz))))), (m7, .inl (cL, 1152, .inr (.inl (fun zz => lN (sy2_42 zz))))), (m8, .inl (cL, 1152, .inr (.inl (fun zz => lN (gz2_42 zz)))))] H := hP
          have hD : va_D A [(m0, .inr (6, [.ref m1, .ref m2, .int (nI bm), .long un, .ref m3, .int (nI ty), .ref m4, .int (nI sp), .int (nI fa), .int (nI fp), .int (nI 1), .ref m5, .ref m6, .ref m7, .ref m8, .ref m9, .int dr, .ref m10, .ref m11, .int (nI lf), .int (nI yo), .int (nI ol), .ref m12, .long hh])), (m1, .inl (cI, 22, .inl (fun zz => nI (P zz)))), (m5, .inl (cL, 72, .inr (.inl (fun zz => lN (ww2_42 zz))))), (m6, .inl (cL, 40, .inr (.inl (fun zz => lN (rv2_42 zz))))), (m7, .inl (cL, 1152, .inr (.inl (fun zz => lN (sy2_42 zz))))), (m8, .inl (cL, 1152, .inr (.inl (fun zz => lN (gz2_42 zz)))))] := hD
          have hr42 : MR P ww2_42 rv2_42 ∧ MZ P sy2_42 gz2_42 := hr42
          refine lv_aload_n hx hb dX6_choosesLevel_45 rfl (lv_at hl 0 rfl) ?_
          refine lv_iload_n hx hb dX6_choosesLevel_46 rfl (lv_at hl 1 rfl) ?_
          refine lv_iload_n hx hb dX6_choosesLevel_47 rfl (lv_at hl 2 rfl) ?_
          refine lv_iload_n hx hb dX6_choosesLevel_48 rfl (lv_at hl 3 rfl) ?_
          refine lv_iload hx hb dX6_choosesLevel_49 (lv_at hl 4 rfl) ?_
          refine kVi (As := [.int (nI xa), .int (nI xb), .int (nI xv), .int (nI xw)]) (rest := []) Y m_X6_isTaken (c_X6_isTaken l dC dI cI cL m0 m1 m2 m3 m4 m5 m6 m7 m8 m9 m10 m11 m12 bm ty sp fa fp 1 lf yo ol un hh dr P sy2_42 gz2_42 xa xb xv xw (by omega) (by omega) (by omega) (by omega) (by omega) (by omega) hPI hr42.2) qm_X6_206 (kpV (ci := 6) hK hP hZ hS [0, 1, 4, 5] [0, 1] rfl rfl 0 rfl rfl rfl) rfl hl.1 rfl (Nat.le_of_ble_eq_true rfl) dX6_choosesLevel_51 ⟨Nat.le_of_ble_eq_true rfl, Nat.le_of_ble_eq_true rfl⟩ ⟨Nat.zero_le _, Nat.zero_le _⟩ (fun r51 hr51 => ?_)
          obtain rfl : r51 = b2i (tkP P (P 0 - xa) xb xv xw) := hr51
          refine ri_beq (tgt := 61) hx hb dX6_choosesLevel_54 (by decide) (fun c54 => ?_) (fun c54 => ?_)
          · refine lv_iconst (v := nI 0) hx hb dX6_choosesLevel_61 (by decide) ?_
            exact kqi (w1 := (fun u : Nat × (Nat → Nat) × (Nat → Nat) × (Nat → Nat) × (Nat → Nat) => [(m0, .inr (6, [.ref m1, .ref m2, .int (nI bm), .long un, .ref m3, .int (nI ty), .ref m4, .int (nI sp), .int (nI fa), .int (nI fp), .int (nI u.1), .ref m5, .ref m6, .ref m7, .ref m8, .ref m9, .int dr, .ref m10, .ref m11, .int (nI lf), .int (nI yo), .int (nI ol), .ref m12, .long hh])), (m1, .inl (cI, 22, .inl (fun zz => nI (P zz)))), (m5, .inl (cL, 72, .inr (.inl (fun zz => lN (u.2.1 zz))))), (m6, .inl (cL, 40, .inr (.inl (fun zz => lN (u.2.2.1 zz))))), (m7, .inl (cL, 1152, .inr (.inl (fun zz => lN (u.2.2.2.1 zz))))), (m8, .inl (cL, 1152, .inr (.inl (fun zz => lN (u.2.2.2.2 zz)))))])) (v := nI 0) Y hr hlocks hK hP hD hS [0, 1, 2, 3, 4, 5] (by decide) (1, ww2_42, rv2_42, sy2_42, gz2_42) rfl ⟨by unfold clO; rw [if_pos c9, nO_n (n := xa) (by omega), nO_n (n := xb) (by omega), nO_n (n := xv) (by omega), nO_n (n := xw) (by omega)]; exact (b2i_f c54).symm, KI_1 hr42.1 hr42.2⟩ dX6_choosesLevel_62
          · refine lv_iconst (v := nI 1) hx hb dX6_choosesLevel_57 (by decide) ?_
            refine lv_goto (tgt := 62) hx hb dX6_choosesLevel_58 (by decide) ?_
            exact kqi (w1 := (fun u : Nat × (Nat → Nat) × (Nat → Nat) × (Nat → Nat) × (Nat → Nat) => [(m0, .inr (6, [.ref m1, .ref m2, .int (nI bm), .long un, .ref m3, .int (nI ty), .ref m4, .int (nI sp), .int (nI fa), .int (nI fp), .int (nI u.1), .ref m5, .ref m6, .ref m7, .ref m8, .ref m9, .int dr, .ref m10, .ref m11, .int (nI lf), .int (nI yo), .int (nI ol), .ref m12, .long hh])), (m1, .inl (cI, 22, .inl (fun zz => nI (P zz)))), (m5, .inl (cL, 72, .inr (.inl (fun zz => lN (u.2.1 zz))))), (m6, .inl (cL, 40, .inr (.inl (fun zz => lN (u.2.2.1 zz))))), (m7, .inl (cL, 1152, .inr (.inl (fun zz => lN (u.2.2.2.1 zz))))), (m8, .inl (cL, 1152, .inr (.inl (fun zz => lN (u.2.2.2.2 zz)))))])) (v := nI 1) Y hr hlocks hK hP hD hS [0, 1, 2, 3, 4, 5] (by decide) (1, ww2_42, rv2_42, sy2_42, gz2_42) rfl ⟨by unfold clO; rw [if_pos c9, nO_n (n := xa) (by omega), nO_n (n := xb) (by omega), nO_n (n := xv) (by omega), nO_n (n := xw) (by omega)]; exact (b2i_t c54).symm, KI_1 hr42.1 hr42.2⟩ dX6_choosesLevel_62
        · refine lv_iconst (v := -1) hx hb dX6_choosesLevel_39 (by decide) ?_
          exact kqi (w1 := (fun u : Nat × (Nat → Nat) × (Nat → Nat) × (Nat → Nat) × (Nat → Nat) => [(m0, .inr (6, [.ref m1, .ref m2, .int (nI bm), .long un, .ref m3, .int (nI ty), .ref m4, .int (nI sp), .int (nI fa), .int (nI fp), .int (nI u.1), .ref m5, .ref m6, .ref m7, .ref m8, .ref m9, .int dr, .ref m10, .ref m11, .int (nI lf), .int (nI yo), .int (nI ol), .ref m12, .long hh])), (m1, .inl (cI, 22, .inl (fun zz => nI (P zz)))), (m5, .inl (cL, 72, .inr (.inl (fun zz => lN (u.2.1 zz))))), (m6, .inl (cL, 40, .inr (.inl (fun zz => lN (u.2.2.1 zz))))), (m7, .inl (cL, 1152, .inr (.inl (fun zz => lN (u.2.2.2.1 zz))))), (m8, .inl (cL, 1152, .inr (.inl (fun zz => lN (u.2.2.2.2 zz)))))])) (v := (-1)) Y hr hlocks hK hP hD hS [0, 1, 2, 3, 4, 5] (by decide) (kn, ww, rv, sy, gz) rfl ⟨(if_neg (fun q => c36 q.2.2)).symm, hKI⟩ dX6_choosesLevel_40
