set_option maxHeartbeats 4000000 in
set_option maxRecDepth 100000 in
theorem c_X5_bestSkip (l : Launch) (dC : Nat → ClassId) (dI : Nat → Nat → Nat) (sz : Nat) (cI cL : ClassId) (x0 pa t0 y0 r0 a0 b0 s0 : Nat) (fa : Nat) (un : Int64) (q1 q2 q3 : Nat) (wz bz fz : Nat → Int64) (sv n : Nat) (co : Int64) (P : Nat → Nat) (hPI : PI P) (hRI : RI P sv wz bz n co) : Met l yX5_bestSkip (kw yX5_bestSkip cX5_bestSkip 7 (some .int)) (kR 3 75) (kPq (dC, dI) [.ref x0] sz [(x0, .inr (5, [.ref pa, .ref t0, .ref y0, .ref r0, .ref a0, .ref b0, .ref s0, .int (nI fa), .long un])), (pa, .inl (cI, 22, .inl (fun zz => nI (P zz)))), (r0, .inr (1, [.ref q1, .ref q2, .ref q3, .int (nI sv), .int (nI n), .long co])), (q1, .inl (cL, 49, .inr (.inl wz))), (q2, .inl (cL, 32, .inr (.inl bz))), (q3, .inl (cL, 32, .inr (.inl fz)))] [(cI, .int), (cL, .long)]) (va_Qi (fun (res : Int32) (u : Nat × Nat × Int64 × (Nat → Int64) × (Nat → Int64) × (Nat → Int64)) => res = nI (argG (fun z => SK P z (P 0) (P 1)) (P 0)) ∧ RI P u.1 u.2.2.2.1 u.2.2.2.2.1 u.2.1 u.2.2.1) (fun u : Nat × Nat × Int64 × (Nat → Int64) × (Nat → Int64) × (Nat → Int64) => kB (dC, dI) [(cI, .int), (cL, .long)] (va_A [(x0, .inr (5, [.ref pa, .ref t0, .ref y0, .ref r0, .ref a0, .ref b0, .ref s0, .int (nI fa), .long un])), (pa, .inl (cI, 22, .inl (fun zz => nI (P zz)))), (r0, .inr (1, [.ref q1, .ref q2, .ref q3, .int (nI sv), .int (nI n), .long co])), (q1, .inl (cL, 49, .inr (.inl wz))), (q2, .inl (cL, 32, .inr (.inl bz))), (q3, .inl (cL, 32, .inr (.inl fz)))] sz) ([(x0, .inr (5, [.ref pa, .ref t0, .ref y0, .ref r0, .ref a0, .ref b0, .ref s0, .int (nI fa), .long un])), (pa, .inl (cI, 22, .inl (fun zz => nI (P zz)))), (r0, .inr (1, [.ref q1, .ref q2, .ref q3, .int (nI u.1), .int (nI u.2.1), .long u.2.2.1])), (q1, .inl (cL, 49, .inr (.inl u.2.2.2.1))), (q2, .inl (cL, 32, .inr (.inl u.2.2.2.2.1))), (q3, .inl (cL, 32, .inr (.inl u.2.2.2.2.2)))])) (va_A [(x0, .inr (5, [.ref pa, .ref t0, .ref y0, .ref r0, .ref a0, .ref b0, .ref s0, .int (nI fa), .long un])), (pa, .inl (cI, 22, .inl (fun zz => nI (P zz)))), (r0, .inr (1, [.ref q1, .ref q2, .ref q3, .int (nI sv), .int (nI n), .long co])), (q1, .inl (cL, 49, .inr (.inl wz))), (q2, .inl (cL, 32, .inr (.inl bz))), (q3, .inl (cL, 32, .inr (.inl fz)))] sz)) 0 0 (va_A [(x0, .inr (5, [.ref pa, .ref t0, .ref y0, .ref r0, .ref a0, .ref b0, .ref s0, .int (nI fa), .long un])), (pa, .inl (cI, 22, .inl (fun zz => nI (P zz)))), (r0, .inr (1, [.ref q1, .ref q2, .ref q3, .int (nI sv), .int (nI n), .long co])), (q1, .inl (cL, 49, .inr (.inl wz))), (q2, .inl (cL, 32, .inr (.inl bz))), (q3, .inl (cL, 32, .inr (.inl fz)))] sz) := by
  refine kmet (by decide) ?_
  intro p e s m args below meth c Y hr hlocks hin hv
  obtain ⟨rfl, A, hAe, hsz, hP, hK, hD, hZ, hA⟩ := kinQ hv
  rw [hAe]
  have hS : va_S A s.heap s.heap [] := va_S.rf
  have hx := Y.1
  have hb := Y.2.1
  have hml := Y.2.2.1
  have hown := Y.2.2.2.1
  have hts := Y.2.2.2.2
  have hl := lv_entry ([.ref x0]) (n := 7) (Nat.le_of_ble_eq_true rfl)
  rw [lg_entry_eq]
  generalize (lg_sl ([.ref x0]) ++ List.replicate (7 - (lg_sl ([.ref x0])).length) Slot.unset).toArray = ls at hl ⊢
  have hl : lv_has ls 7 [(0, .ref x0)] := hl
  have hp0 := hPI.1
  have hp1 := hPI.2.1
  have hp2 := hPI.2.2.1
  refine lv_aload_n hx hb dX5_bestSkip_0 rfl (lv_at hl 0 rfl) ?_
  refine va_get (D := (dC, dI)) (ci := 5) (v := .ref r0) (C := RX5) (T := TX5) (N := 9) hx hb hts inlX5 hown hK hP 0 rfl rfl 3 (by decide) (hts _ qf_X5_39) (fun _ h9 => h9) rfl dX5_bestSkip_1 ?_
  refine lv_aload_n hx hb dX5_bestSkip_4 rfl (lv_at hl 0 rfl) ?_
  refine va_get (D := (dC, dI)) (ci := 5) (v := .ref pa) (C := RX5) (T := TX5) (N := 9) hx hb hts inlX5 hown hK hP 0 rfl rfl 0 (by decide) (hts _ qf_X5_9) (fun _ h9 => h9) rfl dX5_bestSkip_5 ?_
  refine kQv (As := [.ref pa]) (rest := []) (wr := [(x0, .inr (5, [.ref pa, .ref t0, .ref y0, .ref r0, .ref a0, .ref b0, .ref s0, .int (nI fa), .long un]))]) Y m_X1_solve (c_X1_solve l dC dI _ cL cI r0 q1 q2 q3 pa wz bz fz P sv n co hPI hRI) qm_X5_114 hP hD hS hA [2, 3, 4, 5, 1] [0] rfl rfl (by decide) (by decide) (kqV (ci := 1) hK hP hD hZ hS hA [2, 3, 4, 5, 1] [1, 0] rfl (by decide) rfl 0 rfl rfl rfl) rfl hl.1 rfl (Nat.le_of_ble_eq_true rfl) dX5_bestSkip_8 ⟨Nat.le_of_ble_eq_true rfl, Nat.le_of_ble_eq_true rfl⟩ ⟨Nat.zero_le _, Nat.zero_le _⟩ (fun u8 H locs hr8 hP hD hS => ?_)
  obtain ⟨w2_8, b2_8, n2_8, co2_8⟩ := u8
  have hP : va_P (dC, dI) vwCl [(x0, .inr (5, [.ref pa, .ref t0, .ref y0, .ref r0, .ref a0, .ref b0, .ref s0, .int (nI fa), .long un])), (r0, .inr (1, [.ref q1, .ref q2, .ref q3, .int (nI 1), .int (nI n2_8), .long co2_8])), (q1, .inl (cL, 49, .inr (.inl w2_8))), (q2, .inl (cL, 32, .inr (.inl b2_8))), (q3, .inl (cL, 32, .inr (.inl fz))), (pa, .inl (cI, 22, .inl (fun zz => nI (P zz))))] H := hP
  have hD : va_D A [(x0, .inr (5, [.ref pa, .ref t0, .ref y0, .ref r0, .ref a0, .ref b0, .ref s0, .int (nI fa), .long un])), (r0, .inr (1, [.ref q1, .ref q2, .ref q3, .int (nI 1), .int (nI n2_8), .long co2_8])), (q1, .inl (cL, 49, .inr (.inl w2_8))), (q2, .inl (cL, 32, .inr (.inl b2_8))), (q3, .inl (cL, 32, .inr (.inl fz))), (pa, .inl (cI, 22, .inl (fun zz => nI (P zz))))] := hD
  have hr8 : RS P w2_8 b2_8 n2_8 co2_8 := hr8
  refine lv_iconst (v := nI 0) hx hb dX5_bestSkip_11 (by decide) ?_
  refine lv_istore_n (lv' := [(1, .int (nI 0)), (0, .ref x0)]) hx hb dX5_bestSkip_12 rfl hl (by decide) rfl (fun ls hl => ?_)
  refine lv_aload_n hx hb dX5_bestSkip_13 rfl (lv_at hl 1 rfl) ?_
  refine va_get (D := (dC, dI)) (ci := 5) (v := .ref r0) (C := RX5) (T := TX5) (N := 9) hx hb hts inlX5 hown hK hP 0 rfl rfl 3 (by decide) (hts _ qf_X5_39) (fun _ h9 => h9) rfl dX5_bestSkip_14 ?_
  refine lv_iconst (v := nI 0) hx hb dX5_bestSkip_17 (by decide) ?_
  refine lv_aload_n hx hb dX5_bestSkip_18 rfl (lv_at hl 1 rfl) ?_
  refine kVi (As := []) (rest := [.int (nI 0), .ref r0]) Y m_X5_choices (c_X5_choices l dC dI cI cL x0 pa t0 y0 r0 a0 b0 s0 fa un P ) qm_X5_143 (kpV (ci := 5) hK hP hZ hS [0, 5] [0] rfl rfl 0 rfl rfl rfl) rfl hl.1 rfl (Nat.le_of_ble_eq_true rfl) dX5_bestSkip_19 ⟨Nat.le_of_ble_eq_true rfl, Nat.le_of_ble_eq_true rfl⟩ ⟨Nat.zero_le _, Nat.zero_le _⟩ (fun r19 hr19 => ?_)
  obtain rfl : r19 = nI (P 1) := hr19
  refine kQl (As := [.int (nI 0), .int (nI (P 1))]) (rest := []) (wr := [(x0, .inr (5, [.ref pa, .ref t0, .ref y0, .ref r0, .ref a0, .ref b0, .ref s0, .int (nI fa), .long un])), (pa, .inl (cI, 22, .inl (fun zz => nI (P zz))))]) Y m_X1_valueOfSkipping (c_X1_valueOfSkipping l dC dI H.size cL r0 q1 q2 q3 w2_8 b2_8 fz 1 n2_8 co2_8 P 0 (P 1) (by omega) (by omega) (by omega) hPI hr8) qm_X5_152 hP hD hS hA [1, 2, 3, 4] [0, 5] rfl rfl (by decide) (by decide) (kqV (ci := 1) hK hP hD hZ hS hA [1, 2, 3, 4] [1] rfl (by decide) rfl 0 rfl rfl rfl) rfl hl.1 rfl (Nat.le_of_ble_eq_true rfl) dX5_bestSkip_22 ⟨Nat.le_of_ble_eq_true rfl, Nat.le_of_ble_eq_true rfl⟩ ⟨Nat.zero_le _, Nat.zero_le _⟩ (fun r22 u22 H locs hr22 hP hD hS => ?_)
  obtain ⟨f2_22, rfl⟩ : ∃ z, z = u22 := ⟨_, rfl⟩
  have hP : va_P (dC, dI) vwCl [(x0, .inr (5, [.ref pa, .ref t0, .ref y0, .ref r0, .ref a0, .ref b0, .ref s0, .int (nI fa), .long un])), (pa, .inl (cI, 22, .inl (fun zz => nI (P zz)))), (r0, .inr (1, [.ref q1, .ref q2, .ref q3, .int (nI 1), .int (nI n2_8), .long co2_8])), (q1, .inl (cL, 49, .inr (.inl w2_8))), (q2, .inl (cL, 32, .inr (.inl b2_8))), (q3, .inl (cL, 32, .inr (.inl f2_22)))] H := hP
  have hD : va_D A [(x0, .inr (5, [.ref pa, .ref t0, .ref y0, .ref r0, .ref a0, .ref b0, .ref s0, .int (nI fa), .long un])), (pa, .inl (cI, 22, .inl (fun zz => nI (P zz)))), (r0, .inr (1, [.ref q1, .ref q2, .ref q3, .int (nI 1), .int (nI n2_8), .long co2_8])), (q1, .inl (cL, 49, .inr (.inl w2_8))), (q2, .inl (cL, 32, .inr (.inl b2_8))), (q3, .inl (cL, 32, .inr (.inl f2_22)))] := hD
  obtain rfl : r22 = iN (420 * SK P 0 (P 0) (P 1)) := hr22
  refine lv_lstore_n (lv' := [(2, .long (iN (420 * SK P 0 (P 0) (P 1)))), (1, .int (nI 0)), (0, .ref x0)]) hx hb dX5_bestSkip_25 rfl hl (by decide) rfl (fun ls hl => ?_)
  refine lv_iconst (v := nI 1) hx hb dX5_bestSkip_26 (by decide) ?_
  refine lv_istore (lv' := [(4, .int (nI 1)), (2, .long (iN (420 * SK P 0 (P 0) (P 1)))), (1, .int (nI 0)), (0, .ref x0)]) hx hb dX5_bestSkip_27 hl (by decide) rfl (fun ls hl => ?_)
  refine wl3 (fun (s9 : Nat) (bb : Nat) (f9 : Nat → Int64) => P 0 + 1 - s9) (fun (s9 : Nat) (bb : Nat) (f9 : Nat → Int64) (ls : Array Slot) (H : Heap) (locs : List Loc) => lv_has ls 7 [(0, .ref x0), (1, .int (nI bb)), (2, .long (iN (420 * SK P bb (P 0) (P 1)))), (4, .int (nI s9))] ∧ va_P (dC, dI) vwCl [(x0, .inr (5, [.ref pa, .ref t0, .ref y0, .ref r0, .ref a0, .ref b0, .ref s0, .int (nI fa), .long un])), (pa, .inl (cI, 22, .inl (fun zz => nI (P zz)))), (r0, .inr (1, [.ref q1, .ref q2, .ref q3, .int (nI 1), .int (nI n2_8), .long co2_8])), (q1, .inl (cL, 49, .inr (.inl w2_8))), (q2, .inl (cL, 32, .inr (.inl b2_8))), (q3, .inl (cL, 32, .inr (.inl f9)))] H ∧ va_D A [(x0, .inr (5, [.ref pa, .ref t0, .ref y0, .ref r0, .ref a0, .ref b0, .ref s0, .int (nI fa), .long un])), (pa, .inl (cI, 22, .inl (fun zz => nI (P zz)))), (r0, .inr (1, [.ref q1, .ref q2, .ref q3, .int (nI 1), .int (nI n2_8), .long co2_8])), (q1, .inl (cL, 49, .inr (.inl w2_8))), (q2, .inl (cL, 32, .inr (.inl b2_8))), (q3, .inl (cL, 32, .inr (.inl f9)))] ∧ va_S A s.heap H locs ∧ (1 ≤ s9 ∧ s9 ≤ P 0 + 1 ∧ bb = argG (fun z => SK P z (P 0) (P 1)) (s9 - 1))) 1 0 f2_22 (by exact ⟨lv_sub hl [3, 2, 1, 0] rfl, hP.sub [0, 1, 2, 3, 4, 5] rfl, hD.sub [0, 1, 2, 3, 4, 5] (by decide) rfl, hS, by omega, by omega, rfl⟩) (fun s9 bb f9 ls H locs hI ih => ?_)
  obtain ⟨hl, hP, hD, hS, hs1, hs2, hbb⟩ := hI
  have ih29 := ih
  refine lv_iload hx hb dX5_bestSkip_29 (lv_at hl 3 rfl) ?_
  refine lv_aload_n hx hb dX5_bestSkip_31 rfl (lv_at hl 0 rfl) ?_
  refine kVi (As := []) (rest := [.int (nI s9)]) Y m_X5_candidates (c_X5_candidates l dC dI cI cL x0 pa t0 y0 r0 a0 b0 s0 fa un P ) qm_X5_149 (kpV (ci := 5) hK hP hZ hS [0, 1] [0] rfl rfl 0 rfl rfl rfl) rfl hl.1 rfl (Nat.le_of_ble_eq_true rfl) dX5_bestSkip_32 ⟨Nat.le_of_ble_eq_true rfl, Nat.le_of_ble_eq_true rfl⟩ ⟨Nat.zero_le _, Nat.zero_le _⟩ (fun r32 hr32 => ?_)
  obtain rfl : r32 = nI (P 0) := hr32
  refine ri_cgt (tgt := 72) hx hb dX5_bestSkip_35 (by decide) (by omega) (by omega) (fun c35 => ?_) (fun c35 => ?_)
  · refine lv_iload_n hx hb dX5_bestSkip_72 rfl (lv_at hl 1 rfl) ?_
    exact kqi (w1 := (fun u : Nat × Nat × Int64 × (Nat → Int64) × (Nat → Int64) × (Nat → Int64) => [(x0, .inr (5, [.ref pa, .ref t0, .ref y0, .ref r0, .ref a0, .ref b0, .ref s0, .int (nI fa), .long un])), (pa, .inl (cI, 22, .inl (fun zz => nI (P zz)))), (r0, .inr (1, [.ref q1, .ref q2, .ref q3, .int (nI u.1), .int (nI u.2.1), .long u.2.2.1])), (q1, .inl (cL, 49, .inr (.inl u.2.2.2.1))), (q2, .inl (cL, 32, .inr (.inl u.2.2.2.2.1))), (q3, .inl (cL, 32, .inr (.inl u.2.2.2.2.2)))])) (v := nI bb) Y hr hlocks hK hP hD hS [0, 1, 2, 3, 4, 5] (by decide) (1, n2_8, co2_8, w2_8, b2_8, f9) rfl ⟨congrArg nI (by rw [hbb, show s9 - 1 = P 0 by omega]), RI_1 hr8⟩ dX5_bestSkip_73
  · have hsa := SK_bb hPI s9
    have hsb := SK_bb hPI bb
    refine lv_aload_n hx hb dX5_bestSkip_38 rfl (lv_at hl 0 rfl) ?_
    refine va_get (D := (dC, dI)) (ci := 5) (v := .ref r0) (C := RX5) (T := TX5) (N := 9) hx hb hts inlX5 hown hK hP 0 rfl rfl 3 (by decide) (hts _ qf_X5_39) (fun _ h9 => h9) rfl dX5_bestSkip_39 ?_
    refine lv_iload hx hb dX5_bestSkip_42 (lv_at hl 3 rfl) ?_
    refine lv_aload_n hx hb dX5_bestSkip_44 rfl (lv_at hl 0 rfl) ?_
    refine kVi (As := []) (rest := [.int (nI s9), .ref r0]) Y m_X5_choices (c_X5_choices l dC dI cI cL x0 pa t0 y0 r0 a0 b0 s0 fa un P ) qm_X5_143 (kpV (ci := 5) hK hP hZ hS [0, 1] [0] rfl rfl 0 rfl rfl rfl) rfl hl.1 rfl (Nat.le_of_ble_eq_true rfl) dX5_bestSkip_45 ⟨Nat.le_of_ble_eq_true rfl, Nat.le_of_ble_eq_true rfl⟩ ⟨Nat.zero_le _, Nat.zero_le _⟩ (fun r45 hr45 => ?_)
    obtain rfl : r45 = nI (P 1) := hr45
    refine kQl (As := [.int (nI s9), .int (nI (P 1))]) (rest := []) (wr := [(x0, .inr (5, [.ref pa, .ref t0, .ref y0, .ref r0, .ref a0, .ref b0, .ref s0, .int (nI fa), .long un])), (pa, .inl (cI, 22, .inl (fun zz => nI (P zz))))]) Y m_X1_valueOfSkipping (c_X1_valueOfSkipping l dC dI H.size cL r0 q1 q2 q3 w2_8 b2_8 f9 1 n2_8 co2_8 P s9 (P 1) (by omega) (by omega) (by omega) hPI hr8) qm_X5_152 hP hD hS hA [2, 3, 4, 5] [0, 1] rfl rfl (by decide) (by decide) (kqV (ci := 1) hK hP hD hZ hS hA [2, 3, 4, 5] [1] rfl (by decide) rfl 0 rfl rfl rfl) rfl hl.1 rfl (Nat.le_of_ble_eq_true rfl) dX5_bestSkip_48 ⟨Nat.le_of_ble_eq_true rfl, Nat.le_of_ble_eq_true rfl⟩ ⟨Nat.zero_le _, Nat.zero_le _⟩ (fun r48 u48 H locs hr48 hP hD hS => ?_)
    obtain ⟨f2_48, rfl⟩ : ∃ z, z = u48 := ⟨_, rfl⟩
    have hP : va_P (dC, dI) vwCl [(x0, .inr (5, [.ref pa, .ref t0, .ref y0, .ref r0, .ref a0, .ref b0, .ref s0, .int (nI fa), .long un])), (pa, .inl (cI, 22, .inl (fun zz => nI (P zz)))), (r0, .inr (1, [.ref q1, .ref q2, .ref q3, .int (nI 1), .int (nI n2_8), .long co2_8])), (q1, .inl (cL, 49, .inr (.inl w2_8))), (q2, .inl (cL, 32, .inr (.inl b2_8))), (q3, .inl (cL, 32, .inr (.inl f2_48)))] H := hP
    have hD : va_D A [(x0, .inr (5, [.ref pa, .ref t0, .ref y0, .ref r0, .ref a0, .ref b0, .ref s0, .int (nI fa), .long un])), (pa, .inl (cI, 22, .inl (fun zz => nI (P zz)))), (r0, .inr (1, [.ref q1, .ref q2, .ref q3, .int (nI 1), .int (nI n2_8), .long co2_8])), (q1, .inl (cL, 49, .inr (.inl w2_8))), (q2, .inl (cL, 32, .inr (.inl b2_8))), (q3, .inl (cL, 32, .inr (.inl f2_48)))] := hD
    obtain rfl : r48 = iN (420 * SK P s9 (P 0) (P 1)) := hr48
    refine lv_lstore (lv' := [(5, .long (iN (420 * SK P s9 (P 0) (P 1)))), (0, .ref x0), (1, .int (nI bb)), (2, .long (iN (420 * SK P bb (P 0) (P 1)))), (4, .int (nI s9))]) hx hb dX5_bestSkip_51 hl (by decide) rfl (fun ls hl => ?_)
    refine lv_lload hx hb dX5_bestSkip_53 (lv_at hl 0 rfl) ?_
    refine lv_lload_n hx hb dX5_bestSkip_55 rfl (lv_at hl 3 rfl) ?_
    refine rl_le (tgt := 66) hx hb dX5_bestSkip_56 dX5_bestSkip_57 (by decide) (fun c56 => ?_) (fun c56 => ?_)
    · refine lv_iinc (v := nI (s9 + 1)) (lv' := [(4, .int (nI (s9 + 1))), (5, .long (iN (420 * SK P s9 (P 0) (P 1)))), (0, .ref x0), (1, .int (nI bb)), (2, .long (iN (420 * SK P bb (P 0) (P 1))))]) hx hb dX5_bestSkip_66 hl (k := 4) rfl (inc1 _) (by decide) rfl (fun ls hl => ?_)
      refine lv_goto (tgt := 29) hx hb dX5_bestSkip_69 (by decide) ?_
      exact ih29 (s9 + 1) bb f2_48 _ _ _ (by show _ < _; omega) (by exact ⟨lv_sub hl [2, 3, 4, 0] rfl, hP.sub [0, 1, 2, 3, 4, 5] rfl, hD.sub [0, 1, 2, 3, 4, 5] (by decide) rfl, hS, by omega, by omega, argG_F (f := (fun z => SK P z (P 0) (P 1))) (bb := bb) hs1 hbb (Int.not_lt.mpr ((sk_le (by omega) (by omega)).mp c56))⟩)
    · refine lv_lload hx hb dX5_bestSkip_60 (lv_at hl 0 rfl) ?_
      refine lv_lstore_n (lv' := [(2, .long (iN (420 * SK P s9 (P 0) (P 1)))), (5, .long (iN (420 * SK P s9 (P 0) (P 1)))), (0, .ref x0), (1, .int (nI bb)), (4, .int (nI s9))]) hx hb dX5_bestSkip_62 rfl hl (by decide) rfl (fun ls hl => ?_)
      refine lv_iload hx hb dX5_bestSkip_63 (lv_at hl 4 rfl) ?_
      refine lv_istore_n (lv' := [(1, .int (nI s9)), (2, .long (iN (420 * SK P s9 (P 0) (P 1)))), (5, .long (iN (420 * SK P s9 (P 0) (P 1)))), (0, .ref x0), (4, .int (nI s9))]) hx hb dX5_bestSkip_65 rfl hl (by decide) rfl (fun ls hl => ?_)
      refine lv_iinc (v := nI (s9 + 1)) (lv' := [(4, .int (nI (s9 + 1))), (1, .int (nI s9)), (2, .long (iN (420 * SK P s9 (P 0) (P 1)))), (5, .long (iN (420 * SK P s9 (P 0) (P 1)))), (0, .ref x0)]) hx hb dX5_bestSkip_66 hl (k := 4) rfl (inc1 _) (by decide) rfl (fun ls hl => ?_)
      refine lv_goto (tgt := 29) hx hb dX5_bestSkip_69 (by decide) ?_
      exact ih29 (s9 + 1) s9 f2_48 _ _ _ (by show _ < _; omega) (by exact ⟨lv_sub hl [4, 1, 2, 0] rfl, hP.sub [0, 1, 2, 3, 4, 5] rfl, hD.sub [0, 1, 2, 3, 4, 5] (by decide) rfl, hS, by omega, by omega, argG_T (f := (fun z => SK P z (P 0) (P 1))) (bb := bb) hs1 hbb (Int.not_le.mp (fun q => c56 ((sk_le (by omega) (by omega)).mpr q)))⟩)
set_option maxHeartbeats 4000000 in
set_option maxRecDepth 100000 in
theorem c_X5_countQuits (l : Launch) (dC : Nat → ClassId) (dI : Nat → Nat → Nat) (sz : Nat) (cI cL : ClassId) (x0 pa t0 y0 r0 a0 b0 s0 : Nat) (fa : Nat) (un : Int64) (q1 q2 q3 : Nat) (wz bz fz : Nat → Int64) (sv n : Nat) (co : Int64) (P : Nat → Nat) (hPI : PI P) (hRI : RI P sv wz bz n co) : Met l yX5_countQuits (kw yX5_countQuits cX5_countQuits 4 (some .int)) (kR 3 75) (kPq (dC, dI) [.ref x0] sz [(x0, .inr (5, [.ref pa, .ref t0, .ref y0, .ref r0, .ref a0, .ref b0, .ref s0, .int (nI fa), .long un])), (pa, .inl (cI, 22, .inl (fun zz => nI (P zz)))), (r0, .inr (1, [.ref q1, .ref q2, .ref q3, .int (nI sv), .int (nI n), .long co])), (q1, .inl (cL, 49, .inr (.inl wz))), (q2, .inl (cL, 32, .inr (.inl bz))), (q3, .inl (cL, 32, .inr (.inl fz)))] [(cI, .int), (cL, .long)]) (va_Qi (fun (res : Int32) (u : Nat × Nat × Int64 × (Nat → Int64) × (Nat → Int64) × (Nat → Int64)) => res = nI (quN P) ∧ RI P u.1 u.2.2.2.1 u.2.2.2.2.1 u.2.1 u.2.2.1) (fun u : Nat × Nat × Int64 × (Nat → Int64) × (Nat → Int64) × (Nat → Int64) => kB (dC, dI) [(cI, .int), (cL, .long)] (va_A [(x0, .inr (5, [.ref pa, .ref t0, .ref y0, .ref r0, .ref a0, .ref b0, .ref s0, .int (nI fa), .long un])), (pa, .inl (cI, 22, .inl (fun zz => nI (P zz)))), (r0, .inr (1, [.ref q1, .ref q2, .ref q3, .int (nI sv), .int (nI n), .long co])), (q1, .inl (cL, 49, .inr (.inl wz))), (q2, .inl (cL, 32, .inr (.inl bz))), (q3, .inl (cL, 32, .inr (.inl fz)))] sz) ([(x0, .inr (5, [.ref pa, .ref t0, .ref y0, .ref r0, .ref a0, .ref b0, .ref s0, .int (nI fa), .long un])), (pa, .inl (cI, 22, .inl (fun zz => nI (P zz)))), (r0, .inr (1, [.ref q1, .ref q2, .ref q3, .int (nI u.1), .int (nI u.2.1), .long u.2.2.1])), (q1, .inl (cL, 49, .inr (.inl u.2.2.2.1))), (q2, .inl (cL, 32, .inr (.inl u.2.2.2.2.1))), (q3, .inl (cL, 32, .inr (.inl u.2.2.2.2.2)))])) (va_A [(x0, .inr (5, [.ref pa, .ref t0, .ref y0, .ref r0, .ref a0, .ref b0, .ref s0, .int (nI fa), .long un])), (pa, .inl (cI, 22, .inl (fun zz => nI (P zz)))), (r0, .inr (1, [.ref q1, .ref q2, .ref q3, .int (nI sv), .int (nI n), .long co])), (q1, .inl (cL, 49, .inr (.inl wz))), (q2, .inl (cL, 32, .inr (.inl bz))), (q3, .inl (cL, 32, .inr (.inl fz)))] sz)) 0 0 (va_A [(x0, .inr (5, [.ref pa, .ref t0, .ref y0, .ref r0, .ref a0, .ref b0, .ref s0, .int (nI fa), .long un])), (pa, .inl (cI, 22, .inl (fun zz => nI (P zz)))), (r0, .inr (1, [.ref q1, .ref q2, .ref q3, .int (nI sv), .int (nI n), .long co])), (q1, .inl (cL, 49, .inr (.inl wz))), (q2, .inl (cL, 32, .inr (.inl bz))), (q3, .inl (cL, 32, .inr (.inl fz)))] sz) := by
  refine kmet (by decide) ?_
  intro p e s m args below meth c Y hr hlocks hin hv
  obtain ⟨rfl, A, hAe, hsz, hP, hK, hD, hZ, hA⟩ := kinQ hv
  rw [hAe]
  have hS : va_S A s.heap s.heap [] := va_S.rf
  have hx := Y.1
  have hb := Y.2.1
  have hml := Y.2.2.1
  have hown := Y.2.2.2.1
  have hts := Y.2.2.2.2
  have hl := lv_entry ([.ref x0]) (n := 4) (Nat.le_of_ble_eq_true rfl)
  rw [lg_entry_eq]
  generalize (lg_sl ([.ref x0]) ++ List.replicate (4 - (lg_sl ([.ref x0])).length) Slot.unset).toArray = ls at hl ⊢
  have hl : lv_has ls 4 [(0, .ref x0)] := hl
  have hp0 := hPI.1
  have hp1 := hPI.2.1
  have hp2 := hPI.2.2.1
  refine lv_aload_n hx hb dX5_countQuits_0 rfl (lv_at hl 0 rfl) ?_
  refine va_get (D := (dC, dI)) (ci := 5) (v := .ref r0) (C := RX5) (T := TX5) (N := 9) hx hb hts inlX5 hown hK hP 0 rfl rfl 3 (by decide) (hts _ qf_X5_39) (fun _ h9 => h9) rfl dX5_countQuits_1 ?_
  refine lv_aload_n hx hb dX5_countQuits_4 rfl (lv_at hl 0 rfl) ?_
  refine va_get (D := (dC, dI)) (ci := 5) (v := .ref pa) (C := RX5) (T := TX5) (N := 9) hx hb hts inlX5 hown hK hP 0 rfl rfl 0 (by decide) (hts _ qf_X5_9) (fun _ h9 => h9) rfl dX5_countQuits_5 ?_
  refine kQv (As := [.ref pa]) (rest := []) (wr := [(x0, .inr (5, [.ref pa, .ref t0, .ref y0, .ref r0, .ref a0, .ref b0, .ref s0, .int (nI fa), .long un]))]) Y m_X1_solve (c_X1_solve l dC dI _ cL cI r0 q1 q2 q3 pa wz bz fz P sv n co hPI hRI) qm_X5_114 hP hD hS hA [2, 3, 4, 5, 1] [0] rfl rfl (by decide) (by decide) (kqV (ci := 1) hK hP hD hZ hS hA [2, 3, 4, 5, 1] [1, 0] rfl (by decide) rfl 0 rfl rfl rfl) rfl hl.1 rfl (Nat.le_of_ble_eq_true rfl) dX5_countQuits_8 ⟨Nat.le_of_ble_eq_true rfl, Nat.le_of_ble_eq_true rfl⟩ ⟨Nat.zero_le _, Nat.zero_le _⟩ (fun u8 H locs hr8 hP hD hS => ?_)
  obtain ⟨w2_8, b2_8, n2_8, co2_8⟩ := u8
  have hP : va_P (dC, dI) vwCl [(x0, .inr (5, [.ref pa, .ref t0, .ref y0, .ref r0, .ref a0, .ref b0, .ref s0, .int (nI fa), .long un])), (r0, .inr (1, [.ref q1, .ref q2, .ref q3, .int (nI 1), .int (nI n2_8), .long co2_8])), (q1, .inl (cL, 49, .inr (.inl w2_8))), (q2, .inl (cL, 32, .inr (.inl b2_8))), (q3, .inl (cL, 32, .inr (.inl fz))), (pa, .inl (cI, 22, .inl (fun zz => nI (P zz))))] H := hP
  have hD : va_D A [(x0, .inr (5, [.ref pa, .ref t0, .ref y0, .ref r0, .ref a0, .ref b0, .ref s0, .int (nI fa), .long un])), (r0, .inr (1, [.ref q1, .ref q2, .ref q3, .int (nI 1), .int (nI n2_8), .long co2_8])), (q1, .inl (cL, 49, .inr (.inl w2_8))), (q2, .inl (cL, 32, .inr (.inl b2_8))), (q3, .inl (cL, 32, .inr (.inl fz))), (pa, .inl (cI, 22, .inl (fun zz => nI (P zz))))] := hD
  have hr8 : RS P w2_8 b2_8 n2_8 co2_8 := hr8
  refine lv_iconst (v := nI 0) hx hb dX5_countQuits_11 (by decide) ?_
  refine lv_istore_n (lv' := [(1, .int (nI 0)), (0, .ref x0)]) hx hb dX5_countQuits_12 rfl hl (by decide) rfl (fun ls hl => ?_)
  refine lv_iconst (v := nI 1) hx hb dX5_countQuits_13 (by decide) ?_
  refine lv_istore_n (lv' := [(2, .int (nI 1)), (1, .int (nI 0)), (0, .ref x0)]) hx hb dX5_countQuits_14 rfl hl (by decide) rfl (fun ls hl => ?_)
  refine wl2 (fun (i : Nat) (cc : Nat) => P 0 + 1 - i) (fun (i : Nat) (cc : Nat) (ls : Array Slot) (H : Heap) (locs : List Loc) => lv_has ls 4 [(0, .ref x0), (1, .int (nI cc)), (2, .int (nI i))] ∧ va_P (dC, dI) vwCl [(pa, .inl (cI, 22, .inl (fun zz => nI (P zz)))), (q1, .inl (cL, 49, .inr (.inl w2_8))), (q2, .inl (cL, 32, .inr (.inl b2_8))), (q3, .inl (cL, 32, .inr (.inl fz))), (r0, .inr (1, [.ref q1, .ref q2, .ref q3, .int (nI 1), .int (nI n2_8), .long co2_8])), (x0, .inr (5, [.ref pa, .ref t0, .ref y0, .ref r0, .ref a0, .ref b0, .ref s0, .int (nI fa), .long un]))] H ∧ va_D A [(pa, .inl (cI, 22, .inl (fun zz => nI (P zz)))), (q1, .inl (cL, 49, .inr (.inl w2_8))), (q2, .inl (cL, 32, .inr (.inl b2_8))), (q3, .inl (cL, 32, .inr (.inl fz))), (r0, .inr (1, [.ref q1, .ref q2, .ref q3, .int (nI 1), .int (nI n2_8), .long co2_8])), (x0, .inr (5, [.ref pa, .ref t0, .ref y0, .ref r0, .ref a0, .ref b0, .ref s0, .int (nI fa), .long un]))] ∧ va_S A s.heap H locs ∧ (1 ≤ i ∧ i ≤ P 0 + 1 ∧ cc ≤ 10 * i ∧ cc = smN (quR P) (i - 1))) 1 0 (by exact ⟨lv_sub hl [2, 1, 0] rfl, hP.sub [5, 2, 3, 4, 1, 0] rfl, hD.sub [5, 2, 3, 4, 1, 0] (by decide) rfl, hS, by omega, by omega, by omega, rfl⟩) (fun i cc ls H locs hI ih => ?_)
  obtain ⟨hl, hP, hD, hS, hi1, hi2, hcb, hcc⟩ := hI
  have ih15 := ih
  refine lv_iload_n hx hb dX5_countQuits_15 rfl (lv_at hl 2 rfl) ?_
  refine lv_aload_n hx hb dX5_countQuits_16 rfl (lv_at hl 0 rfl) ?_
  refine kVi (As := []) (rest := [.int (nI i)]) Y m_X5_candidates (c_X5_candidates l dC dI cI cL x0 pa t0 y0 r0 a0 b0 s0 fa un P ) qm_X5_149 (kpV (ci := 5) hK hP hZ hS [5, 0] [0] rfl rfl 0 rfl rfl rfl) rfl hl.1 rfl (Nat.le_of_ble_eq_true rfl) dX5_countQuits_17 ⟨Nat.le_of_ble_eq_true rfl, Nat.le_of_ble_eq_true rfl⟩ ⟨Nat.zero_le _, Nat.zero_le _⟩ (fun r17 hr17 => ?_)
  obtain rfl : r17 = nI (P 0) := hr17
  refine ri_cgt (tgt := 62) hx hb dX5_countQuits_20 (by decide) (by omega) (by omega) (fun c20 => ?_) (fun c20 => ?_)
  · refine lv_iload_n hx hb dX5_countQuits_62 rfl (lv_at hl 1 rfl) ?_
    exact kqi (w1 := (fun u : Nat × Nat × Int64 × (Nat → Int64) × (Nat → Int64) × (Nat → Int64) => [(x0, .inr (5, [.ref pa, .ref t0, .ref y0, .ref r0, .ref a0, .ref b0, .ref s0, .int (nI fa), .long un])), (pa, .inl (cI, 22, .inl (fun zz => nI (P zz)))), (r0, .inr (1, [.ref q1, .ref q2, .ref q3, .int (nI u.1), .int (nI u.2.1), .long u.2.2.1])), (q1, .inl (cL, 49, .inr (.inl u.2.2.2.1))), (q2, .inl (cL, 32, .inr (.inl u.2.2.2.2.1))), (q3, .inl (cL, 32, .inr (.inl u.2.2.2.2.2)))])) (v := nI cc) Y hr hlocks hK hP hD hS [5, 0, 4, 1, 2, 3] (by decide) (1, n2_8, co2_8, w2_8, b2_8, fz) rfl ⟨congrArg nI (by rw [hcc, show i - 1 = P 0 by omega]; rfl), RI_1 hr8⟩ dX5_countQuits_63
  · refine lv_iconst (v := nI 1) hx hb dX5_countQuits_23 (by decide) ?_
    refine lv_istore_n (lv' := [(3, .int (nI 1)), (0, .ref x0), (1, .int (nI cc)), (2, .int (nI i))]) hx hb dX5_countQuits_24 rfl hl (by decide) rfl (fun ls hl => ?_)
    refine wl2 (fun (j : Nat) (c9 : Nat) => P 1 + 1 - j) (fun (j : Nat) (c9 : Nat) (ls : Array Slot) (H : Heap) (locs : List Loc) => lv_has ls 4 [(0, .ref x0), (1, .int (nI c9)), (2, .int (nI i)), (3, .int (nI j))] ∧ va_P (dC, dI) vwCl [(pa, .inl (cI, 22, .inl (fun zz => nI (P zz)))), (q1, .inl (cL, 49, .inr (.inl w2_8))), (q2, .inl (cL, 32, .inr (.inl b2_8))), (q3, .inl (cL, 32, .inr (.inl fz))), (r0, .inr (1, [.ref q1, .ref q2, .ref q3, .int (nI 1), .int (nI n2_8), .long co2_8])), (x0, .inr (5, [.ref pa, .ref t0, .ref y0, .ref r0, .ref a0, .ref b0, .ref s0, .int (nI fa), .long un]))] H ∧ va_D A [(pa, .inl (cI, 22, .inl (fun zz => nI (P zz)))), (q1, .inl (cL, 49, .inr (.inl w2_8))), (q2, .inl (cL, 32, .inr (.inl b2_8))), (q3, .inl (cL, 32, .inr (.inl fz))), (r0, .inr (1, [.ref q1, .ref q2, .ref q3, .int (nI 1), .int (nI n2_8), .long co2_8])), (x0, .inr (5, [.ref pa, .ref t0, .ref y0, .ref r0, .ref a0, .ref b0, .ref s0, .int (nI fa), .long un]))] ∧ va_S A s.heap H locs ∧ (1 ≤ j ∧ j ≤ P 1 + 1 ∧ c9 ≤ 10 * i + j ∧ c9 = smN (quR P) (i - 1) + smN (quG P i) (j - 1))) 1 cc (by exact ⟨lv_sub hl [1, 2, 3, 0] rfl, hP.sub [0, 1, 2, 3, 4, 5] rfl, hD.sub [0, 1, 2, 3, 4, 5] (by decide) rfl, hS, by omega, by omega, by omega, hcc⟩) (fun j c9 ls H locs hI ih => ?_)
    obtain ⟨hl, hP, hD, hS, hj1, hj2, hcb9, hc9⟩ := hI
    have ih25 := ih
    refine lv_iload_n hx hb dX5_countQuits_25 rfl (lv_at hl 3 rfl) ?_
    refine lv_aload_n hx hb dX5_countQuits_26 rfl (lv_at hl 0 rfl) ?_
    refine kVi (As := []) (rest := [.int (nI j)]) Y m_X5_choices (c_X5_choices l dC dI cI cL x0 pa t0 y0 r0 a0 b0 s0 fa un P ) qm_X5_143 (kpV (ci := 5) hK hP hZ hS [5, 0] [0] rfl rfl 0 rfl rfl rfl) rfl hl.1 rfl (Nat.le_of_ble_eq_true rfl) dX5_countQuits_27 ⟨Nat.le_of_ble_eq_true rfl, Nat.le_of_ble_eq_true rfl⟩ ⟨Nat.zero_le _, Nat.zero_le _⟩ (fun r27 hr27 => ?_)
    obtain rfl : r27 = nI (P 1) := hr27
    refine ri_cgt (tgt := 56) hx hb dX5_countQuits_30 (by decide) (by omega) (by omega) (fun c30 => ?_) (fun c30 => ?_)
    · refine lv_iinc (v := nI (i + 1)) (lv' := [(2, .int (nI (i + 1))), (0, .ref x0), (1, .int (nI c9)), (3, .int (nI j))]) hx hb dX5_countQuits_56 hl (k := 2) rfl (inc1 _) (by decide) rfl (fun ls hl => ?_)
      refine lv_goto (tgt := 15) hx hb dX5_countQuits_59 (by decide) ?_
      exact ih15 (i + 1) c9 _ _ _ (by show _ < _; omega) (by exact ⟨lv_sub hl [1, 2, 0] rfl, hP.sub [0, 1, 2, 3, 4, 5] rfl, hD.sub [0, 1, 2, 3, 4, 5] (by decide) rfl, hS, by omega, by omega, by omega, by rw [smN_n hi1, hc9]; unfold quR; rw [show j - 1 = P 1 by omega]⟩)
    · refine lv_aload_n hx hb dX5_countQuits_33 rfl (lv_at hl 0 rfl) ?_
      refine va_get (D := (dC, dI)) (ci := 5) (v := .ref r0) (C := RX5) (T := TX5) (N := 9) hx hb hts inlX5 hown hK hP 5 rfl rfl 3 (by decide) (hts _ qf_X5_39) (fun _ h9 => h9) rfl dX5_countQuits_34 ?_
      refine lv_iload_n hx hb dX5_countQuits_37 rfl (lv_at hl 2 rfl) ?_
      refine lv_iload_n hx hb dX5_countQuits_38 rfl (lv_at hl 3 rfl) ?_
      refine kVl (As := [.int (nI i), .int (nI j)]) (rest := []) Y m_X1_valueBefore (c_X1_valueBefore l dC dI cL r0 q1 q2 q3 w2_8 b2_8 fz 1 n2_8 co2_8 i j (by omega) (by omega) (by omega)) qm_X5_133 (kpV (ci := 1) hK hP hZ hS [4, 1, 2, 3] [1] rfl rfl 0 rfl rfl rfl) rfl hl.1 rfl (Nat.le_of_ble_eq_true rfl) dX5_countQuits_39 ⟨Nat.le_of_ble_eq_true rfl, Nat.le_of_ble_eq_true rfl⟩ ⟨Nat.zero_le _, Nat.zero_le _⟩ (fun r39 hr39 => ?_)
      obtain rfl : r39 = b2_8 (((i - 1) * 4) + j) := hr39
      refine rl_set (x' := lN (420 * VR P (P 0 + 1 - i) j)) (hr8.2.2.2 i j (by omega) (by omega) (by omega)) ?_
      have hv3 := VR3 hPI (d := P 0 + 1 - i) (j := j) (by omega) (by omega)
      have hqg : quG P i j = if VR P (P 0 + 1 - i) j = 0 then 1 else 0 := rfl
      refine lv_lconst (v := lN 0) hx hb dX5_countQuits_42 rfl ?_
      refine rl_nen (tgt := 50) hx hb dX5_countQuits_43 dX5_countQuits_44 (by decide) (by omega) (by omega) (fun c43 => ?_) (fun c43 => ?_)
      · refine lv_iinc (v := nI (j + 1)) (lv' := [(3, .int (nI (j + 1))), (0, .ref x0), (1, .int (nI c9)), (2, .int (nI i))]) hx hb dX5_countQuits_50 hl (k := 3) rfl (inc1 _) (by decide) rfl (fun ls hl => ?_)
        refine lv_goto (tgt := 25) hx hb dX5_countQuits_53 (by decide) ?_
        exact ih25 (j + 1) c9 _ _ _ (by show _ < _; omega) (by exact ⟨lv_sub hl [1, 2, 3, 0] rfl, hP.sub [0, 1, 2, 3, 4, 5] rfl, hD.sub [0, 1, 2, 3, 4, 5] (by decide) rfl, hS, by omega, by omega, by omega, by rw [smN_n hj1, hqg, if_neg (show ¬ VR P (P 0 + 1 - i) j = 0 by omega)]; omega⟩)
      · refine lv_iinc (v := nI (c9 + 1)) (lv' := [(1, .int (nI (c9 + 1))), (0, .ref x0), (2, .int (nI i)), (3, .int (nI j))]) hx hb dX5_countQuits_47 hl (k := 1) rfl (inc1 _) (by decide) rfl (fun ls hl => ?_)
        refine lv_iinc (v := nI (j + 1)) (lv' := [(3, .int (nI (j + 1))), (1, .int (nI (c9 + 1))), (0, .ref x0), (2, .int (nI i))]) hx hb dX5_countQuits_50 hl (k := 3) rfl (inc1 _) (by decide) rfl (fun ls hl => ?_)
        refine lv_goto (tgt := 25) hx hb dX5_countQuits_53 (by decide) ?_
        exact ih25 (j + 1) (c9 + 1) _ _ _ (by show _ < _; omega) (by exact ⟨lv_sub hl [2, 1, 3, 0] rfl, hP.sub [0, 1, 2, 3, 4, 5] rfl, hD.sub [0, 1, 2, 3, 4, 5] (by decide) rfl, hS, by omega, by omega, by omega, by rw [smN_n hj1, hqg, if_pos (show VR P (P 0 + 1 - i) j = 0 by omega)]; omega⟩)
set_option maxHeartbeats 4000000 in
set_option maxRecDepth 100000 in
theorem c_X5_countWeightedLevels (l : Launch) (dC : Nat → ClassId) (dI : Nat → Nat → Nat) (cI cL : ClassId) (x0 pa t0 y0 r0 a0 b0 s0 : Nat) (fa : Nat) (un : Int64) (P : Nat → Nat) (hPI : PI P) : Met l yX5_countWeightedLevels (kw yX5_countWeightedLevels cX5_countWeightedLevels 3 (some .int)) (kR 0 0) (kPr (dC, dI) [.ref x0] [(x0, .inr (5, [.ref pa, .ref t0, .ref y0, .ref r0, .ref a0, .ref b0, .ref s0, .int (nI fa), .long un])), (pa, .inl (cI, 22, .inl (fun zz => nI (P zz))))] [(cI, .int)]) (vp_Si (fun res : Int32 => res = nI (wgN P))) 0 0 kNo := by
  refine kmet (by decide) ?_
  intro p e s m args below meth c Y hr hlocks hin hv
  obtain ⟨rfl, hP, hK, hZ⟩ := kinR hv
  have hS : va_S kNo s.heap s.heap [] := va_S.rf
  have hx := Y.1
  have hb := Y.2.1
  have hml := Y.2.2.1
  have hown := Y.2.2.2.1
  have hts := Y.2.2.2.2
  have hl := lv_entry ([.ref x0]) (n := 3) (Nat.le_of_ble_eq_true rfl)
  rw [lg_entry_eq]
  generalize (lg_sl ([.ref x0]) ++ List.replicate (3 - (lg_sl ([.ref x0])).length) Slot.unset).toArray = ls at hl ⊢
  have hl : lv_has ls 3 [(0, .ref x0)] := hl
  refine lv_iconst (v := nI 0) hx hb dX5_countWeightedLevels_0 (by decide) ?_
  refine lv_istore_n (lv' := [(1, .int (nI 0)), (0, .ref x0)]) hx hb dX5_countWeightedLevels_1 rfl hl (by decide) rfl (fun ls hl => ?_)
  refine lv_iconst (v := nI 0) hx hb dX5_countWeightedLevels_2 (by decide) ?_
  refine lv_istore_n (lv' := [(2, .int (nI 0)), (1, .int (nI 0)), (0, .ref x0)]) hx hb dX5_countWeightedLevels_3 rfl hl (by decide) rfl (fun ls hl => ?_)
  refine wr2 (fun (t : Nat) (sm : Nat) => 5 - t) (fun (t : Nat) (sm : Nat) (ls : Array Slot) => lv_has ls 3 [(0, .ref x0), (1, .int (nI sm)), (2, .int (nI t))] ∧ (t ≤ 5 ∧ sm ≤ 1000 + t ∧ sm = sgN (fun t => if 0 < P (15 + t) then 1 else 0) t)) 0 0 (by exact ⟨lv_sub hl [2, 1, 0] rfl, ⟨by omega, by omega, rfl⟩⟩) (fun t sm ls hI ih => ?_)
  obtain ⟨hl, ht, hs9, hsm⟩ := hI
  have ih4 := ih
  have hw9 : t < 5 → P (15 + t) ≤ 10 := fun q => hPI.2.2.2.2.1 t q
  refine lv_iload_n hx hb dX5_countWeightedLevels_4 rfl (lv_at hl 2 rfl) ?_
  refine lv_iconst (v := nI 5) hx hb dX5_countWeightedLevels_5 (by decide) ?_
  refine ri_cge (tgt := 30) hx hb dX5_countWeightedLevels_6 (by decide) (by omega) (by omega) (fun c6 => ?_) (fun c6 => ?_)
  · refine lv_iload_n hx hb dX5_countWeightedLevels_30 rfl (lv_at hl 1 rfl) ?_
    exact kri (v := nI sm) Y hr hlocks (congrArg nI (by rw [hsm, show t = 5 by omega]; rfl)) dX5_countWeightedLevels_31
  · refine lv_aload_n hx hb dX5_countWeightedLevels_9 rfl (lv_at hl 0 rfl) ?_
    refine va_get (D := (dC, dI)) (ci := 5) (v := .ref pa) (C := RX5) (T := TX5) (N := 9) hx hb hts inlX5 hown hK hP 0 rfl rfl 0 (by decide) (hts _ qf_X5_9) (fun _ h9 => h9) rfl dX5_countWeightedLevels_10 ?_
    refine lv_bipush (v := nI 15) hx hb dX5_countWeightedLevels_13 (by decide) ?_
    refine lv_iload_n hx hb dX5_countWeightedLevels_15 rfl (lv_at hl 2 rfl) ?_
    refine ri_add hx hb dX5_countWeightedLevels_16 ?_
    refine ri_ald hx hb hK hP 1 0 (F := P) rfl rfl dX5_countWeightedLevels_17 (by decide) (by omega) ?_
    have hw8 := hw9 (by omega)
    refine ri_zle (tgt := 24) hx hb dX5_countWeightedLevels_18 (by decide) (by omega) (fun c18 => ?_) (fun c18 => ?_)
    · refine lv_iinc (v := nI (t + 1)) (lv' := [(2, .int (nI (t + 1))), (0, .ref x0), (1, .int (nI sm))]) hx hb dX5_countWeightedLevels_24 hl (k := 2) rfl (inc1 _) (by decide) rfl (fun ls hl => ?_)
      refine lv_goto (tgt := 4) hx hb dX5_countWeightedLevels_27 (by decide) ?_
      exact ih4 (t + 1) sm _ (by show _ < _; omega) (by exact ⟨lv_sub hl [1, 2, 0] rfl, ⟨by omega, by omega, by rw [hsm]; show _ = sgN _ t + (if 0 < P (15 + t) then 1 else 0); rw [if_neg (by omega), Nat.add_zero]⟩⟩)
    · refine lv_iinc (v := nI (sm + 1)) (lv' := [(1, .int (nI (sm + 1))), (0, .ref x0), (2, .int (nI t))]) hx hb dX5_countWeightedLevels_21 hl (k := 1) rfl (inc1 _) (by decide) rfl (fun ls hl => ?_)
      refine lv_iinc (v := nI (t + 1)) (lv' := [(2, .int (nI (t + 1))), (1, .int (nI (sm + 1))), (0, .ref x0)]) hx hb dX5_countWeightedLevels_24 hl (k := 2) rfl (inc1 _) (by decide) rfl (fun ls hl => ?_)
      refine lv_goto (tgt := 4) hx hb dX5_countWeightedLevels_27 (by decide) ?_
      exact ih4 (t + 1) (sm + 1) _ (by show _ < _; omega) (by exact ⟨lv_sub hl [2, 1, 0] rfl, ⟨by omega, by omega, by rw [hsm]; show _ = sgN _ t + (if 0 < P (15 + t) then 1 else 0); rw [if_pos (by omega)]⟩⟩)
set_option maxHeartbeats 4000000 in
set_option maxRecDepth 100000 in
theorem c_X5_priceOfRanks (l : Launch) (dC : Nat → ClassId) (dI : Nat → Nat → Nat) (sz : Nat) (cI cL : ClassId) (x0 pa t0 y0 r0 a0 b0 s0 : Nat) (fa : Nat) (un : Int64) (q1 q2 q3 : Nat) (wz bz fz : Nat → Int64) (sv n : Nat) (co : Int64) (P : Nat → Nat) (hPI : PI P) (hRI : RI P sv wz bz n co) (hk2 : P 1 ≤ 2) : Met l yX5_priceOfRanks (kw yX5_priceOfRanks cX5_priceOfRanks 3 (some .long)) (kR 3 79) (kPq (dC, dI) [.ref x0] sz [(x0, .inr (5, [.ref pa, .ref t0, .ref y0, .ref r0, .ref a0, .ref b0, .ref s0, .int (nI fa), .long un])), (pa, .inl (cI, 22, .inl (fun zz => nI (P zz)))), (r0, .inr (1, [.ref q1, .ref q2, .ref q3, .int (nI sv), .int (nI n), .long co])), (q1, .inl (cL, 49, .inr (.inl wz))), (q2, .inl (cL, 32, .inr (.inl bz))), (q3, .inl (cL, 32, .inr (.inl fz)))] [(cI, .int), (cL, .long)]) (va_Ql (fun (res : Int64) (u : Int64 × Nat × Nat × Int64 × (Nat → Int64) × (Nat → Int64) × (Nat → Int64)) => (res, u.1) = (iN (FRn (prR P) 5040), lN (FRd (prR P) 5040)) ∧ RI P u.2.1 u.2.2.2.2.1 u.2.2.2.2.2.1 u.2.2.1 u.2.2.2.1) (fun u : Int64 × Nat × Nat × Int64 × (Nat → Int64) × (Nat → Int64) × (Nat → Int64) => kB (dC, dI) [(cI, .int), (cL, .long)] (va_A [(x0, .inr (5, [.ref pa, .ref t0, .ref y0, .ref r0, .ref a0, .ref b0, .ref s0, .int (nI fa), .long un])), (pa, .inl (cI, 22, .inl (fun zz => nI (P zz)))), (r0, .inr (1, [.ref q1, .ref q2, .ref q3, .int (nI sv), .int (nI n), .long co])), (q1, .inl (cL, 49, .inr (.inl wz))), (q2, .inl (cL, 32, .inr (.inl bz))), (q3, .inl (cL, 32, .inr (.inl fz)))] sz) ([(x0, .inr (5, [.ref pa, .ref t0, .ref y0, .ref r0, .ref a0, .ref b0, .ref s0, .int (nI fa), .long u.1])), (pa, .inl (cI, 22, .inl (fun zz => nI (P zz)))), (r0, .inr (1, [.ref q1, .ref q2, .ref q3, .int (nI u.2.1), .int (nI u.2.2.1), .long u.2.2.2.1])), (q1, .inl (cL, 49, .inr (.inl u.2.2.2.2.1))), (q2, .inl (cL, 32, .inr (.inl u.2.2.2.2.2.1))), (q3, .inl (cL, 32, .inr (.inl u.2.2.2.2.2.2)))])) (va_A [(x0, .inr (5, [.ref pa, .ref t0, .ref y0, .ref r0, .ref a0, .ref b0, .ref s0, .int (nI fa), .long un])), (pa, .inl (cI, 22, .inl (fun zz => nI (P zz)))), (r0, .inr (1, [.ref q1, .ref q2, .ref q3, .int (nI sv), .int (nI n), .long co])), (q1, .inl (cL, 49, .inr (.inl wz))), (q2, .inl (cL, 32, .inr (.inl bz))), (q3, .inl (cL, 32, .inr (.inl fz)))] sz)) 0 0 (va_A [(x0, .inr (5, [.ref pa, .ref t0, .ref y0, .ref r0, .ref a0, .ref b0, .ref s0, .int (nI fa), .long un])), (pa, .inl (cI, 22, .inl (fun zz => nI (P zz)))), (r0, .inr (1, [.ref q1, .ref q2, .ref q3, .int (nI sv), .int (nI n), .long co])), (q1, .inl (cL, 49, .inr (.inl wz))), (q2, .inl (cL, 32, .inr (.inl bz))), (q3, .inl (cL, 32, .inr (.inl fz)))] sz) := by
  refine kmet (by decide) ?_
  intro p e s m args below meth c Y hr hlocks hin hv
  obtain ⟨rfl, A, hAe, hsz, hP, hK, hD, hZ, hA⟩ := kinQ hv
  rw [hAe]
  have hS : va_S A s.heap s.heap [] := va_S.rf
  have hx := Y.1
  have hb := Y.2.1
  have hml := Y.2.2.1
  have hown := Y.2.2.2.1
  have hts := Y.2.2.2.2
  have hl := lv_entry ([.ref x0]) (n := 3) (Nat.le_of_ble_eq_true rfl)
  rw [lg_entry_eq]
  generalize (lg_sl ([.ref x0]) ++ List.replicate (3 - (lg_sl ([.ref x0])).length) Slot.unset).toArray = ls at hl ⊢
  have hl : lv_has ls 3 [(0, .ref x0)] := hl
  have hp0 := hPI.1
  have hp1 := hPI.2.1
  have hp2 := hPI.2.2.1
  have hpr := prR_e hPI hk2
  refine lv_aload_n hx hb dX5_priceOfRanks_0 rfl (lv_at hl 0 rfl) ?_
  refine va_get (D := (dC, dI)) (ci := 5) (v := .ref r0) (C := RX5) (T := TX5) (N := 9) hx hb hts inlX5 hown hK hP 0 rfl rfl 3 (by decide) (hts _ qf_X5_39) (fun _ h9 => h9) rfl dX5_priceOfRanks_1 ?_
  refine lv_aload_n hx hb dX5_priceOfRanks_4 rfl (lv_at hl 0 rfl) ?_
  refine va_get (D := (dC, dI)) (ci := 5) (v := .ref pa) (C := RX5) (T := TX5) (N := 9) hx hb hts inlX5 hown hK hP 0 rfl rfl 0 (by decide) (hts _ qf_X5_9) (fun _ h9 => h9) rfl dX5_priceOfRanks_5 ?_
  refine kQv (As := [.ref pa]) (rest := []) (wr := [(x0, .inr (5, [.ref pa, .ref t0, .ref y0, .ref r0, .ref a0, .ref b0, .ref s0, .int (nI fa), .long un]))]) Y m_X1_solve (c_X1_solve l dC dI _ cL cI r0 q1 q2 q3 pa wz bz fz P sv n co hPI hRI) qm_X5_114 hP hD hS hA [2, 3, 4, 5, 1] [0] rfl rfl (by decide) (by decide) (kqV (ci := 1) hK hP hD hZ hS hA [2, 3, 4, 5, 1] [1, 0] rfl (by decide) rfl 0 rfl rfl rfl) rfl hl.1 rfl (Nat.le_of_ble_eq_true rfl) dX5_priceOfRanks_8 ⟨Nat.le_of_ble_eq_true rfl, Nat.le_of_ble_eq_true rfl⟩ ⟨Nat.zero_le _, Nat.zero_le _⟩ (fun u8 H locs hr8 hP hD hS => ?_)
  obtain ⟨w2_8, b2_8, n2_8, co2_8⟩ := u8
  have hP : va_P (dC, dI) vwCl [(x0, .inr (5, [.ref pa, .ref t0, .ref y0, .ref r0, .ref a0, .ref b0, .ref s0, .int (nI fa), .long un])), (r0, .inr (1, [.ref q1, .ref q2, .ref q3, .int (nI 1), .int (nI n2_8), .long co2_8])), (q1, .inl (cL, 49, .inr (.inl w2_8))), (q2, .inl (cL, 32, .inr (.inl b2_8))), (q3, .inl (cL, 32, .inr (.inl fz))), (pa, .inl (cI, 22, .inl (fun zz => nI (P zz))))] H := hP
  have hD : va_D A [(x0, .inr (5, [.ref pa, .ref t0, .ref y0, .ref r0, .ref a0, .ref b0, .ref s0, .int (nI fa), .long un])), (r0, .inr (1, [.ref q1, .ref q2, .ref q3, .int (nI 1), .int (nI n2_8), .long co2_8])), (q1, .inl (cL, 49, .inr (.inl w2_8))), (q2, .inl (cL, 32, .inr (.inl b2_8))), (q3, .inl (cL, 32, .inr (.inl fz))), (pa, .inl (cI, 22, .inl (fun zz => nI (P zz))))] := hD
  have hr8 : RS P w2_8 b2_8 n2_8 co2_8 := hr8
  refine lv_aload_n hx hb dX5_priceOfRanks_11 rfl (lv_at hl 0 rfl) ?_
  refine va_get (D := (dC, dI)) (ci := 5) (v := .ref r0) (C := RX5) (T := TX5) (N := 9) hx hb hts inlX5 hown hK hP 0 rfl rfl 3 (by decide) (hts _ qf_X5_39) (fun _ h9 => h9) rfl dX5_priceOfRanks_12 ?_
  refine lv_iconst (v := nI 1) hx hb dX5_priceOfRanks_15 (by decide) ?_
  refine lv_aload_n hx hb dX5_priceOfRanks_16 rfl (lv_at hl 0 rfl) ?_
  refine kVi (As := []) (rest := [.int (nI 1), .ref r0]) Y m_X5_choices (c_X5_choices l dC dI cI cL x0 pa t0 y0 r0 a0 b0 s0 fa un P ) qm_X5_143 (kpV (ci := 5) hK hP hZ hS [0, 5] [0] rfl rfl 0 rfl rfl rfl) rfl hl.1 rfl (Nat.le_of_ble_eq_true rfl) dX5_priceOfRanks_17 ⟨Nat.le_of_ble_eq_true rfl, Nat.le_of_ble_eq_true rfl⟩ ⟨Nat.zero_le _, Nat.zero_le _⟩ (fun r17 hr17 => ?_)
  obtain rfl : r17 = nI (P 1) := hr17
  refine lv_iconst (v := nI 1) hx hb dX5_priceOfRanks_20 (by decide) ?_
  refine ri_add hx hb dX5_priceOfRanks_21 ?_
  refine kVl (As := [.int (nI 1), .int (nI ((P 1) + 1))]) (rest := []) Y m_X1_valueBefore (c_X1_valueBefore l dC dI cL r0 q1 q2 q3 w2_8 b2_8 fz 1 n2_8 co2_8 1 ((P 1) + 1) (by omega) (by omega) (by omega)) qm_X5_133 (kpV (ci := 1) hK hP hZ hS [1, 2, 3, 4] [1] rfl rfl 0 rfl rfl rfl) rfl hl.1 rfl (Nat.le_of_ble_eq_true rfl) dX5_priceOfRanks_22 ⟨Nat.le_of_ble_eq_true rfl, Nat.le_of_ble_eq_true rfl⟩ ⟨Nat.zero_le _, Nat.zero_le _⟩ (fun r22 hr22 => ?_)
  obtain rfl : r22 = b2_8 (((1 - 1) * 4) + ((P 1) + 1)) := hr22
  refine rl_set (x' := lN (420 * VR P (P 0) (P 1 + 1))) (hr8.2.2.2 1 (P 1 + 1) (by omega) (by omega) (by omega)) ?_
  refine lv_lstore_n (lv' := [(1, .long (lN (420 * VR P (P 0) (P 1 + 1)))), (0, .ref x0)]) hx hb dX5_priceOfRanks_25 rfl hl (by decide) rfl (fun ls hl => ?_)
  refine lv_aload_n hx hb dX5_priceOfRanks_26 rfl (lv_at hl 1 rfl) ?_
  refine lv_lload_n hx hb dX5_priceOfRanks_27 rfl (lv_at hl 0 rfl) ?_
  refine lv_aload_n hx hb dX5_priceOfRanks_28 rfl (lv_at hl 1 rfl) ?_
  refine va_get (D := (dC, dI)) (ci := 5) (v := .ref r0) (C := RX5) (T := TX5) (N := 9) hx hb hts inlX5 hown hK hP 0 rfl rfl 3 (by decide) (hts _ qf_X5_39) (fun _ h9 => h9) rfl dX5_priceOfRanks_29 ?_
  refine lv_iconst (v := nI 1) hx hb dX5_priceOfRanks_32 (by decide) ?_
  refine lv_aload_n hx hb dX5_priceOfRanks_33 rfl (lv_at hl 1 rfl) ?_
  refine kVi (As := []) (rest := [.int (nI 1), .ref r0, .long (lN (420 * VR P (P 0) (P 1 + 1))), .ref x0]) Y m_X5_choices (c_X5_choices l dC dI cI cL x0 pa t0 y0 r0 a0 b0 s0 fa un P ) qm_X5_143 (kpV (ci := 5) hK hP hZ hS [0, 5] [0] rfl rfl 0 rfl rfl rfl) rfl hl.1 rfl (Nat.le_of_ble_eq_true rfl) dX5_priceOfRanks_34 ⟨Nat.le_of_ble_eq_true rfl, Nat.le_of_ble_eq_true rfl⟩ ⟨Nat.zero_le _, Nat.zero_le _⟩ (fun r34 hr34 => ?_)
  obtain rfl : r34 = nI (P 1) := hr34
  refine kVl (As := [.int (nI 1), .int (nI (P 1))]) (rest := [.long (lN (420 * VR P (P 0) (P 1 + 1))), .ref x0]) Y m_X1_valueBefore (c_X1_valueBefore l dC dI cL r0 q1 q2 q3 w2_8 b2_8 fz 1 n2_8 co2_8 1 (P 1) (by omega) (by omega) (by omega)) qm_X5_133 (kpV (ci := 1) hK hP hZ hS [1, 2, 3, 4] [1] rfl rfl 0 rfl rfl rfl) rfl hl.1 rfl (Nat.le_of_ble_eq_true rfl) dX5_priceOfRanks_37 ⟨Nat.le_of_ble_eq_true rfl, Nat.le_of_ble_eq_true rfl⟩ ⟨Nat.zero_le _, Nat.zero_le _⟩ (fun r37 hr37 => ?_)
  obtain rfl : r37 = b2_8 (((1 - 1) * 4) + (P 1)) := hr37
  refine rl_set (x' := lN (420 * VR P (P 0) (P 1))) (hr8.2.2.2 1 (P 1) (by omega) (by omega) (by omega)) ?_
  refine lv_lsub hx hb dX5_priceOfRanks_40 ?_
  refine rl_set (x' := iN (420 * prR P)) (pr_q hPI hk2) ?_
  refine lv_ldc2 (v := lN 2116800) hx hb hown (hts _ ql_X5_121) dX5_priceOfRanks_41 ?_
  refine kQl (As := [.long (iN (420 * prR P)), .long (lN 2116800)]) (rest := []) (wr := [(r0, .inr (1, [.ref q1, .ref q2, .ref q3, .int (nI 1), .int (nI n2_8), .long co2_8])), (q1, .inl (cL, 49, .inr (.inl w2_8))), (q2, .inl (cL, 32, .inr (.inl b2_8))), (q3, .inl (cL, 32, .inr (.inl fz))), (pa, .inl (cI, 22, .inl (fun zz => nI (P zz))))]) Y m_X5_fraction (c_X5_fraction l dC dI H.size cI cL x0 pa t0 y0 r0 a0 b0 s0 fa un (420 * prR P) 2116800 (by omega) (by omega) (by omega) (by omega)) qm_X5_123 hP hD hS hA [0] [1, 2, 3, 4, 5] rfl rfl (by decide) (by decide) (kqV (ci := 5) hK hP hD hZ hS hA [0] [] rfl (by decide) rfl 0 rfl rfl rfl) rfl hl.1 rfl (Nat.le_of_ble_eq_true rfl) dX5_priceOfRanks_44 ⟨Nat.le_of_ble_eq_true rfl, Nat.le_of_ble_eq_true rfl⟩ ⟨Nat.zero_le _, Nat.zero_le _⟩ (fun r44 u44 H locs hr44 hP hD hS => ?_)
  have hP : va_P (dC, dI) vwCl [(r0, .inr (1, [.ref q1, .ref q2, .ref q3, .int (nI 1), .int (nI n2_8), .long co2_8])), (q1, .inl (cL, 49, .inr (.inl w2_8))), (q2, .inl (cL, 32, .inr (.inl b2_8))), (q3, .inl (cL, 32, .inr (.inl fz))), (pa, .inl (cI, 22, .inl (fun zz => nI (P zz)))), (x0, .inr (5, [.ref pa, .ref t0, .ref y0, .ref r0, .ref a0, .ref b0, .ref s0, .int (nI fa), .long (lN (FRd (420 * prR P) 2116800))]))] H := hP
  have hD : va_D A [(r0, .inr (1, [.ref q1, .ref q2, .ref q3, .int (nI 1), .int (nI n2_8), .long co2_8])), (q1, .inl (cL, 49, .inr (.inl w2_8))), (q2, .inl (cL, 32, .inr (.inl b2_8))), (q3, .inl (cL, 32, .inr (.inl fz))), (pa, .inl (cI, 22, .inl (fun zz => nI (P zz)))), (x0, .inr (5, [.ref pa, .ref t0, .ref y0, .ref r0, .ref a0, .ref b0, .ref s0, .int (nI fa), .long (lN (FRd (420 * prR P) 2116800))]))] := hD
  obtain rfl : r44 = iN (FRn (420 * prR P) 2116800) := hr44
  exact kql (w1 := (fun u : Int64 × Nat × Nat × Int64 × (Nat → Int64) × (Nat → Int64) × (Nat → Int64) => [(x0, .inr (5, [.ref pa, .ref t0, .ref y0, .ref r0, .ref a0, .ref b0, .ref s0, .int (nI fa), .long u.1])), (pa, .inl (cI, 22, .inl (fun zz => nI (P zz)))), (r0, .inr (1, [.ref q1, .ref q2, .ref q3, .int (nI u.2.1), .int (nI u.2.2.1), .long u.2.2.2.1])), (q1, .inl (cL, 49, .inr (.inl u.2.2.2.2.1))), (q2, .inl (cL, 32, .inr (.inl u.2.2.2.2.2.1))), (q3, .inl (cL, 32, .inr (.inl u.2.2.2.2.2.2)))])) (v := iN (FRn (420 * prR P) 2116800)) Y hr hlocks hK hP hD hS [5, 4, 0, 1, 2, 3] (by decide) (lN (FRd (420 * prR P) 2116800), 1, n2_8, co2_8, w2_8, b2_8, fz) rfl ⟨by rw [(FR_420 (prR P)).1, (FR_420 (prR P)).2], RI_1 hr8⟩ dX5_priceOfRanks_47
