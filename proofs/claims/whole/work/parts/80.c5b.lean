theorem pr_q {P : Nat → Nat} (h : PI P) (hk : P 1 ≤ 2) : lN (420 * VR P (P 0) (P 1 + 1)) - lN (420 * VR P (P 0) (P 1)) = iN (420 * prR P) := by
  have a := VR3 h (d := P 0) (j := P 1) (by omega) (by omega)
  have b := VR3 h (d := P 0) (j := P 1 + 1) (by omega) (by omega)
  rw [lN_dif (by omega) (by omega)]
  unfold prR
  exact congrArg iN (by omega)

set_option maxHeartbeats 4000000 in
set_option maxRecDepth 100000 in
theorem c_X5_worth (l : Launch) (dC : Nat → ClassId) (dI : Nat → Nat → Nat) (sz : Nat) (cI cL : ClassId) (x0 pa t0 y0 r0 a0 b0 s0 : Nat) (fa : Nat) (un : Int64) (q1 q2 q3 : Nat) (wz bz fz : Nat → Int64) (sv n : Nat) (co : Int64) (P : Nat → Nat) (a b : Int32) (hPI : PI P) (hRI : RI P sv wz bz n co) : Met l yX5_worth (kw yX5_worth cX5_worth 3 (some .long)) (kR 3 79) (kPq (dC, dI) [.ref x0, .int a, .int b] sz [(x0, .inr (5, [.ref pa, .ref t0, .ref y0, .ref r0, .ref a0, .ref b0, .ref s0, .int (nI fa), .long un])), (pa, .inl (cI, 22, .inl (fun zz => nI (P zz)))), (r0, .inr (1, [.ref q1, .ref q2, .ref q3, .int (nI sv), .int (nI n), .long co])), (q1, .inl (cL, 49, .inr (.inl wz))), (q2, .inl (cL, 32, .inr (.inl bz))), (q3, .inl (cL, 32, .inr (.inl fz)))] [(cI, .int), (cL, .long)]) (va_Ql (fun (res : Int64) (u : Int64 × Nat × Nat × Int64 × (Nat → Int64) × (Nat → Int64) × (Nat → Int64)) => (res, u.1) = frO ((nI 1 ≤ a ∧ a ≤ nI (P 0)) ∧ (nI 1 ≤ b ∧ b ≤ a)) ((Wo P (nO a) (nO b) : Nat) : Int) 5040 un ∧ RI P u.2.1 u.2.2.2.2.1 u.2.2.2.2.2.1 u.2.2.1 u.2.2.2.1) (fun u : Int64 × Nat × Nat × Int64 × (Nat → Int64) × (Nat → Int64) × (Nat → Int64) => kB (dC, dI) [(cI, .int), (cL, .long)] (va_A [(x0, .inr (5, [.ref pa, .ref t0, .ref y0, .ref r0, .ref a0, .ref b0, .ref s0, .int (nI fa), .long un])), (pa, .inl (cI, 22, .inl (fun zz => nI (P zz)))), (r0, .inr (1, [.ref q1, .ref q2, .ref q3, .int (nI sv), .int (nI n), .long co])), (q1, .inl (cL, 49, .inr (.inl wz))), (q2, .inl (cL, 32, .inr (.inl bz))), (q3, .inl (cL, 32, .inr (.inl fz)))] sz) ([(x0, .inr (5, [.ref pa, .ref t0, .ref y0, .ref r0, .ref a0, .ref b0, .ref s0, .int (nI fa), .long u.1])), (pa, .inl (cI, 22, .inl (fun zz => nI (P zz)))), (r0, .inr (1, [.ref q1, .ref q2, .ref q3, .int (nI u.2.1), .int (nI u.2.2.1), .long u.2.2.2.1])), (q1, .inl (cL, 49, .inr (.inl u.2.2.2.2.1))), (q2, .inl (cL, 32, .inr (.inl u.2.2.2.2.2.1))), (q3, .inl (cL, 32, .inr (.inl u.2.2.2.2.2.2)))])) (va_A [(x0, .inr (5, [.ref pa, .ref t0, .ref y0, .ref r0, .ref a0, .ref b0, .ref s0, .int (nI fa), .long un])), (pa, .inl (cI, 22, .inl (fun zz => nI (P zz)))), (r0, .inr (1, [.ref q1, .ref q2, .ref q3, .int (nI sv), .int (nI n), .long co])), (q1, .inl (cL, 49, .inr (.inl wz))), (q2, .inl (cL, 32, .inr (.inl bz))), (q3, .inl (cL, 32, .inr (.inl fz)))] sz)) 0 0 (va_A [(x0, .inr (5, [.ref pa, .ref t0, .ref y0, .ref r0, .ref a0, .ref b0, .ref s0, .int (nI fa), .long un])), (pa, .inl (cI, 22, .inl (fun zz => nI (P zz)))), (r0, .inr (1, [.ref q1, .ref q2, .ref q3, .int (nI sv), .int (nI n), .long co])), (q1, .inl (cL, 49, .inr (.inl wz))), (q2, .inl (cL, 32, .inr (.inl bz))), (q3, .inl (cL, 32, .inr (.inl fz)))] sz) := by
  refine kmet (by decide) ?_
  intro p e s m args below meth c Y hr hlocks hin hv
  obtain ⟨rfl, A, hAe, hsz, hP, hK, hD, hZ, hA⟩ := kinQ hv
  rw [hAe]
  have hS : va_S A s.heap s.heap [] := va_S.rf
  have hx := Y.1
  have hb := Y.2.1
  have hml := Y.2.2.1
  have hown := Y.2.2.2.1
  have hts := Y.2.2.2.2
  have hl := lv_entry ([.ref x0, .int a, .int b]) (n := 3) (Nat.le_of_ble_eq_true rfl)
  rw [lg_entry_eq]
  generalize (lg_sl ([.ref x0, .int a, .int b]) ++ List.replicate (3 - (lg_sl ([.ref x0, .int a, .int b])).length) Slot.unset).toArray = ls at hl ⊢
  have hl : lv_has ls 3 [(0, .ref x0), (1, .int a), (2, .int b)] := hl
  have hp0 := hPI.1
  have hp1 := hPI.2.1
  have hp2 := hPI.2.2.1
  refine lv_aload_n hx hb dX5_worth_0 rfl (lv_at hl 0 rfl) ?_
  refine lv_iload_n hx hb dX5_worth_1 rfl (lv_at hl 1 rfl) ?_
  refine kVi (As := [.int a]) (rest := []) Y m_X5_isNoCandidate (c_X5_isNoCandidate l dC dI cI cL x0 pa t0 y0 r0 a0 b0 s0 fa un P a ) qm_X5_109 (kpV (ci := 5) hK hP hZ hS [0, 1] [0] rfl rfl 0 rfl rfl rfl) rfl hl.1 rfl (Nat.le_of_ble_eq_true rfl) dX5_worth_2 ⟨Nat.le_of_ble_eq_true rfl, Nat.le_of_ble_eq_true rfl⟩ ⟨Nat.zero_le _, Nat.zero_le _⟩ (fun r2 hr2 => ?_)
  obtain rfl : r2 = b2i (¬ (nI 1 ≤ a ∧ a ≤ nI (P 0))) := hr2
  refine ri_bne (tgt := 18) hx hb dX5_worth_5 (by decide) (fun c5 => ?_) (fun c5 => ?_)
  · refine lv_ldc2 (v := (-4000000000000000000)) hx hb hown (hts _ ql_X5_112) dX5_worth_18 ?_
    exact kql (w1 := (fun u : Int64 × Nat × Nat × Int64 × (Nat → Int64) × (Nat → Int64) × (Nat → Int64) => [(x0, .inr (5, [.ref pa, .ref t0, .ref y0, .ref r0, .ref a0, .ref b0, .ref s0, .int (nI fa), .long u.1])), (pa, .inl (cI, 22, .inl (fun zz => nI (P zz)))), (r0, .inr (1, [.ref q1, .ref q2, .ref q3, .int (nI u.2.1), .int (nI u.2.2.1), .long u.2.2.2.1])), (q1, .inl (cL, 49, .inr (.inl u.2.2.2.2.1))), (q2, .inl (cL, 32, .inr (.inl u.2.2.2.2.2.1))), (q3, .inl (cL, 32, .inr (.inl u.2.2.2.2.2.2)))])) (v := (-4000000000000000000)) Y hr hlocks hK hP hD hS [0, 1, 2, 3, 4, 5] (by decide) (un, sv, n, co, wz, bz, fz) rfl ⟨frO_f (fun q => c5 q.1), hRI⟩ dX5_worth_21
  · refine lv_iload_n hx hb dX5_worth_8 rfl (lv_at hl 2 rfl) ?_
    refine lv_iconst (v := nI 1) hx hb dX5_worth_9 (by decide) ?_
    refine lv_icmp_lt (tgt := 18) hx hb dX5_worth_10 (by decide) (fun c10 => ?_) (fun c10 => ?_)
    · refine lv_ldc2 (v := (-4000000000000000000)) hx hb hown (hts _ ql_X5_112) dX5_worth_18 ?_
      exact kql (w1 := (fun u : Int64 × Nat × Nat × Int64 × (Nat → Int64) × (Nat → Int64) × (Nat → Int64) => [(x0, .inr (5, [.ref pa, .ref t0, .ref y0, .ref r0, .ref a0, .ref b0, .ref s0, .int (nI fa), .long u.1])), (pa, .inl (cI, 22, .inl (fun zz => nI (P zz)))), (r0, .inr (1, [.ref q1, .ref q2, .ref q3, .int (nI u.2.1), .int (nI u.2.2.1), .long u.2.2.2.1])), (q1, .inl (cL, 49, .inr (.inl u.2.2.2.2.1))), (q2, .inl (cL, 32, .inr (.inl u.2.2.2.2.2.1))), (q3, .inl (cL, 32, .inr (.inl u.2.2.2.2.2.2)))])) (v := (-4000000000000000000)) Y hr hlocks hK hP hD hS [0, 1, 2, 3, 4, 5] (by decide) (un, sv, n, co, wz, bz, fz) rfl ⟨frO_f (fun q => absurd c10 (Int32.not_lt.mpr q.2.1)), hRI⟩ dX5_worth_21
    · refine lv_iload_n hx hb dX5_worth_13 rfl (lv_at hl 2 rfl) ?_
      refine lv_iload_n hx hb dX5_worth_14 rfl (lv_at hl 1 rfl) ?_
      refine lv_icmp_le (tgt := 22) hx hb dX5_worth_15 (by decide) (fun c15 => ?_) (fun c15 => ?_)
      · have cA := Decidable.not_not.mp c5
        have cB := And.intro (Int32.not_lt.mp c10) c15
        obtain ⟨xa, rfl, hxa1, hxa2⟩ := in_n (by decide) (by omega) cA
        obtain ⟨xb, rfl, hxb1, hxb2⟩ := in_n (by decide) (by omega) cB
        refine lv_aload_n hx hb dX5_worth_22 rfl (lv_at hl 0 rfl) ?_
        refine va_get (D := (dC, dI)) (ci := 5) (v := .ref r0) (C := RX5) (T := TX5) (N := 9) hx hb hts inlX5 hown hK hP 0 rfl rfl 3 (by decide) (hts _ qf_X5_39) (fun _ h9 => h9) rfl dX5_worth_23 ?_
        refine lv_aload_n hx hb dX5_worth_26 rfl (lv_at hl 0 rfl) ?_
        refine va_get (D := (dC, dI)) (ci := 5) (v := .ref pa) (C := RX5) (T := TX5) (N := 9) hx hb hts inlX5 hown hK hP 0 rfl rfl 0 (by decide) (hts _ qf_X5_9) (fun _ h9 => h9) rfl dX5_worth_27 ?_
        refine kQv (As := [.ref pa]) (rest := []) (wr := [(x0, .inr (5, [.ref pa, .ref t0, .ref y0, .ref r0, .ref a0, .ref b0, .ref s0, .int (nI fa), .long un]))]) Y m_X1_solve (c_X1_solve l dC dI _ cL cI r0 q1 q2 q3 pa wz bz fz P sv n co hPI hRI) qm_X5_114 hP hD hS hA [2, 3, 4, 5, 1] [0] rfl rfl (by decide) (by decide) (kqV (ci := 1) hK hP hD hZ hS hA [2, 3, 4, 5, 1] [1, 0] rfl (by decide) rfl 0 rfl rfl rfl) rfl hl.1 rfl (Nat.le_of_ble_eq_true rfl) dX5_worth_30 ⟨Nat.le_of_ble_eq_true rfl, Nat.le_of_ble_eq_true rfl⟩ ⟨Nat.zero_le _, Nat.zero_le _⟩ (fun u30 H locs hr30 hP hD hS => ?_)
        obtain ⟨w2_30, b2_30, n2_30, co2_30⟩ := u30
        have hP : va_P (dC, dI) vwCl [(x0, .inr (5, [.ref pa, .ref t0, .ref y0, .ref r0, .ref a0, .ref b0, .ref s0, .int (nI fa), .long un])), (r0, .inr (1, [.ref q1, .ref q2, .ref q3, .int (nI 1), .int (nI n2_30), .long co2_30])), (q1, .inl (cL, 49, .inr (.inl w2_30))), (q2, .inl (cL, 32, .inr (.inl b2_30))), (q3, .inl (cL, 32, .inr (.inl fz))), (pa, .inl (cI, 22, .inl (fun zz => nI (P zz))))] H := hP
        have hD : va_D A [(x0, .inr (5, [.ref pa, .ref t0, .ref y0, .ref r0, .ref a0, .ref b0, .ref s0, .int (nI fa), .long un])), (r0, .inr (1, [.ref q1, .ref q2, .ref q3, .int (nI 1), .int (nI n2_30), .long co2_30])), (q1, .inl (cL, 49, .inr (.inl w2_30))), (q2, .inl (cL, 32, .inr (.inl b2_30))), (q3, .inl (cL, 32, .inr (.inl fz))), (pa, .inl (cI, 22, .inl (fun zz => nI (P zz))))] := hD
        have hr30 : RS P w2_30 b2_30 n2_30 co2_30 := hr30
        refine lv_aload_n hx hb dX5_worth_33 rfl (lv_at hl 0 rfl) ?_
        refine lv_aload_n hx hb dX5_worth_34 rfl (lv_at hl 0 rfl) ?_
        refine va_get (D := (dC, dI)) (ci := 5) (v := .ref r0) (C := RX5) (T := TX5) (N := 9) hx hb hts inlX5 hown hK hP 0 rfl rfl 3 (by decide) (hts _ qf_X5_39) (fun _ h9 => h9) rfl dX5_worth_35 ?_
        refine lv_iload_n hx hb dX5_worth_38 rfl (lv_at hl 1 rfl) ?_
        refine lv_iload_n hx hb dX5_worth_39 rfl (lv_at hl 2 rfl) ?_
        refine kVl (As := [.int (nI xa), .int (nI xb)]) (rest := [.ref x0]) Y m_X1_worthOf (c_X1_worthOf l dC dI cL r0 q1 q2 q3 w2_30 b2_30 fz 1 n2_30 co2_30 xa xb (by omega) (by omega) (by omega) (by omega)) qm_X5_117 (kpV (ci := 1) hK hP hZ hS [1, 2, 3, 4] [1] rfl rfl 0 rfl rfl rfl) rfl hl.1 rfl (Nat.le_of_ble_eq_true rfl) dX5_worth_40 ⟨Nat.le_of_ble_eq_true rfl, Nat.le_of_ble_eq_true rfl⟩ ⟨Nat.zero_le _, Nat.zero_le _⟩ (fun r40 hr40 => ?_)
        obtain rfl : r40 = w2_30 ((((xa - 1) * 7) + xb) - 1) := hr40
        refine rl_set (x' := iN (420 * ((Wo P xa xb : Nat) : Int))) ((hr30.2.2.1 xa xb (by omega) (by omega) (by omega) (by omega)).trans (l420 _)) ?_
        have hwo := Wo_le hPI (i := xa) (r := xb) (by omega) (by omega) (by omega)
        refine lv_ldc2 (v := lN 2116800) hx hb hown (hts _ ql_X5_121) dX5_worth_43 ?_
        refine kQl (As := [.long (iN (420 * ((Wo P xa xb : Nat) : Int))), .long (lN 2116800)]) (rest := []) (wr := [(r0, .inr (1, [.ref q1, .ref q2, .ref q3, .int (nI 1), .int (nI n2_30), .long co2_30])), (q1, .inl (cL, 49, .inr (.inl w2_30))), (q2, .inl (cL, 32, .inr (.inl b2_30))), (q3, .inl (cL, 32, .inr (.inl fz))), (pa, .inl (cI, 22, .inl (fun zz => nI (P zz))))]) Y m_X5_fraction (c_X5_fraction l dC dI H.size cI cL x0 pa t0 y0 r0 a0 b0 s0 fa un (420 * ((Wo P xa xb : Nat) : Int)) 2116800 (by omega) (by omega) (by omega) (by omega)) qm_X5_123 hP hD hS hA [0] [1, 2, 3, 4, 5] rfl rfl (by decide) (by decide) (kqV (ci := 5) hK hP hD hZ hS hA [0] [] rfl (by decide) rfl 0 rfl rfl rfl) rfl hl.1 rfl (Nat.le_of_ble_eq_true rfl) dX5_worth_46 ⟨Nat.le_of_ble_eq_true rfl, Nat.le_of_ble_eq_true rfl⟩ ⟨Nat.zero_le _, Nat.zero_le _⟩ (fun r46 u46 H locs hr46 hP hD hS => ?_)
        have hP : va_P (dC, dI) vwCl [(r0, .inr (1, [.ref q1, .ref q2, .ref q3, .int (nI 1), .int (nI n2_30), .long co2_30])), (q1, .inl (cL, 49, .inr (.inl w2_30))), (q2, .inl (cL, 32, .inr (.inl b2_30))), (q3, .inl (cL, 32, .inr (.inl fz))), (pa, .inl (cI, 22, .inl (fun zz => nI (P zz)))), (x0, .inr (5, [.ref pa, .ref t0, .ref y0, .ref r0, .ref a0, .ref b0, .ref s0, .int (nI fa), .long (lN (FRd (420 * ((Wo P xa xb : Nat) : Int)) 2116800))]))] H := hP
        have hD : va_D A [(r0, .inr (1, [.ref q1, .ref q2, .ref q3, .int (nI 1), .int (nI n2_30), .long co2_30])), (q1, .inl (cL, 49, .inr (.inl w2_30))), (q2, .inl (cL, 32, .inr (.inl b2_30))), (q3, .inl (cL, 32, .inr (.inl fz))), (pa, .inl (cI, 22, .inl (fun zz => nI (P zz)))), (x0, .inr (5, [.ref pa, .ref t0, .ref y0, .ref r0, .ref a0, .ref b0, .ref s0, .int (nI fa), .long (lN (FRd (420 * ((Wo P xa xb : Nat) : Int)) 2116800))]))] := hD
        obtain rfl : r46 = iN (FRn (420 * ((Wo P xa xb : Nat) : Int)) 2116800) := hr46
        exact kql (w1 := (fun u : Int64 × Nat × Nat × Int64 × (Nat → Int64) × (Nat → Int64) × (Nat → Int64) => [(x0, .inr (5, [.ref pa, .ref t0, .ref y0, .ref r0, .ref a0, .ref b0, .ref s0, .int (nI fa), .long u.1])), (pa, .inl (cI, 22, .inl (fun zz => nI (P zz)))), (r0, .inr (1, [.ref q1, .ref q2, .ref q3, .int (nI u.2.1), .int (nI u.2.2.1), .long u.2.2.2.1])), (q1, .inl (cL, 49, .inr (.inl u.2.2.2.2.1))), (q2, .inl (cL, 32, .inr (.inl u.2.2.2.2.2.1))), (q3, .inl (cL, 32, .inr (.inl u.2.2.2.2.2.2)))])) (v := iN (FRn (420 * ((Wo P xa xb : Nat) : Int)) 2116800)) Y hr hlocks hK hP hD hS [5, 4, 0, 1, 2, 3] (by decide) (lN (FRd (420 * ((Wo P xa xb : Nat) : Int)) 2116800), 1, n2_30, co2_30, w2_30, b2_30, fz) rfl ⟨by rw [nO_n (n := xa) (by omega), nO_n (n := xb) (by omega)]; exact frO_q ⟨cA, cB⟩, RI_1 hr30⟩ dX5_worth_49
      · refine lv_ldc2 (v := (-4000000000000000000)) hx hb hown (hts _ ql_X5_112) dX5_worth_18 ?_
        exact kql (w1 := (fun u : Int64 × Nat × Nat × Int64 × (Nat → Int64) × (Nat → Int64) × (Nat → Int64) => [(x0, .inr (5, [.ref pa, .ref t0, .ref y0, .ref r0, .ref a0, .ref b0, .ref s0, .int (nI fa), .long u.1])), (pa, .inl (cI, 22, .inl (fun zz => nI (P zz)))), (r0, .inr (1, [.ref q1, .ref q2, .ref q3, .int (nI u.2.1), .int (nI u.2.2.1), .long u.2.2.2.1])), (q1, .inl (cL, 49, .inr (.inl u.2.2.2.2.1))), (q2, .inl (cL, 32, .inr (.inl u.2.2.2.2.2.1))), (q3, .inl (cL, 32, .inr (.inl u.2.2.2.2.2.2)))])) (v := (-4000000000000000000)) Y hr hlocks hK hP hD hS [0, 1, 2, 3, 4, 5] (by decide) (un, sv, n, co, wz, bz, fz) rfl ⟨frO_f (fun q => c15 q.2.2), hRI⟩ dX5_worth_21
set_option maxHeartbeats 4000000 in
set_option maxRecDepth 100000 in
theorem c_X5_rankValue (l : Launch) (dC : Nat → ClassId) (dI : Nat → Nat → Nat) (sz : Nat) (cI cL : ClassId) (x0 pa t0 y0 r0 a0 b0 s0 : Nat) (fa : Nat) (un : Int64) (q1 q2 q3 : Nat) (wz bz fz : Nat → Int64) (sv n : Nat) (co : Int64) (P : Nat → Nat) (a b : Int32) (hPI : PI P) (hRI : RI P sv wz bz n co) : Met l yX5_rankValue (kw yX5_rankValue cX5_rankValue 3 (some .long)) (kR 3 79) (kPq (dC, dI) [.ref x0, .int a, .int b] sz [(x0, .inr (5, [.ref pa, .ref t0, .ref y0, .ref r0, .ref a0, .ref b0, .ref s0, .int (nI fa), .long un])), (pa, .inl (cI, 22, .inl (fun zz => nI (P zz)))), (r0, .inr (1, [.ref q1, .ref q2, .ref q3, .int (nI sv), .int (nI n), .long co])), (q1, .inl (cL, 49, .inr (.inl wz))), (q2, .inl (cL, 32, .inr (.inl bz))), (q3, .inl (cL, 32, .inr (.inl fz)))] [(cI, .int), (cL, .long)]) (va_Ql (fun (res : Int64) (u : Int64 × Nat × Nat × Int64 × (Nat → Int64) × (Nat → Int64) × (Nat → Int64)) => (res, u.1) = frO ((nI 1 ≤ a ∧ a ≤ nI (P 0 + 1)) ∧ (nI 0 ≤ b ∧ b ≤ nI (P 1))) ((VR P (P 0 + 1 - nO a) (nO b) : Nat) : Int) 5040 un ∧ RI P u.2.1 u.2.2.2.2.1 u.2.2.2.2.2.1 u.2.2.1 u.2.2.2.1) (fun u : Int64 × Nat × Nat × Int64 × (Nat → Int64) × (Nat → Int64) × (Nat → Int64) => kB (dC, dI) [(cI, .int), (cL, .long)] (va_A [(x0, .inr (5, [.ref pa, .ref t0, .ref y0, .ref r0, .ref a0, .ref b0, .ref s0, .int (nI fa), .long un])), (pa, .inl (cI, 22, .inl (fun zz => nI (P zz)))), (r0, .inr (1, [.ref q1, .ref q2, .ref q3, .int (nI sv), .int (nI n), .long co])), (q1, .inl (cL, 49, .inr (.inl wz))), (q2, .inl (cL, 32, .inr (.inl bz))), (q3, .inl (cL, 32, .inr (.inl fz)))] sz) ([(x0, .inr (5, [.ref pa, .ref t0, .ref y0, .ref r0, .ref a0, .ref b0, .ref s0, .int (nI fa), .long u.1])), (pa, .inl (cI, 22, .inl (fun zz => nI (P zz)))), (r0, .inr (1, [.ref q1, .ref q2, .ref q3, .int (nI u.2.1), .int (nI u.2.2.1), .long u.2.2.2.1])), (q1, .inl (cL, 49, .inr (.inl u.2.2.2.2.1))), (q2, .inl (cL, 32, .inr (.inl u.2.2.2.2.2.1))), (q3, .inl (cL, 32, .inr (.inl u.2.2.2.2.2.2)))])) (va_A [(x0, .inr (5, [.ref pa, .ref t0, .ref y0, .ref r0, .ref a0, .ref b0, .ref s0, .int (nI fa), .long un])), (pa, .inl (cI, 22, .inl (fun zz => nI (P zz)))), (r0, .inr (1, [.ref q1, .ref q2, .ref q3, .int (nI sv), .int (nI n), .long co])), (q1, .inl (cL, 49, .inr (.inl wz))), (q2, .inl (cL, 32, .inr (.inl bz))), (q3, .inl (cL, 32, .inr (.inl fz)))] sz)) 0 0 (va_A [(x0, .inr (5, [.ref pa, .ref t0, .ref y0, .ref r0, .ref a0, .ref b0, .ref s0, .int (nI fa), .long un])), (pa, .inl (cI, 22, .inl (fun zz => nI (P zz)))), (r0, .inr (1, [.ref q1, .ref q2, .ref q3, .int (nI sv), .int (nI n), .long co])), (q1, .inl (cL, 49, .inr (.inl wz))), (q2, .inl (cL, 32, .inr (.inl bz))), (q3, .inl (cL, 32, .inr (.inl fz)))] sz) := by
  refine kmet (by decide) ?_
  intro p e s m args below meth c Y hr hlocks hin hv
  obtain ⟨rfl, A, hAe, hsz, hP, hK, hD, hZ, hA⟩ := kinQ hv
  rw [hAe]
  have hS : va_S A s.heap s.heap [] := va_S.rf
  have hx := Y.1
  have hb := Y.2.1
  have hml := Y.2.2.1
  have hown := Y.2.2.2.1
  have hts := Y.2.2.2.2
  have hl := lv_entry ([.ref x0, .int a, .int b]) (n := 3) (Nat.le_of_ble_eq_true rfl)
  rw [lg_entry_eq]
  generalize (lg_sl ([.ref x0, .int a, .int b]) ++ List.replicate (3 - (lg_sl ([.ref x0, .int a, .int b])).length) Slot.unset).toArray = ls at hl ⊢
  have hl : lv_has ls 3 [(0, .ref x0), (1, .int a), (2, .int b)] := hl
  have hp0 := hPI.1
  have hp1 := hPI.2.1
  have hp2 := hPI.2.2.1
  refine lv_aload_n hx hb dX5_rankValue_0 rfl (lv_at hl 0 rfl) ?_
  refine lv_iload_n hx hb dX5_rankValue_1 rfl (lv_at hl 1 rfl) ?_
  refine kVi (As := [.int a]) (rest := []) Y m_X5_isNoPlace (c_X5_isNoPlace l dC dI cI cL x0 pa t0 y0 r0 a0 b0 s0 fa un P a ) qm_X5_127 (kpV (ci := 5) hK hP hZ hS [0, 1] [0] rfl rfl 0 rfl rfl rfl) rfl hl.1 rfl (Nat.le_of_ble_eq_true rfl) dX5_rankValue_2 ⟨Nat.le_of_ble_eq_true rfl, Nat.le_of_ble_eq_true rfl⟩ ⟨Nat.zero_le _, Nat.zero_le _⟩ (fun r2 hr2 => ?_)
  obtain rfl : r2 = b2i (¬ (nI 1 ≤ a ∧ a ≤ nI (P 0 + 1))) := hr2
  refine ri_bne (tgt := 16) hx hb dX5_rankValue_5 (by decide) (fun c5 => ?_) (fun c5 => ?_)
  · refine lv_ldc2 (v := (-4000000000000000000)) hx hb hown (hts _ ql_X5_112) dX5_rankValue_16 ?_
    exact kql (w1 := (fun u : Int64 × Nat × Nat × Int64 × (Nat → Int64) × (Nat → Int64) × (Nat → Int64) => [(x0, .inr (5, [.ref pa, .ref t0, .ref y0, .ref r0, .ref a0, .ref b0, .ref s0, .int (nI fa), .long u.1])), (pa, .inl (cI, 22, .inl (fun zz => nI (P zz)))), (r0, .inr (1, [.ref q1, .ref q2, .ref q3, .int (nI u.2.1), .int (nI u.2.2.1), .long u.2.2.2.1])), (q1, .inl (cL, 49, .inr (.inl u.2.2.2.2.1))), (q2, .inl (cL, 32, .inr (.inl u.2.2.2.2.2.1))), (q3, .inl (cL, 32, .inr (.inl u.2.2.2.2.2.2)))])) (v := (-4000000000000000000)) Y hr hlocks hK hP hD hS [0, 1, 2, 3, 4, 5] (by decide) (un, sv, n, co, wz, bz, fz) rfl ⟨frO_f (fun q => c5 q.1), hRI⟩ dX5_rankValue_19
  · refine lv_aload_n hx hb dX5_rankValue_8 rfl (lv_at hl 0 rfl) ?_
    refine lv_iload_n hx hb dX5_rankValue_9 rfl (lv_at hl 2 rfl) ?_
    refine kVi (As := [.int b]) (rest := []) Y m_X5_isNoNumberLeft (c_X5_isNoNumberLeft l dC dI cI cL x0 pa t0 y0 r0 a0 b0 s0 fa un P b ) qm_X5_130 (kpV (ci := 5) hK hP hZ hS [0, 1] [0] rfl rfl 0 rfl rfl rfl) rfl hl.1 rfl (Nat.le_of_ble_eq_true rfl) dX5_rankValue_10 ⟨Nat.le_of_ble_eq_true rfl, Nat.le_of_ble_eq_true rfl⟩ ⟨Nat.zero_le _, Nat.zero_le _⟩ (fun r10 hr10 => ?_)
    obtain rfl : r10 = b2i (¬ (nI 0 ≤ b ∧ b ≤ nI (P 1))) := hr10
    refine ri_beq (tgt := 20) hx hb dX5_rankValue_13 (by decide) (fun c13 => ?_) (fun c13 => ?_)
    · have cA := Decidable.not_not.mp c5
      have cB := Decidable.not_not.mp c13
      obtain ⟨xa, rfl, hxa1, hxa2⟩ := in_n (by decide) (by omega) cA
      obtain ⟨xb, rfl, hxb1, hxb2⟩ := in_n (by decide) (by omega) cB
      refine lv_aload_n hx hb dX5_rankValue_20 rfl (lv_at hl 0 rfl) ?_
      refine va_get (D := (dC, dI)) (ci := 5) (v := .ref r0) (C := RX5) (T := TX5) (N := 9) hx hb hts inlX5 hown hK hP 0 rfl rfl 3 (by decide) (hts _ qf_X5_39) (fun _ h9 => h9) rfl dX5_rankValue_21 ?_
      refine lv_aload_n hx hb dX5_rankValue_24 rfl (lv_at hl 0 rfl) ?_
      refine va_get (D := (dC, dI)) (ci := 5) (v := .ref pa) (C := RX5) (T := TX5) (N := 9) hx hb hts inlX5 hown hK hP 0 rfl rfl 0 (by decide) (hts _ qf_X5_9) (fun _ h9 => h9) rfl dX5_rankValue_25 ?_
      refine kQv (As := [.ref pa]) (rest := []) (wr := [(x0, .inr (5, [.ref pa, .ref t0, .ref y0, .ref r0, .ref a0, .ref b0, .ref s0, .int (nI fa), .long un]))]) Y m_X1_solve (c_X1_solve l dC dI _ cL cI r0 q1 q2 q3 pa wz bz fz P sv n co hPI hRI) qm_X5_114 hP hD hS hA [2, 3, 4, 5, 1] [0] rfl rfl (by decide) (by decide) (kqV (ci := 1) hK hP hD hZ hS hA [2, 3, 4, 5, 1] [1, 0] rfl (by decide) rfl 0 rfl rfl rfl) rfl hl.1 rfl (Nat.le_of_ble_eq_true rfl) dX5_rankValue_28 ⟨Nat.le_of_ble_eq_true rfl, Nat.le_of_ble_eq_true rfl⟩ ⟨Nat.zero_le _, Nat.zero_le _⟩ (fun u28 H locs hr28 hP hD hS => ?_)
      obtain ⟨w2_28, b2_28, n2_28, co2_28⟩ := u28
      have hP : va_P (dC, dI) vwCl [(x0, .inr (5, [.ref pa, .ref t0, .ref y0, .ref r0, .ref a0, .ref b0, .ref s0, .int (nI fa), .long un])), (r0, .inr (1, [.ref q1, .ref q2, .ref q3, .int (nI 1), .int (nI n2_28), .long co2_28])), (q1, .inl (cL, 49, .inr (.inl w2_28))), (q2, .inl (cL, 32, .inr (.inl b2_28))), (q3, .inl (cL, 32, .inr (.inl fz))), (pa, .inl (cI, 22, .inl (fun zz => nI (P zz))))] H := hP
      have hD : va_D A [(x0, .inr (5, [.ref pa, .ref t0, .ref y0, .ref r0, .ref a0, .ref b0, .ref s0, .int (nI fa), .long un])), (r0, .inr (1, [.ref q1, .ref q2, .ref q3, .int (nI 1), .int (nI n2_28), .long co2_28])), (q1, .inl (cL, 49, .inr (.inl w2_28))), (q2, .inl (cL, 32, .inr (.inl b2_28))), (q3, .inl (cL, 32, .inr (.inl fz))), (pa, .inl (cI, 22, .inl (fun zz => nI (P zz))))] := hD
      have hr28 : RS P w2_28 b2_28 n2_28 co2_28 := hr28
      refine lv_aload_n hx hb dX5_rankValue_31 rfl (lv_at hl 0 rfl) ?_
      refine lv_aload_n hx hb dX5_rankValue_32 rfl (lv_at hl 0 rfl) ?_
      refine va_get (D := (dC, dI)) (ci := 5) (v := .ref r0) (C := RX5) (T := TX5) (N := 9) hx hb hts inlX5 hown hK hP 0 rfl rfl 3 (by decide) (hts _ qf_X5_39) (fun _ h9 => h9) rfl dX5_rankValue_33 ?_
      refine lv_iload_n hx hb dX5_rankValue_36 rfl (lv_at hl 1 rfl) ?_
      refine lv_iload_n hx hb dX5_rankValue_37 rfl (lv_at hl 2 rfl) ?_
      refine kVl (As := [.int (nI xa), .int (nI xb)]) (rest := [.ref x0]) Y m_X1_valueBefore (c_X1_valueBefore l dC dI cL r0 q1 q2 q3 w2_28 b2_28 fz 1 n2_28 co2_28 xa xb (by omega) (by omega) (by omega)) qm_X5_133 (kpV (ci := 1) hK hP hZ hS [1, 2, 3, 4] [1] rfl rfl 0 rfl rfl rfl) rfl hl.1 rfl (Nat.le_of_ble_eq_true rfl) dX5_rankValue_38 ⟨Nat.le_of_ble_eq_true rfl, Nat.le_of_ble_eq_true rfl⟩ ⟨Nat.zero_le _, Nat.zero_le _⟩ (fun r38 hr38 => ?_)
      obtain rfl : r38 = b2_28 (((xa - 1) * 4) + xb) := hr38
      refine rl_set (x' := iN (420 * ((VR P (P 0 + 1 - xa) xb : Nat) : Int))) ((hr28.2.2.2 xa xb (by omega) (by omega) (by omega)).trans (l420 _)) ?_
      have hwo := VR3 hPI (d := P 0 + 1 - xa) (j := xb) (by omega) (by omega)
      refine lv_ldc2 (v := lN 2116800) hx hb hown (hts _ ql_X5_121) dX5_rankValue_41 ?_
      refine kQl (As := [.long (iN (420 * ((VR P (P 0 + 1 - xa) xb : Nat) : Int))), .long (lN 2116800)]) (rest := []) (wr := [(r0, .inr (1, [.ref q1, .ref q2, .ref q3, .int (nI 1), .int (nI n2_28), .long co2_28])), (q1, .inl (cL, 49, .inr (.inl w2_28))), (q2, .inl (cL, 32, .inr (.inl b2_28))), (q3, .inl (cL, 32, .inr (.inl fz))), (pa, .inl (cI, 22, .inl (fun zz => nI (P zz))))]) Y m_X5_fraction (c_X5_fraction l dC dI H.size cI cL x0 pa t0 y0 r0 a0 b0 s0 fa un (420 * ((VR P (P 0 + 1 - xa) xb : Nat) : Int)) 2116800 (by omega) (by omega) (by omega) (by omega)) qm_X5_123 hP hD hS hA [0] [1, 2, 3, 4, 5] rfl rfl (by decide) (by decide) (kqV (ci := 5) hK hP hD hZ hS hA [0] [] rfl (by decide) rfl 0 rfl rfl rfl) rfl hl.1 rfl (Nat.le_of_ble_eq_true rfl) dX5_rankValue_44 ⟨Nat.le_of_ble_eq_true rfl, Nat.le_of_ble_eq_true rfl⟩ ⟨Nat.zero_le _, Nat.zero_le _⟩ (fun r44 u44 H locs hr44 hP hD hS => ?_)
      have hP : va_P (dC, dI) vwCl [(r0, .inr (1, [.ref q1, .ref q2, .ref q3, .int (nI 1), .int (nI n2_28), .long co2_28])), (q1, .inl (cL, 49, .inr (.inl w2_28))), (q2, .inl (cL, 32, .inr (.inl b2_28))), (q3, .inl (cL, 32, .inr (.inl fz))), (pa, .inl (cI, 22, .inl (fun zz => nI (P zz)))), (x0, .inr (5, [.ref pa, .ref t0, .ref y0, .ref r0, .ref a0, .ref b0, .ref s0, .int (nI fa), .long (lN (FRd (420 * ((VR P (P 0 + 1 - xa) xb : Nat) : Int)) 2116800))]))] H := hP
      have hD : va_D A [(r0, .inr (1, [.ref q1, .ref q2, .ref q3, .int (nI 1), .int (nI n2_28), .long co2_28])), (q1, .inl (cL, 49, .inr (.inl w2_28))), (q2, .inl (cL, 32, .inr (.inl b2_28))), (q3, .inl (cL, 32, .inr (.inl fz))), (pa, .inl (cI, 22, .inl (fun zz => nI (P zz)))), (x0, .inr (5, [.ref pa, .ref t0, .ref y0, .ref r0, .ref a0, .ref b0, .ref s0, .int (nI fa), .long (lN (FRd (420 * ((VR P (P 0 + 1 - xa) xb : Nat) : Int)) 2116800))]))] := hD
      obtain rfl : r44 = iN (FRn (420 * ((VR P (P 0 + 1 - xa) xb : Nat) : Int)) 2116800) := hr44
      exact kql (w1 := (fun u : Int64 × Nat × Nat × Int64 × (Nat → Int64) × (Nat → Int64) × (Nat → Int64) => [(x0, .inr (5, [.ref pa, .ref t0, .ref y0, .ref r0, .ref a0, .ref b0, .ref s0, .int (nI fa), .long u.1])), (pa, .inl (cI, 22, .inl (fun zz => nI (P zz)))), (r0, .inr (1, [.ref q1, .ref q2, .ref q3, .int (nI u.2.1), .int (nI u.2.2.1), .long u.2.2.2.1])), (q1, .inl (cL, 49, .inr (.inl u.2.2.2.2.1))), (q2, .inl (cL, 32, .inr (.inl u.2.2.2.2.2.1))), (q3, .inl (cL, 32, .inr (.inl u.2.2.2.2.2.2)))])) (v := iN (FRn (420 * ((VR P (P 0 + 1 - xa) xb : Nat) : Int)) 2116800)) Y hr hlocks hK hP hD hS [5, 4, 0, 1, 2, 3] (by decide) (lN (FRd (420 * ((VR P (P 0 + 1 - xa) xb : Nat) : Int)) 2116800), 1, n2_28, co2_28, w2_28, b2_28, fz) rfl ⟨by rw [nO_n (n := xa) (by omega), nO_n (n := xb) (by omega)]; exact frO_q ⟨cA, cB⟩, RI_1 hr28⟩ dX5_rankValue_47
    · refine lv_ldc2 (v := (-4000000000000000000)) hx hb hown (hts _ ql_X5_112) dX5_rankValue_16 ?_
      exact kql (w1 := (fun u : Int64 × Nat × Nat × Int64 × (Nat → Int64) × (Nat → Int64) × (Nat → Int64) => [(x0, .inr (5, [.ref pa, .ref t0, .ref y0, .ref r0, .ref a0, .ref b0, .ref s0, .int (nI fa), .long u.1])), (pa, .inl (cI, 22, .inl (fun zz => nI (P zz)))), (r0, .inr (1, [.ref q1, .ref q2, .ref q3, .int (nI u.2.1), .int (nI u.2.2.1), .long u.2.2.2.1])), (q1, .inl (cL, 49, .inr (.inl u.2.2.2.2.1))), (q2, .inl (cL, 32, .inr (.inl u.2.2.2.2.2.1))), (q3, .inl (cL, 32, .inr (.inl u.2.2.2.2.2.2)))])) (v := (-4000000000000000000)) Y hr hlocks hK hP hD hS [0, 1, 2, 3, 4, 5] (by decide) (un, sv, n, co, wz, bz, fz) rfl ⟨frO_f (fun q => c13 q.2), hRI⟩ dX5_rankValue_19
set_option maxHeartbeats 4000000 in
set_option maxRecDepth 100000 in
theorem c_X5_choosesRank (l : Launch) (dC : Nat → ClassId) (dI : Nat → Nat → Nat) (sz : Nat) (cI cL : ClassId) (x0 pa t0 y0 r0 a0 b0 s0 : Nat) (fa : Nat) (un : Int64) (q1 q2 q3 : Nat) (wz bz fz : Nat → Int64) (sv n : Nat) (co : Int64) (P : Nat → Nat) (a b v : Int32) (hPI : PI P) (hRI : RI P sv wz bz n co) : Met l yX5_choosesRank (kw yX5_choosesRank cX5_choosesRank 4 (some .int)) (kR 3 75) (kPq (dC, dI) [.ref x0, .int a, .int b, .int v] sz [(x0, .inr (5, [.ref pa, .ref t0, .ref y0, .ref r0, .ref a0, .ref b0, .ref s0, .int (nI fa), .long un])), (pa, .inl (cI, 22, .inl (fun zz => nI (P zz)))), (r0, .inr (1, [.ref q1, .ref q2, .ref q3, .int (nI sv), .int (nI n), .long co])), (q1, .inl (cL, 49, .inr (.inl wz))), (q2, .inl (cL, 32, .inr (.inl bz))), (q3, .inl (cL, 32, .inr (.inl fz)))] [(cI, .int), (cL, .long)]) (va_Qi (fun (res : Int32) (u : Nat × Nat × Int64 × (Nat → Int64) × (Nat → Int64) × (Nat → Int64)) => res = chO P a b v ∧ RI P u.1 u.2.2.2.1 u.2.2.2.2.1 u.2.1 u.2.2.1) (fun u : Nat × Nat × Int64 × (Nat → Int64) × (Nat → Int64) × (Nat → Int64) => kB (dC, dI) [(cI, .int), (cL, .long)] (va_A [(x0, .inr (5, [.ref pa, .ref t0, .ref y0, .ref r0, .ref a0, .ref b0, .ref s0, .int (nI fa), .long un])), (pa, .inl (cI, 22, .inl (fun zz => nI (P zz)))), (r0, .inr (1, [.ref q1, .ref q2, .ref q3, .int (nI sv), .int (nI n), .long co])), (q1, .inl (cL, 49, .inr (.inl wz))), (q2, .inl (cL, 32, .inr (.inl bz))), (q3, .inl (cL, 32, .inr (.inl fz)))] sz) ([(x0, .inr (5, [.ref pa, .ref t0, .ref y0, .ref r0, .ref a0, .ref b0, .ref s0, .int (nI fa), .long un])), (pa, .inl (cI, 22, .inl (fun zz => nI (P zz)))), (r0, .inr (1, [.ref q1, .ref q2, .ref q3, .int (nI u.1), .int (nI u.2.1), .long u.2.2.1])), (q1, .inl (cL, 49, .inr (.inl u.2.2.2.1))), (q2, .inl (cL, 32, .inr (.inl u.2.2.2.2.1))), (q3, .inl (cL, 32, .inr (.inl u.2.2.2.2.2)))])) (va_A [(x0, .inr (5, [.ref pa, .ref t0, .ref y0, .ref r0, .ref a0, .ref b0, .ref s0, .int (nI fa), .long un])), (pa, .inl (cI, 22, .inl (fun zz => nI (P zz)))), (r0, .inr (1, [.ref q1, .ref q2, .ref q3, .int (nI sv), .int (nI n), .long co])), (q1, .inl (cL, 49, .inr (.inl wz))), (q2, .inl (cL, 32, .inr (.inl bz))), (q3, .inl (cL, 32, .inr (.inl fz)))] sz)) 0 0 (va_A [(x0, .inr (5, [.ref pa, .ref t0, .ref y0, .ref r0, .ref a0, .ref b0, .ref s0, .int (nI fa), .long un])), (pa, .inl (cI, 22, .inl (fun zz => nI (P zz)))), (r0, .inr (1, [.ref q1, .ref q2, .ref q3, .int (nI sv), .int (nI n), .long co])), (q1, .inl (cL, 49, .inr (.inl wz))), (q2, .inl (cL, 32, .inr (.inl bz))), (q3, .inl (cL, 32, .inr (.inl fz)))] sz) := by
  refine kmet (by decide) ?_
  intro p e s m args below meth c Y hr hlocks hin hv
  obtain ⟨rfl, A, hAe, hsz, hP, hK, hD, hZ, hA⟩ := kinQ hv
  rw [hAe]
  have hS : va_S A s.heap s.heap [] := va_S.rf
  have hx := Y.1
  have hb := Y.2.1
  have hml := Y.2.2.1
  have hown := Y.2.2.2.1
  have hts := Y.2.2.2.2
  have hl := lv_entry ([.ref x0, .int a, .int b, .int v]) (n := 4) (Nat.le_of_ble_eq_true rfl)
  rw [lg_entry_eq]
  generalize (lg_sl ([.ref x0, .int a, .int b, .int v]) ++ List.replicate (4 - (lg_sl ([.ref x0, .int a, .int b, .int v])).length) Slot.unset).toArray = ls at hl ⊢
  have hl : lv_has ls 4 [(0, .ref x0), (1, .int a), (2, .int b), (3, .int v)] := hl
  have hp0 := hPI.1
  have hp1 := hPI.2.1
  have hp2 := hPI.2.2.1
  refine lv_aload_n hx hb dX5_choosesRank_0 rfl (lv_at hl 0 rfl) ?_
  refine lv_iload_n hx hb dX5_choosesRank_1 rfl (lv_at hl 1 rfl) ?_
  refine kVi (As := [.int a]) (rest := []) Y m_X5_isNoCandidate (c_X5_isNoCandidate l dC dI cI cL x0 pa t0 y0 r0 a0 b0 s0 fa un P a ) qm_X5_109 (kpV (ci := 5) hK hP hZ hS [0, 1] [0] rfl rfl 0 rfl rfl rfl) rfl hl.1 rfl (Nat.le_of_ble_eq_true rfl) dX5_choosesRank_2 ⟨Nat.le_of_ble_eq_true rfl, Nat.le_of_ble_eq_true rfl⟩ ⟨Nat.zero_le _, Nat.zero_le _⟩ (fun r2 hr2 => ?_)
  obtain rfl : r2 = b2i (¬ (nI 1 ≤ a ∧ a ≤ nI (P 0))) := hr2
  refine ri_bne (tgt := 26) hx hb dX5_choosesRank_5 (by decide) (fun c5 => ?_) (fun c5 => ?_)
  · refine lv_iconst (v := -1) hx hb dX5_choosesRank_26 (by decide) ?_
    exact kqi (w1 := (fun u : Nat × Nat × Int64 × (Nat → Int64) × (Nat → Int64) × (Nat → Int64) => [(x0, .inr (5, [.ref pa, .ref t0, .ref y0, .ref r0, .ref a0, .ref b0, .ref s0, .int (nI fa), .long un])), (pa, .inl (cI, 22, .inl (fun zz => nI (P zz)))), (r0, .inr (1, [.ref q1, .ref q2, .ref q3, .int (nI u.1), .int (nI u.2.1), .long u.2.2.1])), (q1, .inl (cL, 49, .inr (.inl u.2.2.2.1))), (q2, .inl (cL, 32, .inr (.inl u.2.2.2.2.1))), (q3, .inl (cL, 32, .inr (.inl u.2.2.2.2.2)))])) (v := (-1)) Y hr hlocks hK hP hD hS [0, 1, 2, 3, 4, 5] (by decide) (sv, n, co, wz, bz, fz) rfl ⟨(if_neg (fun q => c5 q.1.1)).symm, hRI⟩ dX5_choosesRank_27
  · refine lv_aload_n hx hb dX5_choosesRank_8 rfl (lv_at hl 0 rfl) ?_
    refine lv_iload_n hx hb dX5_choosesRank_9 rfl (lv_at hl 2 rfl) ?_
    refine kVi (As := [.int b]) (rest := []) Y m_X5_isNoChoiceLeft (c_X5_isNoChoiceLeft l dC dI cI cL x0 pa t0 y0 r0 a0 b0 s0 fa un P b ) qm_X5_136 (kpV (ci := 5) hK hP hZ hS [0, 1] [0] rfl rfl 0 rfl rfl rfl) rfl hl.1 rfl (Nat.le_of_ble_eq_true rfl) dX5_choosesRank_10 ⟨Nat.le_of_ble_eq_true rfl, Nat.le_of_ble_eq_true rfl⟩ ⟨Nat.zero_le _, Nat.zero_le _⟩ (fun r10 hr10 => ?_)
    obtain rfl : r10 = b2i (¬ (nI 1 ≤ b ∧ b ≤ nI (P 1))) := hr10
    refine ri_bne (tgt := 26) hx hb dX5_choosesRank_13 (by decide) (fun c13 => ?_) (fun c13 => ?_)
    · refine lv_iconst (v := -1) hx hb dX5_choosesRank_26 (by decide) ?_
      exact kqi (w1 := (fun u : Nat × Nat × Int64 × (Nat → Int64) × (Nat → Int64) × (Nat → Int64) => [(x0, .inr (5, [.ref pa, .ref t0, .ref y0, .ref r0, .ref a0, .ref b0, .ref s0, .int (nI fa), .long un])), (pa, .inl (cI, 22, .inl (fun zz => nI (P zz)))), (r0, .inr (1, [.ref q1, .ref q2, .ref q3, .int (nI u.1), .int (nI u.2.1), .long u.2.2.1])), (q1, .inl (cL, 49, .inr (.inl u.2.2.2.1))), (q2, .inl (cL, 32, .inr (.inl u.2.2.2.2.1))), (q3, .inl (cL, 32, .inr (.inl u.2.2.2.2.2)))])) (v := (-1)) Y hr hlocks hK hP hD hS [0, 1, 2, 3, 4, 5] (by decide) (sv, n, co, wz, bz, fz) rfl ⟨(if_neg (fun q => c13 q.1.2)).symm, hRI⟩ dX5_choosesRank_27
    · refine lv_iload_n hx hb dX5_choosesRank_16 rfl (lv_at hl 3 rfl) ?_
      refine lv_iconst (v := nI 1) hx hb dX5_choosesRank_17 (by decide) ?_
      refine lv_icmp_lt (tgt := 26) hx hb dX5_choosesRank_18 (by decide) (fun c18 => ?_) (fun c18 => ?_)
      · refine lv_iconst (v := -1) hx hb dX5_choosesRank_26 (by decide) ?_
        exact kqi (w1 := (fun u : Nat × Nat × Int64 × (Nat → Int64) × (Nat → Int64) × (Nat → Int64) => [(x0, .inr (5, [.ref pa, .ref t0, .ref y0, .ref r0, .ref a0, .ref b0, .ref s0, .int (nI fa), .long un])), (pa, .inl (cI, 22, .inl (fun zz => nI (P zz)))), (r0, .inr (1, [.ref q1, .ref q2, .ref q3, .int (nI u.1), .int (nI u.2.1), .long u.2.2.1])), (q1, .inl (cL, 49, .inr (.inl u.2.2.2.1))), (q2, .inl (cL, 32, .inr (.inl u.2.2.2.2.1))), (q3, .inl (cL, 32, .inr (.inl u.2.2.2.2.2)))])) (v := (-1)) Y hr hlocks hK hP hD hS [0, 1, 2, 3, 4, 5] (by decide) (sv, n, co, wz, bz, fz) rfl ⟨(if_neg (fun q => absurd c18 (Int32.not_lt.mpr q.2.1))).symm, hRI⟩ dX5_choosesRank_27
      · refine lv_iload_n hx hb dX5_choosesRank_21 rfl (lv_at hl 3 rfl) ?_
        refine lv_iload_n hx hb dX5_choosesRank_22 rfl (lv_at hl 1 rfl) ?_
        refine lv_icmp_le (tgt := 28) hx hb dX5_choosesRank_23 (by decide) (fun c23 => ?_) (fun c23 => ?_)
        · have cA := Decidable.not_not.mp c5
          have cB := Decidable.not_not.mp c13
          have cC := And.intro (Int32.not_lt.mp c18) c23
          obtain ⟨xa, rfl, hxa1, hxa2⟩ := in_n (by decide) (by omega) cA
          obtain ⟨xb, rfl, hxb1, hxb2⟩ := in_n (by decide) (by omega) cB
          obtain ⟨xv, rfl, hxv1, hxv2⟩ := in_n (by decide) (by omega) cC
          refine lv_aload_n hx hb dX5_choosesRank_28 rfl (lv_at hl 0 rfl) ?_
          refine va_get (D := (dC, dI)) (ci := 5) (v := .ref r0) (C := RX5) (T := TX5) (N := 9) hx hb hts inlX5 hown hK hP 0 rfl rfl 3 (by decide) (hts _ qf_X5_39) (fun _ h9 => h9) rfl dX5_choosesRank_29 ?_
          refine lv_aload_n hx hb dX5_choosesRank_32 rfl (lv_at hl 0 rfl) ?_
          refine va_get (D := (dC, dI)) (ci := 5) (v := .ref pa) (C := RX5) (T := TX5) (N := 9) hx hb hts inlX5 hown hK hP 0 rfl rfl 0 (by decide) (hts _ qf_X5_9) (fun _ h9 => h9) rfl dX5_choosesRank_33 ?_
          refine kQv (As := [.ref pa]) (rest := []) (wr := [(x0, .inr (5, [.ref pa, .ref t0, .ref y0, .ref r0, .ref a0, .ref b0, .ref s0, .int (nI fa), .long un]))]) Y m_X1_solve (c_X1_solve l dC dI _ cL cI r0 q1 q2 q3 pa wz bz fz P sv n co hPI hRI) qm_X5_114 hP hD hS hA [2, 3, 4, 5, 1] [0] rfl rfl (by decide) (by decide) (kqV (ci := 1) hK hP hD hZ hS hA [2, 3, 4, 5, 1] [1, 0] rfl (by decide) rfl 0 rfl rfl rfl) rfl hl.1 rfl (Nat.le_of_ble_eq_true rfl) dX5_choosesRank_36 ⟨Nat.le_of_ble_eq_true rfl, Nat.le_of_ble_eq_true rfl⟩ ⟨Nat.zero_le _, Nat.zero_le _⟩ (fun u36 H locs hr36 hP hD hS => ?_)
          obtain ⟨w2_36, b2_36, n2_36, co2_36⟩ := u36
          have hP : va_P (dC, dI) vwCl [(x0, .inr (5, [.ref pa, .ref t0, .ref y0, .ref r0, .ref a0, .ref b0, .ref s0, .int (nI fa), .long un])), (r0, .inr (1, [.ref q1, .ref q2, .ref q3, .int (nI 1), .int (nI n2_36), .long co2_36])), (q1, .inl (cL, 49, .inr (.inl w2_36))), (q2, .inl (cL, 32, .inr (.inl b2_36))), (q3, .inl (cL, 32, .inr (.inl fz))), (pa, .inl (cI, 22, .inl (fun zz => nI (P zz))))] H := hP
          have hD : va_D A [(x0, .inr (5, [.ref pa, .ref t0, .ref y0, .ref r0, .ref a0, .ref b0, .ref s0, .int (nI fa), .long un])), (r0, .inr (1, [.ref q1, .ref q2, .ref q3, .int (nI 1), .int (nI n2_36), .long co2_36])), (q1, .inl (cL, 49, .inr (.inl w2_36))), (q2, .inl (cL, 32, .inr (.inl b2_36))), (q3, .inl (cL, 32, .inr (.inl fz))), (pa, .inl (cI, 22, .inl (fun zz => nI (P zz))))] := hD
          have hr36 : RS P w2_36 b2_36 n2_36 co2_36 := hr36
          refine lv_aload_n hx hb dX5_choosesRank_39 rfl (lv_at hl 0 rfl) ?_
          refine va_get (D := (dC, dI)) (ci := 5) (v := .ref r0) (C := RX5) (T := TX5) (N := 9) hx hb hts inlX5 hown hK hP 0 rfl rfl 3 (by decide) (hts _ qf_X5_39) (fun _ h9 => h9) rfl dX5_choosesRank_40 ?_
          refine lv_iload_n hx hb dX5_choosesRank_43 rfl (lv_at hl 1 rfl) ?_
          refine lv_iload_n hx hb dX5_choosesRank_44 rfl (lv_at hl 2 rfl) ?_
          refine lv_iload_n hx hb dX5_choosesRank_45 rfl (lv_at hl 3 rfl) ?_
          refine kVi (As := [.int (nI xa), .int (nI xb), .int (nI xv)]) (rest := []) Y m_X1_takes (c_X1_takes l dC dI cL r0 q1 q2 q3 w2_36 b2_36 fz 1 n2_36 co2_36 xa xb xv (by omega) (by omega) (by omega) (by omega) (by omega) (by omega)) qm_X5_139 (kpV (ci := 1) hK hP hZ hS [1, 2, 3, 4] [1] rfl rfl 0 rfl rfl rfl) rfl hl.1 rfl (Nat.le_of_ble_eq_true rfl) dX5_choosesRank_46 ⟨Nat.le_of_ble_eq_true rfl, Nat.le_of_ble_eq_true rfl⟩ ⟨Nat.zero_le _, Nat.zero_le _⟩ (fun r46 hr46 => ?_)
          obtain rfl : r46 = b2i (b2_36 ((((xa + 1) - 1) * 4) + xb) ≤ w2_36 ((((xa - 1) * 7) + xv) - 1) + b2_36 ((((xa + 1) - 1) * 4) + (xb - 1))) := hr46
          have htk := takes_c hPI (i := xa) (j := xb) (r := xv) (by omega) (by omega) (by omega) (by omega) (by omega) (by omega) hr36.2.2.1 hr36.2.2.2
          refine ri_beq (tgt := 56) hx hb dX5_choosesRank_49 (by decide) (fun c49 => ?_) (fun c49 => ?_)
          · refine lv_iconst (v := nI 0) hx hb dX5_choosesRank_56 (by decide) ?_
            exact kqi (w1 := (fun u : Nat × Nat × Int64 × (Nat → Int64) × (Nat → Int64) × (Nat → Int64) => [(x0, .inr (5, [.ref pa, .ref t0, .ref y0, .ref r0, .ref a0, .ref b0, .ref s0, .int (nI fa), .long un])), (pa, .inl (cI, 22, .inl (fun zz => nI (P zz)))), (r0, .inr (1, [.ref q1, .ref q2, .ref q3, .int (nI u.1), .int (nI u.2.1), .long u.2.2.1])), (q1, .inl (cL, 49, .inr (.inl u.2.2.2.1))), (q2, .inl (cL, 32, .inr (.inl u.2.2.2.2.1))), (q3, .inl (cL, 32, .inr (.inl u.2.2.2.2.2)))])) (v := nI 0) Y hr hlocks hK hP hD hS [0, 5, 1, 2, 3, 4] (by decide) (1, n2_36, co2_36, w2_36, b2_36, fz) rfl ⟨by unfold chO; rw [if_pos ⟨⟨cA, cB⟩, cC⟩, nO_n (n := xa) (by omega), nO_n (n := xb) (by omega), nO_n (n := xv) (by omega)]; exact (b2i_f (fun q => c49 (htk.mpr q))).symm, RI_1 hr36⟩ dX5_choosesRank_57
          · refine lv_iconst (v := nI 1) hx hb dX5_choosesRank_52 (by decide) ?_
            refine lv_goto (tgt := 57) hx hb dX5_choosesRank_53 (by decide) ?_
            exact kqi (w1 := (fun u : Nat × Nat × Int64 × (Nat → Int64) × (Nat → Int64) × (Nat → Int64) => [(x0, .inr (5, [.ref pa, .ref t0, .ref y0, .ref r0, .ref a0, .ref b0, .ref s0, .int (nI fa), .long un])), (pa, .inl (cI, 22, .inl (fun zz => nI (P zz)))), (r0, .inr (1, [.ref q1, .ref q2, .ref q3, .int (nI u.1), .int (nI u.2.1), .long u.2.2.1])), (q1, .inl (cL, 49, .inr (.inl u.2.2.2.1))), (q2, .inl (cL, 32, .inr (.inl u.2.2.2.2.1))), (q3, .inl (cL, 32, .inr (.inl u.2.2.2.2.2)))])) (v := nI 1) Y hr hlocks hK hP hD hS [0, 5, 1, 2, 3, 4] (by decide) (1, n2_36, co2_36, w2_36, b2_36, fz) rfl ⟨by unfold chO; rw [if_pos ⟨⟨cA, cB⟩, cC⟩, nO_n (n := xa) (by omega), nO_n (n := xb) (by omega), nO_n (n := xv) (by omega)]; exact (b2i_t (htk.mp c49)).symm, RI_1 hr36⟩ dX5_choosesRank_57
        · refine lv_iconst (v := -1) hx hb dX5_choosesRank_26 (by decide) ?_
          exact kqi (w1 := (fun u : Nat × Nat × Int64 × (Nat → Int64) × (Nat → Int64) × (Nat → Int64) => [(x0, .inr (5, [.ref pa, .ref t0, .ref y0, .ref r0, .ref a0, .ref b0, .ref s0, .int (nI fa), .long un])), (pa, .inl (cI, 22, .inl (fun zz => nI (P zz)))), (r0, .inr (1, [.ref q1, .ref q2, .ref q3, .int (nI u.1), .int (nI u.2.1), .long u.2.2.1])), (q1, .inl (cL, 49, .inr (.inl u.2.2.2.1))), (q2, .inl (cL, 32, .inr (.inl u.2.2.2.2.1))), (q3, .inl (cL, 32, .inr (.inl u.2.2.2.2.2)))])) (v := (-1)) Y hr hlocks hK hP hD hS [0, 1, 2, 3, 4, 5] (by decide) (sv, n, co, wz, bz, fz) rfl ⟨(if_neg (fun q => c23 q.2.2)).symm, hRI⟩ dX5_choosesRank_27
