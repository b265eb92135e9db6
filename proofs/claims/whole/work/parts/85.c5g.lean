set_option maxHeartbeats 4000000 in
set_option maxRecDepth 100000 in
theorem c_X5_fixed (l : Launch) (dC : Nat → ClassId) (dI : Nat → Nat → Nat) (sz : Nat) (cI cL : ClassId) (x0 pa t0 y0 r0 a0 b0 s0 : Nat) (fa : Nat) (un : Int64) (v1 v2 v3 v4 v5 : Nat) (vsv vn vco vc1 vc2 : Nat) (bf af lv wt : Nat → Nat) (fl : Nat → Int64) (P : Nat → Nat) (a : Int32) (hPI : PI P) (hVI : VI P 1 vsv vn vco vc1 vc2 lv wt bf af) (hFZ : FZ fl) : Met l yX5_fixed (kw yX5_fixed cX5_fixed 2 (some .long)) (kR 4 101) (kPq (dC, dI) [.ref x0, .int a] sz [(x0, .inr (5, [.ref pa, .ref t0, .ref y0, .ref r0, .ref a0, .ref b0, .ref s0, .int (nI fa), .long un])), (pa, .inl (cI, 22, .inl (fun zz => nI (P zz)))), (a0, .inr (4, [.int (nI 1), .ref v1, .ref v2, .ref v3, .ref v4, .ref v5, .int (nI vsv), .int (nI vn), .long (lN vco), .int (nI vc1), .int (nI vc2)])), (v1, .inl (cL, 1152, .inr (.inl (fun zz => lN (bf zz))))), (v2, .inl (cL, 192, .inr (.inl (fun zz => lN (af zz))))), (v3, .inl (cL, 32, .inr (.inl fl))), (v4, .inl (cL, 5, .inr (.inl (fun zz => lN (lv zz))))), (v5, .inl (cI, 5, .inl (fun zz => nI (wt zz))))] [(cI, .int), (cL, .long)]) (va_Ql (fun (res : Int64) (u : Int64 × Nat × Nat × Nat × Nat × Nat × (Nat → Nat) × (Nat → Nat) × (Nat → Nat) × (Nat → Nat) × (Nat → Int64)) => (res, u.1) = frO (nI 0 ≤ a ∧ a ≤ nI 99) (FX P (nO a) (P 0) (P 1)) 1000000000000000 un ∧ VI P 1 u.2.1 u.2.2.1 u.2.2.2.1 u.2.2.2.2.1 u.2.2.2.2.2.1 u.2.2.2.2.2.2.2.2.1 u.2.2.2.2.2.2.2.2.2.1 u.2.2.2.2.2.2.1 u.2.2.2.2.2.2.2.1 ∧ FZ u.2.2.2.2.2.2.2.2.2.2) (fun u : Int64 × Nat × Nat × Nat × Nat × Nat × (Nat → Nat) × (Nat → Nat) × (Nat → Nat) × (Nat → Nat) × (Nat → Int64) => kB (dC, dI) [(cI, .int), (cL, .long)] (va_A [(x0, .inr (5, [.ref pa, .ref t0, .ref y0, .ref r0, .ref a0, .ref b0, .ref s0, .int (nI fa), .long un])), (pa, .inl (cI, 22, .inl (fun zz => nI (P zz)))), (a0, .inr (4, [.int (nI 1), .ref v1, .ref v2, .ref v3, .ref v4, .ref v5, .int (nI vsv), .int (nI vn), .long (lN vco), .int (nI vc1), .int (nI vc2)])), (v1, .inl (cL, 1152, .inr (.inl (fun zz => lN (bf zz))))), (v2, .inl (cL, 192, .inr (.inl (fun zz => lN (af zz))))), (v3, .inl (cL, 32, .inr (.inl fl))), (v4, .inl (cL, 5, .inr (.inl (fun zz => lN (lv zz))))), (v5, .inl (cI, 5, .inl (fun zz => nI (wt zz))))] sz) ([(x0, .inr (5, [.ref pa, .ref t0, .ref y0, .ref r0, .ref a0, .ref b0, .ref s0, .int (nI fa), .long u.1])), (pa, .inl (cI, 22, .inl (fun zz => nI (P zz)))), (a0, .inr (4, [.int (nI 1), .ref v1, .ref v2, .ref v3, .ref v4, .ref v5, .int (nI u.2.1), .int (nI u.2.2.1), .long (lN u.2.2.2.1), .int (nI u.2.2.2.2.1), .int (nI u.2.2.2.2.2.1)])), (v1, .inl (cL, 1152, .inr (.inl (fun zz => lN (u.2.2.2.2.2.2.1 zz))))), (v2, .inl (cL, 192, .inr (.inl (fun zz => lN (u.2.2.2.2.2.2.2.1 zz))))), (v3, .inl (cL, 32, .inr (.inl u.2.2.2.2.2.2.2.2.2.2))), (v4, .inl (cL, 5, .inr (.inl (fun zz => lN (u.2.2.2.2.2.2.2.2.1 zz))))), (v5, .inl (cI, 5, .inl (fun zz => nI (u.2.2.2.2.2.2.2.2.2.1 zz))))])) (va_A [(x0, .inr (5, [.ref pa, .ref t0, .ref y0, .ref r0, .ref a0, .ref b0, .ref s0, .int (nI fa), .long un])), (pa, .inl (cI, 22, .inl (fun zz => nI (P zz)))), (a0, .inr (4, [.int (nI 1), .ref v1, .ref v2, .ref v3, .ref v4, .ref v5, .int (nI vsv), .int (nI vn), .long (lN vco), .int (nI vc1), .int (nI vc2)])), (v1, .inl (cL, 1152, .inr (.inl (fun zz => lN (bf zz))))), (v2, .inl (cL, 192, .inr (.inl (fun zz => lN (af zz))))), (v3, .inl (cL, 32, .inr (.inl fl))), (v4, .inl (cL, 5, .inr (.inl (fun zz => lN (lv zz))))), (v5, .inl (cI, 5, .inl (fun zz => nI (wt zz))))] sz)) 0 0 (va_A [(x0, .inr (5, [.ref pa, .ref t0, .ref y0, .ref r0, .ref a0, .ref b0, .ref s0, .int (nI fa), .long un])), (pa, .inl (cI, 22, .inl (fun zz => nI (P zz)))), (a0, .inr (4, [.int (nI 1), .ref v1, .ref v2, .ref v3, .ref v4, .ref v5, .int (nI vsv), .int (nI vn), .long (lN vco), .int (nI vc1), .int (nI vc2)])), (v1, .inl (cL, 1152, .inr (.inl (fun zz => lN (bf zz))))), (v2, .inl (cL, 192, .inr (.inl (fun zz => lN (af zz))))), (v3, .inl (cL, 32, .inr (.inl fl))), (v4, .inl (cL, 5, .inr (.inl (fun zz => lN (lv zz))))), (v5, .inl (cI, 5, .inl (fun zz => nI (wt zz))))] sz) := by
  refine kmet (by decide) ?_
  intro p e s m args below meth c Y hr hlocks hin hv
  obtain ⟨rfl, A, hAe, hsz, hP, hK, hD, hZ, hA⟩ := kinQ hv
  rw [hAe]
  have hS : va_S A s.heap s.heap [] := va_S.rf
  have hx := Y.1
  have hb := Y.2.1
  have hml := Y.2.2.1
  have hown := Y.2.2.2.1
  have hts := Y.2.2.2.2
  have hl := lv_entry ([.ref x0, .int a]) (n := 2) (Nat.le_of_ble_eq_true rfl)
  rw [lg_entry_eq]
  generalize (lg_sl ([.ref x0, .int a]) ++ List.replicate (2 - (lg_sl ([.ref x0, .int a])).length) Slot.unset).toArray = ls at hl ⊢
  have hl : lv_has ls 2 [(0, .ref x0), (1, .int a)] := hl
  have hp0 := hPI.1
  have hp1 := hPI.2.1
  have hp2 := hPI.2.2.1
  have hc1 := hPI.2.2.2.2.2.2.1
  have hc2 := hPI.2.2.2.2.2.2.2
  refine lv_iload_n hx hb dX5_fixed_0 rfl (lv_at hl 1 rfl) ?_
  refine lv_if_lt (tgt := 10) hx hb dX5_fixed_1 (by decide) (fun c1 => ?_) (fun c1 => ?_)
  · refine lv_ldc2 (v := (-4000000000000000000)) hx hb hown (hts _ ql_X5_112) dX5_fixed_10 ?_
    exact kql (w1 := (fun u : Int64 × Nat × Nat × Nat × Nat × Nat × (Nat → Nat) × (Nat → Nat) × (Nat → Nat) × (Nat → Nat) × (Nat → Int64) => [(x0, .inr (5, [.ref pa, .ref t0, .ref y0, .ref r0, .ref a0, .ref b0, .ref s0, .int (nI fa), .long u.1])), (pa, .inl (cI, 22, .inl (fun zz => nI (P zz)))), (a0, .inr (4, [.int (nI 1), .ref v1, .ref v2, .ref v3, .ref v4, .ref v5, .int (nI u.2.1), .int (nI u.2.2.1), .long (lN u.2.2.2.1), .int (nI u.2.2.2.2.1), .int (nI u.2.2.2.2.2.1)])), (v1, .inl (cL, 1152, .inr (.inl (fun zz => lN (u.2.2.2.2.2.2.1 zz))))), (v2, .inl (cL, 192, .inr (.inl (fun zz => lN (u.2.2.2.2.2.2.2.1 zz))))), (v3, .inl (cL, 32, .inr (.inl u.2.2.2.2.2.2.2.2.2.2))), (v4, .inl (cL, 5, .inr (.inl (fun zz => lN (u.2.2.2.2.2.2.2.2.1 zz))))), (v5, .inl (cI, 5, .inl (fun zz => nI (u.2.2.2.2.2.2.2.2.2.1 zz))))])) (v := (-4000000000000000000)) Y hr hlocks hK hP hD hS [0, 1, 2, 3, 4, 5, 6, 7] (by decide) (un, vsv, vn, vco, vc1, vc2, bf, af, lv, wt, fl) rfl ⟨frO_f (fun q => absurd c1 (Int32.not_lt.mpr q.1)), hVI, hFZ⟩ dX5_fixed_13
  · refine lv_iload_n hx hb dX5_fixed_4 rfl (lv_at hl 1 rfl) ?_
    refine lv_bipush (v := nI 99) hx hb dX5_fixed_5 (by decide) ?_
    refine lv_icmp_le (tgt := 14) hx hb dX5_fixed_7 (by decide) (fun c7 => ?_) (fun c7 => ?_)
    · have cA : nI 0 ≤ a ∧ a ≤ nI 99 := And.intro (Int32.not_lt.mp c1) c7
      obtain ⟨xa, rfl, hxa1, hxa2⟩ := in_n (by decide) (by decide) cA
      refine lv_aload_n hx hb dX5_fixed_14 rfl (lv_at hl 0 rfl) ?_
      refine va_get (D := (dC, dI)) (ci := 5) (v := .ref a0) (C := RX5) (T := TX5) (N := 9) hx hb hts inlX5 hown hK hP 0 rfl rfl 4 (by decide) (hts _ qf_X5_48) (fun _ h9 => h9) rfl dX5_fixed_15 ?_
      refine lv_aload_n hx hb dX5_fixed_18 rfl (lv_at hl 0 rfl) ?_
      refine va_get (D := (dC, dI)) (ci := 5) (v := .ref pa) (C := RX5) (T := TX5) (N := 9) hx hb hts inlX5 hown hK hP 0 rfl rfl 0 (by decide) (hts _ qf_X5_9) (fun _ h9 => h9) rfl dX5_fixed_19 ?_
      refine kQv (As := [.ref pa]) (rest := []) (wr := [(x0, .inr (5, [.ref pa, .ref t0, .ref y0, .ref r0, .ref a0, .ref b0, .ref s0, .int (nI fa), .long un]))]) Y m_X4_solve (c_X4_solve l dC dI _ cL cI a0 v1 v2 v3 v4 v5 pa 1 vsv vn vco vc1 vc2 bf af lv wt fl P hPI (by omega) hVI) qm_X5_159 hP hD hS hA [2, 3, 4, 5, 6, 7, 1] [0] rfl rfl (by decide) (by decide) (kqV (ci := 4) hK hP hD hZ hS hA [2, 3, 4, 5, 6, 7, 1] [1, 0] rfl (by decide) rfl 0 rfl rfl rfl) rfl hl.1 rfl (Nat.le_of_ble_eq_true rfl) dX5_fixed_22 ⟨Nat.le_of_ble_eq_true rfl, Nat.le_of_ble_eq_true rfl⟩ ⟨Nat.zero_le _, Nat.zero_le _⟩ (fun u22 H locs hr22 hP hD hS => ?_)
      obtain ⟨n2_22, co2_22, c12_22, c22_22, lv2_22, wt2_22, bf2_22, af2_22⟩ := u22
      have hP : va_P (dC, dI) vwCl [(x0, .inr (5, [.ref pa, .ref t0, .ref y0, .ref r0, .ref a0, .ref b0, .ref s0, .int (nI fa), .long un])), (a0, .inr (4, [.int (nI 1), .ref v1, .ref v2, .ref v3, .ref v4, .ref v5, .int (nI 1), .int (nI n2_22), .long (lN co2_22), .int (nI c12_22), .int (nI c22_22)])), (v1, .inl (cL, 1152, .inr (.inl (fun zz => lN (bf2_22 zz))))), (v2, .inl (cL, 192, .inr (.inl (fun zz => lN (af2_22 zz))))), (v3, .inl (cL, 32, .inr (.inl fl))), (v4, .inl (cL, 5, .inr (.inl (fun zz => lN (lv2_22 zz))))), (v5, .inl (cI, 5, .inl (fun zz => nI (wt2_22 zz)))), (pa, .inl (cI, 22, .inl (fun zz => nI (P zz))))] H := hP
      have hD : va_D A [(x0, .inr (5, [.ref pa, .ref t0, .ref y0, .ref r0, .ref a0, .ref b0, .ref s0, .int (nI fa), .long un])), (a0, .inr (4, [.int (nI 1), .ref v1, .ref v2, .ref v3, .ref v4, .ref v5, .int (nI 1), .int (nI n2_22), .long (lN co2_22), .int (nI c12_22), .int (nI c22_22)])), (v1, .inl (cL, 1152, .inr (.inl (fun zz => lN (bf2_22 zz))))), (v2, .inl (cL, 192, .inr (.inl (fun zz => lN (af2_22 zz))))), (v3, .inl (cL, 32, .inr (.inl fl))), (v4, .inl (cL, 5, .inr (.inl (fun zz => lN (lv2_22 zz))))), (v5, .inl (cI, 5, .inl (fun zz => nI (wt2_22 zz)))), (pa, .inl (cI, 22, .inl (fun zz => nI (P zz))))] := hD
      have hr22 : VS P 1 n2_22 co2_22 c12_22 c22_22 lv2_22 wt2_22 bf2_22 af2_22 ∧ (∀ k, bf2_22 k ≤ 297000000000000000) ∧ (∀ k, af2_22 k ≤ 297000000000000000) := hr22
      have hVS9 := hr22.1
      have hTA9 : TA (P 0) (QV P (P 20) (P 21)) af2_22 0 0 := hVS9.2.2.2.2.2.1
      have hTB9 : TB (P 0) (SV P (P 20) (P 21)) bf2_22 0 0 := hVS9.2.2.2.2.2.2
      have hL9 := hVS9.2.2.2.2.1
      have hc19 : c12_22 = P 20 := hVS9.2.2.1
      have hc29 : c22_22 = P 21 := hVS9.2.2.2.1
      have hVl9 := VL_l hPI hL9
      have hVw9 := VL_w hPI hL9
      have hVI9 := VI_1 hr22
      refine lv_aload_n hx hb dX5_fixed_25 rfl (lv_at hl 0 rfl) ?_
      refine lv_aload_n hx hb dX5_fixed_26 rfl (lv_at hl 0 rfl) ?_
      refine va_get (D := (dC, dI)) (ci := 5) (v := .ref a0) (C := RX5) (T := TX5) (N := 9) hx hb hts inlX5 hown hK hP 0 rfl rfl 4 (by decide) (hts _ qf_X5_48) (fun _ h9 => h9) rfl dX5_fixed_27 ?_
      refine lv_iload_n hx hb dX5_fixed_30 rfl (lv_at hl 1 rfl) ?_
      refine lv_aload_n hx hb dX5_fixed_31 rfl (lv_at hl 0 rfl) ?_
      refine kVi (As := []) (rest := [.int (nI xa), .ref a0, .ref x0]) Y m_X5_choices (c_X5_choices l dC dI cI cL x0 pa t0 y0 r0 a0 b0 s0 fa un P ) qm_X5_143 (kpV (ci := 5) hK hP hZ hS [0, 7] [0] rfl rfl 0 rfl rfl rfl) rfl hl.1 rfl (Nat.le_of_ble_eq_true rfl) dX5_fixed_32 ⟨Nat.le_of_ble_eq_true rfl, Nat.le_of_ble_eq_true rfl⟩ ⟨Nat.zero_le _, Nat.zero_le _⟩ (fun r32 hr32 => ?_)
      obtain rfl : r32 = nI (P 1) := hr32
      refine kQl (As := [.int (nI xa), .int (nI (P 1))]) (rest := [.ref x0]) (wr := [(x0, .inr (5, [.ref pa, .ref t0, .ref y0, .ref r0, .ref a0, .ref b0, .ref s0, .int (nI fa), .long un])), (pa, .inl (cI, 22, .inl (fun zz => nI (P zz))))]) Y m_X4_valueOfFixed (c_X4_valueOfFixed l dC dI H.size cL cI a0 v1 v2 v3 v4 v5 1 1 n2_22 co2_22 c12_22 c22_22 bf2_22 af2_22 lv2_22 wt2_22 fl P xa (P 1) (by omega) (by omega) (by omega) hPI hr22.1 hFZ) qm_X5_178 hP hD hS hA [1, 2, 3, 4, 5, 6] [0, 7] rfl rfl (by decide) (by decide) (kqV (ci := 4) hK hP hD hZ hS hA [1, 2, 3, 4, 5, 6] [1, 0] rfl (by decide) rfl 0 rfl rfl rfl) rfl hl.1 rfl (Nat.le_of_ble_eq_true rfl) dX5_fixed_35 ⟨Nat.le_of_ble_eq_true rfl, Nat.le_of_ble_eq_true rfl⟩ ⟨Nat.zero_le _, Nat.zero_le _⟩ (fun r35 u35 H locs hr35 hP hD hS => ?_)
      obtain ⟨fl2_35, rfl⟩ : ∃ z, z = u35 := ⟨_, rfl⟩
      have hP : va_P (dC, dI) vwCl [(x0, .inr (5, [.ref pa, .ref t0, .ref y0, .ref r0, .ref a0, .ref b0, .ref s0, .int (nI fa), .long un])), (pa, .inl (cI, 22, .inl (fun zz => nI (P zz)))), (a0, .inr (4, [.int (nI 1), .ref v1, .ref v2, .ref v3, .ref v4, .ref v5, .int (nI 1), .int (nI n2_22), .long (lN co2_22), .int (nI c12_22), .int (nI c22_22)])), (v1, .inl (cL, 1152, .inr (.inl (fun zz => lN (bf2_22 zz))))), (v2, .inl (cL, 192, .inr (.inl (fun zz => lN (af2_22 zz))))), (v3, .inl (cL, 32, .inr (.inl fl2_35))), (v4, .inl (cL, 5, .inr (.inl (fun zz => lN (lv2_22 zz))))), (v5, .inl (cI, 5, .inl (fun zz => nI (wt2_22 zz))))] H := hP
      have hD : va_D A [(x0, .inr (5, [.ref pa, .ref t0, .ref y0, .ref r0, .ref a0, .ref b0, .ref s0, .int (nI fa), .long un])), (pa, .inl (cI, 22, .inl (fun zz => nI (P zz)))), (a0, .inr (4, [.int (nI 1), .ref v1, .ref v2, .ref v3, .ref v4, .ref v5, .int (nI 1), .int (nI n2_22), .long (lN co2_22), .int (nI c12_22), .int (nI c22_22)])), (v1, .inl (cL, 1152, .inr (.inl (fun zz => lN (bf2_22 zz))))), (v2, .inl (cL, 192, .inr (.inl (fun zz => lN (af2_22 zz))))), (v3, .inl (cL, 32, .inr (.inl fl2_35))), (v4, .inl (cL, 5, .inr (.inl (fun zz => lN (lv2_22 zz))))), (v5, .inl (cI, 5, .inl (fun zz => nI (wt2_22 zz))))] := hD
      obtain ⟨hr35e, hr35⟩ : r35 = iN (FX P xa (P 0) (P 1)) ∧ (∀ i, 1 ≤ i → i ≤ 8 → fl2_35 (((i - 1) * 4) + 0) = lN 0) := hr35
      subst hr35e
      have hwo := FX_bb hPI xa
      refine lv_ldc2 (v := lN 1000000000000000) hx hb hown (hts _ ql_X5_163) dX5_fixed_38 ?_
      refine kQl (As := [.long (iN (FX P xa (P 0) (P 1))), .long (lN 1000000000000000)]) (rest := []) (wr := [(pa, .inl (cI, 22, .inl (fun zz => nI (P zz)))), (a0, .inr (4, [.int (nI 1), .ref v1, .ref v2, .ref v3, .ref v4, .ref v5, .int (nI 1), .int (nI n2_22), .long (lN co2_22), .int (nI c12_22), .int (nI c22_22)])), (v1, .inl (cL, 1152, .inr (.inl (fun zz => lN (bf2_22 zz))))), (v2, .inl (cL, 192, .inr (.inl (fun zz => lN (af2_22 zz))))), (v3, .inl (cL, 32, .inr (.inl fl2_35))), (v4, .inl (cL, 5, .inr (.inl (fun zz => lN (lv2_22 zz))))), (v5, .inl (cI, 5, .inl (fun zz => nI (wt2_22 zz))))]) Y m_X5_fraction (c_X5_fraction l dC dI H.size cI cL x0 pa t0 y0 r0 a0 b0 s0 fa un (FX P xa (P 0) (P 1)) 1000000000000000 (by omega) (by omega) (by omega) (by omega)) qm_X5_123 hP hD hS hA [0] [1, 2, 3, 4, 5, 6, 7] rfl rfl (by decide) (by decide) (kqV (ci := 5) hK hP hD hZ hS hA [0] [] rfl (by decide) rfl 0 rfl rfl rfl) rfl hl.1 rfl (Nat.le_of_ble_eq_true rfl) dX5_fixed_41 ⟨Nat.le_of_ble_eq_true rfl, Nat.le_of_ble_eq_true rfl⟩ ⟨Nat.zero_le _, Nat.zero_le _⟩ (fun r41 u41 H locs hr41 hP hD hS => ?_)
      have hP : va_P (dC, dI) vwCl [(pa, .inl (cI, 22, .inl (fun zz => nI (P zz)))), (a0, .inr (4, [.int (nI 1), .ref v1, .ref v2, .ref v3, .ref v4, .ref v5, .int (nI 1), .int (nI n2_22), .long (lN co2_22), .int (nI c12_22), .int (nI c22_22)])), (v1, .inl (cL, 1152, .inr (.inl (fun zz => lN (bf2_22 zz))))), (v2, .inl (cL, 192, .inr (.inl (fun zz => lN (af2_22 zz))))), (v3, .inl (cL, 32, .inr (.inl fl2_35))), (v4, .inl (cL, 5, .inr (.inl (fun zz => lN (lv2_22 zz))))), (v5, .inl (cI, 5, .inl (fun zz => nI (wt2_22 zz)))), (x0, .inr (5, [.ref pa, .ref t0, .ref y0, .ref r0, .ref a0, .ref b0, .ref s0, .int (nI fa), .long (lN (FRd (FX P xa (P 0) (P 1)) 1000000000000000))]))] H := hP
      have hD : va_D A [(pa, .inl (cI, 22, .inl (fun zz => nI (P zz)))), (a0, .inr (4, [.int (nI 1), .ref v1, .ref v2, .ref v3, .ref v4, .ref v5, .int (nI 1), .int (nI n2_22), .long (lN co2_22), .int (nI c12_22), .int (nI c22_22)])), (v1, .inl (cL, 1152, .inr (.inl (fun zz => lN (bf2_22 zz))))), (v2, .inl (cL, 192, .inr (.inl (fun zz => lN (af2_22 zz))))), (v3, .inl (cL, 32, .inr (.inl fl2_35))), (v4, .inl (cL, 5, .inr (.inl (fun zz => lN (lv2_22 zz))))), (v5, .inl (cI, 5, .inl (fun zz => nI (wt2_22 zz)))), (x0, .inr (5, [.ref pa, .ref t0, .ref y0, .ref r0, .ref a0, .ref b0, .ref s0, .int (nI fa), .long (lN (FRd (FX P xa (P 0) (P 1)) 1000000000000000))]))] := hD
      obtain rfl : r41 = iN (FRn (FX P xa (P 0) (P 1)) 1000000000000000) := hr41
      exact kql (w1 := (fun u : Int64 × Nat × Nat × Nat × Nat × Nat × (Nat → Nat) × (Nat → Nat) × (Nat → Nat) × (Nat → Nat) × (Nat → Int64) => [(x0, .inr (5, [.ref pa, .ref t0, .ref y0, .ref r0, .ref a0, .ref b0, .ref s0, .int (nI fa), .long u.1])), (pa, .inl (cI, 22, .inl (fun zz => nI (P zz)))), (a0, .inr (4, [.int (nI 1), .ref v1, .ref v2, .ref v3, .ref v4, .ref v5, .int (nI u.2.1), .int (nI u.2.2.1), .long (lN u.2.2.2.1), .int (nI u.2.2.2.2.1), .int (nI u.2.2.2.2.2.1)])), (v1, .inl (cL, 1152, .inr (.inl (fun zz => lN (u.2.2.2.2.2.2.1 zz))))), (v2, .inl (cL, 192, .inr (.inl (fun zz => lN (u.2.2.2.2.2.2.2.1 zz))))), (v3, .inl (cL, 32, .inr (.inl u.2.2.2.2.2.2.2.2.2.2))), (v4, .inl (cL, 5, .inr (.inl (fun zz => lN (u.2.2.2.2.2.2.2.2.1 zz))))), (v5, .inl (cI, 5, .inl (fun zz => nI (u.2.2.2.2.2.2.2.2.2.1 zz))))])) (v := iN (FRn (FX P xa (P 0) (P 1)) 1000000000000000)) Y hr hlocks hK hP hD hS [7, 0, 1, 2, 3, 4, 5, 6] (by decide) (lN (FRd (FX P xa (P 0) (P 1)) 1000000000000000), 1, n2_22, co2_22, c12_22, c22_22, bf2_22, af2_22, lv2_22, wt2_22, fl2_35) rfl ⟨by rw [nO_n (n := xa) (by omega)]; exact frO_t cA, hVI9, hr35⟩ dX5_fixed_44
    · refine lv_ldc2 (v := (-4000000000000000000)) hx hb hown (hts _ ql_X5_112) dX5_fixed_10 ?_
      exact kql (w1 := (fun u : Int64 × Nat × Nat × Nat × Nat × Nat × (Nat → Nat) × (Nat → Nat) × (Nat → Nat) × (Nat → Nat) × (Nat → Int64) => [(x0, .inr (5, [.ref pa, .ref t0, .ref y0, .ref r0, .ref a0, .ref b0, .ref s0, .int (nI fa), .long u.1])), (pa, .inl (cI, 22, .inl (fun zz => nI (P zz)))), (a0, .inr (4, [.int (nI 1), .ref v1, .ref v2, .ref v3, .ref v4, .ref v5, .int (nI u.2.1), .int (nI u.2.2.1), .long (lN u.2.2.2.1), .int (nI u.2.2.2.2.1), .int (nI u.2.2.2.2.2.1)])), (v1, .inl (cL, 1152, .inr (.inl (fun zz => lN (u.2.2.2.2.2.2.1 zz))))), (v2, .inl (cL, 192, .inr (.inl (fun zz => lN (u.2.2.2.2.2.2.2.1 zz))))), (v3, .inl (cL, 32, .inr (.inl u.2.2.2.2.2.2.2.2.2.2))), (v4, .inl (cL, 5, .inr (.inl (fun zz => lN (u.2.2.2.2.2.2.2.2.1 zz))))), (v5, .inl (cI, 5, .inl (fun zz => nI (u.2.2.2.2.2.2.2.2.2.1 zz))))])) (v := (-4000000000000000000)) Y hr hlocks hK hP hD hS [0, 1, 2, 3, 4, 5, 6, 7] (by decide) (un, vsv, vn, vco, vc1, vc2, bf, af, lv, wt, fl) rfl ⟨frO_f (fun q => c7 q.2), hVI, hFZ⟩ dX5_fixed_13
set_option maxHeartbeats 4000000 in
set_option maxRecDepth 100000 in
theorem c_X5_isValueOfLevel (l : Launch) (dC : Nat → ClassId) (dI : Nat → Nat → Nat) (cI cL : ClassId) (x0 pa t0 y0 r0 a0 b0 s0 : Nat) (fa : Nat) (un : Int64) (P : Nat → Nat) (h9 : Nat) (hPI : PI P) (h1 : h9 ≤ 99) : Met l yX5_isValueOfLevel (kw yX5_isValueOfLevel cX5_isValueOfLevel 3 (some .boolean)) (kR 0 0) (kPr (dC, dI) [.ref x0, .int (nI h9)] [(x0, .inr (5, [.ref pa, .ref t0, .ref y0, .ref r0, .ref a0, .ref b0, .ref s0, .int (nI fa), .long un])), (pa, .inl (cI, 22, .inl (fun zz => nI (P zz))))] [(cI, .int)]) (vp_Si (fun res : Int32 => (res = nI 1 ∧ ∃ l9, l9 < 5 ∧ P (10 + l9) = h9) ∨ (res = nI 0 ∧ ∀ l9, l9 < 5 → P (10 + l9) ≠ h9))) 0 0 kNo := by
  refine kmet (by decide) ?_
  intro p e s m args below meth c Y hr hlocks hin hv
  obtain ⟨rfl, hP, hK, hZ⟩ := kinR hv
  have hS : va_S kNo s.heap s.heap [] := va_S.rf
  have hx := Y.1
  have hb := Y.2.1
  have hml := Y.2.2.1
  have hown := Y.2.2.2.1
  have hts := Y.2.2.2.2
  have hl := lv_entry ([.ref x0, .int (nI h9)]) (n := 3) (Nat.le_of_ble_eq_true rfl)
  rw [lg_entry_eq]
  generalize (lg_sl ([.ref x0, .int (nI h9)]) ++ List.replicate (3 - (lg_sl ([.ref x0, .int (nI h9)])).length) Slot.unset).toArray = ls at hl ⊢
  have hl : lv_has ls 3 [(0, .ref x0), (1, .int (nI h9))] := hl
  refine lv_iconst (v := nI 0) hx hb dX5_isValueOfLevel_0 (by decide) ?_
  refine lv_istore_n (lv' := [(2, .int (nI 0)), (0, .ref x0), (1, .int (nI h9))]) hx hb dX5_isValueOfLevel_1 rfl hl (by decide) rfl (fun ls hl => ?_)
  refine wr1 (fun (t : Nat) => 5 - t) (fun (t : Nat) (ls : Array Slot) => lv_has ls 3 [(0, .ref x0), (1, .int (nI h9)), (2, .int (nI t))] ∧ (t ≤ 5 ∧ ∀ l9, l9 < t → P (10 + l9) ≠ h9)) 0 (by exact ⟨lv_sub hl [1, 2, 0] rfl, ⟨by omega, fun l9 q => by omega⟩⟩) (fun t ls hI ih => ?_)
  obtain ⟨hl, ht, hno⟩ := hI
  have ih2 := ih
  refine lv_iload_n hx hb dX5_isValueOfLevel_2 rfl (lv_at hl 2 rfl) ?_
  refine lv_iconst (v := nI 5) hx hb dX5_isValueOfLevel_3 (by decide) ?_
  refine ri_cge (tgt := 28) hx hb dX5_isValueOfLevel_4 (by decide) (by omega) (by omega) (fun c4 => ?_) (fun c4 => ?_)
  · refine lv_iconst (v := nI 0) hx hb dX5_isValueOfLevel_28 (by decide) ?_
    exact krz (v := nI 0) Y hr hlocks (by decide) (Or.inr ⟨rfl, fun l9 q => hno l9 (by omega)⟩) dX5_isValueOfLevel_29
  · refine lv_aload_n hx hb dX5_isValueOfLevel_7 rfl (lv_at hl 0 rfl) ?_
    refine va_get (D := (dC, dI)) (ci := 5) (v := .ref pa) (C := RX5) (T := TX5) (N := 9) hx hb hts inlX5 hown hK hP 0 rfl rfl 0 (by decide) (hts _ qf_X5_9) (fun _ h9 => h9) rfl dX5_isValueOfLevel_8 ?_
    refine lv_bipush (v := nI 10) hx hb dX5_isValueOfLevel_11 (by decide) ?_
    refine lv_iload_n hx hb dX5_isValueOfLevel_13 rfl (lv_at hl 2 rfl) ?_
    refine ri_add hx hb dX5_isValueOfLevel_14 ?_
    refine ri_ald hx hb hK hP 1 0 (F := P) rfl rfl dX5_isValueOfLevel_15 (by decide) (by omega) ?_
    have hpl := hPI.le (k := 10 + t) (by omega)
    refine lv_iload_n hx hb dX5_isValueOfLevel_16 rfl (lv_at hl 1 rfl) ?_
    refine ri_cne (tgt := 22) hx hb dX5_isValueOfLevel_17 (by decide) (by omega) (by omega) (fun c17 => ?_) (fun c17 => ?_)
    · refine lv_iinc (v := nI (t + 1)) (lv' := [(2, .int (nI (t + 1))), (0, .ref x0), (1, .int (nI h9))]) hx hb dX5_isValueOfLevel_22 hl (k := 2) rfl (inc1 _) (by decide) rfl (fun ls hl => ?_)
      refine lv_goto (tgt := 2) hx hb dX5_isValueOfLevel_25 (by decide) ?_
      exact ih2 (t + 1) _ (by show _ < _; omega) (by exact ⟨lv_sub hl [1, 2, 0] rfl, ⟨by omega, fun l9 q => by rcases Nat.lt_or_ge l9 t with z | z; exact hno l9 z; exact (show l9 = t by omega) ▸ c17⟩⟩)
    · refine lv_iconst (v := nI 1) hx hb dX5_isValueOfLevel_20 (by decide) ?_
      exact krz (v := nI 1) Y hr hlocks (by decide) (Or.inl ⟨rfl, t, by omega, by omega⟩) dX5_isValueOfLevel_21
