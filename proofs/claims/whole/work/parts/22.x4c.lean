set_option maxHeartbeats 4000000 in
set_option maxRecDepth 100000 in
theorem c_X4_forget (l : Launch) (dC : Nat → ClassId) (dI : Nat → Nat → Nat) (sz : Nat) (h0 v1 v2 v3 v4 v5 : Nat) (wr sv n co ch1 ch2 : Nat)  : Met l yX4_forget (kw yX4_forget cX4_forget 1 none) (kR 0 0) (kPq (dC, dI) [.ref h0] sz [(h0, .inr (4, [.int (nI wr), .ref v1, .ref v2, .ref v3, .ref v4, .ref v5, .int (nI sv), .int (nI n), .long (lN co), .int (nI ch1), .int (nI ch2)]))] []) (va_Qv (fun u : Unit => True) (fun u : Unit => kB (dC, dI) [] (va_A [(h0, .inr (4, [.int (nI wr), .ref v1, .ref v2, .ref v3, .ref v4, .ref v5, .int (nI sv), .int (nI n), .long (lN co), .int (nI ch1), .int (nI ch2)]))] sz) ([(h0, .inr (4, [.int (nI wr), .ref v1, .ref v2, .ref v3, .ref v4, .ref v5, .int (nI 0), .int (nI n), .long (lN co), .int (nI ch1), .int (nI ch2)]))])) (va_A [(h0, .inr (4, [.int (nI wr), .ref v1, .ref v2, .ref v3, .ref v4, .ref v5, .int (nI sv), .int (nI n), .long (lN co), .int (nI ch1), .int (nI ch2)]))] sz)) 0 0 (va_A [(h0, .inr (4, [.int (nI wr), .ref v1, .ref v2, .ref v3, .ref v4, .ref v5, .int (nI sv), .int (nI n), .long (lN co), .int (nI ch1), .int (nI ch2)]))] sz) := by
  refine kmet (by decide) ?_
  intro p e s m args below meth c Y hr hlocks hin hv
  obtain ⟨rfl, A, hAe, hsz, hP, hK, hD, hZ, hA⟩ := kinQ hv
  rw [hAe]
  have hS : va_S A s.heap s.heap [] := va_S.rf
  have hx := Y.1
  have hb := Y.2.1
  have hml := Y.2.2.1
  have hown := Y.2.2.2.1
  have hts := Y.2.2.2.2
  have hl := lv_entry ([.ref h0]) (n := 1) (Nat.le_of_ble_eq_true rfl)
  rw [lg_entry_eq]
  generalize (lg_sl ([.ref h0]) ++ List.replicate (1 - (lg_sl ([.ref h0])).length) Slot.unset).toArray = ls at hl ⊢
  have hl : lv_has ls 1 [(0, .ref h0)] := hl
  refine lv_aload_n hx hb dX4_forget_0 rfl (lv_at hl 0 rfl) ?_
  refine lv_iconst (v := nI 0) hx hb dX4_forget_1 (by decide) ?_
  refine va_put (D := (dC, dI)) (ci := 4) (v := .int (nI 0)) (ty := .boolean) (C := RX4) (T := TX4) (N := 11) hx hb hts inlX4 tyX4 tyX4_ok nmX4 hown hK hP hD hS 0 rfl rfl 6 (by decide) (hts _ qf_X4_51) (fun _ h9 => h9) rfl (by decide +kernel) (by decide) rfl (Nat.le_of_ble_eq_true rfl) dX4_forget_2 (fun H locs hP hD hS => ?_)
  have hP : va_P (dC, dI) vwCl [(h0, .inr (4, [.int (nI wr), .ref v1, .ref v2, .ref v3, .ref v4, .ref v5, .int (nI 0), .int (nI n), .long (lN co), .int (nI ch1), .int (nI ch2)]))] H := hP
  have hD : va_D A [(h0, .inr (4, [.int (nI wr), .ref v1, .ref v2, .ref v3, .ref v4, .ref v5, .int (nI 0), .int (nI n), .long (lN co), .int (nI ch1), .int (nI ch2)]))] := hD
  exact kqv (w1 := (fun u : Unit => [(h0, .inr (4, [.int (nI wr), .ref v1, .ref v2, .ref v3, .ref v4, .ref v5, .int (nI 0), .int (nI n), .long (lN co), .int (nI ch1), .int (nI ch2)]))])) Y hr hlocks hK hP hD hS [0] (by decide) () rfl trivial dX4_forget_5
set_option maxHeartbeats 4000000 in
set_option maxRecDepth 100000 in
theorem c_X4_readParameters (l : Launch) (dC : Nat → ClassId) (dI : Nat → Nat → Nat) (sz : Nat) (cL cI : ClassId) (h0 v1 v2 v3 v4 v5 pa : Nat) (wr sv n co ch1 ch2 : Nat) (bf af lv wt : Nat → Nat) (fl : Nat → Int64) (P : Nat → Nat) (hPI : PI P) (h1 : wr ≤ 1) : Met l yX4_readParameters (kw yX4_readParameters cX4_readParameters 3 none) (kR 0 0) (kPq (dC, dI) [.ref h0, .ref pa] sz [(h0, .inr (4, [.int (nI wr), .ref v1, .ref v2, .ref v3, .ref v4, .ref v5, .int (nI sv), .int (nI n), .long (lN co), .int (nI ch1), .int (nI ch2)])), (v1, .inl (cL, 1152, .inr (.inl (fun zz => lN (bf zz))))), (v2, .inl (cL, 192, .inr (.inl (fun zz => lN (af zz))))), (v3, .inl (cL, 32, .inr (.inl fl))), (v4, .inl (cL, 5, .inr (.inl (fun zz => lN (lv zz))))), (v5, .inl (cI, 5, .inl (fun zz => nI (wt zz)))), (pa, .inl (cI, 22, .inl (fun zz => nI (P zz))))] [(cL, .long), (cI, .int)]) (va_Qv (fun u : (Nat → Nat) × (Nat → Nat) => VL P u.1 u.2) (fun u : (Nat → Nat) × (Nat → Nat) => kB (dC, dI) [(cL, .long), (cI, .int)] (va_A [(h0, .inr (4, [.int (nI wr), .ref v1, .ref v2, .ref v3, .ref v4, .ref v5, .int (nI sv), .int (nI n), .long (lN co), .int (nI ch1), .int (nI ch2)])), (v1, .inl (cL, 1152, .inr (.inl (fun zz => lN (bf zz))))), (v2, .inl (cL, 192, .inr (.inl (fun zz => lN (af zz))))), (v3, .inl (cL, 32, .inr (.inl fl))), (v4, .inl (cL, 5, .inr (.inl (fun zz => lN (lv zz))))), (v5, .inl (cI, 5, .inl (fun zz => nI (wt zz)))), (pa, .inl (cI, 22, .inl (fun zz => nI (P zz))))] sz) ([(h0, .inr (4, [.int (nI wr), .ref v1, .ref v2, .ref v3, .ref v4, .ref v5, .int (nI sv), .int (nI (P 0)), .long (lN (P 2 * 1000000000000000)), .int (nI (C1 P wr)), .int (nI (C2 P wr))])), (v1, .inl (cL, 1152, .inr (.inl (fun zz => lN (bf zz))))), (v2, .inl (cL, 192, .inr (.inl (fun zz => lN (af zz))))), (v3, .inl (cL, 32, .inr (.inl fl))), (v4, .inl (cL, 5, .inr (.inl (fun zz => lN (u.1 zz))))), (v5, .inl (cI, 5, .inl (fun zz => nI (u.2 zz)))), (pa, .inl (cI, 22, .inl (fun zz => nI (P zz))))])) (va_A [(h0, .inr (4, [.int (nI wr), .ref v1, .ref v2, .ref v3, .ref v4, .ref v5, .int (nI sv), .int (nI n), .long (lN co), .int (nI ch1), .int (nI ch2)])), (v1, .inl (cL, 1152, .inr (.inl (fun zz => lN (bf zz))))), (v2, .inl (cL, 192, .inr (.inl (fun zz => lN (af zz))))), (v3, .inl (cL, 32, .inr (.inl fl))), (v4, .inl (cL, 5, .inr (.inl (fun zz => lN (lv zz))))), (v5, .inl (cI, 5, .inl (fun zz => nI (wt zz)))), (pa, .inl (cI, 22, .inl (fun zz => nI (P zz))))] sz)) 0 0 (va_A [(h0, .inr (4, [.int (nI wr), .ref v1, .ref v2, .ref v3, .ref v4, .ref v5, .int (nI sv), .int (nI n), .long (lN co), .int (nI ch1), .int (nI ch2)])), (v1, .inl (cL, 1152, .inr (.inl (fun zz => lN (bf zz))))), (v2, .inl (cL, 192, .inr (.inl (fun zz => lN (af zz))))), (v3, .inl (cL, 32, .inr (.inl fl))), (v4, .inl (cL, 5, .inr (.inl (fun zz => lN (lv zz))))), (v5, .inl (cI, 5, .inl (fun zz => nI (wt zz)))), (pa, .inl (cI, 22, .inl (fun zz => nI (P zz))))] sz) := by
  refine kmet (by decide) ?_
  intro p e s m args below meth c Y hr hlocks hin hv
  obtain ⟨rfl, A, hAe, hsz, hP, hK, hD, hZ, hA⟩ := kinQ hv
  rw [hAe]
  have hS : va_S A s.heap s.heap [] := va_S.rf
  have hx := Y.1
  have hb := Y.2.1
  have hml := Y.2.2.1
  have hown := Y.2.2.2.1
  have hts := Y.2.2.2.2
  have hl := lv_entry ([.ref h0, .ref pa]) (n := 3) (Nat.le_of_ble_eq_true rfl)
  rw [lg_entry_eq]
  generalize (lg_sl ([.ref h0, .ref pa]) ++ List.replicate (3 - (lg_sl ([.ref h0, .ref pa])).length) Slot.unset).toArray = ls at hl ⊢
  have hl : lv_has ls 3 [(0, .ref h0), (1, .ref pa)] := hl
  have hp0 := hPI.1
  have hp2 := hPI.2.2.1
  have hp20 := hPI.2.2.2.2.2.2.1
  have hp21 := hPI.2.2.2.2.2.2.2
  refine lv_aload_n hx hb dX4_readParameters_0 rfl (lv_at hl 0 rfl) ?_
  refine lv_aload_n hx hb dX4_readParameters_1 rfl (lv_at hl 1 rfl) ?_
  refine lv_iconst (v := nI 0) hx hb dX4_readParameters_2 (by decide) ?_
  refine ri_ald hx hb hK hP 6 1 (F := P) rfl rfl dX4_readParameters_3 (by decide) (by omega) ?_
  refine va_put (D := (dC, dI)) (ci := 4) (v := .int (nI (P 0))) (ty := .int) (C := RX4) (T := TX4) (N := 11) hx hb hts inlX4 tyX4 tyX4_ok nmX4 hown hK hP hD hS 0 rfl rfl 7 (by decide) (hts _ qf_X4_58) (fun _ h9 => h9) rfl (by decide +kernel) rfl rfl (Nat.le_of_ble_eq_true rfl) dX4_readParameters_4 (fun H locs hP hD hS => ?_)
  have hP : va_P (dC, dI) vwCl [(h0, .inr (4, [.int (nI wr), .ref v1, .ref v2, .ref v3, .ref v4, .ref v5, .int (nI sv), .int (nI (P 0)), .long (lN co), .int (nI ch1), .int (nI ch2)])), (v1, .inl (cL, 1152, .inr (.inl (fun zz => lN (bf zz))))), (v2, .inl (cL, 192, .inr (.inl (fun zz => lN (af zz))))), (v3, .inl (cL, 32, .inr (.inl fl))), (v4, .inl (cL, 5, .inr (.inl (fun zz => lN (lv zz))))), (v5, .inl (cI, 5, .inl (fun zz => nI (wt zz)))), (pa, .inl (cI, 22, .inl (fun zz => nI (P zz))))] H := hP
  have hD : va_D A [(h0, .inr (4, [.int (nI wr), .ref v1, .ref v2, .ref v3, .ref v4, .ref v5, .int (nI sv), .int (nI (P 0)), .long (lN co), .int (nI ch1), .int (nI ch2)])), (v1, .inl (cL, 1152, .inr (.inl (fun zz => lN (bf zz))))), (v2, .inl (cL, 192, .inr (.inl (fun zz => lN (af zz))))), (v3, .inl (cL, 32, .inr (.inl fl))), (v4, .inl (cL, 5, .inr (.inl (fun zz => lN (lv zz))))), (v5, .inl (cI, 5, .inl (fun zz => nI (wt zz)))), (pa, .inl (cI, 22, .inl (fun zz => nI (P zz))))] := hD
  refine lv_aload_n hx hb dX4_readParameters_7 rfl (lv_at hl 0 rfl) ?_
  refine lv_aload_n hx hb dX4_readParameters_8 rfl (lv_at hl 1 rfl) ?_
  refine lv_iconst (v := nI 2) hx hb dX4_readParameters_9 (by decide) ?_
  refine ri_ald hx hb hK hP 6 1 (F := P) rfl rfl dX4_readParameters_10 (by decide) (by omega) ?_
  refine ri_i2l hx hb dX4_readParameters_11 (by omega) ?_
  refine lv_ldc2 (v := lN 1000000000000000) hx hb hown (hts _ ql_X4_80) dX4_readParameters_12 ?_
  refine rl_muln hx hb dX4_readParameters_15 ?_
  refine va_put (D := (dC, dI)) (ci := 4) (v := .long (lN ((P 2) * 1000000000000000))) (ty := .long) (C := RX4) (T := TX4) (N := 11) hx hb hts inlX4 tyX4 tyX4_ok nmX4 hown hK hP hD hS 0 rfl rfl 8 (by decide) (hts _ qf_X4_76) (fun _ h9 => h9) rfl (by decide +kernel) rfl rfl (Nat.le_of_ble_eq_true rfl) dX4_readParameters_16 (fun H locs hP hD hS => ?_)
  have hP : va_P (dC, dI) vwCl [(h0, .inr (4, [.int (nI wr), .ref v1, .ref v2, .ref v3, .ref v4, .ref v5, .int (nI sv), .int (nI (P 0)), .long (lN ((P 2) * 1000000000000000)), .int (nI ch1), .int (nI ch2)])), (v1, .inl (cL, 1152, .inr (.inl (fun zz => lN (bf zz))))), (v2, .inl (cL, 192, .inr (.inl (fun zz => lN (af zz))))), (v3, .inl (cL, 32, .inr (.inl fl))), (v4, .inl (cL, 5, .inr (.inl (fun zz => lN (lv zz))))), (v5, .inl (cI, 5, .inl (fun zz => nI (wt zz)))), (pa, .inl (cI, 22, .inl (fun zz => nI (P zz))))] H := hP
  have hD : va_D A [(h0, .inr (4, [.int (nI wr), .ref v1, .ref v2, .ref v3, .ref v4, .ref v5, .int (nI sv), .int (nI (P 0)), .long (lN ((P 2) * 1000000000000000)), .int (nI ch1), .int (nI ch2)])), (v1, .inl (cL, 1152, .inr (.inl (fun zz => lN (bf zz))))), (v2, .inl (cL, 192, .inr (.inl (fun zz => lN (af zz))))), (v3, .inl (cL, 32, .inr (.inl fl))), (v4, .inl (cL, 5, .inr (.inl (fun zz => lN (lv zz))))), (v5, .inl (cI, 5, .inl (fun zz => nI (wt zz)))), (pa, .inl (cI, 22, .inl (fun zz => nI (P zz))))] := hD
  refine lv_aload_n hx hb dX4_readParameters_19 rfl (lv_at hl 0 rfl) ?_
  refine wji 35 ls [.ref h0] (fun x : Int32 => x = nI (C1 P wr)) (fun x35 hx35 => ?_) (fun J35 => ?_)
  · obtain rfl : x35 = nI (C1 P wr) := hx35
    refine va_put (D := (dC, dI)) (ci := 4) (v := .int (nI (C1 P wr))) (ty := .int) (C := RX4) (T := TX4) (N := 11) hx hb hts inlX4 tyX4 tyX4_ok nmX4 hown hK hP hD hS 0 rfl rfl 9 (by decide) (hts _ qf_X4_82) (fun _ h9 => h9) rfl (by decide +kernel) rfl rfl (Nat.le_of_ble_eq_true rfl) dX4_readParameters_35 (fun H locs hP hD hS => ?_)
    have hP : va_P (dC, dI) vwCl [(h0, .inr (4, [.int (nI wr), .ref v1, .ref v2, .ref v3, .ref v4, .ref v5, .int (nI sv), .int (nI (P 0)), .long (lN ((P 2) * 1000000000000000)), .int (nI (C1 P wr)), .int (nI ch2)])), (v1, .inl (cL, 1152, .inr (.inl (fun zz => lN (bf zz))))), (v2, .inl (cL, 192, .inr (.inl (fun zz => lN (af zz))))), (v3, .inl (cL, 32, .inr (.inl fl))), (v4, .inl (cL, 5, .inr (.inl (fun zz => lN (lv zz))))), (v5, .inl (cI, 5, .inl (fun zz => nI (wt zz)))), (pa, .inl (cI, 22, .inl (fun zz => nI (P zz))))] H := hP
    have hD : va_D A [(h0, .inr (4, [.int (nI wr), .ref v1, .ref v2, .ref v3, .ref v4, .ref v5, .int (nI sv), .int (nI (P 0)), .long (lN ((P 2) * 1000000000000000)), .int (nI (C1 P wr)), .int (nI ch2)])), (v1, .inl (cL, 1152, .inr (.inl (fun zz => lN (bf zz))))), (v2, .inl (cL, 192, .inr (.inl (fun zz => lN (af zz))))), (v3, .inl (cL, 32, .inr (.inl fl))), (v4, .inl (cL, 5, .inr (.inl (fun zz => lN (lv zz))))), (v5, .inl (cI, 5, .inl (fun zz => nI (wt zz)))), (pa, .inl (cI, 22, .inl (fun zz => nI (P zz))))] := hD
    refine lv_aload_n hx hb dX4_readParameters_38 rfl (lv_at hl 0 rfl) ?_
    refine wji 54 ls [.ref h0] (fun x : Int32 => x = nI (C2 P wr)) (fun x54 hx54 => ?_) (fun J54 => ?_)
    · obtain rfl : x54 = nI (C2 P wr) := hx54
      refine va_put (D := (dC, dI)) (ci := 4) (v := .int (nI (C2 P wr))) (ty := .int) (C := RX4) (T := TX4) (N := 11) hx hb hts inlX4 tyX4 tyX4_ok nmX4 hown hK hP hD hS 0 rfl rfl 10 (by decide) (hts _ qf_X4_85) (fun _ h9 => h9) rfl (by decide +kernel) rfl rfl (Nat.le_of_ble_eq_true rfl) dX4_readParameters_54 (fun H locs hP hD hS => ?_)
      have hP : va_P (dC, dI) vwCl [(h0, .inr (4, [.int (nI wr), .ref v1, .ref v2, .ref v3, .ref v4, .ref v5, .int (nI sv), .int (nI (P 0)), .long (lN ((P 2) * 1000000000000000)), .int (nI (C1 P wr)), .int (nI (C2 P wr))])), (v1, .inl (cL, 1152, .inr (.inl (fun zz => lN (bf zz))))), (v2, .inl (cL, 192, .inr (.inl (fun zz => lN (af zz))))), (v3, .inl (cL, 32, .inr (.inl fl))), (v4, .inl (cL, 5, .inr (.inl (fun zz => lN (lv zz))))), (v5, .inl (cI, 5, .inl (fun zz => nI (wt zz)))), (pa, .inl (cI, 22, .inl (fun zz => nI (P zz))))] H := hP
      have hD : va_D A [(h0, .inr (4, [.int (nI wr), .ref v1, .ref v2, .ref v3, .ref v4, .ref v5, .int (nI sv), .int (nI (P 0)), .long (lN ((P 2) * 1000000000000000)), .int (nI (C1 P wr)), .int (nI (C2 P wr))])), (v1, .inl (cL, 1152, .inr (.inl (fun zz => lN (bf zz))))), (v2, .inl (cL, 192, .inr (.inl (fun zz => lN (af zz))))), (v3, .inl (cL, 32, .inr (.inl fl))), (v4, .inl (cL, 5, .inr (.inl (fun zz => lN (lv zz))))), (v5, .inl (cI, 5, .inl (fun zz => nI (wt zz)))), (pa, .inl (cI, 22, .inl (fun zz => nI (P zz))))] := hD
      refine lv_iconst (v := nI 0) hx hb dX4_readParameters_57 (by decide) ?_
      refine lv_istore_n (lv' := [(2, .int (nI 0)), (0, .ref h0), (1, .ref pa)]) hx hb dX4_readParameters_58 rfl hl (by decide) rfl (fun ls hl => ?_)
      refine wl3 (fun (l2 : Nat) (lv1 : Nat → Nat) (wt1 : Nat → Nat) => 5 - l2) (fun (l2 : Nat) (lv1 : Nat → Nat) (wt1 : Nat → Nat) (ls : Array Slot) (H : Heap) (locs : List Loc) => lv_has ls 3 [(0, .ref h0), (1, .ref pa), (2, .int (nI l2))] ∧ va_P (dC, dI) vwCl [(h0, .inr (4, [.int (nI wr), .ref v1, .ref v2, .ref v3, .ref v4, .ref v5, .int (nI sv), .int (nI (P 0)), .long (lN (P 2 * 1000000000000000)), .int (nI (C1 P wr)), .int (nI (C2 P wr))])), (v1, .inl (cL, 1152, .inr (.inl (fun zz => lN (bf zz))))), (v2, .inl (cL, 192, .inr (.inl (fun zz => lN (af zz))))), (v3, .inl (cL, 32, .inr (.inl fl))), (v4, .inl (cL, 5, .inr (.inl (fun zz => lN (lv1 zz))))), (v5, .inl (cI, 5, .inl (fun zz => nI (wt1 zz)))), (pa, .inl (cI, 22, .inl (fun zz => nI (P zz))))] H ∧ va_D A [(h0, .inr (4, [.int (nI wr), .ref v1, .ref v2, .ref v3, .ref v4, .ref v5, .int (nI sv), .int (nI (P 0)), .long (lN (P 2 * 1000000000000000)), .int (nI (C1 P wr)), .int (nI (C2 P wr))])), (v1, .inl (cL, 1152, .inr (.inl (fun zz => lN (bf zz))))), (v2, .inl (cL, 192, .inr (.inl (fun zz => lN (af zz))))), (v3, .inl (cL, 32, .inr (.inl fl))), (v4, .inl (cL, 5, .inr (.inl (fun zz => lN (lv1 zz))))), (v5, .inl (cI, 5, .inl (fun zz => nI (wt1 zz)))), (pa, .inl (cI, 22, .inl (fun zz => nI (P zz))))] ∧ va_S A s.heap H locs ∧ (l2 ≤ 5 ∧ ∀ k, k < l2 → lv1 k = P (10 + k) * 1000000000000000 ∧ wt1 k = P (15 + k))) 0 lv wt (by exact ⟨lv_sub hl [1, 2, 0] rfl, hP.sub [0, 1, 2, 3, 4, 5, 6] rfl, hD.sub [0, 1, 2, 3, 4, 5, 6] (by decide) rfl, hS, by omega, fun k h => by omega⟩) (fun l2 lv1 wt1 ls H locs hI ih => ?_)
      obtain ⟨hl, hP, hD, hS, hl5, hrd⟩ := hI
      have ih59 := ih
      refine lv_iload_n hx hb dX4_readParameters_59 rfl (lv_at hl 2 rfl) ?_
      refine lv_iconst (v := nI 5) hx hb dX4_readParameters_60 (by decide) ?_
      refine ri_cge (tgt := 99) hx hb dX4_readParameters_61 (by decide) (by omega) (by omega) (fun c61 => ?_) (fun c61 => ?_)
      · exact kqv (w1 := (fun u : (Nat → Nat) × (Nat → Nat) => [(h0, .inr (4, [.int (nI wr), .ref v1, .ref v2, .ref v3, .ref v4, .ref v5, .int (nI sv), .int (nI (P 0)), .long (lN (P 2 * 1000000000000000)), .int (nI (C1 P wr)), .int (nI (C2 P wr))])), (v1, .inl (cL, 1152, .inr (.inl (fun zz => lN (bf zz))))), (v2, .inl (cL, 192, .inr (.inl (fun zz => lN (af zz))))), (v3, .inl (cL, 32, .inr (.inl fl))), (v4, .inl (cL, 5, .inr (.inl (fun zz => lN (u.1 zz))))), (v5, .inl (cI, 5, .inl (fun zz => nI (u.2 zz)))), (pa, .inl (cI, 22, .inl (fun zz => nI (P zz))))])) Y hr hlocks hK hP hD hS [0, 1, 2, 3, 4, 5, 6] (by decide) (lv1, wt1) rfl (fun k hk => hrd k (by omega)) dX4_readParameters_99
      · have hpv := hPI.le (k := 10 + l2) (by omega)
        have hpw := hPI.le (k := 15 + l2) (by omega)
        refine lv_aload_n hx hb dX4_readParameters_64 rfl (lv_at hl 0 rfl) ?_
        refine va_get (D := (dC, dI)) (ci := 4) (v := .ref v4) (C := RX4) (T := TX4) (N := 11) hx hb hts inlX4 hown hK hP 0 rfl rfl 4 (by decide) (hts _ qf_X4_25) (fun _ h9 => h9) rfl dX4_readParameters_65 ?_
        refine lv_iload_n hx hb dX4_readParameters_68 rfl (lv_at hl 2 rfl) ?_
        refine lv_aload_n hx hb dX4_readParameters_69 rfl (lv_at hl 1 rfl) ?_
        refine lv_bipush (v := nI 10) hx hb dX4_readParameters_70 (by decide) ?_
        refine lv_iload_n hx hb dX4_readParameters_72 rfl (lv_at hl 2 rfl) ?_
        refine ri_add hx hb dX4_readParameters_73 ?_
        refine ri_ald hx hb hK hP 6 1 (F := P) rfl rfl dX4_readParameters_74 (by decide) (by omega) ?_
        refine ri_i2l hx hb dX4_readParameters_75 (by omega) ?_
        refine lv_ldc2 (v := lN 1000000000000000) hx hb hown (hts _ ql_X4_80) dX4_readParameters_76 ?_
        refine rl_muln hx hb dX4_readParameters_79 ?_
        refine rm_ast hx hb hK hP hD hS 4 0 (F := lv1) rfl rfl dX4_readParameters_80 (by decide) (by omega) (fun H locs hP hD hS => ?_)
        have hP : va_P (dC, dI) vwCl [(h0, .inr (4, [.int (nI wr), .ref v1, .ref v2, .ref v3, .ref v4, .ref v5, .int (nI sv), .int (nI (P 0)), .long (lN (P 2 * 1000000000000000)), .int (nI (C1 P wr)), .int (nI (C2 P wr))])), (v1, .inl (cL, 1152, .inr (.inl (fun zz => lN (bf zz))))), (v2, .inl (cL, 192, .inr (.inl (fun zz => lN (af zz))))), (v3, .inl (cL, 32, .inr (.inl fl))), (v4, .inl (cL, 5, .inr (.inl (fun zz => lN (updN lv1 l2 ((P (10 + l2)) * 1000000000000000) zz))))), (v5, .inl (cI, 5, .inl (fun zz => nI (wt1 zz)))), (pa, .inl (cI, 22, .inl (fun zz => nI (P zz))))] H := hP
        have hD : va_D A [(h0, .inr (4, [.int (nI wr), .ref v1, .ref v2, .ref v3, .ref v4, .ref v5, .int (nI sv), .int (nI (P 0)), .long (lN (P 2 * 1000000000000000)), .int (nI (C1 P wr)), .int (nI (C2 P wr))])), (v1, .inl (cL, 1152, .inr (.inl (fun zz => lN (bf zz))))), (v2, .inl (cL, 192, .inr (.inl (fun zz => lN (af zz))))), (v3, .inl (cL, 32, .inr (.inl fl))), (v4, .inl (cL, 5, .inr (.inl (fun zz => lN (updN lv1 l2 ((P (10 + l2)) * 1000000000000000) zz))))), (v5, .inl (cI, 5, .inl (fun zz => nI (wt1 zz)))), (pa, .inl (cI, 22, .inl (fun zz => nI (P zz))))] := hD
        refine lv_aload_n hx hb dX4_readParameters_81 rfl (lv_at hl 0 rfl) ?_
        refine va_get (D := (dC, dI)) (ci := 4) (v := .ref v5) (C := RX4) (T := TX4) (N := 11) hx hb hts inlX4 hown hK hP 0 rfl rfl 5 (by decide) (hts _ qf_X4_28) (fun _ h9 => h9) rfl dX4_readParameters_82 ?_
        refine lv_iload_n hx hb dX4_readParameters_85 rfl (lv_at hl 2 rfl) ?_
        refine lv_aload_n hx hb dX4_readParameters_86 rfl (lv_at hl 1 rfl) ?_
        refine lv_bipush (v := nI 15) hx hb dX4_readParameters_87 (by decide) ?_
        refine lv_iload_n hx hb dX4_readParameters_89 rfl (lv_at hl 2 rfl) ?_
        refine ri_add hx hb dX4_readParameters_90 ?_
        refine ri_ald hx hb hK hP 6 1 (F := P) rfl rfl dX4_readParameters_91 (by decide) (by omega) ?_
        refine ri_ast hx hb hK hP hD hS 5 1 (F := wt1) rfl rfl dX4_readParameters_92 (by decide) (by omega) (fun H locs hP hD hS => ?_)
        have hP : va_P (dC, dI) vwCl [(h0, .inr (4, [.int (nI wr), .ref v1, .ref v2, .ref v3, .ref v4, .ref v5, .int (nI sv), .int (nI (P 0)), .long (lN (P 2 * 1000000000000000)), .int (nI (C1 P wr)), .int (nI (C2 P wr))])), (v1, .inl (cL, 1152, .inr (.inl (fun zz => lN (bf zz))))), (v2, .inl (cL, 192, .inr (.inl (fun zz => lN (af zz))))), (v3, .inl (cL, 32, .inr (.inl fl))), (v4, .inl (cL, 5, .inr (.inl (fun zz => lN (updN lv1 l2 ((P (10 + l2)) * 1000000000000000) zz))))), (v5, .inl (cI, 5, .inl (fun zz => nI (updN wt1 l2 (P (15 + l2)) zz)))), (pa, .inl (cI, 22, .inl (fun zz => nI (P zz))))] H := hP
        have hD : va_D A [(h0, .inr (4, [.int (nI wr), .ref v1, .ref v2, .ref v3, .ref v4, .ref v5, .int (nI sv), .int (nI (P 0)), .long (lN (P 2 * 1000000000000000)), .int (nI (C1 P wr)), .int (nI (C2 P wr))])), (v1, .inl (cL, 1152, .inr (.inl (fun zz => lN (bf zz))))), (v2, .inl (cL, 192, .inr (.inl (fun zz => lN (af zz))))), (v3, .inl (cL, 32, .inr (.inl fl))), (v4, .inl (cL, 5, .inr (.inl (fun zz => lN (updN lv1 l2 ((P (10 + l2)) * 1000000000000000) zz))))), (v5, .inl (cI, 5, .inl (fun zz => nI (updN wt1 l2 (P (15 + l2)) zz)))), (pa, .inl (cI, 22, .inl (fun zz => nI (P zz))))] := hD
        refine lv_iinc (v := nI (l2 + 1)) (lv' := [(2, .int (nI (l2 + 1))), (0, .ref h0), (1, .ref pa)]) hx hb dX4_readParameters_93 hl (k := 2) rfl (inc1 _) (by decide) rfl (fun ls hl => ?_)
        refine lv_goto (tgt := 59) hx hb dX4_readParameters_96 (by decide) ?_
        exact ih59 (l2 + 1) (updN lv1 l2 ((P (10 + l2)) * 1000000000000000)) (updN wt1 l2 (P (15 + l2))) _ _ _ (by show _ < _; omega) (by exact ⟨lv_sub hl [1, 2, 0] rfl, hP.sub [0, 1, 2, 3, 4, 5, 6] rfl, hD.sub [0, 1, 2, 3, 4, 5, 6] (by decide) rfl, hS, by omega, fun k h => by unfold updN; split <;> first | (rename_i e; subst e; exact ⟨rfl, rfl⟩) | exact hrd k (by omega)⟩)
    · refine lv_aload_n hx hb dX4_readParameters_39 rfl (lv_at hl 0 rfl) ?_
      refine va_get (D := (dC, dI)) (ci := 4) (v := .int (nI wr)) (C := RX4) (T := TX4) (N := 11) hx hb hts inlX4 hown hK hP 0 rfl rfl 0 (by decide) (hts _ qf_X4_9) (fun _ h9 => h9) rfl dX4_readParameters_40 ?_
      refine ri_zeq (tgt := 53) hx hb dX4_readParameters_43 (by decide) (by omega) (fun c43 => ?_) (fun c43 => ?_)
      · refine lv_iconst (v := nI 0) hx hb dX4_readParameters_53 (by decide) ?_
        exact J54 _ (congrArg nI (show 0 = C2 P wr from (if_pos c43).symm))
      · refine lv_aload_n hx hb dX4_readParameters_46 rfl (lv_at hl 1 rfl) ?_
        refine lv_bipush (v := nI 21) hx hb dX4_readParameters_47 (by decide) ?_
        refine ri_ald hx hb hK hP 6 1 (F := P) rfl rfl dX4_readParameters_49 (by decide) (by omega) ?_
        refine lv_goto (tgt := 54) hx hb dX4_readParameters_50 (by decide) ?_
        exact J54 _ (congrArg nI (show P 21 = C2 P wr from (if_neg (by omega)).symm))
  · refine lv_aload_n hx hb dX4_readParameters_20 rfl (lv_at hl 0 rfl) ?_
    refine va_get (D := (dC, dI)) (ci := 4) (v := .int (nI wr)) (C := RX4) (T := TX4) (N := 11) hx hb hts inlX4 hown hK hP 0 rfl rfl 0 (by decide) (hts _ qf_X4_9) (fun _ h9 => h9) rfl dX4_readParameters_21 ?_
    refine ri_zeq (tgt := 34) hx hb dX4_readParameters_24 (by decide) (by omega) (fun c24 => ?_) (fun c24 => ?_)
    · refine lv_iconst (v := nI 0) hx hb dX4_readParameters_34 (by decide) ?_
      exact J35 _ (congrArg nI (show 0 = C1 P wr from (if_pos c24).symm))
    · refine lv_aload_n hx hb dX4_readParameters_27 rfl (lv_at hl 1 rfl) ?_
      refine lv_bipush (v := nI 20) hx hb dX4_readParameters_28 (by decide) ?_
      refine ri_ald hx hb hK hP 6 1 (F := P) rfl rfl dX4_readParameters_30 (by decide) (by omega) ?_
      refine lv_goto (tgt := 35) hx hb dX4_readParameters_31 (by decide) ?_
      exact J35 _ (congrArg nI (show P 20 = C1 P wr from (if_neg (by omega)).symm))
set_option maxHeartbeats 4000000 in
set_option maxRecDepth 100000 in
theorem c_X4_solve (l : Launch) (dC : Nat → ClassId) (dI : Nat → Nat → Nat) (sz : Nat) (cL cI : ClassId) (h0 v1 v2 v3 v4 v5 pa : Nat) (wr sv n co ch1 ch2 : Nat) (bf af lv wt : Nat → Nat) (fl : Nat → Int64) (P : Nat → Nat) (hPI : PI P) (h1 : wr ≤ 1) (hVI : VI P wr sv n co ch1 ch2 lv wt bf af) : Met l yX4_solve (kw yX4_solve cX4_solve 4 none) (kR 3 78) (kPq (dC, dI) [.ref h0, .ref pa] sz [(h0, .inr (4, [.int (nI wr), .ref v1, .ref v2, .ref v3, .ref v4, .ref v5, .int (nI sv), .int (nI n), .long (lN co), .int (nI ch1), .int (nI ch2)])), (v1, .inl (cL, 1152, .inr (.inl (fun zz => lN (bf zz))))), (v2, .inl (cL, 192, .inr (.inl (fun zz => lN (af zz))))), (v3, .inl (cL, 32, .inr (.inl fl))), (v4, .inl (cL, 5, .inr (.inl (fun zz => lN (lv zz))))), (v5, .inl (cI, 5, .inl (fun zz => nI (wt zz)))), (pa, .inl (cI, 22, .inl (fun zz => nI (P zz))))] [(cL, .long), (cI, .int)]) (va_Qv (fun u : Nat × Nat × Nat × Nat × (Nat → Nat) × (Nat → Nat) × (Nat → Nat) × (Nat → Nat) => VS P wr u.1 u.2.1 u.2.2.1 u.2.2.2.1 u.2.2.2.2.1 u.2.2.2.2.2.1 u.2.2.2.2.2.2.1 u.2.2.2.2.2.2.2 ∧ (∀ k, u.2.2.2.2.2.2.1 k ≤ 297000000000000000) ∧ (∀ k, u.2.2.2.2.2.2.2 k ≤ 297000000000000000)) (fun u : Nat × Nat × Nat × Nat × (Nat → Nat) × (Nat → Nat) × (Nat → Nat) × (Nat → Nat) => kB (dC, dI) [(cL, .long), (cI, .int)] (va_A [(h0, .inr (4, [.int (nI wr), .ref v1, .ref v2, .ref v3, .ref v4, .ref v5, .int (nI sv), .int (nI n), .long (lN co), .int (nI ch1), .int (nI ch2)])), (v1, .inl (cL, 1152, .inr (.inl (fun zz => lN (bf zz))))), (v2, .inl (cL, 192, .inr (.inl (fun zz => lN (af zz))))), (v3, .inl (cL, 32, .inr (.inl fl))), (v4, .inl (cL, 5, .inr (.inl (fun zz => lN (lv zz))))), (v5, .inl (cI, 5, .inl (fun zz => nI (wt zz)))), (pa, .inl (cI, 22, .inl (fun zz => nI (P zz))))] sz) ([(h0, .inr (4, [.int (nI wr), .ref v1, .ref v2, .ref v3, .ref v4, .ref v5, .int (nI 1), .int (nI u.1), .long (lN u.2.1), .int (nI u.2.2.1), .int (nI u.2.2.2.1)])), (v1, .inl (cL, 1152, .inr (.inl (fun zz => lN (u.2.2.2.2.2.2.1 zz))))), (v2, .inl (cL, 192, .inr (.inl (fun zz => lN (u.2.2.2.2.2.2.2 zz))))), (v3, .inl (cL, 32, .inr (.inl fl))), (v4, .inl (cL, 5, .inr (.inl (fun zz => lN (u.2.2.2.2.1 zz))))), (v5, .inl (cI, 5, .inl (fun zz => nI (u.2.2.2.2.2.1 zz)))), (pa, .inl (cI, 22, .inl (fun zz => nI (P zz))))])) (va_A [(h0, .inr (4, [.int (nI wr), .ref v1, .ref v2, .ref v3, .ref v4, .ref v5, .int (nI sv), .int (nI n), .long (lN co), .int (nI ch1), .int (nI ch2)])), (v1, .inl (cL, 1152, .inr (.inl (fun zz => lN (bf zz))))), (v2, .inl (cL, 192, .inr (.inl (fun zz => lN (af zz))))), (v3, .inl (cL, 32, .inr (.inl fl))), (v4, .inl (cL, 5, .inr (.inl (fun zz => lN (lv zz))))), (v5, .inl (cI, 5, .inl (fun zz => nI (wt zz)))), (pa, .inl (cI, 22, .inl (fun zz => nI (P zz))))] sz)) 0 0 (va_A [(h0, .inr (4, [.int (nI wr), .ref v1, .ref v2, .ref v3, .ref v4, .ref v5, .int (nI sv), .int (nI n), .long (lN co), .int (nI ch1), .int (nI ch2)])), (v1, .inl (cL, 1152, .inr (.inl (fun zz => lN (bf zz))))), (v2, .inl (cL, 192, .inr (.inl (fun zz => lN (af zz))))), (v3, .inl (cL, 32, .inr (.inl fl))), (v4, .inl (cL, 5, .inr (.inl (fun zz => lN (lv zz))))), (v5, .inl (cI, 5, .inl (fun zz => nI (wt zz)))), (pa, .inl (cI, 22, .inl (fun zz => nI (P zz))))] sz) := by
  refine kmet (by decide) ?_
  intro p e s m args below meth c Y hr hlocks hin hv
  obtain ⟨rfl, A, hAe, hsz, hP, hK, hD, hZ, hA⟩ := kinQ hv
  rw [hAe]
  have hS : va_S A s.heap s.heap [] := va_S.rf
  have hx := Y.1
  have hb := Y.2.1
  have hml := Y.2.2.1
  have hown := Y.2.2.2.1
  have hts := Y.2.2.2.2
  have hl := lv_entry ([.ref h0, .ref pa]) (n := 4) (Nat.le_of_ble_eq_true rfl)
  rw [lg_entry_eq]
  generalize (lg_sl ([.ref h0, .ref pa]) ++ List.replicate (4 - (lg_sl ([.ref h0, .ref pa])).length) Slot.unset).toArray = ls at hl ⊢
  have hl : lv_has ls 4 [(0, .ref h0), (1, .ref pa)] := hl
  obtain ⟨hsv, hVb0, hVa0, hVS⟩ := hVI
  have hp0 := hPI.1
  refine lv_aload_n hx hb dX4_solve_0 rfl (lv_at hl 0 rfl) ?_
  refine va_get (D := (dC, dI)) (ci := 4) (v := .int (nI sv)) (C := RX4) (T := TX4) (N := 11) hx hb hts inlX4 hown hK hP 0 rfl rfl 6 (by decide) (hts _ qf_X4_51) (fun _ h9 => h9) rfl dX4_solve_1 ?_
  refine ri_zeq (tgt := 8) hx hb dX4_solve_4 (by decide) (by omega) (fun c4 => ?_) (fun c4 => ?_)
  · refine lv_aload_n hx hb dX4_solve_8 rfl (lv_at hl 0 rfl) ?_
    refine lv_iconst (v := nI 1) hx hb dX4_solve_9 (by decide) ?_
    refine va_put (D := (dC, dI)) (ci := 4) (v := .int (nI 1)) (ty := .boolean) (C := RX4) (T := TX4) (N := 11) hx hb hts inlX4 tyX4 tyX4_ok nmX4 hown hK hP hD hS 0 rfl rfl 6 (by decide) (hts _ qf_X4_51) (fun _ h9 => h9) rfl (by decide +kernel) (by decide) rfl (Nat.le_of_ble_eq_true rfl) dX4_solve_10 (fun H locs hP hD hS => ?_)
    have hP : va_P (dC, dI) vwCl [(h0, .inr (4, [.int (nI wr), .ref v1, .ref v2, .ref v3, .ref v4, .ref v5, .int (nI 1), .int (nI n), .long (lN co), .int (nI ch1), .int (nI ch2)])), (v1, .inl (cL, 1152, .inr (.inl (fun zz => lN (bf zz))))), (v2, .inl (cL, 192, .inr (.inl (fun zz => lN (af zz))))), (v3, .inl (cL, 32, .inr (.inl fl))), (v4, .inl (cL, 5, .inr (.inl (fun zz => lN (lv zz))))), (v5, .inl (cI, 5, .inl (fun zz => nI (wt zz)))), (pa, .inl (cI, 22, .inl (fun zz => nI (P zz))))] H := hP
    have hD : va_D A [(h0, .inr (4, [.int (nI wr), .ref v1, .ref v2, .ref v3, .ref v4, .ref v5, .int (nI 1), .int (nI n), .long (lN co), .int (nI ch1), .int (nI ch2)])), (v1, .inl (cL, 1152, .inr (.inl (fun zz => lN (bf zz))))), (v2, .inl (cL, 192, .inr (.inl (fun zz => lN (af zz))))), (v3, .inl (cL, 32, .inr (.inl fl))), (v4, .inl (cL, 5, .inr (.inl (fun zz => lN (lv zz))))), (v5, .inl (cI, 5, .inl (fun zz => nI (wt zz)))), (pa, .inl (cI, 22, .inl (fun zz => nI (P zz))))] := hD
    refine lv_aload_n hx hb dX4_solve_13 rfl (lv_at hl 0 rfl) ?_
    refine lv_aload_n hx hb dX4_solve_14 rfl (lv_at hl 1 rfl) ?_
    refine kQv (As := [.ref pa]) (rest := []) (wr := []) Y m_X4_readParameters (c_X4_readParameters l dC dI _ cL cI h0 v1 v2 v3 v4 v5 pa wr 1 n co ch1 ch2 bf af lv wt fl P hPI (by omega)) qm_X4_54 hP hD hS hA [0, 1, 2, 3, 4, 5, 6] [] rfl rfl (by decide) (by decide) (kqV (ci := 4) hK hP hD hZ hS hA [0, 1, 2, 3, 4, 5, 6] [0, 1] rfl (by decide) rfl 0 rfl rfl rfl) rfl hl.1 rfl (Nat.le_of_ble_eq_true rfl) dX4_solve_15 ⟨Nat.le_of_ble_eq_true rfl, Nat.le_of_ble_eq_true rfl⟩ ⟨Nat.zero_le _, Nat.zero_le _⟩ (fun u15 H locs hr15 hP hD hS => ?_)
    obtain ⟨lv2_15, wt2_15⟩ := u15
    have hP : va_P (dC, dI) vwCl [(h0, .inr (4, [.int (nI wr), .ref v1, .ref v2, .ref v3, .ref v4, .ref v5, .int (nI 1), .int (nI (P 0)), .long (lN (P 2 * 1000000000000000)), .int (nI (C1 P wr)), .int (nI (C2 P wr))])), (v1, .inl (cL, 1152, .inr (.inl (fun zz => lN (bf zz))))), (v2, .inl (cL, 192, .inr (.inl (fun zz => lN (af zz))))), (v3, .inl (cL, 32, .inr (.inl fl))), (v4, .inl (cL, 5, .inr (.inl (fun zz => lN (lv2_15 zz))))), (v5, .inl (cI, 5, .inl (fun zz => nI (wt2_15 zz)))), (pa, .inl (cI, 22, .inl (fun zz => nI (P zz))))] H := hP
    have hD : va_D A [(h0, .inr (4, [.int (nI wr), .ref v1, .ref v2, .ref v3, .ref v4, .ref v5, .int (nI 1), .int (nI (P 0)), .long (lN (P 2 * 1000000000000000)), .int (nI (C1 P wr)), .int (nI (C2 P wr))])), (v1, .inl (cL, 1152, .inr (.inl (fun zz => lN (bf zz))))), (v2, .inl (cL, 192, .inr (.inl (fun zz => lN (af zz))))), (v3, .inl (cL, 32, .inr (.inl fl))), (v4, .inl (cL, 5, .inr (.inl (fun zz => lN (lv2_15 zz))))), (v5, .inl (cI, 5, .inl (fun zz => nI (wt2_15 zz)))), (pa, .inl (cI, 22, .inl (fun zz => nI (P zz))))] := hD
    have hr15 : VL P lv2_15 wt2_15 := hr15
    have hVl := VL_l hPI hr15
    have hVw := VL_w hPI hr15
    have hVc1 : C1 P wr ≤ 10 := chR_le hPI.2.2.2.2.2.2.1
    have hVc2 : C2 P wr ≤ 10 := chR_le hPI.2.2.2.2.2.2.2
    have hco := hPI.c20
    refine lv_aload_n hx hb dX4_solve_18 rfl (lv_at hl 0 rfl) ?_
    refine va_get (D := (dC, dI)) (ci := 4) (v := .int (nI (P 0))) (C := RX4) (T := TX4) (N := 11) hx hb hts inlX4 hown hK hP 0 rfl rfl 7 (by decide) (hts _ qf_X4_58) (fun _ h9 => h9) rfl dX4_solve_19 ?_
    refine lv_iconst (v := nI 1) hx hb dX4_solve_22 (by decide) ?_
    refine ri_add hx hb dX4_solve_23 ?_
    refine lv_istore_n (lv' := [(2, .int (nI ((P 0) + 1))), (0, .ref h0), (1, .ref pa)]) hx hb dX4_solve_24 rfl hl (by decide) rfl (fun ls hl => ?_)
    refine wl3 (fun (i : Nat) (bf1 : Nat → Nat) (af1 : Nat → Nat) => i) (fun (i : Nat) (bf1 : Nat → Nat) (af1 : Nat → Nat) (ls : Array Slot) (H : Heap) (locs : List Loc) => lv_has ls 4 [(0, .ref h0), (1, .ref pa), (2, .int (nI i))] ∧ va_P (dC, dI) vwCl [(h0, .inr (4, [.int (nI wr), .ref v1, .ref v2, .ref v3, .ref v4, .ref v5, .int (nI 1), .int (nI (P 0)), .long (lN (P 2 * 1000000000000000)), .int (nI (C1 P wr)), .int (nI (C2 P wr))])), (v1, .inl (cL, 1152, .inr (.inl (fun zz => lN (bf1 zz))))), (v2, .inl (cL, 192, .inr (.inl (fun zz => lN (af1 zz))))), (v3, .inl (cL, 32, .inr (.inl fl))), (v4, .inl (cL, 5, .inr (.inl (fun zz => lN (lv2_15 zz))))), (v5, .inl (cI, 5, .inl (fun zz => nI (wt2_15 zz)))), (pa, .inl (cI, 22, .inl (fun zz => nI (P zz))))] H ∧ va_D A [(h0, .inr (4, [.int (nI wr), .ref v1, .ref v2, .ref v3, .ref v4, .ref v5, .int (nI 1), .int (nI (P 0)), .long (lN (P 2 * 1000000000000000)), .int (nI (C1 P wr)), .int (nI (C2 P wr))])), (v1, .inl (cL, 1152, .inr (.inl (fun zz => lN (bf1 zz))))), (v2, .inl (cL, 192, .inr (.inl (fun zz => lN (af1 zz))))), (v3, .inl (cL, 32, .inr (.inl fl))), (v4, .inl (cL, 5, .inr (.inl (fun zz => lN (lv2_15 zz))))), (v5, .inl (cI, 5, .inl (fun zz => nI (wt2_15 zz)))), (pa, .inl (cI, 22, .inl (fun zz => nI (P zz))))] ∧ va_S A s.heap H locs ∧ (i ≤ P 0 + 1 ∧ TA (P 0) (QV P (C1 P wr) (C2 P wr)) af1 i 0 ∧ TB (P 0) (SV P (C1 P wr) (C2 P wr)) bf1 i 0 ∧ (∀ k, bf1 k ≤ 297000000000000000) ∧ (∀ k, af1 k ≤ 297000000000000000))) ((P 0) + 1) bf af (by exact ⟨lv_sub hl [1, 2, 0] rfl, hP.sub [0, 1, 2, 3, 4, 5, 6] rfl, hD.sub [0, 1, 2, 3, 4, 5, 6] (by decide) rfl, hS, by omega, fun x y z a1 a2 a3 a4 a5 => by omega, fun x y z u a1 a2 a3 a4 a6 a5 => by omega, hVb0, hVa0⟩) (fun i bf1 af1 ls H locs hI ih => ?_)
    obtain ⟨hl, hP, hD, hS, hi9, hTA0, hTB0, hVb1, hVa1⟩ := hI
    have ih25 := ih
    refine lv_iload_n hx hb dX4_solve_25 rfl (lv_at hl 2 rfl) ?_
    refine lv_iconst (v := nI 1) hx hb dX4_solve_26 (by decide) ?_
    refine ri_clt (tgt := 61) hx hb dX4_solve_27 (by decide) (by omega) (by omega) (fun c27 => ?_) (fun c27 => ?_)
    · obtain rfl : i = 0 := by omega
      exact kqv (w1 := (fun u : Nat × Nat × Nat × Nat × (Nat → Nat) × (Nat → Nat) × (Nat → Nat) × (Nat → Nat) => [(h0, .inr (4, [.int (nI wr), .ref v1, .ref v2, .ref v3, .ref v4, .ref v5, .int (nI 1), .int (nI u.1), .long (lN u.2.1), .int (nI u.2.2.1), .int (nI u.2.2.2.1)])), (v1, .inl (cL, 1152, .inr (.inl (fun zz => lN (u.2.2.2.2.2.2.1 zz))))), (v2, .inl (cL, 192, .inr (.inl (fun zz => lN (u.2.2.2.2.2.2.2 zz))))), (v3, .inl (cL, 32, .inr (.inl fl))), (v4, .inl (cL, 5, .inr (.inl (fun zz => lN (u.2.2.2.2.1 zz))))), (v5, .inl (cI, 5, .inl (fun zz => nI (u.2.2.2.2.2.1 zz)))), (pa, .inl (cI, 22, .inl (fun zz => nI (P zz))))])) Y hr hlocks hK hP hD hS [0, 1, 2, 3, 4, 5, 6] (by decide) (P 0, P 2 * 1000000000000000, C1 P wr, C2 P wr, lv2_15, wt2_15, bf1, af1) rfl ⟨⟨rfl, rfl, rfl, rfl, hr15, hTA0, hTB0⟩, hVb1, hVa1⟩ dX4_solve_61
    · refine lv_iconst (v := nI 0) hx hb dX4_solve_30 (by decide) ?_
      refine lv_istore_n (lv' := [(3, .int (nI 0)), (0, .ref h0), (1, .ref pa), (2, .int (nI i))]) hx hb dX4_solve_31 rfl hl (by decide) rfl (fun ls hl => ?_)
      refine wl3 (fun (j : Nat) (bf3 : Nat → Nat) (af3 : Nat → Nat) => 4 - j) (fun (j : Nat) (bf3 : Nat → Nat) (af3 : Nat → Nat) (ls : Array Slot) (H : Heap) (locs : List Loc) => lv_has ls 4 [(0, .ref h0), (1, .ref pa), (2, .int (nI i)), (3, .int (nI j))] ∧ va_P (dC, dI) vwCl [(h0, .inr (4, [.int (nI wr), .ref v1, .ref v2, .ref v3, .ref v4, .ref v5, .int (nI 1), .int (nI (P 0)), .long (lN (P 2 * 1000000000000000)), .int (nI (C1 P wr)), .int (nI (C2 P wr))])), (v1, .inl (cL, 1152, .inr (.inl (fun zz => lN (bf3 zz))))), (v2, .inl (cL, 192, .inr (.inl (fun zz => lN (af3 zz))))), (v3, .inl (cL, 32, .inr (.inl fl))), (v4, .inl (cL, 5, .inr (.inl (fun zz => lN (lv2_15 zz))))), (v5, .inl (cI, 5, .inl (fun zz => nI (wt2_15 zz)))), (pa, .inl (cI, 22, .inl (fun zz => nI (P zz))))] H ∧ va_D A [(h0, .inr (4, [.int (nI wr), .ref v1, .ref v2, .ref v3, .ref v4, .ref v5, .int (nI 1), .int (nI (P 0)), .long (lN (P 2 * 1000000000000000)), .int (nI (C1 P wr)), .int (nI (C2 P wr))])), (v1, .inl (cL, 1152, .inr (.inl (fun zz => lN (bf3 zz))))), (v2, .inl (cL, 192, .inr (.inl (fun zz => lN (af3 zz))))), (v3, .inl (cL, 32, .inr (.inl fl))), (v4, .inl (cL, 5, .inr (.inl (fun zz => lN (lv2_15 zz))))), (v5, .inl (cI, 5, .inl (fun zz => nI (wt2_15 zz)))), (pa, .inl (cI, 22, .inl (fun zz => nI (P zz))))] ∧ va_S A s.heap H locs ∧ (j ≤ 4 ∧ TA (P 0) (QV P (C1 P wr) (C2 P wr)) af3 i j ∧ TB (P 0) (SV P (C1 P wr) (C2 P wr)) bf3 i j ∧ (∀ k, bf3 k ≤ 297000000000000000) ∧ (∀ k, af3 k ≤ 297000000000000000))) 0 bf1 af1 (by exact ⟨lv_sub hl [1, 2, 3, 0] rfl, hP.sub [0, 1, 2, 3, 4, 5, 6] rfl, hD.sub [0, 1, 2, 3, 4, 5, 6] (by decide) rfl, hS, by omega, hTA0, hTB0, hVb1, hVa1⟩) (fun j bf3 af3 ls H locs hI ih => ?_)
      obtain ⟨hl, hP, hD, hS, hj4, hTA, hTB, hVb, hVa⟩ := hI
      have ih32 := ih
      refine lv_iload_n hx hb dX4_solve_32 rfl (lv_at hl 3 rfl) ?_
      refine lv_iconst (v := nI 3) hx hb dX4_solve_33 (by decide) ?_
      refine ri_cgt (tgt := 55) hx hb dX4_solve_34 (by decide) (by omega) (by omega) (fun c34 => ?_) (fun c34 => ?_)
      · refine lv_iinc (v := nI (i - 1)) (lv' := [(2, .int (nI (i - 1))), (0, .ref h0), (1, .ref pa), (3, .int (nI j))]) hx hb dX4_solve_55 hl (k := 2) rfl (dec1 (by omega)) (by decide) rfl (fun ls hl => ?_)
        refine lv_goto (tgt := 25) hx hb dX4_solve_58 (by decide) ?_
        exact ih25 (i - 1) bf3 af3 _ _ _ (by show _ < _; omega) (by exact ⟨lv_sub hl [1, 2, 0] rfl, hP.sub [0, 1, 2, 3, 4, 5, 6] rfl, hD.sub [0, 1, 2, 3, 4, 5, 6] (by decide) rfl, hS, by omega, TA_next hTA (by omega), TB_next hTB (by omega), hVb, hVa⟩)
      · refine lv_aload_n hx hb dX4_solve_37 rfl (lv_at hl 0 rfl) ?_
        refine lv_iload_n hx hb dX4_solve_38 rfl (lv_at hl 2 rfl) ?_
        refine lv_iload_n hx hb dX4_solve_39 rfl (lv_at hl 3 rfl) ?_
        refine kQv (As := [.int (nI i), .int (nI j)]) (rest := []) (wr := [(pa, .inl (cI, 22, .inl (fun zz => nI (P zz))))]) Y m_X4_solveAfters (c_X4_solveAfters l dC dI H.size cL cI h0 v1 v2 v3 v4 v5 wr 1 (P 0) (P 2 * 1000000000000000) (C1 P wr) (C2 P wr) bf3 af3 lv2_15 wt2_15 fl i j (by omega) (by omega) (by omega) (by omega) hco hVl hVb hVw) qm_X4_62 hP hD hS hA [0, 1, 2, 3, 4, 5] [6] rfl rfl (by decide) (by decide) (kqV (ci := 4) hK hP hD hZ hS hA [0, 1, 2, 3, 4, 5] [0, 1] rfl (by decide) rfl 0 rfl rfl rfl) rfl hl.1 rfl (Nat.le_of_ble_eq_true rfl) dX4_solve_40 ⟨Nat.le_of_ble_eq_true rfl, Nat.le_of_ble_eq_true rfl⟩ ⟨Nat.zero_le _, Nat.zero_le _⟩ (fun u40 H locs hr40 hP hD hS => ?_)
        obtain ⟨af2_40, rfl⟩ : ∃ z, z = u40 := ⟨_, rfl⟩
        have hP : va_P (dC, dI) vwCl [(pa, .inl (cI, 22, .inl (fun zz => nI (P zz)))), (h0, .inr (4, [.int (nI wr), .ref v1, .ref v2, .ref v3, .ref v4, .ref v5, .int (nI 1), .int (nI (P 0)), .long (lN (P 2 * 1000000000000000)), .int (nI (C1 P wr)), .int (nI (C2 P wr))])), (v1, .inl (cL, 1152, .inr (.inl (fun zz => lN (bf3 zz))))), (v2, .inl (cL, 192, .inr (.inl (fun zz => lN (af2_40 zz))))), (v3, .inl (cL, 32, .inr (.inl fl))), (v4, .inl (cL, 5, .inr (.inl (fun zz => lN (lv2_15 zz))))), (v5, .inl (cI, 5, .inl (fun zz => nI (wt2_15 zz))))] H := hP
        have hD : va_D A [(pa, .inl (cI, 22, .inl (fun zz => nI (P zz)))), (h0, .inr (4, [.int (nI wr), .ref v1, .ref v2, .ref v3, .ref v4, .ref v5, .int (nI 1), .int (nI (P 0)), .long (lN (P 2 * 1000000000000000)), .int (nI (C1 P wr)), .int (nI (C2 P wr))])), (v1, .inl (cL, 1152, .inr (.inl (fun zz => lN (bf3 zz))))), (v2, .inl (cL, 192, .inr (.inl (fun zz => lN (af2_40 zz))))), (v3, .inl (cL, 32, .inr (.inl fl))), (v4, .inl (cL, 5, .inr (.inl (fun zz => lN (lv2_15 zz))))), (v5, .inl (cI, 5, .inl (fun zz => nI (wt2_15 zz))))] := hD
        have hr40 : (∀ k, (∀ a', a' ≤ 5 → k ≠ pA i j a') → af2_40 k = af3 k) ∧ (∀ a', a' < 6 → af2_40 (pA i j a') = qaF lv2_15 wt2_15 bf3 (P 0) (P 2 * 1000000000000000) i j a') := hr40
        have hTA2 := TA_step hTA (by omega) (by omega) hr40.1 (fun a ha => (hr40.2 a (by omega)).trans (qa_Q hr15 (TB_wk hTB) (by omega) (by omega) (by omega) ha))
        have hVa := bndA (n := P 0) hPI hVc1 hVc2 (by omega) hVa hr40.1 (fun a ha => (hr40.2 a (by omega)).trans (qa_Q hr15 (TB_wk hTB) (by omega) (by omega) (by omega) ha))
        refine lv_aload_n hx hb dX4_solve_43 rfl (lv_at hl 0 rfl) ?_
        refine lv_iload_n hx hb dX4_solve_44 rfl (lv_at hl 2 rfl) ?_
        refine lv_iload_n hx hb dX4_solve_45 rfl (lv_at hl 3 rfl) ?_
        refine kQv (As := [.int (nI i), .int (nI j)]) (rest := []) (wr := [(pa, .inl (cI, 22, .inl (fun zz => nI (P zz))))]) Y m_X4_solveBefores (c_X4_solveBefores l dC dI H.size cL cI h0 v1 v2 v3 v4 v5 wr 1 (P 0) (P 2 * 1000000000000000) (C1 P wr) (C2 P wr) bf3 af2_40 lv2_15 wt2_15 fl i j (by omega) (by omega) (by omega) hVl hVa hVc1 hVc2) qm_X4_66 hP hD hS hA [1, 2, 3, 4, 5, 6] [0] rfl rfl (by decide) (by decide) (kqV (ci := 4) hK hP hD hZ hS hA [1, 2, 3, 4, 5, 6] [0, 1] rfl (by decide) rfl 0 rfl rfl rfl) rfl hl.1 rfl (Nat.le_of_ble_eq_true rfl) dX4_solve_46 ⟨Nat.le_of_ble_eq_true rfl, Nat.le_of_ble_eq_true rfl⟩ ⟨Nat.zero_le _, Nat.zero_le _⟩ (fun u46 H locs hr46 hP hD hS => ?_)
        obtain ⟨bf2_46, rfl⟩ : ∃ z, z = u46 := ⟨_, rfl⟩
        have hP : va_P (dC, dI) vwCl [(pa, .inl (cI, 22, .inl (fun zz => nI (P zz)))), (h0, .inr (4, [.int (nI wr), .ref v1, .ref v2, .ref v3, .ref v4, .ref v5, .int (nI 1), .int (nI (P 0)), .long (lN (P 2 * 1000000000000000)), .int (nI (C1 P wr)), .int (nI (C2 P wr))])), (v1, .inl (cL, 1152, .inr (.inl (fun zz => lN (bf2_46 zz))))), (v2, .inl (cL, 192, .inr (.inl (fun zz => lN (af2_40 zz))))), (v3, .inl (cL, 32, .inr (.inl fl))), (v4, .inl (cL, 5, .inr (.inl (fun zz => lN (lv2_15 zz))))), (v5, .inl (cI, 5, .inl (fun zz => nI (wt2_15 zz))))] H := hP
        have hD : va_D A [(pa, .inl (cI, 22, .inl (fun zz => nI (P zz)))), (h0, .inr (4, [.int (nI wr), .ref v1, .ref v2, .ref v3, .ref v4, .ref v5, .int (nI 1), .int (nI (P 0)), .long (lN (P 2 * 1000000000000000)), .int (nI (C1 P wr)), .int (nI (C2 P wr))])), (v1, .inl (cL, 1152, .inr (.inl (fun zz => lN (bf2_46 zz))))), (v2, .inl (cL, 192, .inr (.inl (fun zz => lN (af2_40 zz))))), (v3, .inl (cL, 32, .inr (.inl fl))), (v4, .inl (cL, 5, .inr (.inl (fun zz => lN (lv2_15 zz))))), (v5, .inl (cI, 5, .inl (fun zz => nI (wt2_15 zz))))] := hD
        have hr46 : (∀ k, (∀ a' b', a' ≤ 5 → b' ≤ 5 → k ≠ pB i j a' b') → bf2_46 k = bf3 k) ∧ (∀ a' b', a' ≤ 5 → b' ≤ 5 → bf2_46 (pB i j a' b') = sbF lv2_15 af2_40 (C1 P wr) (C2 P wr) i j a' b') := hr46
        have hTB2 := TB_step hTB (by omega) (by omega) hr46.1 (fun a b ha hb => (hr46.2 a b ha hb).trans (sb_S hr15 hTA2 (by omega) (by omega) (by omega) ha hb))
        have hVb := bndB (n := P 0) hPI hVc1 hVc2 (by omega) hVb hr46.1 (fun a b ha hb => (hr46.2 a b ha hb).trans (sb_S hr15 hTA2 (by omega) (by omega) (by omega) ha hb))
        refine lv_iinc (v := nI (j + 1)) (lv' := [(3, .int (nI (j + 1))), (0, .ref h0), (1, .ref pa), (2, .int (nI i))]) hx hb dX4_solve_49 hl (k := 3) rfl (inc1 _) (by decide) rfl (fun ls hl => ?_)
        refine lv_goto (tgt := 32) hx hb dX4_solve_52 (by decide) ?_
        exact ih32 (j + 1) bf2_46 af2_40 _ _ _ (by show _ < _; omega) (by exact ⟨lv_sub hl [1, 2, 3, 0] rfl, hP.sub [1, 2, 3, 4, 5, 6, 0] rfl, hD.sub [1, 2, 3, 4, 5, 6, 0] (by decide) rfl, hS, by omega, hTA2, hTB2, hVb, hVa⟩)
  · obtain rfl : sv = 1 := by omega
    exact kqv (w1 := (fun u : Nat × Nat × Nat × Nat × (Nat → Nat) × (Nat → Nat) × (Nat → Nat) × (Nat → Nat) => [(h0, .inr (4, [.int (nI wr), .ref v1, .ref v2, .ref v3, .ref v4, .ref v5, .int (nI 1), .int (nI u.1), .long (lN u.2.1), .int (nI u.2.2.1), .int (nI u.2.2.2.1)])), (v1, .inl (cL, 1152, .inr (.inl (fun zz => lN (u.2.2.2.2.2.2.1 zz))))), (v2, .inl (cL, 192, .inr (.inl (fun zz => lN (u.2.2.2.2.2.2.2 zz))))), (v3, .inl (cL, 32, .inr (.inl fl))), (v4, .inl (cL, 5, .inr (.inl (fun zz => lN (u.2.2.2.2.1 zz))))), (v5, .inl (cI, 5, .inl (fun zz => nI (u.2.2.2.2.2.1 zz)))), (pa, .inl (cI, 22, .inl (fun zz => nI (P zz))))])) Y hr hlocks hK hP hD hS [0, 1, 2, 3, 4, 5, 6] (by decide) (n, co, ch1, ch2, lv, wt, bf, af) rfl ⟨hVS rfl, hVb0, hVa0⟩ dX4_solve_7
