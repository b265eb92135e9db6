set_option maxHeartbeats 4000000 in
set_option maxRecDepth 100000 in
theorem c_X1_solve (l : Launch) (dC : Nat → ClassId) (dI : Nat → Nat → Nat) (sz : Nat) (cL cI : ClassId) (h0 q1 q2 q3 pa : Nat) (w b f : Nat → Int64) (P : Nat → Nat) (sv n : Nat) (co : Int64) (hPI : PI P) (hRI : RI P sv w b n co) : Met l yX1_solve (kw yX1_solve cX1_solve 4 none) (kR 2 52) (kPq (dC, dI) [.ref h0, .ref pa] sz [(h0, .inr (1, [.ref q1, .ref q2, .ref q3, .int (nI sv), .int (nI n), .long co])), (q1, .inl (cL, 49, .inr (.inl w))), (q2, .inl (cL, 32, .inr (.inl b))), (q3, .inl (cL, 32, .inr (.inl f))), (pa, .inl (cI, 22, .inl (fun zz => nI (P zz))))] [(cL, .long), (cI, .int)]) (va_Qv (fun u : (Nat → Int64) × (Nat → Int64) × Nat × Int64 => RS P u.1 u.2.1 u.2.2.1 u.2.2.2) (fun u : (Nat → Int64) × (Nat → Int64) × Nat × Int64 => kB (dC, dI) [(cL, .long), (cI, .int)] (va_A [(h0, .inr (1, [.ref q1, .ref q2, .ref q3, .int (nI sv), .int (nI n), .long co])), (q1, .inl (cL, 49, .inr (.inl w))), (q2, .inl (cL, 32, .inr (.inl b))), (q3, .inl (cL, 32, .inr (.inl f))), (pa, .inl (cI, 22, .inl (fun zz => nI (P zz))))] sz) ([(h0, .inr (1, [.ref q1, .ref q2, .ref q3, .int (nI 1), .int (nI u.2.2.1), .long u.2.2.2])), (q1, .inl (cL, 49, .inr (.inl u.1))), (q2, .inl (cL, 32, .inr (.inl u.2.1))), (q3, .inl (cL, 32, .inr (.inl f))), (pa, .inl (cI, 22, .inl (fun zz => nI (P zz))))])) (va_A [(h0, .inr (1, [.ref q1, .ref q2, .ref q3, .int (nI sv), .int (nI n), .long co])), (q1, .inl (cL, 49, .inr (.inl w))), (q2, .inl (cL, 32, .inr (.inl b))), (q3, .inl (cL, 32, .inr (.inl f))), (pa, .inl (cI, 22, .inl (fun zz => nI (P zz))))] sz)) 0 0 (va_A [(h0, .inr (1, [.ref q1, .ref q2, .ref q3, .int (nI sv), .int (nI n), .long co])), (q1, .inl (cL, 49, .inr (.inl w))), (q2, .inl (cL, 32, .inr (.inl b))), (q3, .inl (cL, 32, .inr (.inl f))), (pa, .inl (cI, 22, .inl (fun zz => nI (P zz))))] sz) := by
  refine kmet (by decide) ?_
  intro p e s m args below meth c Y hr hlocks hin hv
  obtain ⟨rfl, A, hAe, hsz, hP, hK, hD, hZ, hA⟩ := kinQ hv
  rw [hAe]
  have hS : va_S A s.heap s.heap [] := va_S.rf
  have hx := Y.1
  have hb := Y.2.1
  have hml := Y.2.2.1
  have hown := Y.2.2.2.1
  have hts := Y.2.2.2.2
  have hl := lv_entry ([.ref h0, .ref pa]) (n := 4) (Nat.le_of_ble_eq_true rfl)
  rw [lg_entry_eq]
  generalize (lg_sl ([.ref h0, .ref pa]) ++ List.replicate (4 - (lg_sl ([.ref h0, .ref pa])).length) Slot.unset).toArray = ls at hl ⊢
  have hl : lv_has ls 4 [(0, .ref h0), (1, .ref pa)] := hl
  have hsv := hRI.1
  refine lv_aload_n hx hb dX1_solve_0 rfl (lv_at hl 0 rfl) ?_
  refine va_get (D := (dC, dI)) (ci := 1) (v := .int (nI sv)) (C := RX1) (T := TX1) (N := 6) hx hb hts inlX1 hown hK hP 0 rfl rfl 3 (by decide) (hts _ qf_X1_29) (fun _ h9 => h9) rfl dX1_solve_1 ?_
  refine ri_zeq (tgt := 8) hx hb dX1_solve_4 (by decide) (by omega) (fun c4 => ?_) (fun c4 => ?_)
  · have hp0 := hPI.1
    have hp2 := hPI.2.2.1
    refine lv_aload_n hx hb dX1_solve_8 rfl (lv_at hl 0 rfl) ?_
    refine lv_iconst (v := nI 1) hx hb dX1_solve_9 (by decide) ?_
    refine va_put (D := (dC, dI)) (ci := 1) (v := .int (nI 1)) (ty := .boolean) (C := RX1) (T := TX1) (N := 6) hx hb hts inlX1 tyX1 tyX1_ok nmX1 hown hK hP hD hS 0 rfl rfl 3 (by decide) (hts _ qf_X1_29) (fun _ h9 => h9) rfl (by decide +kernel) (by decide) rfl (Nat.le_of_ble_eq_true rfl) dX1_solve_10 (fun H locs hP hD hS => ?_)
    have hP : va_P (dC, dI) vwCl [(h0, .inr (1, [.ref q1, .ref q2, .ref q3, .int (nI 1), .int (nI n), .long co])), (q1, .inl (cL, 49, .inr (.inl w))), (q2, .inl (cL, 32, .inr (.inl b))), (q3, .inl (cL, 32, .inr (.inl f))), (pa, .inl (cI, 22, .inl (fun zz => nI (P zz))))] H := hP
    have hD : va_D A [(h0, .inr (1, [.ref q1, .ref q2, .ref q3, .int (nI 1), .int (nI n), .long co])), (q1, .inl (cL, 49, .inr (.inl w))), (q2, .inl (cL, 32, .inr (.inl b))), (q3, .inl (cL, 32, .inr (.inl f))), (pa, .inl (cI, 22, .inl (fun zz => nI (P zz))))] := hD
    refine lv_aload_n hx hb dX1_solve_13 rfl (lv_at hl 0 rfl) ?_
    refine lv_aload_n hx hb dX1_solve_14 rfl (lv_at hl 1 rfl) ?_
    refine lv_iconst (v := nI 0) hx hb dX1_solve_15 (by decide) ?_
    refine ri_ald hx hb hK hP 4 1 (F := P) rfl rfl dX1_solve_16 (by decide) (by omega) ?_
    refine va_put (D := (dC, dI)) (ci := 1) (v := .int (nI (P 0))) (ty := .int) (C := RX1) (T := TX1) (N := 6) hx hb hts inlX1 tyX1 tyX1_ok nmX1 hown hK hP hD hS 0 rfl rfl 4 (by decide) (hts _ qf_X1_33) (fun _ h9 => h9) rfl (by decide +kernel) rfl rfl (Nat.le_of_ble_eq_true rfl) dX1_solve_17 (fun H locs hP hD hS => ?_)
    have hP : va_P (dC, dI) vwCl [(h0, .inr (1, [.ref q1, .ref q2, .ref q3, .int (nI 1), .int (nI (P 0)), .long co])), (q1, .inl (cL, 49, .inr (.inl w))), (q2, .inl (cL, 32, .inr (.inl b))), (q3, .inl (cL, 32, .inr (.inl f))), (pa, .inl (cI, 22, .inl (fun zz => nI (P zz))))] H := hP
    have hD : va_D A [(h0, .inr (1, [.ref q1, .ref q2, .ref q3, .int (nI 1), .int (nI (P 0)), .long co])), (q1, .inl (cL, 49, .inr (.inl w))), (q2, .inl (cL, 32, .inr (.inl b))), (q3, .inl (cL, 32, .inr (.inl f))), (pa, .inl (cI, 22, .inl (fun zz => nI (P zz))))] := hD
    refine lv_aload_n hx hb dX1_solve_20 rfl (lv_at hl 0 rfl) ?_
    refine lv_aload_n hx hb dX1_solve_21 rfl (lv_at hl 1 rfl) ?_
    refine lv_iconst (v := nI 2) hx hb dX1_solve_22 (by decide) ?_
    refine ri_ald hx hb hK hP 4 1 (F := P) rfl rfl dX1_solve_23 (by decide) (by omega) ?_
    refine ri_i2l hx hb dX1_solve_24 (by omega) ?_
    refine lv_ldc2 (v := lN 2116800) hx hb hown (hts _ ql_X1_37) dX1_solve_25 ?_
    refine rl_muln hx hb dX1_solve_28 ?_
    refine va_put (D := (dC, dI)) (ci := 1) (v := .long (lN ((P 2) * 2116800))) (ty := .long) (C := RX1) (T := TX1) (N := 6) hx hb hts inlX1 tyX1 tyX1_ok nmX1 hown hK hP hD hS 0 rfl rfl 5 (by decide) (hts _ qf_X1_39) (fun _ h9 => h9) rfl (by decide +kernel) rfl rfl (Nat.le_of_ble_eq_true rfl) dX1_solve_29 (fun H locs hP hD hS => ?_)
    have hP : va_P (dC, dI) vwCl [(h0, .inr (1, [.ref q1, .ref q2, .ref q3, .int (nI 1), .int (nI (P 0)), .long (lN ((P 2) * 2116800))])), (q1, .inl (cL, 49, .inr (.inl w))), (q2, .inl (cL, 32, .inr (.inl b))), (q3, .inl (cL, 32, .inr (.inl f))), (pa, .inl (cI, 22, .inl (fun zz => nI (P zz))))] H := hP
    have hD : va_D A [(h0, .inr (1, [.ref q1, .ref q2, .ref q3, .int (nI 1), .int (nI (P 0)), .long (lN ((P 2) * 2116800))])), (q1, .inl (cL, 49, .inr (.inl w))), (q2, .inl (cL, 32, .inr (.inl b))), (q3, .inl (cL, 32, .inr (.inl f))), (pa, .inl (cI, 22, .inl (fun zz => nI (P zz))))] := hD
    refine lv_iconst (v := nI 1) hx hb dX1_solve_32 (by decide) ?_
    refine lv_istore_n (lv' := [(2, .int (nI 1)), (0, .ref h0), (1, .ref pa)]) hx hb dX1_solve_33 rfl hl (by decide) rfl (fun ls hl => ?_)
    refine wl2 (fun (i : Nat) (w1 : Nat → Int64) => P 0 + 1 - i) (fun (i : Nat) (w1 : Nat → Int64) (ls : Array Slot) (H : Heap) (locs : List Loc) => lv_has ls 4 [(0, .ref h0), (1, .ref pa), (2, .int (nI i))] ∧ va_P (dC, dI) vwCl [(h0, .inr (1, [.ref q1, .ref q2, .ref q3, .int (nI 1), .int (nI (P 0)), .long (lN (P 2 * 2116800))])), (q1, .inl (cL, 49, .inr (.inl w1))), (q2, .inl (cL, 32, .inr (.inl b))), (q3, .inl (cL, 32, .inr (.inl f))), (pa, .inl (cI, 22, .inl (fun zz => nI (P zz))))] H ∧ va_D A [(h0, .inr (1, [.ref q1, .ref q2, .ref q3, .int (nI 1), .int (nI (P 0)), .long (lN (P 2 * 2116800))])), (q1, .inl (cL, 49, .inr (.inl w1))), (q2, .inl (cL, 32, .inr (.inl b))), (q3, .inl (cL, 32, .inr (.inl f))), (pa, .inl (cI, 22, .inl (fun zz => nI (P zz))))] ∧ va_S A s.heap H locs ∧ (1 ≤ i ∧ i ≤ P 0 + 1 ∧ WD P w1 i 1)) 1 w (by exact ⟨lv_sub hl [1, 2, 0] rfl, hP.sub [0, 1, 2, 3, 4] rfl, hD.sub [0, 1, 2, 3, 4] (by decide) rfl, hS, by omega, by omega, WD_0⟩) (fun i w1 ls H locs hI ih => ?_)
    obtain ⟨hl, hP, hD, hS, hi1, hi2, hW1⟩ := hI
    have ih34 := ih
    refine lv_iload_n hx hb dX1_solve_34 rfl (lv_at hl 2 rfl) ?_
    refine lv_aload_n hx hb dX1_solve_35 rfl (lv_at hl 0 rfl) ?_
    refine va_get (D := (dC, dI)) (ci := 1) (v := .int (nI (P 0))) (C := RX1) (T := TX1) (N := 6) hx hb hts inlX1 hown hK hP 0 rfl rfl 4 (by decide) (hts _ qf_X1_33) (fun _ h9 => h9) rfl dX1_solve_36 ?_
    refine ri_cgt (tgt := 83) hx hb dX1_solve_39 (by decide) (by omega) (by omega) (fun c39 => ?_) (fun c39 => ?_)
    · have hWD : WD P w1 (P 0 + 1) 1 := by rw [show P 0 + 1 = i by omega]; exact hW1
      refine lv_aload_n hx hb dX1_solve_83 rfl (lv_at hl 0 rfl) ?_
      refine lv_aload_n hx hb dX1_solve_84 rfl (lv_at hl 0 rfl) ?_
      refine va_get (D := (dC, dI)) (ci := 1) (v := .ref q2) (C := RX1) (T := TX1) (N := 6) hx hb hts inlX1 hown hK hP 0 rfl rfl 1 (by decide) (hts _ qf_X1_15) (fun _ h9 => h9) rfl dX1_solve_85 ?_
      refine kQv (As := [.ref q2]) (rest := []) (wr := [(q1, .inl (cL, 49, .inr (.inl w1))), (q3, .inl (cL, 32, .inr (.inl f))), (pa, .inl (cI, 22, .inl (fun zz => nI (P zz))))]) Y m_X1_clearEnds (c_X1_clearEnds l dC dI _ cL h0 q1 q2 q3 q2 b 1 (P 0) (lN (P 2 * 2116800)) (by omega) (by omega)) qm_X1_47 hP hD hS hA [0, 2] [1, 3, 4] rfl rfl (by decide) (by decide) (kqV (ci := 1) hK hP hD hZ hS hA [0, 2] [0] rfl (by decide) rfl 0 rfl rfl rfl) rfl hl.1 rfl (Nat.le_of_ble_eq_true rfl) dX1_solve_88 ⟨Nat.le_of_ble_eq_true rfl, Nat.le_of_ble_eq_true rfl⟩ ⟨Nat.zero_le _, Nat.zero_le _⟩ (fun u88 H locs hr88 hP hD hS => ?_)
      obtain ⟨g2_88, rfl⟩ : ∃ z, z = u88 := ⟨_, rfl⟩
      have hP : va_P (dC, dI) vwCl [(q1, .inl (cL, 49, .inr (.inl w1))), (q3, .inl (cL, 32, .inr (.inl f))), (pa, .inl (cI, 22, .inl (fun zz => nI (P zz)))), (h0, .inr (1, [.ref q1, .ref q2, .ref q3, .int (nI 1), .int (nI (P 0)), .long (lN (P 2 * 2116800))])), (q2, .inl (cL, 32, .inr (.inl g2_88)))] H := hP
      have hD : va_D A [(q1, .inl (cL, 49, .inr (.inl w1))), (q3, .inl (cL, 32, .inr (.inl f))), (pa, .inl (cI, 22, .inl (fun zz => nI (P zz)))), (h0, .inr (1, [.ref q1, .ref q2, .ref q3, .int (nI 1), .int (nI (P 0)), .long (lN (P 2 * 2116800))])), (q2, .inl (cL, 32, .inr (.inl g2_88)))] := hD
      have hr88 : g2_88 = clr (P 0) b := hr88
      refine lv_aload_n hx hb dX1_solve_91 rfl (lv_at hl 0 rfl) ?_
      refine va_get (D := (dC, dI)) (ci := 1) (v := .int (nI (P 0))) (C := RX1) (T := TX1) (N := 6) hx hb hts inlX1 hown hK hP 3 rfl rfl 4 (by decide) (hts _ qf_X1_33) (fun _ h9 => h9) rfl dX1_solve_92 ?_
      refine lv_istore_n (lv' := [(2, .int (nI (P 0))), (0, .ref h0), (1, .ref pa)]) hx hb dX1_solve_95 rfl hl (by decide) rfl (fun ls hl => ?_)
      refine wl2 (fun (i : Nat) (b1 : Nat → Int64) => i) (fun (i : Nat) (b1 : Nat → Int64) (ls : Array Slot) (H : Heap) (locs : List Loc) => lv_has ls 4 [(0, .ref h0), (1, .ref pa), (2, .int (nI i))] ∧ va_P (dC, dI) vwCl [(h0, .inr (1, [.ref q1, .ref q2, .ref q3, .int (nI 1), .int (nI (P 0)), .long (lN (P 2 * 2116800))])), (q1, .inl (cL, 49, .inr (.inl w1))), (q2, .inl (cL, 32, .inr (.inl b1))), (q3, .inl (cL, 32, .inr (.inl f))), (pa, .inl (cI, 22, .inl (fun zz => nI (P zz))))] H ∧ va_D A [(h0, .inr (1, [.ref q1, .ref q2, .ref q3, .int (nI 1), .int (nI (P 0)), .long (lN (P 2 * 2116800))])), (q1, .inl (cL, 49, .inr (.inl w1))), (q2, .inl (cL, 32, .inr (.inl b1))), (q3, .inl (cL, 32, .inr (.inl f))), (pa, .inl (cI, 22, .inl (fun zz => nI (P zz))))] ∧ va_S A s.heap H locs ∧ (i ≤ P 0 ∧ FD (P 0) 3 (VT P 420) b1 i 1)) (P 0) g2_88 (by exact ⟨lv_sub hl [1, 2, 0] rfl, hP.sub [3, 0, 4, 1, 2] rfl, hD.sub [3, 0, 4, 1, 2] (by decide) rfl, hS, by omega, by rw [hr88]; exact FD_clr (by omega) (fun d => by show lN (420 * VR P d 0) = _; rw [VR_0]) (fun j => rfl)⟩) (fun i b1 ls H locs hI ih => ?_)
      obtain ⟨hl, hP, hD, hS, hi2, hFD0⟩ := hI
      have ih96 := ih
      refine lv_iload_n hx hb dX1_solve_96 rfl (lv_at hl 2 rfl) ?_
      refine lv_iconst (v := nI 1) hx hb dX1_solve_97 (by decide) ?_
      refine ri_clt (tgt := 145) hx hb dX1_solve_98 (by decide) (by omega) (by omega) (fun c98 => ?_) (fun c98 => ?_)
      · obtain rfl : i = 0 := by omega
        exact kqv (w1 := (fun u : (Nat → Int64) × (Nat → Int64) × Nat × Int64 => [(h0, .inr (1, [.ref q1, .ref q2, .ref q3, .int (nI 1), .int (nI u.2.2.1), .long u.2.2.2])), (q1, .inl (cL, 49, .inr (.inl u.1))), (q2, .inl (cL, 32, .inr (.inl u.2.1))), (q3, .inl (cL, 32, .inr (.inl f))), (pa, .inl (cI, 22, .inl (fun zz => nI (P zz))))])) Y hr hlocks hK hP hD hS [0, 1, 2, 3, 4] (by decide) (w1, b1, P 0, lN (P 2 * 2116800)) rfl ⟨rfl, rfl, fun x y a b c d => hWD x y a b c d (by omega), fun x y a b c => FD_all hFD0 a b c⟩ dX1_solve_145
      · have hi1 := c98
        refine lv_iconst (v := nI 1) hx hb dX1_solve_101 (by decide) ?_
        refine lv_istore_n (lv' := [(3, .int (nI 1)), (0, .ref h0), (1, .ref pa), (2, .int (nI i))]) hx hb dX1_solve_102 rfl hl (by decide) rfl (fun ls hl => ?_)
        refine wl2 (fun (j : Nat) (b3 : Nat → Int64) => 4 - j) (fun (j : Nat) (b3 : Nat → Int64) (ls : Array Slot) (H : Heap) (locs : List Loc) => lv_has ls 4 [(0, .ref h0), (1, .ref pa), (2, .int (nI i)), (3, .int (nI j))] ∧ va_P (dC, dI) vwCl [(h0, .inr (1, [.ref q1, .ref q2, .ref q3, .int (nI 1), .int (nI (P 0)), .long (lN (P 2 * 2116800))])), (q1, .inl (cL, 49, .inr (.inl w1))), (q2, .inl (cL, 32, .inr (.inl b3))), (q3, .inl (cL, 32, .inr (.inl f))), (pa, .inl (cI, 22, .inl (fun zz => nI (P zz))))] H ∧ va_D A [(h0, .inr (1, [.ref q1, .ref q2, .ref q3, .int (nI 1), .int (nI (P 0)), .long (lN (P 2 * 2116800))])), (q1, .inl (cL, 49, .inr (.inl w1))), (q2, .inl (cL, 32, .inr (.inl b3))), (q3, .inl (cL, 32, .inr (.inl f))), (pa, .inl (cI, 22, .inl (fun zz => nI (P zz))))] ∧ va_S A s.heap H locs ∧ (1 ≤ j ∧ j ≤ 4 ∧ FD (P 0) 3 (VT P 420) b3 i j)) 1 b1 (by exact ⟨lv_sub hl [1, 2, 3, 0] rfl, hP.sub [0, 1, 2, 3, 4] rfl, hD.sub [0, 1, 2, 3, 4] (by decide) rfl, hS, by omega, by omega, hFD0⟩) (fun j b3 ls H locs hI ih => ?_)
        obtain ⟨hl, hP, hD, hS, hj1, hj2, hFD⟩ := hI
        have ih103 := ih
        refine lv_iload_n hx hb dX1_solve_103 rfl (lv_at hl 3 rfl) ?_
        refine lv_iconst (v := nI 3) hx hb dX1_solve_104 (by decide) ?_
        refine ri_cgt (tgt := 139) hx hb dX1_solve_105 (by decide) (by omega) (by omega) (fun c105 => ?_) (fun c105 => ?_)
        · refine lv_iinc (v := nI (i - 1)) (lv' := [(2, .int (nI (i - 1))), (0, .ref h0), (1, .ref pa), (3, .int (nI j))]) hx hb dX1_solve_139 hl (k := 2) rfl (dec1 (by omega)) (by decide) rfl (fun ls hl => ?_)
          refine lv_goto (tgt := 96) hx hb dX1_solve_142 (by decide) ?_
          exact ih96 (i - 1) b3 _ _ _ (by show _ < _; omega) (by exact ⟨lv_sub hl [1, 2, 0] rfl, hP.sub [0, 1, 2, 3, 4] rfl, hD.sub [0, 1, 2, 3, 4] (by decide) rfl, hS, by omega, FD_next hFD (by omega)⟩)
        · refine lv_aload_n hx hb dX1_solve_108 rfl (lv_at hl 0 rfl) ?_
          refine va_get (D := (dC, dI)) (ci := 1) (v := .ref q2) (C := RX1) (T := TX1) (N := 6) hx hb hts inlX1 hown hK hP 0 rfl rfl 1 (by decide) (hts _ qf_X1_15) (fun _ h9 => h9) rfl dX1_solve_109 ?_
          refine lv_iload_n hx hb dX1_solve_112 rfl (lv_at hl 2 rfl) ?_
          refine lv_iload_n hx hb dX1_solve_113 rfl (lv_at hl 3 rfl) ?_
          refine kSi (As := [.int (nI i), .int (nI j)]) (rest := [.ref q2]) Y m_X1_place (c_X1_place l dC dI i j (by omega)) qm_X1_21 (kpS hK hP hZ hS [] [] rfl rfl) rfl hl.1 rfl (Nat.le_of_ble_eq_true rfl) dX1_solve_114 ⟨Nat.le_of_ble_eq_true rfl, Nat.le_of_ble_eq_true rfl⟩ ⟨Nat.zero_le _, Nat.zero_le _⟩ (fun r114 hr114 => ?_)
          obtain rfl : r114 = nI (((i - 1) * 4) + j) := hr114
          refine lv_lconst (v := lN 0) hx hb dX1_solve_117 rfl ?_
          refine lv_aload_n hx hb dX1_solve_118 rfl (lv_at hl 0 rfl) ?_
          refine lv_iload_n hx hb dX1_solve_119 rfl (lv_at hl 2 rfl) ?_
          refine lv_iload_n hx hb dX1_solve_120 rfl (lv_at hl 3 rfl) ?_
          refine kVl (As := [.int (nI i), .int (nI j)]) (rest := [.long (lN 0), .int (nI (((i - 1) * 4) + j)), .ref q2]) Y m_X1_meanOfBest (c_X1_meanOfBest l dC dI cL h0 q1 q2 q3 w1 b3 f 1 (P 0) (lN (P 2 * 2116800)) i j (by omega) (by omega) (by omega) (by omega)) qm_X1_51 (kpV (ci := 1) hK hP hZ hS [0, 1, 2, 3] [0] rfl rfl 0 rfl rfl rfl) rfl hl.1 rfl (Nat.le_of_ble_eq_true rfl) dX1_solve_121 ⟨Nat.le_of_ble_eq_true rfl, Nat.le_of_ble_eq_true rfl⟩ ⟨Nat.zero_le _, Nat.zero_le _⟩ (fun r121 hr121 => ?_)
          obtain rfl : r121 = sumL (fun r => mxL (b3 ((((i + 1) - 1) * 4) + j)) (w1 ((((i - 1) * 7) + r) - 1) + b3 ((((i + 1) - 1) * 4) + (j - 1)))) i / lN i := hr121
          refine lv_aload_n hx hb dX1_solve_124 rfl (lv_at hl 0 rfl) ?_
          refine va_get (D := (dC, dI)) (ci := 1) (v := .long (lN (P 2 * 2116800))) (C := RX1) (T := TX1) (N := 6) hx hb hts inlX1 hown hK hP 0 rfl rfl 5 (by decide) (hts _ qf_X1_39) (fun _ h9 => h9) rfl dX1_solve_125 ?_
          refine lv_lsub hx hb dX1_solve_128 ?_
          refine va_mmax_long hx hb (by rw [hml]; exact hl.1.symm) hown (hts _ qm_X1_54) (hts _ qt_Lib_MathLoose_max_long_x) (hts _ qz_java_lang_Math) (hts _ qc_Lib_MathLoose_max_long_x) (Nat.le_of_ble_eq_true rfl) (Nat.le_of_ble_eq_true rfl) (Nat.zero_le _) (Nat.zero_le _) dX1_solve_129 ?_
          refine rl_set (x' := lN (420 * VR P (P 0 + 1 - i) j)) (solve_mean hPI hi1 hi2 hj1 (by omega) hWD (FD_wk hFD)) ?_
          refine rl_ast hx hb hK hP hD hS 2 0 (F := b3) rfl rfl dX1_solve_132 (by decide) (by omega) (fun H locs hP hD hS => ?_)
          have hP : va_P (dC, dI) vwCl [(h0, .inr (1, [.ref q1, .ref q2, .ref q3, .int (nI 1), .int (nI (P 0)), .long (lN (P 2 * 2116800))])), (q1, .inl (cL, 49, .inr (.inl w1))), (q2, .inl (cL, 32, .inr (.inl (updL b3 (((i - 1) * 4) + j) (lN (420 * VR P (P 0 + 1 - i) j)))))), (q3, .inl (cL, 32, .inr (.inl f))), (pa, .inl (cI, 22, .inl (fun zz => nI (P zz))))] H := hP
          have hD : va_D A [(h0, .inr (1, [.ref q1, .ref q2, .ref q3, .int (nI 1), .int (nI (P 0)), .long (lN (P 2 * 2116800))])), (q1, .inl (cL, 49, .inr (.inl w1))), (q2, .inl (cL, 32, .inr (.inl (updL b3 (((i - 1) * 4) + j) (lN (420 * VR P (P 0 + 1 - i) j)))))), (q3, .inl (cL, 32, .inr (.inl f))), (pa, .inl (cI, 22, .inl (fun zz => nI (P zz))))] := hD
          refine lv_iinc (v := nI (j + 1)) (lv' := [(3, .int (nI (j + 1))), (0, .ref h0), (1, .ref pa), (2, .int (nI i))]) hx hb dX1_solve_133 hl (k := 3) rfl (inc1 _) (by decide) rfl (fun ls hl => ?_)
          refine lv_goto (tgt := 103) hx hb dX1_solve_136 (by decide) ?_
          exact ih103 (j + 1) (updL b3 (((i - 1) * 4) + j) (lN (420 * VR P (P 0 + 1 - i) j))) _ _ _ (by show _ < _; omega) (by exact ⟨lv_sub hl [1, 2, 3, 0] rfl, hP.sub [0, 1, 2, 3, 4] rfl, hD.sub [0, 1, 2, 3, 4] (by decide) rfl, hS, by omega, by omega, FD_put hFD hi1 (by omega) (by omega) rfl⟩)
    · refine lv_iconst (v := nI 1) hx hb dX1_solve_42 (by decide) ?_
      refine lv_istore_n (lv' := [(3, .int (nI 1)), (0, .ref h0), (1, .ref pa), (2, .int (nI i))]) hx hb dX1_solve_43 rfl hl (by decide) rfl (fun ls hl => ?_)
      refine wl2 (fun (r : Nat) (w3 : Nat → Int64) => i + 1 - r) (fun (r : Nat) (w3 : Nat → Int64) (ls : Array Slot) (H : Heap) (locs : List Loc) => lv_has ls 4 [(0, .ref h0), (1, .ref pa), (2, .int (nI i)), (3, .int (nI r))] ∧ va_P (dC, dI) vwCl [(h0, .inr (1, [.ref q1, .ref q2, .ref q3, .int (nI 1), .int (nI (P 0)), .long (lN (P 2 * 2116800))])), (q1, .inl (cL, 49, .inr (.inl w3))), (q2, .inl (cL, 32, .inr (.inl b))), (q3, .inl (cL, 32, .inr (.inl f))), (pa, .inl (cI, 22, .inl (fun zz => nI (P zz))))] H ∧ va_D A [(h0, .inr (1, [.ref q1, .ref q2, .ref q3, .int (nI 1), .int (nI (P 0)), .long (lN (P 2 * 2116800))])), (q1, .inl (cL, 49, .inr (.inl w3))), (q2, .inl (cL, 32, .inr (.inl b))), (q3, .inl (cL, 32, .inr (.inl f))), (pa, .inl (cI, 22, .inl (fun zz => nI (P zz))))] ∧ va_S A s.heap H locs ∧ (1 ≤ r ∧ r ≤ i + 1 ∧ WD P w3 i r)) 1 w1 (by exact ⟨lv_sub hl [1, 2, 3, 0] rfl, hP.sub [0, 1, 2, 3, 4] rfl, hD.sub [0, 1, 2, 3, 4] (by decide) rfl, hS, by omega, by omega, hW1⟩) (fun r w3 ls H locs hI ih => ?_)
      obtain ⟨hl, hP, hD, hS, hr1, hr2, hW3⟩ := hI
      have ih44 := ih
      refine lv_iload_n hx hb dX1_solve_44 rfl (lv_at hl 3 rfl) ?_
      refine lv_iload_n hx hb dX1_solve_45 rfl (lv_at hl 2 rfl) ?_
      refine ri_cgt (tgt := 77) hx hb dX1_solve_46 (by decide) (by omega) (by omega) (fun c46 => ?_) (fun c46 => ?_)
      · refine lv_iinc (v := nI (i + 1)) (lv' := [(2, .int (nI (i + 1))), (0, .ref h0), (1, .ref pa), (3, .int (nI r))]) hx hb dX1_solve_77 hl (k := 2) rfl (inc1 _) (by decide) rfl (fun ls hl => ?_)
        refine lv_goto (tgt := 34) hx hb dX1_solve_80 (by decide) ?_
        exact ih34 (i + 1) w3 _ _ _ (by show _ < _; omega) (by exact ⟨lv_sub hl [1, 2, 0] rfl, hP.sub [0, 1, 2, 3, 4] rfl, hD.sub [0, 1, 2, 3, 4] (by decide) rfl, hS, by omega, by omega, WD_next hW3 (by omega)⟩)
      · refine lv_aload_n hx hb dX1_solve_49 rfl (lv_at hl 0 rfl) ?_
        refine va_get (D := (dC, dI)) (ci := 1) (v := .ref q1) (C := RX1) (T := TX1) (N := 6) hx hb hts inlX1 hown hK hP 0 rfl rfl 0 (by decide) (hts _ qf_X1_9) (fun _ h9 => h9) rfl dX1_solve_50 ?_
        refine lv_iload_n hx hb dX1_solve_53 rfl (lv_at hl 2 rfl) ?_
        refine lv_iconst (v := nI 1) hx hb dX1_solve_54 (by decide) ?_
        refine ri_sub hx hb dX1_solve_55 (by omega) ?_
        refine lv_bipush (v := nI 7) hx hb dX1_solve_56 (by decide) ?_
        refine ri_mul hx hb dX1_solve_58 ?_
        refine lv_iload_n hx hb dX1_solve_59 rfl (lv_at hl 3 rfl) ?_
        refine ri_add hx hb dX1_solve_60 ?_
        refine lv_iconst (v := nI 1) hx hb dX1_solve_61 (by decide) ?_
        refine ri_sub hx hb dX1_solve_62 (by omega) ?_
        refine lv_aload_n hx hb dX1_solve_63 rfl (lv_at hl 0 rfl) ?_
        refine lv_aload_n hx hb dX1_solve_64 rfl (lv_at hl 1 rfl) ?_
        refine lv_iload_n hx hb dX1_solve_65 rfl (lv_at hl 2 rfl) ?_
        refine lv_iload_n hx hb dX1_solve_66 rfl (lv_at hl 3 rfl) ?_
        refine kVl (As := [.ref pa, .int (nI i), .int (nI r)]) (rest := [.int (nI ((((i - 1) * 7) + r) - 1)), .ref q1]) Y m_X1_computeWorth (c_X1_computeWorth l dC dI cI h0 q1 q2 q3 pa P 1 (P 0) (lN (P 2 * 2116800)) i r (by omega) (by omega) (by omega) (by omega) (by omega) hPI) qm_X1_43 (kpV (ci := 1) hK hP hZ hS [0, 4] [1] rfl rfl 0 rfl rfl rfl) rfl hl.1 rfl (Nat.le_of_ble_eq_true rfl) dX1_solve_67 ⟨Nat.le_of_ble_eq_true rfl, Nat.le_of_ble_eq_true rfl⟩ ⟨Nat.zero_le _, Nat.zero_le _⟩ (fun r67 hr67 => ?_)
        obtain rfl : r67 = lN (woS P (P 0) i r * (2116800 / ch (P 0) i)) := hr67
        refine rl_ast hx hb hK hP hD hS 1 0 (F := w3) rfl rfl dX1_solve_70 (by decide) (by omega) (fun H locs hP hD hS => ?_)
        have hP : va_P (dC, dI) vwCl [(h0, .inr (1, [.ref q1, .ref q2, .ref q3, .int (nI 1), .int (nI (P 0)), .long (lN (P 2 * 2116800))])), (q1, .inl (cL, 49, .inr (.inl (updL w3 ((((i - 1) * 7) + r) - 1) (lN (woS P (P 0) i r * (2116800 / ch (P 0) i))))))), (q2, .inl (cL, 32, .inr (.inl b))), (q3, .inl (cL, 32, .inr (.inl f))), (pa, .inl (cI, 22, .inl (fun zz => nI (P zz))))] H := hP
        have hD : va_D A [(h0, .inr (1, [.ref q1, .ref q2, .ref q3, .int (nI 1), .int (nI (P 0)), .long (lN (P 2 * 2116800))])), (q1, .inl (cL, 49, .inr (.inl (updL w3 ((((i - 1) * 7) + r) - 1) (lN (woS P (P 0) i r * (2116800 / ch (P 0) i))))))), (q2, .inl (cL, 32, .inr (.inl b))), (q3, .inl (cL, 32, .inr (.inl f))), (pa, .inl (cI, 22, .inl (fun zz => nI (P zz))))] := hD
        refine lv_iinc (v := nI (r + 1)) (lv' := [(3, .int (nI (r + 1))), (0, .ref h0), (1, .ref pa), (2, .int (nI i))]) hx hb dX1_solve_71 hl (k := 3) rfl (inc1 _) (by decide) rfl (fun ls hl => ?_)
        refine lv_goto (tgt := 44) hx hb dX1_solve_74 (by decide) ?_
        exact ih44 (r + 1) (updL w3 ((((i - 1) * 7) + r) - 1) (lN (woS P (P 0) i r * (2116800 / ch (P 0) i)))) _ _ _ (by show _ < _; omega) (by exact ⟨lv_sub hl [1, 2, 3, 0] rfl, hP.sub [0, 1, 2, 3, 4] rfl, hD.sub [0, 1, 2, 3, 4] (by decide) rfl, hS, by omega, by omega, WD_put (by omega) hW3 hi1 (by omega) hr1 (by omega) (by rw [Wo_420 hPI (by omega)])⟩)
  · obtain rfl : sv = 1 := by have := hRI.1; omega
    exact kqv (w1 := (fun u : (Nat → Int64) × (Nat → Int64) × Nat × Int64 => [(h0, .inr (1, [.ref q1, .ref q2, .ref q3, .int (nI 1), .int (nI u.2.2.1), .long u.2.2.2])), (q1, .inl (cL, 49, .inr (.inl u.1))), (q2, .inl (cL, 32, .inr (.inl u.2.1))), (q3, .inl (cL, 32, .inr (.inl f))), (pa, .inl (cI, 22, .inl (fun zz => nI (P zz))))])) Y hr hlocks hK hP hD hS [0, 1, 2, 3, 4] (by decide) (w, b, n, co) rfl (hRI.2 rfl) dX1_solve_7
