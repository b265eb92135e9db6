set_option maxHeartbeats 4000000 in
set_option maxRecDepth 100000 in
theorem c_X4_solveAfters (l : Launch) (dC : Nat → ClassId) (dI : Nat → Nat → Nat) (sz : Nat) (cL cI : ClassId) (h0 v1 v2 v3 v4 v5 : Nat) (wr sv n co ch1 ch2 : Nat) (bf af lv wt : Nat → Nat) (fl : Nat → Int64) (i j : Nat) (h1 : 1 ≤ i) (h2 : i ≤ 8) (h3 : j ≤ 3) (h4 : n ≤ 7) (h5 : co ≤ 20000000000000000) (hVl : ∀ k, k < 5 → lv k ≤ 99000000000000000) (hVb : ∀ k, bf k ≤ 297000000000000000) (hVw : sgN wt 5 = 10) : Met l yX4_solveAfters (kw yX4_solveAfters cX4_solveAfters 6 none) (kR 2 53) (kPq (dC, dI) [.ref h0, .int (nI i), .int (nI j)] sz [(h0, .inr (4, [.int (nI wr), .ref v1, .ref v2, .ref v3, .ref v4, .ref v5, .int (nI sv), .int (nI n), .long (lN co), .int (nI ch1), .int (nI ch2)])), (v1, .inl (cL, 1152, .inr (.inl (fun zz => lN (bf zz))))), (v2, .inl (cL, 192, .inr (.inl (fun zz => lN (af zz))))), (v3, .inl (cL, 32, .inr (.inl fl))), (v4, .inl (cL, 5, .inr (.inl (fun zz => lN (lv zz))))), (v5, .inl (cI, 5, .inl (fun zz => nI (wt zz))))] [(cL, .long), (cI, .int)]) (va_Qv (fun u : Nat → Nat => (∀ k, (∀ a', a' ≤ 5 → k ≠ pA i j a') → u k = af k) ∧ (∀ a', a' < 6 → u (pA i j a') = qaF lv wt bf n co i j a')) (fun u : Nat → Nat => kB (dC, dI) [(cL, .long), (cI, .int)] (va_A [(h0, .inr (4, [.int (nI wr), .ref v1, .ref v2, .ref v3, .ref v4, .ref v5, .int (nI sv), .int (nI n), .long (lN co), .int (nI ch1), .int (nI ch2)])), (v1, .inl (cL, 1152, .inr (.inl (fun zz => lN (bf zz))))), (v2, .inl (cL, 192, .inr (.inl (fun zz => lN (af zz))))), (v3, .inl (cL, 32, .inr (.inl fl))), (v4, .inl (cL, 5, .inr (.inl (fun zz => lN (lv zz))))), (v5, .inl (cI, 5, .inl (fun zz => nI (wt zz))))] sz) ([(h0, .inr (4, [.int (nI wr), .ref v1, .ref v2, .ref v3, .ref v4, .ref v5, .int (nI sv), .int (nI n), .long (lN co), .int (nI ch1), .int (nI ch2)])), (v1, .inl (cL, 1152, .inr (.inl (fun zz => lN (bf zz))))), (v2, .inl (cL, 192, .inr (.inl (fun zz => lN (u zz))))), (v3, .inl (cL, 32, .inr (.inl fl))), (v4, .inl (cL, 5, .inr (.inl (fun zz => lN (lv zz))))), (v5, .inl (cI, 5, .inl (fun zz => nI (wt zz))))])) (va_A [(h0, .inr (4, [.int (nI wr), .ref v1, .ref v2, .ref v3, .ref v4, .ref v5, .int (nI sv), .int (nI n), .long (lN co), .int (nI ch1), .int (nI ch2)])), (v1, .inl (cL, 1152, .inr (.inl (fun zz => lN (bf zz))))), (v2, .inl (cL, 192, .inr (.inl (fun zz => lN (af zz))))), (v3, .inl (cL, 32, .inr (.inl fl))), (v4, .inl (cL, 5, .inr (.inl (fun zz => lN (lv zz))))), (v5, .inl (cI, 5, .inl (fun zz => nI (wt zz))))] sz)) 0 0 (va_A [(h0, .inr (4, [.int (nI wr), .ref v1, .ref v2, .ref v3, .ref v4, .ref v5, .int (nI sv), .int (nI n), .long (lN co), .int (nI ch1), .int (nI ch2)])), (v1, .inl (cL, 1152, .inr (.inl (fun zz => lN (bf zz))))), (v2, .inl (cL, 192, .inr (.inl (fun zz => lN (af zz))))), (v3, .inl (cL, 32, .inr (.inl fl))), (v4, .inl (cL, 5, .inr (.inl (fun zz => lN (lv zz))))), (v5, .inl (cI, 5, .inl (fun zz => nI (wt zz))))] sz) := by
  refine kmet (by decide) ?_
  intro p e s m args below meth c Y hr hlocks hin hv
  obtain ⟨rfl, A, hAe, hsz, hP, hK, hD, hZ, hA⟩ := kinQ hv
  rw [hAe]
  have hS : va_S A s.heap s.heap [] := va_S.rf
  have hx := Y.1
  have hb := Y.2.1
  have hml := Y.2.2.1
  have hown := Y.2.2.2.1
  have hts := Y.2.2.2.2
  have hl := lv_entry ([.ref h0, .int (nI i), .int (nI j)]) (n := 6) (Nat.le_of_ble_eq_true rfl)
  rw [lg_entry_eq]
  generalize (lg_sl ([.ref h0, .int (nI i), .int (nI j)]) ++ List.replicate (6 - (lg_sl ([.ref h0, .int (nI i), .int (nI j)])).length) Slot.unset).toArray = ls at hl ⊢
  have hl : lv_has ls 6 [(0, .ref h0), (1, .int (nI i)), (2, .int (nI j))] := hl
  refine lv_iconst (v := nI 0) hx hb dX4_solveAfters_0 (by decide) ?_
  refine lv_istore_n (lv' := [(3, .int (nI 0)), (0, .ref h0), (1, .int (nI i)), (2, .int (nI j))]) hx hb dX4_solveAfters_1 rfl hl (by decide) rfl (fun ls hl => ?_)
  refine wl2 (fun (a : Nat) (af1 : Nat → Nat) => 6 - a) (fun (a : Nat) (af1 : Nat → Nat) (ls : Array Slot) (H : Heap) (locs : List Loc) => lv_has ls 6 [(0, .ref h0), (1, .int (nI i)), (2, .int (nI j)), (3, .int (nI a))] ∧ va_P (dC, dI) vwCl [(h0, .inr (4, [.int (nI wr), .ref v1, .ref v2, .ref v3, .ref v4, .ref v5, .int (nI sv), .int (nI n), .long (lN co), .int (nI ch1), .int (nI ch2)])), (v1, .inl (cL, 1152, .inr (.inl (fun zz => lN (bf zz))))), (v2, .inl (cL, 192, .inr (.inl (fun zz => lN (af1 zz))))), (v3, .inl (cL, 32, .inr (.inl fl))), (v4, .inl (cL, 5, .inr (.inl (fun zz => lN (lv zz))))), (v5, .inl (cI, 5, .inl (fun zz => nI (wt zz))))] H ∧ va_D A [(h0, .inr (4, [.int (nI wr), .ref v1, .ref v2, .ref v3, .ref v4, .ref v5, .int (nI sv), .int (nI n), .long (lN co), .int (nI ch1), .int (nI ch2)])), (v1, .inl (cL, 1152, .inr (.inl (fun zz => lN (bf zz))))), (v2, .inl (cL, 192, .inr (.inl (fun zz => lN (af1 zz))))), (v3, .inl (cL, 32, .inr (.inl fl))), (v4, .inl (cL, 5, .inr (.inl (fun zz => lN (lv zz))))), (v5, .inl (cI, 5, .inl (fun zz => nI (wt zz))))] ∧ va_S A s.heap H locs ∧ (a ≤ 6 ∧ (∀ k, (∀ a', a' ≤ 5 → k ≠ pA i j a') → af1 k = af k) ∧ (∀ a', a' < a → af1 (pA i j a') = qaF lv wt bf n co i j a'))) 0 af (by exact ⟨lv_sub hl [1, 2, 3, 0] rfl, hP.sub [0, 1, 2, 3, 4, 5] rfl, hD.sub [0, 1, 2, 3, 4, 5] (by decide) rfl, hS, by omega, fun k _ => rfl, fun k h => by omega⟩) (fun a af1 ls H locs hI ih => ?_)
  obtain ⟨hl, hP, hD, hS, ha, hoth, hput⟩ := hI
  have ih2 := ih
  refine lv_iload_n hx hb dX4_solveAfters_2 rfl (lv_at hl 3 rfl) ?_
  refine lv_bipush (v := nI 6) hx hb dX4_solveAfters_3 (by decide) ?_
  refine ri_cge (tgt := 60) hx hb dX4_solveAfters_5 (by decide) (by omega) (by omega) (fun c5 => ?_) (fun c5 => ?_)
  · exact kqv (w1 := (fun u : Nat → Nat => [(h0, .inr (4, [.int (nI wr), .ref v1, .ref v2, .ref v3, .ref v4, .ref v5, .int (nI sv), .int (nI n), .long (lN co), .int (nI ch1), .int (nI ch2)])), (v1, .inl (cL, 1152, .inr (.inl (fun zz => lN (bf zz))))), (v2, .inl (cL, 192, .inr (.inl (fun zz => lN (u zz))))), (v3, .inl (cL, 32, .inr (.inl fl))), (v4, .inl (cL, 5, .inr (.inl (fun zz => lN (lv zz))))), (v5, .inl (cI, 5, .inl (fun zz => nI (wt zz))))])) Y hr hlocks hK hP hD hS [0, 1, 2, 3, 4, 5] (by decide) (af1) rfl ⟨hoth, fun x hx6 => hput x (by omega)⟩ dX4_solveAfters_60
  · refine lv_lconst (v := lN 0) hx hb dX4_solveAfters_8 rfl ?_
    refine lv_lstore (lv' := [(4, .long (lN 0)), (0, .ref h0), (1, .int (nI i)), (2, .int (nI j)), (3, .int (nI a))]) hx hb dX4_solveAfters_9 hl (by decide) rfl (fun ls hl => ?_)
    refine lv_iload_n hx hb dX4_solveAfters_11 rfl (lv_at hl 3 rfl) ?_
    refine ri_zle (tgt := 41) hx hb dX4_solveAfters_12 (by decide) (by omega) (fun c12 => ?_) (fun c12 => ?_)
    · refine lv_aload_n hx hb dX4_solveAfters_41 rfl (lv_at hl 1 rfl) ?_
      refine va_get (D := (dC, dI)) (ci := 4) (v := .ref v2) (C := RX4) (T := TX4) (N := 11) hx hb hts inlX4 hown hK hP 0 rfl rfl 2 (by decide) (hts _ qf_X4_19) (fun _ h9 => h9) rfl dX4_solveAfters_42 ?_
      refine lv_iload_n hx hb dX4_solveAfters_45 rfl (lv_at hl 2 rfl) ?_
      refine lv_iload_n hx hb dX4_solveAfters_46 rfl (lv_at hl 3 rfl) ?_
      refine lv_iload_n hx hb dX4_solveAfters_47 rfl (lv_at hl 4 rfl) ?_
      refine kSi (As := [.int (nI i), .int (nI j), .int (nI a)]) (rest := [.ref v2]) Y m_X4_placeAfter (c_X4_placeAfter l dC dI i j a (by omega)) qm_X4_36 (kpS hK hP hZ hS [] [] rfl rfl) rfl hl.1 rfl (Nat.le_of_ble_eq_true rfl) dX4_solveAfters_48 ⟨Nat.le_of_ble_eq_true rfl, Nat.le_of_ble_eq_true rfl⟩ ⟨Nat.zero_le _, Nat.zero_le _⟩ (fun r48 hr48 => ?_)
      obtain rfl : r48 = nI (pA i j a) := hr48
      refine lv_lload hx hb dX4_solveAfters_51 (lv_at hl 0 rfl) ?_
      refine rm_ast hx hb hK hP hD hS 2 0 (F := af1) rfl rfl dX4_solveAfters_53 (by decide) (pA_lt (by omega) (by omega) (by omega)) (fun H locs hP hD hS => ?_)
      have hP : va_P (dC, dI) vwCl [(h0, .inr (4, [.int (nI wr), .ref v1, .ref v2, .ref v3, .ref v4, .ref v5, .int (nI sv), .int (nI n), .long (lN co), .int (nI ch1), .int (nI ch2)])), (v1, .inl (cL, 1152, .inr (.inl (fun zz => lN (bf zz))))), (v2, .inl (cL, 192, .inr (.inl (fun zz => lN (updN af1 (pA i j a) 0 zz))))), (v3, .inl (cL, 32, .inr (.inl fl))), (v4, .inl (cL, 5, .inr (.inl (fun zz => lN (lv zz))))), (v5, .inl (cI, 5, .inl (fun zz => nI (wt zz))))] H := hP
      have hD : va_D A [(h0, .inr (4, [.int (nI wr), .ref v1, .ref v2, .ref v3, .ref v4, .ref v5, .int (nI sv), .int (nI n), .long (lN co), .int (nI ch1), .int (nI ch2)])), (v1, .inl (cL, 1152, .inr (.inl (fun zz => lN (bf zz))))), (v2, .inl (cL, 192, .inr (.inl (fun zz => lN (updN af1 (pA i j a) 0 zz))))), (v3, .inl (cL, 32, .inr (.inl fl))), (v4, .inl (cL, 5, .inr (.inl (fun zz => lN (lv zz))))), (v5, .inl (cI, 5, .inl (fun zz => nI (wt zz))))] := hD
      refine lv_iinc (v := nI (a + 1)) (lv' := [(3, .int (nI (a + 1))), (4, .long (lN 0)), (0, .ref h0), (1, .int (nI i)), (2, .int (nI j))]) hx hb dX4_solveAfters_54 hl (k := 4) rfl (inc1 _) (by decide) rfl (fun ls hl => ?_)
      refine lv_goto (tgt := 2) hx hb dX4_solveAfters_57 (by decide) ?_
      exact ih2 (a + 1) (updN af1 (pA i j a) 0) _ _ _ (by show _ < _; omega) (by exact ⟨lv_sub hl [2, 3, 4, 0] rfl, hP.sub [0, 1, 2, 3, 4, 5] rfl, hD.sub [0, 1, 2, 3, 4, 5] (by decide) rfl, hS, by omega, sa_oth (by omega) hoth, sa_put hput (by unfold qaF; rw [if_neg (by omega)])⟩)
    · refine lv_iload_n hx hb dX4_solveAfters_15 rfl (lv_at hl 2 rfl) ?_
      refine lv_aload_n hx hb dX4_solveAfters_16 rfl (lv_at hl 1 rfl) ?_
      refine va_get (D := (dC, dI)) (ci := 4) (v := .int (nI n)) (C := RX4) (T := TX4) (N := 11) hx hb hts inlX4 hown hK hP 0 rfl rfl 7 (by decide) (hts _ qf_X4_58) (fun _ h9 => h9) rfl dX4_solveAfters_17 ?_
      refine ri_cgt (tgt := 41) hx hb dX4_solveAfters_20 (by decide) (by omega) (by omega) (fun c20 => ?_) (fun c20 => ?_)
      · refine lv_aload_n hx hb dX4_solveAfters_41 rfl (lv_at hl 1 rfl) ?_
        refine va_get (D := (dC, dI)) (ci := 4) (v := .ref v2) (C := RX4) (T := TX4) (N := 11) hx hb hts inlX4 hown hK hP 0 rfl rfl 2 (by decide) (hts _ qf_X4_19) (fun _ h9 => h9) rfl dX4_solveAfters_42 ?_
        refine lv_iload_n hx hb dX4_solveAfters_45 rfl (lv_at hl 2 rfl) ?_
        refine lv_iload_n hx hb dX4_solveAfters_46 rfl (lv_at hl 3 rfl) ?_
        refine lv_iload_n hx hb dX4_solveAfters_47 rfl (lv_at hl 4 rfl) ?_
        refine kSi (As := [.int (nI i), .int (nI j), .int (nI a)]) (rest := [.ref v2]) Y m_X4_placeAfter (c_X4_placeAfter l dC dI i j a (by omega)) qm_X4_36 (kpS hK hP hZ hS [] [] rfl rfl) rfl hl.1 rfl (Nat.le_of_ble_eq_true rfl) dX4_solveAfters_48 ⟨Nat.le_of_ble_eq_true rfl, Nat.le_of_ble_eq_true rfl⟩ ⟨Nat.zero_le _, Nat.zero_le _⟩ (fun r48 hr48 => ?_)
        obtain rfl : r48 = nI (pA i j a) := hr48
        refine lv_lload hx hb dX4_solveAfters_51 (lv_at hl 0 rfl) ?_
        refine rm_ast hx hb hK hP hD hS 2 0 (F := af1) rfl rfl dX4_solveAfters_53 (by decide) (pA_lt (by omega) (by omega) (by omega)) (fun H locs hP hD hS => ?_)
        have hP : va_P (dC, dI) vwCl [(h0, .inr (4, [.int (nI wr), .ref v1, .ref v2, .ref v3, .ref v4, .ref v5, .int (nI sv), .int (nI n), .long (lN co), .int (nI ch1), .int (nI ch2)])), (v1, .inl (cL, 1152, .inr (.inl (fun zz => lN (bf zz))))), (v2, .inl (cL, 192, .inr (.inl (fun zz => lN (updN af1 (pA i j a) 0 zz))))), (v3, .inl (cL, 32, .inr (.inl fl))), (v4, .inl (cL, 5, .inr (.inl (fun zz => lN (lv zz))))), (v5, .inl (cI, 5, .inl (fun zz => nI (wt zz))))] H := hP
        have hD : va_D A [(h0, .inr (4, [.int (nI wr), .ref v1, .ref v2, .ref v3, .ref v4, .ref v5, .int (nI sv), .int (nI n), .long (lN co), .int (nI ch1), .int (nI ch2)])), (v1, .inl (cL, 1152, .inr (.inl (fun zz => lN (bf zz))))), (v2, .inl (cL, 192, .inr (.inl (fun zz => lN (updN af1 (pA i j a) 0 zz))))), (v3, .inl (cL, 32, .inr (.inl fl))), (v4, .inl (cL, 5, .inr (.inl (fun zz => lN (lv zz))))), (v5, .inl (cI, 5, .inl (fun zz => nI (wt zz))))] := hD
        refine lv_iinc (v := nI (a + 1)) (lv' := [(3, .int (nI (a + 1))), (4, .long (lN 0)), (0, .ref h0), (1, .int (nI i)), (2, .int (nI j))]) hx hb dX4_solveAfters_54 hl (k := 4) rfl (inc1 _) (by decide) rfl (fun ls hl => ?_)
        refine lv_goto (tgt := 2) hx hb dX4_solveAfters_57 (by decide) ?_
        exact ih2 (a + 1) (updN af1 (pA i j a) 0) _ _ _ (by show _ < _; omega) (by exact ⟨lv_sub hl [2, 3, 4, 0] rfl, hP.sub [0, 1, 2, 3, 4, 5] rfl, hD.sub [0, 1, 2, 3, 4, 5] (by decide) rfl, hS, by omega, sa_oth (by omega) hoth, sa_put hput (by unfold qaF; rw [if_neg (by omega)])⟩)
      · refine lv_lconst (v := lN 0) hx hb dX4_solveAfters_23 rfl ?_
        refine lv_aload_n hx hb dX4_solveAfters_24 rfl (lv_at hl 1 rfl) ?_
        refine lv_iload_n hx hb dX4_solveAfters_25 rfl (lv_at hl 2 rfl) ?_
        refine lv_iload_n hx hb dX4_solveAfters_26 rfl (lv_at hl 3 rfl) ?_
        refine lv_iload_n hx hb dX4_solveAfters_27 rfl (lv_at hl 4 rfl) ?_
        refine kVl (As := [.int (nI i), .int (nI j), .int (nI a)]) (rest := [.long (lN 0)]) Y m_X4_meanOfBest (c_X4_meanOfBest l dC dI cL cI h0 v1 v2 v3 v4 v5 wr sv n co ch1 ch2 bf af1 lv wt fl i j a (by omega) (by omega) (by omega) (by omega) (by omega) hVl hVb hVw) qm_X4_88 (kpV (ci := 4) hK hP hZ hS [0, 1, 2, 3, 4, 5] [0, 1] rfl rfl 0 rfl rfl rfl) rfl hl.1 rfl (Nat.le_of_ble_eq_true rfl) dX4_solveAfters_28 ⟨Nat.le_of_ble_eq_true rfl, Nat.le_of_ble_eq_true rfl⟩ ⟨Nat.zero_le _, Nat.zero_le _⟩ (fun r28 hr28 => ?_)
        obtain rfl : r28 = lN (sgN (mbF lv wt bf i j a) 5 / 10) := hr28
        refine lv_aload_n hx hb dX4_solveAfters_31 rfl (lv_at hl 1 rfl) ?_
        refine va_get (D := (dC, dI)) (ci := 4) (v := .long (lN co)) (C := RX4) (T := TX4) (N := 11) hx hb hts inlX4 hown hK hP 0 rfl rfl 8 (by decide) (hts _ qf_X4_76) (fun _ h9 => h9) rfl dX4_solveAfters_32 ?_
        refine lv_lsub hx hb dX4_solveAfters_35 ?_
        refine va_mmax_long hx hb (by rw [hml]; exact hl.1.symm) hown (hts _ qm_X4_91) (hts _ qt_Lib_MathLoose_max_long_x) (hts _ qz_java_lang_Math) (hts _ qc_Lib_MathLoose_max_long_x) (Nat.le_of_ble_eq_true rfl) (Nat.le_of_ble_eq_true rfl) (Nat.zero_le _) (Nat.zero_le _) dX4_solveAfters_36 ?_
        have hnum := mbF_b hVl hVb hVw i j a
        refine rl_topn (n := sgN (mbF lv wt bf i j a) 5 / 10 - co) (cut0 (by omega) (by omega)).1 ?_
        refine lv_lstore (lv' := [(4, .long (lN (sgN (mbF lv wt bf i j a) 5 / 10 - co))), (0, .ref h0), (1, .int (nI i)), (2, .int (nI j)), (3, .int (nI a))]) hx hb dX4_solveAfters_39 hl (by decide) rfl (fun ls hl => ?_)
        refine lv_aload_n hx hb dX4_solveAfters_41 rfl (lv_at hl 1 rfl) ?_
        refine va_get (D := (dC, dI)) (ci := 4) (v := .ref v2) (C := RX4) (T := TX4) (N := 11) hx hb hts inlX4 hown hK hP 0 rfl rfl 2 (by decide) (hts _ qf_X4_19) (fun _ h9 => h9) rfl dX4_solveAfters_42 ?_
        refine lv_iload_n hx hb dX4_solveAfters_45 rfl (lv_at hl 2 rfl) ?_
        refine lv_iload_n hx hb dX4_solveAfters_46 rfl (lv_at hl 3 rfl) ?_
        refine lv_iload_n hx hb dX4_solveAfters_47 rfl (lv_at hl 4 rfl) ?_
        refine kSi (As := [.int (nI i), .int (nI j), .int (nI a)]) (rest := [.ref v2]) Y m_X4_placeAfter (c_X4_placeAfter l dC dI i j a (by omega)) qm_X4_36 (kpS hK hP hZ hS [] [] rfl rfl) rfl hl.1 rfl (Nat.le_of_ble_eq_true rfl) dX4_solveAfters_48 ⟨Nat.le_of_ble_eq_true rfl, Nat.le_of_ble_eq_true rfl⟩ ⟨Nat.zero_le _, Nat.zero_le _⟩ (fun r48 hr48 => ?_)
        obtain rfl : r48 = nI (pA i j a) := hr48
        refine lv_lload hx hb dX4_solveAfters_51 (lv_at hl 0 rfl) ?_
        refine rm_ast hx hb hK hP hD hS 2 0 (F := af1) rfl rfl dX4_solveAfters_53 (by decide) (pA_lt (by omega) (by omega) (by omega)) (fun H locs hP hD hS => ?_)
        have hP : va_P (dC, dI) vwCl [(h0, .inr (4, [.int (nI wr), .ref v1, .ref v2, .ref v3, .ref v4, .ref v5, .int (nI sv), .int (nI n), .long (lN co), .int (nI ch1), .int (nI ch2)])), (v1, .inl (cL, 1152, .inr (.inl (fun zz => lN (bf zz))))), (v2, .inl (cL, 192, .inr (.inl (fun zz => lN (updN af1 (pA i j a) (sgN (mbF lv wt bf i j a) 5 / 10 - co) zz))))), (v3, .inl (cL, 32, .inr (.inl fl))), (v4, .inl (cL, 5, .inr (.inl (fun zz => lN (lv zz))))), (v5, .inl (cI, 5, .inl (fun zz => nI (wt zz))))] H := hP
        have hD : va_D A [(h0, .inr (4, [.int (nI wr), .ref v1, .ref v2, .ref v3, .ref v4, .ref v5, .int (nI sv), .int (nI n), .long (lN co), .int (nI ch1), .int (nI ch2)])), (v1, .inl (cL, 1152, .inr (.inl (fun zz => lN (bf zz))))), (v2, .inl (cL, 192, .inr (.inl (fun zz => lN (updN af1 (pA i j a) (sgN (mbF lv wt bf i j a) 5 / 10 - co) zz))))), (v3, .inl (cL, 32, .inr (.inl fl))), (v4, .inl (cL, 5, .inr (.inl (fun zz => lN (lv zz))))), (v5, .inl (cI, 5, .inl (fun zz => nI (wt zz))))] := hD
        refine lv_iinc (v := nI (a + 1)) (lv' := [(3, .int (nI (a + 1))), (4, .long (lN (sgN (mbF lv wt bf i j a) 5 / 10 - co))), (0, .ref h0), (1, .int (nI i)), (2, .int (nI j))]) hx hb dX4_solveAfters_54 hl (k := 4) rfl (inc1 _) (by decide) rfl (fun ls hl => ?_)
        refine lv_goto (tgt := 2) hx hb dX4_solveAfters_57 (by decide) ?_
        exact ih2 (a + 1) (updN af1 (pA i j a) (sgN (mbF lv wt bf i j a) 5 / 10 - co)) _ _ _ (by show _ < _; omega) (by exact ⟨lv_sub hl [2, 3, 4, 0] rfl, hP.sub [0, 1, 2, 3, 4, 5] rfl, hD.sub [0, 1, 2, 3, 4, 5] (by decide) rfl, hS, by omega, sa_oth (by omega) hoth, sa_put hput (by unfold qaF; rw [if_pos ⟨by omega, by omega⟩])⟩)
set_option maxHeartbeats 4000000 in
set_option maxRecDepth 100000 in
theorem c_X4_solveBefores (l : Launch) (dC : Nat → ClassId) (dI : Nat → Nat → Nat) (sz : Nat) (cL cI : ClassId) (h0 v1 v2 v3 v4 v5 : Nat) (wr sv n co ch1 ch2 : Nat) (bf af lv wt : Nat → Nat) (fl : Nat → Int64) (i j : Nat) (h1 : 1 ≤ i) (h2 : i ≤ 8) (h3 : j ≤ 3) (hVl : ∀ k, k < 5 → lv k ≤ 99000000000000000) (hVa : ∀ k, af k ≤ 297000000000000000) (hVc1 : ch1 ≤ 10) (hVc2 : ch2 ≤ 10) : Met l yX4_solveBefores (kw yX4_solveBefores cX4_solveBefores 7 none) (kR 2 50) (kPq (dC, dI) [.ref h0, .int (nI i), .int (nI j)] sz [(h0, .inr (4, [.int (nI wr), .ref v1, .ref v2, .ref v3, .ref v4, .ref v5, .int (nI sv), .int (nI n), .long (lN co), .int (nI ch1), .int (nI ch2)])), (v1, .inl (cL, 1152, .inr (.inl (fun zz => lN (bf zz))))), (v2, .inl (cL, 192, .inr (.inl (fun zz => lN (af zz))))), (v3, .inl (cL, 32, .inr (.inl fl))), (v4, .inl (cL, 5, .inr (.inl (fun zz => lN (lv zz))))), (v5, .inl (cI, 5, .inl (fun zz => nI (wt zz))))] [(cL, .long), (cI, .int)]) (va_Qv (fun u : Nat → Nat => (∀ k, (∀ a' b', a' ≤ 5 → b' ≤ 5 → k ≠ pB i j a' b') → u k = bf k) ∧ (∀ a' b', a' ≤ 5 → b' ≤ 5 → u (pB i j a' b') = sbF lv af ch1 ch2 i j a' b')) (fun u : Nat → Nat => kB (dC, dI) [(cL, .long), (cI, .int)] (va_A [(h0, .inr (4, [.int (nI wr), .ref v1, .ref v2, .ref v3, .ref v4, .ref v5, .int (nI sv), .int (nI n), .long (lN co), .int (nI ch1), .int (nI ch2)])), (v1, .inl (cL, 1152, .inr (.inl (fun zz => lN (bf zz))))), (v2, .inl (cL, 192, .inr (.inl (fun zz => lN (af zz))))), (v3, .inl (cL, 32, .inr (.inl fl))), (v4, .inl (cL, 5, .inr (.inl (fun zz => lN (lv zz))))), (v5, .inl (cI, 5, .inl (fun zz => nI (wt zz))))] sz) ([(h0, .inr (4, [.int (nI wr), .ref v1, .ref v2, .ref v3, .ref v4, .ref v5, .int (nI sv), .int (nI n), .long (lN co), .int (nI ch1), .int (nI ch2)])), (v1, .inl (cL, 1152, .inr (.inl (fun zz => lN (u zz))))), (v2, .inl (cL, 192, .inr (.inl (fun zz => lN (af zz))))), (v3, .inl (cL, 32, .inr (.inl fl))), (v4, .inl (cL, 5, .inr (.inl (fun zz => lN (lv zz))))), (v5, .inl (cI, 5, .inl (fun zz => nI (wt zz))))])) (va_A [(h0, .inr (4, [.int (nI wr), .ref v1, .ref v2, .ref v3, .ref v4, .ref v5, .int (nI sv), .int (nI n), .long (lN co), .int (nI ch1), .int (nI ch2)])), (v1, .inl (cL, 1152, .inr (.inl (fun zz => lN (bf zz))))), (v2, .inl (cL, 192, .inr (.inl (fun zz => lN (af zz))))), (v3, .inl (cL, 32, .inr (.inl fl))), (v4, .inl (cL, 5, .inr (.inl (fun zz => lN (lv zz))))), (v5, .inl (cI, 5, .inl (fun zz => nI (wt zz))))] sz)) 0 0 (va_A [(h0, .inr (4, [.int (nI wr), .ref v1, .ref v2, .ref v3, .ref v4, .ref v5, .int (nI sv), .int (nI n), .long (lN co), .int (nI ch1), .int (nI ch2)])), (v1, .inl (cL, 1152, .inr (.inl (fun zz => lN (bf zz))))), (v2, .inl (cL, 192, .inr (.inl (fun zz => lN (af zz))))), (v3, .inl (cL, 32, .inr (.inl fl))), (v4, .inl (cL, 5, .inr (.inl (fun zz => lN (lv zz))))), (v5, .inl (cI, 5, .inl (fun zz => nI (wt zz))))] sz) := by
  refine kmet (by decide) ?_
  intro p e s m args below meth c Y hr hlocks hin hv
  obtain ⟨rfl, A, hAe, hsz, hP, hK, hD, hZ, hA⟩ := kinQ hv
  rw [hAe]
  have hS : va_S A s.heap s.heap [] := va_S.rf
  have hx := Y.1
  have hb := Y.2.1
  have hml := Y.2.2.1
  have hown := Y.2.2.2.1
  have hts := Y.2.2.2.2
  have hl := lv_entry ([.ref h0, .int (nI i), .int (nI j)]) (n := 7) (Nat.le_of_ble_eq_true rfl)
  rw [lg_entry_eq]
  generalize (lg_sl ([.ref h0, .int (nI i), .int (nI j)]) ++ List.replicate (7 - (lg_sl ([.ref h0, .int (nI i), .int (nI j)])).length) Slot.unset).toArray = ls at hl ⊢
  have hl : lv_has ls 7 [(0, .ref h0), (1, .int (nI i)), (2, .int (nI j))] := hl
  refine lv_iconst (v := nI 0) hx hb dX4_solveBefores_0 (by decide) ?_
  refine lv_istore_n (lv' := [(3, .int (nI 0)), (0, .ref h0), (1, .int (nI i)), (2, .int (nI j))]) hx hb dX4_solveBefores_1 rfl hl (by decide) rfl (fun ls hl => ?_)
  refine wl2 (fun (a : Nat) (bf1 : Nat → Nat) => 6 - a) (fun (a : Nat) (bf1 : Nat → Nat) (ls : Array Slot) (H : Heap) (locs : List Loc) => lv_has ls 7 [(0, .ref h0), (1, .int (nI i)), (2, .int (nI j)), (3, .int (nI a))] ∧ va_P (dC, dI) vwCl [(h0, .inr (4, [.int (nI wr), .ref v1, .ref v2, .ref v3, .ref v4, .ref v5, .int (nI sv), .int (nI n), .long (lN co), .int (nI ch1), .int (nI ch2)])), (v1, .inl (cL, 1152, .inr (.inl (fun zz => lN (bf1 zz))))), (v2, .inl (cL, 192, .inr (.inl (fun zz => lN (af zz))))), (v3, .inl (cL, 32, .inr (.inl fl))), (v4, .inl (cL, 5, .inr (.inl (fun zz => lN (lv zz))))), (v5, .inl (cI, 5, .inl (fun zz => nI (wt zz))))] H ∧ va_D A [(h0, .inr (4, [.int (nI wr), .ref v1, .ref v2, .ref v3, .ref v4, .ref v5, .int (nI sv), .int (nI n), .long (lN co), .int (nI ch1), .int (nI ch2)])), (v1, .inl (cL, 1152, .inr (.inl (fun zz => lN (bf1 zz))))), (v2, .inl (cL, 192, .inr (.inl (fun zz => lN (af zz))))), (v3, .inl (cL, 32, .inr (.inl fl))), (v4, .inl (cL, 5, .inr (.inl (fun zz => lN (lv zz))))), (v5, .inl (cI, 5, .inl (fun zz => nI (wt zz))))] ∧ va_S A s.heap H locs ∧ (a ≤ 6 ∧ (∀ k, (∀ a' b', a' ≤ 5 → b' ≤ 5 → k ≠ pB i j a' b') → bf1 k = bf k) ∧ (∀ a' b', b' ≤ 5 → (a' < a ∨ (a' = a ∧ b' < 0)) → bf1 (pB i j a' b') = sbF lv af ch1 ch2 i j a' b'))) 0 bf (by exact ⟨lv_sub hl [1, 2, 3, 0] rfl, hP.sub [0, 1, 2, 3, 4, 5] rfl, hD.sub [0, 1, 2, 3, 4, 5] (by decide) rfl, hS, by omega, fun k _ => rfl, fun x y h1 h2 => by omega⟩) (fun a bf1 ls H locs hI ih => ?_)
  obtain ⟨hl, hP, hD, hS, ha, hoth, hput⟩ := hI
  have ih2 := ih
  refine lv_iload_n hx hb dX4_solveBefores_2 rfl (lv_at hl 3 rfl) ?_
  refine lv_bipush (v := nI 6) hx hb dX4_solveBefores_3 (by decide) ?_
  refine ri_cge (tgt := 107) hx hb dX4_solveBefores_5 (by decide) (by omega) (by omega) (fun c5 => ?_) (fun c5 => ?_)
  · exact kqv (w1 := (fun u : Nat → Nat => [(h0, .inr (4, [.int (nI wr), .ref v1, .ref v2, .ref v3, .ref v4, .ref v5, .int (nI sv), .int (nI n), .long (lN co), .int (nI ch1), .int (nI ch2)])), (v1, .inl (cL, 1152, .inr (.inl (fun zz => lN (u zz))))), (v2, .inl (cL, 192, .inr (.inl (fun zz => lN (af zz))))), (v3, .inl (cL, 32, .inr (.inl fl))), (v4, .inl (cL, 5, .inr (.inl (fun zz => lN (lv zz))))), (v5, .inl (cI, 5, .inl (fun zz => nI (wt zz))))])) Y hr hlocks hK hP hD hS [0, 1, 2, 3, 4, 5] (by decide) (bf1) rfl ⟨hoth, fun x y hx5 hy5 => hput x y hy5 (by omega)⟩ dX4_solveBefores_107
  · refine lv_iconst (v := nI 0) hx hb dX4_solveBefores_8 (by decide) ?_
    refine lv_istore (lv' := [(4, .int (nI 0)), (0, .ref h0), (1, .int (nI i)), (2, .int (nI j)), (3, .int (nI a))]) hx hb dX4_solveBefores_9 hl (by decide) rfl (fun ls hl => ?_)
    refine wl2 (fun (b : Nat) (bf3 : Nat → Nat) => 6 - b) (fun (b : Nat) (bf3 : Nat → Nat) (ls : Array Slot) (H : Heap) (locs : List Loc) => lv_has ls 7 [(0, .ref h0), (1, .int (nI i)), (2, .int (nI j)), (3, .int (nI a)), (4, .int (nI b))] ∧ va_P (dC, dI) vwCl [(h0, .inr (4, [.int (nI wr), .ref v1, .ref v2, .ref v3, .ref v4, .ref v5, .int (nI sv), .int (nI n), .long (lN co), .int (nI ch1), .int (nI ch2)])), (v1, .inl (cL, 1152, .inr (.inl (fun zz => lN (bf3 zz))))), (v2, .inl (cL, 192, .inr (.inl (fun zz => lN (af zz))))), (v3, .inl (cL, 32, .inr (.inl fl))), (v4, .inl (cL, 5, .inr (.inl (fun zz => lN (lv zz))))), (v5, .inl (cI, 5, .inl (fun zz => nI (wt zz))))] H ∧ va_D A [(h0, .inr (4, [.int (nI wr), .ref v1, .ref v2, .ref v3, .ref v4, .ref v5, .int (nI sv), .int (nI n), .long (lN co), .int (nI ch1), .int (nI ch2)])), (v1, .inl (cL, 1152, .inr (.inl (fun zz => lN (bf3 zz))))), (v2, .inl (cL, 192, .inr (.inl (fun zz => lN (af zz))))), (v3, .inl (cL, 32, .inr (.inl fl))), (v4, .inl (cL, 5, .inr (.inl (fun zz => lN (lv zz))))), (v5, .inl (cI, 5, .inl (fun zz => nI (wt zz))))] ∧ va_S A s.heap H locs ∧ (b ≤ 6 ∧ (∀ k, (∀ a' b', a' ≤ 5 → b' ≤ 5 → k ≠ pB i j a' b') → bf3 k = bf k) ∧ (∀ a' b', b' ≤ 5 → (a' < a ∨ (a' = a ∧ b' < b)) → bf3 (pB i j a' b') = sbF lv af ch1 ch2 i j a' b'))) 0 bf1 (by exact ⟨lv_sub hl [1, 2, 3, 4, 0] rfl, hP.sub [0, 1, 2, 3, 4, 5] rfl, hD.sub [0, 1, 2, 3, 4, 5] (by decide) rfl, hS, by omega, hoth, hput⟩) (fun b bf3 ls H locs hI ih => ?_)
    obtain ⟨hl, hP, hD, hS, hb6, hoth1, hput1⟩ := hI
    have ih11 := ih
    refine lv_iload hx hb dX4_solveBefores_11 (lv_at hl 4 rfl) ?_
    refine lv_bipush (v := nI 6) hx hb dX4_solveBefores_13 (by decide) ?_
    refine ri_cge (tgt := 101) hx hb dX4_solveBefores_15 (by decide) (by omega) (by omega) (fun c15 => ?_) (fun c15 => ?_)
    · refine lv_iinc (v := nI (a + 1)) (lv' := [(3, .int (nI (a + 1))), (0, .ref h0), (1, .int (nI i)), (2, .int (nI j)), (4, .int (nI b))]) hx hb dX4_solveBefores_101 hl (k := 3) rfl (inc1 _) (by decide) rfl (fun ls hl => ?_)
      refine lv_goto (tgt := 2) hx hb dX4_solveBefores_104 (by decide) ?_
      exact ih2 (a + 1) bf3 _ _ _ (by show _ < _; omega) (by exact ⟨lv_sub hl [1, 2, 3, 0] rfl, hP.sub [0, 1, 2, 3, 4, 5] rfl, hD.sub [0, 1, 2, 3, 4, 5] (by decide) rfl, hS, by omega, hoth1, fun x y z1 z2 => hput1 x y z1 (by omega)⟩)
    · refine lv_aload_n hx hb dX4_solveBefores_18 rfl (lv_at hl 0 rfl) ?_
      refine va_get (D := (dC, dI)) (ci := 4) (v := .ref v2) (C := RX4) (T := TX4) (N := 11) hx hb hts inlX4 hown hK hP 0 rfl rfl 2 (by decide) (hts _ qf_X4_19) (fun _ h9 => h9) rfl dX4_solveBefores_19 ?_
      refine lv_iload_n hx hb dX4_solveBefores_22 rfl (lv_at hl 1 rfl) ?_
      refine lv_iload_n hx hb dX4_solveBefores_23 rfl (lv_at hl 2 rfl) ?_
      refine lv_iload_n hx hb dX4_solveBefores_24 rfl (lv_at hl 3 rfl) ?_
      refine kSi (As := [.int (nI i), .int (nI j), .int (nI a)]) (rest := [.ref v2]) Y m_X4_placeAfter (c_X4_placeAfter l dC dI i j a (by omega)) qm_X4_36 (kpS hK hP hZ hS [] [] rfl rfl) rfl hl.1 rfl (Nat.le_of_ble_eq_true rfl) dX4_solveBefores_25 ⟨Nat.le_of_ble_eq_true rfl, Nat.le_of_ble_eq_true rfl⟩ ⟨Nat.zero_le _, Nat.zero_le _⟩ (fun r25 hr25 => ?_)
      obtain rfl : r25 = nI (pA i j a) := hr25
      refine rm_ald hx hb hK hP 2 0 (F := af) rfl rfl dX4_solveBefores_28 (by decide) (pA_lt (by omega) (by omega) (by omega)) ?_
      refine lv_lstore (lv' := [(5, .long (lN (af (pA i j a)))), (0, .ref h0), (1, .int (nI i)), (2, .int (nI j)), (3, .int (nI a)), (4, .int (nI b))]) hx hb dX4_solveBefores_29 hl (by decide) rfl (fun ls hl => ?_)
      have haf := hVa (pA i j a)
      refine lv_iload_n hx hb dX4_solveBefores_31 rfl (lv_at hl 3 rfl) ?_
      refine ri_zle (tgt := 54) hx hb dX4_solveBefores_32 (by decide) (by omega) (fun c32 => ?_) (fun c32 => ?_)
      · refine lv_iload_n hx hb dX4_solveBefores_54 rfl (lv_at hl 3 rfl) ?_
        refine ri_zle (tgt := 80) hx hb dX4_solveBefores_55 (by decide) (by omega) (fun c55 => ?_) (fun c55 => ?_)
        · refine lv_aload_n hx hb dX4_solveBefores_80 rfl (lv_at hl 1 rfl) ?_
          refine va_get (D := (dC, dI)) (ci := 4) (v := .ref v1) (C := RX4) (T := TX4) (N := 11) hx hb hts inlX4 hown hK hP 0 rfl rfl 1 (by decide) (hts _ qf_X4_15) (fun _ h9 => h9) rfl dX4_solveBefores_81 ?_
          refine lv_iload_n hx hb dX4_solveBefores_84 rfl (lv_at hl 2 rfl) ?_
          refine lv_iload_n hx hb dX4_solveBefores_85 rfl (lv_at hl 3 rfl) ?_
          refine lv_iload_n hx hb dX4_solveBefores_86 rfl (lv_at hl 4 rfl) ?_
          refine lv_iload hx hb dX4_solveBefores_87 (lv_at hl 5 rfl) ?_
          refine kSi (As := [.int (nI i), .int (nI j), .int (nI a), .int (nI b)]) (rest := [.ref v1]) Y m_X4_placeBefore (c_X4_placeBefore l dC dI i j a b (by omega)) qm_X4_32 (kpS hK hP hZ hS [] [] rfl rfl) rfl hl.1 rfl (Nat.le_of_ble_eq_true rfl) dX4_solveBefores_89 ⟨Nat.le_of_ble_eq_true rfl, Nat.le_of_ble_eq_true rfl⟩ ⟨Nat.zero_le _, Nat.zero_le _⟩ (fun r89 hr89 => ?_)
          obtain rfl : r89 = nI (pB i j a b) := hr89
          refine lv_lload hx hb dX4_solveBefores_92 (lv_at hl 0 rfl) ?_
          refine rm_ast hx hb hK hP hD hS 1 0 (F := bf3) rfl rfl dX4_solveBefores_94 (by decide) (pB_lt (by omega) (by omega) (by omega) (by omega)) (fun H locs hP hD hS => ?_)
          have hP : va_P (dC, dI) vwCl [(h0, .inr (4, [.int (nI wr), .ref v1, .ref v2, .ref v3, .ref v4, .ref v5, .int (nI sv), .int (nI n), .long (lN co), .int (nI ch1), .int (nI ch2)])), (v1, .inl (cL, 1152, .inr (.inl (fun zz => lN (updN bf3 (pB i j a b) (af (pA i j a)) zz))))), (v2, .inl (cL, 192, .inr (.inl (fun zz => lN (af zz))))), (v3, .inl (cL, 32, .inr (.inl fl))), (v4, .inl (cL, 5, .inr (.inl (fun zz => lN (lv zz))))), (v5, .inl (cI, 5, .inl (fun zz => nI (wt zz))))] H := hP
          have hD : va_D A [(h0, .inr (4, [.int (nI wr), .ref v1, .ref v2, .ref v3, .ref v4, .ref v5, .int (nI sv), .int (nI n), .long (lN co), .int (nI ch1), .int (nI ch2)])), (v1, .inl (cL, 1152, .inr (.inl (fun zz => lN (updN bf3 (pB i j a b) (af (pA i j a)) zz))))), (v2, .inl (cL, 192, .inr (.inl (fun zz => lN (af zz))))), (v3, .inl (cL, 32, .inr (.inl fl))), (v4, .inl (cL, 5, .inr (.inl (fun zz => lN (lv zz))))), (v5, .inl (cI, 5, .inl (fun zz => nI (wt zz))))] := hD
          refine lv_iinc (v := nI (b + 1)) (lv' := [(4, .int (nI (b + 1))), (5, .long (lN (af (pA i j a)))), (0, .ref h0), (1, .int (nI i)), (2, .int (nI j)), (3, .int (nI a))]) hx hb dX4_solveBefores_95 hl (k := 5) rfl (inc1 _) (by decide) rfl (fun ls hl => ?_)
          refine lv_goto (tgt := 11) hx hb dX4_solveBefores_98 (by decide) ?_
          exact ih11 (b + 1) (updN bf3 (pB i j a b) (af (pA i j a))) _ _ _ (by show _ < _; omega) (by exact ⟨lv_sub hl [2, 3, 4, 5, 0] rfl, hP.sub [0, 1, 2, 3, 4, 5] rfl, hD.sub [0, 1, 2, 3, 4, 5] (by decide) rfl, hS, by omega, sb_oth (by omega) (by omega) hoth1, sb_put (by omega) hput1 (sb_00 (by omega) (by omega))⟩)
        · refine lv_iload hx hb dX4_solveBefores_58 (lv_at hl 5 rfl) ?_
          refine lv_iconst (v := nI 5) hx hb dX4_solveBefores_60 (by decide) ?_
          refine ri_ceq (tgt := 80) hx hb dX4_solveBefores_61 (by decide) (by omega) (by omega) (fun c61 => ?_) (fun c61 => ?_)
          · refine lv_aload_n hx hb dX4_solveBefores_80 rfl (lv_at hl 1 rfl) ?_
            refine va_get (D := (dC, dI)) (ci := 4) (v := .ref v1) (C := RX4) (T := TX4) (N := 11) hx hb hts inlX4 hown hK hP 0 rfl rfl 1 (by decide) (hts _ qf_X4_15) (fun _ h9 => h9) rfl dX4_solveBefores_81 ?_
            refine lv_iload_n hx hb dX4_solveBefores_84 rfl (lv_at hl 2 rfl) ?_
            refine lv_iload_n hx hb dX4_solveBefores_85 rfl (lv_at hl 3 rfl) ?_
            refine lv_iload_n hx hb dX4_solveBefores_86 rfl (lv_at hl 4 rfl) ?_
            refine lv_iload hx hb dX4_solveBefores_87 (lv_at hl 5 rfl) ?_
            refine kSi (As := [.int (nI i), .int (nI j), .int (nI a), .int (nI b)]) (rest := [.ref v1]) Y m_X4_placeBefore (c_X4_placeBefore l dC dI i j a b (by omega)) qm_X4_32 (kpS hK hP hZ hS [] [] rfl rfl) rfl hl.1 rfl (Nat.le_of_ble_eq_true rfl) dX4_solveBefores_89 ⟨Nat.le_of_ble_eq_true rfl, Nat.le_of_ble_eq_true rfl⟩ ⟨Nat.zero_le _, Nat.zero_le _⟩ (fun r89 hr89 => ?_)
            obtain rfl : r89 = nI (pB i j a b) := hr89
            refine lv_lload hx hb dX4_solveBefores_92 (lv_at hl 0 rfl) ?_
            refine rm_ast hx hb hK hP hD hS 1 0 (F := bf3) rfl rfl dX4_solveBefores_94 (by decide) (pB_lt (by omega) (by omega) (by omega) (by omega)) (fun H locs hP hD hS => ?_)
            have hP : va_P (dC, dI) vwCl [(h0, .inr (4, [.int (nI wr), .ref v1, .ref v2, .ref v3, .ref v4, .ref v5, .int (nI sv), .int (nI n), .long (lN co), .int (nI ch1), .int (nI ch2)])), (v1, .inl (cL, 1152, .inr (.inl (fun zz => lN (updN bf3 (pB i j a b) (af (pA i j a)) zz))))), (v2, .inl (cL, 192, .inr (.inl (fun zz => lN (af zz))))), (v3, .inl (cL, 32, .inr (.inl fl))), (v4, .inl (cL, 5, .inr (.inl (fun zz => lN (lv zz))))), (v5, .inl (cI, 5, .inl (fun zz => nI (wt zz))))] H := hP
            have hD : va_D A [(h0, .inr (4, [.int (nI wr), .ref v1, .ref v2, .ref v3, .ref v4, .ref v5, .int (nI sv), .int (nI n), .long (lN co), .int (nI ch1), .int (nI ch2)])), (v1, .inl (cL, 1152, .inr (.inl (fun zz => lN (updN bf3 (pB i j a b) (af (pA i j a)) zz))))), (v2, .inl (cL, 192, .inr (.inl (fun zz => lN (af zz))))), (v3, .inl (cL, 32, .inr (.inl fl))), (v4, .inl (cL, 5, .inr (.inl (fun zz => lN (lv zz))))), (v5, .inl (cI, 5, .inl (fun zz => nI (wt zz))))] := hD
            refine lv_iinc (v := nI (b + 1)) (lv' := [(4, .int (nI (b + 1))), (5, .long (lN (af (pA i j a)))), (0, .ref h0), (1, .int (nI i)), (2, .int (nI j)), (3, .int (nI a))]) hx hb dX4_solveBefores_95 hl (k := 5) rfl (inc1 _) (by decide) rfl (fun ls hl => ?_)
            refine lv_goto (tgt := 11) hx hb dX4_solveBefores_98 (by decide) ?_
            exact ih11 (b + 1) (updN bf3 (pB i j a b) (af (pA i j a))) _ _ _ (by show _ < _; omega) (by exact ⟨lv_sub hl [2, 3, 4, 5, 0] rfl, hP.sub [0, 1, 2, 3, 4, 5] rfl, hD.sub [0, 1, 2, 3, 4, 5] (by decide) rfl, hS, by omega, sb_oth (by omega) (by omega) hoth1, sb_put (by omega) hput1 (sb_00 (by omega) (by omega))⟩)
          · refine lv_lload hx hb dX4_solveBefores_64 (lv_at hl 0 rfl) ?_
            refine lv_aload_n hx hb dX4_solveBefores_66 rfl (lv_at hl 1 rfl) ?_
            refine lv_iload_n hx hb dX4_solveBefores_67 rfl (lv_at hl 2 rfl) ?_
            refine lv_iload_n hx hb dX4_solveBefores_68 rfl (lv_at hl 3 rfl) ?_
            refine lv_iload_n hx hb dX4_solveBefores_69 rfl (lv_at hl 4 rfl) ?_
            refine lv_iload hx hb dX4_solveBefores_70 (lv_at hl 5 rfl) ?_
            refine kVl (As := [.int (nI i), .int (nI j), .int (nI a), .int (nI b)]) (rest := [.long (lN (af (pA i j a)))]) Y m_X4_recallOfAge2 (c_X4_recallOfAge2 l dC dI cL cI h0 v1 v2 v3 v4 v5 wr sv n co ch1 ch2 bf3 af lv wt fl i j a b (by omega) (by omega) (by omega) (by omega) (by omega) (by omega) hVl hVa hVc2) qm_X4_47 (kpV (ci := 4) hK hP hZ hS [0, 1, 2, 3, 4, 5] [0, 1] rfl rfl 0 rfl rfl rfl) rfl hl.1 rfl (Nat.le_of_ble_eq_true rfl) dX4_solveBefores_72 ⟨Nat.le_of_ble_eq_true rfl, Nat.le_of_ble_eq_true rfl⟩ ⟨Nat.zero_le _, Nat.zero_le _⟩ (fun r72 hr72 => ?_)
            obtain rfl : r72 = lN (r2F lv af ch2 i j a b) := hr72
            have hr2 := (r2_b (i := i) (j := j) (a := a) (hVl b (by omega)) hVa hVc2).2
            refine va_mmax_long hx hb (by rw [hml]; exact hl.1.symm) hown (hts _ qm_X4_91) (hts _ qt_Lib_MathLoose_max_long_x) (hts _ qz_java_lang_Math) (hts _ qc_Lib_MathLoose_max_long_x) (Nat.le_of_ble_eq_true rfl) (Nat.le_of_ble_eq_true rfl) (Nat.zero_le _) (Nat.zero_le _) dX4_solveBefores_75 ?_
            refine rl_topn (n := max (af (pA i j a)) (r2F lv af ch2 i j a b)) (lmax_n (by omega) (by omega)) ?_
            refine lv_lstore (lv' := [(5, .long (lN (max (af (pA i j a)) (r2F lv af ch2 i j a b)))), (0, .ref h0), (1, .int (nI i)), (2, .int (nI j)), (3, .int (nI a)), (4, .int (nI b))]) hx hb dX4_solveBefores_78 hl (by decide) rfl (fun ls hl => ?_)
            refine lv_aload_n hx hb dX4_solveBefores_80 rfl (lv_at hl 1 rfl) ?_
            refine va_get (D := (dC, dI)) (ci := 4) (v := .ref v1) (C := RX4) (T := TX4) (N := 11) hx hb hts inlX4 hown hK hP 0 rfl rfl 1 (by decide) (hts _ qf_X4_15) (fun _ h9 => h9) rfl dX4_solveBefores_81 ?_
            refine lv_iload_n hx hb dX4_solveBefores_84 rfl (lv_at hl 2 rfl) ?_
            refine lv_iload_n hx hb dX4_solveBefores_85 rfl (lv_at hl 3 rfl) ?_
            refine lv_iload_n hx hb dX4_solveBefores_86 rfl (lv_at hl 4 rfl) ?_
            refine lv_iload hx hb dX4_solveBefores_87 (lv_at hl 5 rfl) ?_
            refine kSi (As := [.int (nI i), .int (nI j), .int (nI a), .int (nI b)]) (rest := [.ref v1]) Y m_X4_placeBefore (c_X4_placeBefore l dC dI i j a b (by omega)) qm_X4_32 (kpS hK hP hZ hS [] [] rfl rfl) rfl hl.1 rfl (Nat.le_of_ble_eq_true rfl) dX4_solveBefores_89 ⟨Nat.le_of_ble_eq_true rfl, Nat.le_of_ble_eq_true rfl⟩ ⟨Nat.zero_le _, Nat.zero_le _⟩ (fun r89 hr89 => ?_)
            obtain rfl : r89 = nI (pB i j a b) := hr89
            refine lv_lload hx hb dX4_solveBefores_92 (lv_at hl 0 rfl) ?_
            refine rm_ast hx hb hK hP hD hS 1 0 (F := bf3) rfl rfl dX4_solveBefores_94 (by decide) (pB_lt (by omega) (by omega) (by omega) (by omega)) (fun H locs hP hD hS => ?_)
            have hP : va_P (dC, dI) vwCl [(h0, .inr (4, [.int (nI wr), .ref v1, .ref v2, .ref v3, .ref v4, .ref v5, .int (nI sv), .int (nI n), .long (lN co), .int (nI ch1), .int (nI ch2)])), (v1, .inl (cL, 1152, .inr (.inl (fun zz => lN (updN bf3 (pB i j a b) (max (af (pA i j a)) (r2F lv af ch2 i j a b)) zz))))), (v2, .inl (cL, 192, .inr (.inl (fun zz => lN (af zz))))), (v3, .inl (cL, 32, .inr (.inl fl))), (v4, .inl (cL, 5, .inr (.inl (fun zz => lN (lv zz))))), (v5, .inl (cI, 5, .inl (fun zz => nI (wt zz))))] H := hP
            have hD : va_D A [(h0, .inr (4, [.int (nI wr), .ref v1, .ref v2, .ref v3, .ref v4, .ref v5, .int (nI sv), .int (nI n), .long (lN co), .int (nI ch1), .int (nI ch2)])), (v1, .inl (cL, 1152, .inr (.inl (fun zz => lN (updN bf3 (pB i j a b) (max (af (pA i j a)) (r2F lv af ch2 i j a b)) zz))))), (v2, .inl (cL, 192, .inr (.inl (fun zz => lN (af zz))))), (v3, .inl (cL, 32, .inr (.inl fl))), (v4, .inl (cL, 5, .inr (.inl (fun zz => lN (lv zz))))), (v5, .inl (cI, 5, .inl (fun zz => nI (wt zz))))] := hD
            refine lv_iinc (v := nI (b + 1)) (lv' := [(4, .int (nI (b + 1))), (5, .long (lN (max (af (pA i j a)) (r2F lv af ch2 i j a b)))), (0, .ref h0), (1, .int (nI i)), (2, .int (nI j)), (3, .int (nI a))]) hx hb dX4_solveBefores_95 hl (k := 5) rfl (inc1 _) (by decide) rfl (fun ls hl => ?_)
            refine lv_goto (tgt := 11) hx hb dX4_solveBefores_98 (by decide) ?_
            exact ih11 (b + 1) (updN bf3 (pB i j a b) (max (af (pA i j a)) (r2F lv af ch2 i j a b))) _ _ _ (by show _ < _; omega) (by exact ⟨lv_sub hl [2, 3, 4, 5, 0] rfl, hP.sub [0, 1, 2, 3, 4, 5] rfl, hD.sub [0, 1, 2, 3, 4, 5] (by decide) rfl, hS, by omega, sb_oth (by omega) (by omega) hoth1, sb_put (by omega) hput1 (sb_01 (by omega) ⟨by omega, by omega⟩)⟩)
      · refine lv_iload_n hx hb dX4_solveBefores_35 rfl (lv_at hl 4 rfl) ?_
        refine lv_iconst (v := nI 5) hx hb dX4_solveBefores_36 (by decide) ?_
        refine ri_ceq (tgt := 54) hx hb dX4_solveBefores_37 (by decide) (by omega) (by omega) (fun c37 => ?_) (fun c37 => ?_)
        · refine lv_iload_n hx hb dX4_solveBefores_54 rfl (lv_at hl 3 rfl) ?_
          refine ri_zle (tgt := 80) hx hb dX4_solveBefores_55 (by decide) (by omega) (fun c55 => ?_) (fun c55 => ?_)
          · refine lv_aload_n hx hb dX4_solveBefores_80 rfl (lv_at hl 1 rfl) ?_
            refine va_get (D := (dC, dI)) (ci := 4) (v := .ref v1) (C := RX4) (T := TX4) (N := 11) hx hb hts inlX4 hown hK hP 0 rfl rfl 1 (by decide) (hts _ qf_X4_15) (fun _ h9 => h9) rfl dX4_solveBefores_81 ?_
            refine lv_iload_n hx hb dX4_solveBefores_84 rfl (lv_at hl 2 rfl) ?_
            refine lv_iload_n hx hb dX4_solveBefores_85 rfl (lv_at hl 3 rfl) ?_
            refine lv_iload_n hx hb dX4_solveBefores_86 rfl (lv_at hl 4 rfl) ?_
            refine lv_iload hx hb dX4_solveBefores_87 (lv_at hl 5 rfl) ?_
            refine kSi (As := [.int (nI i), .int (nI j), .int (nI a), .int (nI b)]) (rest := [.ref v1]) Y m_X4_placeBefore (c_X4_placeBefore l dC dI i j a b (by omega)) qm_X4_32 (kpS hK hP hZ hS [] [] rfl rfl) rfl hl.1 rfl (Nat.le_of_ble_eq_true rfl) dX4_solveBefores_89 ⟨Nat.le_of_ble_eq_true rfl, Nat.le_of_ble_eq_true rfl⟩ ⟨Nat.zero_le _, Nat.zero_le _⟩ (fun r89 hr89 => ?_)
            obtain rfl : r89 = nI (pB i j a b) := hr89
            refine lv_lload hx hb dX4_solveBefores_92 (lv_at hl 0 rfl) ?_
            refine rm_ast hx hb hK hP hD hS 1 0 (F := bf3) rfl rfl dX4_solveBefores_94 (by decide) (pB_lt (by omega) (by omega) (by omega) (by omega)) (fun H locs hP hD hS => ?_)
            have hP : va_P (dC, dI) vwCl [(h0, .inr (4, [.int (nI wr), .ref v1, .ref v2, .ref v3, .ref v4, .ref v5, .int (nI sv), .int (nI n), .long (lN co), .int (nI ch1), .int (nI ch2)])), (v1, .inl (cL, 1152, .inr (.inl (fun zz => lN (updN bf3 (pB i j a b) (af (pA i j a)) zz))))), (v2, .inl (cL, 192, .inr (.inl (fun zz => lN (af zz))))), (v3, .inl (cL, 32, .inr (.inl fl))), (v4, .inl (cL, 5, .inr (.inl (fun zz => lN (lv zz))))), (v5, .inl (cI, 5, .inl (fun zz => nI (wt zz))))] H := hP
            have hD : va_D A [(h0, .inr (4, [.int (nI wr), .ref v1, .ref v2, .ref v3, .ref v4, .ref v5, .int (nI sv), .int (nI n), .long (lN co), .int (nI ch1), .int (nI ch2)])), (v1, .inl (cL, 1152, .inr (.inl (fun zz => lN (updN bf3 (pB i j a b) (af (pA i j a)) zz))))), (v2, .inl (cL, 192, .inr (.inl (fun zz => lN (af zz))))), (v3, .inl (cL, 32, .inr (.inl fl))), (v4, .inl (cL, 5, .inr (.inl (fun zz => lN (lv zz))))), (v5, .inl (cI, 5, .inl (fun zz => nI (wt zz))))] := hD
            refine lv_iinc (v := nI (b + 1)) (lv' := [(4, .int (nI (b + 1))), (5, .long (lN (af (pA i j a)))), (0, .ref h0), (1, .int (nI i)), (2, .int (nI j)), (3, .int (nI a))]) hx hb dX4_solveBefores_95 hl (k := 5) rfl (inc1 _) (by decide) rfl (fun ls hl => ?_)
            refine lv_goto (tgt := 11) hx hb dX4_solveBefores_98 (by decide) ?_
            exact ih11 (b + 1) (updN bf3 (pB i j a b) (af (pA i j a))) _ _ _ (by show _ < _; omega) (by exact ⟨lv_sub hl [2, 3, 4, 5, 0] rfl, hP.sub [0, 1, 2, 3, 4, 5] rfl, hD.sub [0, 1, 2, 3, 4, 5] (by decide) rfl, hS, by omega, sb_oth (by omega) (by omega) hoth1, sb_put (by omega) hput1 (sb_00 (by omega) (by omega))⟩)
          · refine lv_iload hx hb dX4_solveBefores_58 (lv_at hl 5 rfl) ?_
            refine lv_iconst (v := nI 5) hx hb dX4_solveBefores_60 (by decide) ?_
            refine ri_ceq (tgt := 80) hx hb dX4_solveBefores_61 (by decide) (by omega) (by omega) (fun c61 => ?_) (fun c61 => ?_)
            · refine lv_aload_n hx hb dX4_solveBefores_80 rfl (lv_at hl 1 rfl) ?_
              refine va_get (D := (dC, dI)) (ci := 4) (v := .ref v1) (C := RX4) (T := TX4) (N := 11) hx hb hts inlX4 hown hK hP 0 rfl rfl 1 (by decide) (hts _ qf_X4_15) (fun _ h9 => h9) rfl dX4_solveBefores_81 ?_
              refine lv_iload_n hx hb dX4_solveBefores_84 rfl (lv_at hl 2 rfl) ?_
              refine lv_iload_n hx hb dX4_solveBefores_85 rfl (lv_at hl 3 rfl) ?_
              refine lv_iload_n hx hb dX4_solveBefores_86 rfl (lv_at hl 4 rfl) ?_
              refine lv_iload hx hb dX4_solveBefores_87 (lv_at hl 5 rfl) ?_
              refine kSi (As := [.int (nI i), .int (nI j), .int (nI a), .int (nI b)]) (rest := [.ref v1]) Y m_X4_placeBefore (c_X4_placeBefore l dC dI i j a b (by omega)) qm_X4_32 (kpS hK hP hZ hS [] [] rfl rfl) rfl hl.1 rfl (Nat.le_of_ble_eq_true rfl) dX4_solveBefores_89 ⟨Nat.le_of_ble_eq_true rfl, Nat.le_of_ble_eq_true rfl⟩ ⟨Nat.zero_le _, Nat.zero_le _⟩ (fun r89 hr89 => ?_)
              obtain rfl : r89 = nI (pB i j a b) := hr89
              refine lv_lload hx hb dX4_solveBefores_92 (lv_at hl 0 rfl) ?_
              refine rm_ast hx hb hK hP hD hS 1 0 (F := bf3) rfl rfl dX4_solveBefores_94 (by decide) (pB_lt (by omega) (by omega) (by omega) (by omega)) (fun H locs hP hD hS => ?_)
              have hP : va_P (dC, dI) vwCl [(h0, .inr (4, [.int (nI wr), .ref v1, .ref v2, .ref v3, .ref v4, .ref v5, .int (nI sv), .int (nI n), .long (lN co), .int (nI ch1), .int (nI ch2)])), (v1, .inl (cL, 1152, .inr (.inl (fun zz => lN (updN bf3 (pB i j a b) (af (pA i j a)) zz))))), (v2, .inl (cL, 192, .inr (.inl (fun zz => lN (af zz))))), (v3, .inl (cL, 32, .inr (.inl fl))), (v4, .inl (cL, 5, .inr (.inl (fun zz => lN (lv zz))))), (v5, .inl (cI, 5, .inl (fun zz => nI (wt zz))))] H := hP
              have hD : va_D A [(h0, .inr (4, [.int (nI wr), .ref v1, .ref v2, .ref v3, .ref v4, .ref v5, .int (nI sv), .int (nI n), .long (lN co), .int (nI ch1), .int (nI ch2)])), (v1, .inl (cL, 1152, .inr (.inl (fun zz => lN (updN bf3 (pB i j a b) (af (pA i j a)) zz))))), (v2, .inl (cL, 192, .inr (.inl (fun zz => lN (af zz))))), (v3, .inl (cL, 32, .inr (.inl fl))), (v4, .inl (cL, 5, .inr (.inl (fun zz => lN (lv zz))))), (v5, .inl (cI, 5, .inl (fun zz => nI (wt zz))))] := hD
              refine lv_iinc (v := nI (b + 1)) (lv' := [(4, .int (nI (b + 1))), (5, .long (lN (af (pA i j a)))), (0, .ref h0), (1, .int (nI i)), (2, .int (nI j)), (3, .int (nI a))]) hx hb dX4_solveBefores_95 hl (k := 5) rfl (inc1 _) (by decide) rfl (fun ls hl => ?_)
              refine lv_goto (tgt := 11) hx hb dX4_solveBefores_98 (by decide) ?_
              exact ih11 (b + 1) (updN bf3 (pB i j a b) (af (pA i j a))) _ _ _ (by show _ < _; omega) (by exact ⟨lv_sub hl [2, 3, 4, 5, 0] rfl, hP.sub [0, 1, 2, 3, 4, 5] rfl, hD.sub [0, 1, 2, 3, 4, 5] (by decide) rfl, hS, by omega, sb_oth (by omega) (by omega) hoth1, sb_put (by omega) hput1 (sb_00 (by omega) (by omega))⟩)
            · refine lv_lload hx hb dX4_solveBefores_64 (lv_at hl 0 rfl) ?_
              refine lv_aload_n hx hb dX4_solveBefores_66 rfl (lv_at hl 1 rfl) ?_
              refine lv_iload_n hx hb dX4_solveBefores_67 rfl (lv_at hl 2 rfl) ?_
              refine lv_iload_n hx hb dX4_solveBefores_68 rfl (lv_at hl 3 rfl) ?_
              refine lv_iload_n hx hb dX4_solveBefores_69 rfl (lv_at hl 4 rfl) ?_
              refine lv_iload hx hb dX4_solveBefores_70 (lv_at hl 5 rfl) ?_
              refine kVl (As := [.int (nI i), .int (nI j), .int (nI a), .int (nI b)]) (rest := [.long (lN (af (pA i j a)))]) Y m_X4_recallOfAge2 (c_X4_recallOfAge2 l dC dI cL cI h0 v1 v2 v3 v4 v5 wr sv n co ch1 ch2 bf3 af lv wt fl i j a b (by omega) (by omega) (by omega) (by omega) (by omega) (by omega) hVl hVa hVc2) qm_X4_47 (kpV (ci := 4) hK hP hZ hS [0, 1, 2, 3, 4, 5] [0, 1] rfl rfl 0 rfl rfl rfl) rfl hl.1 rfl (Nat.le_of_ble_eq_true rfl) dX4_solveBefores_72 ⟨Nat.le_of_ble_eq_true rfl, Nat.le_of_ble_eq_true rfl⟩ ⟨Nat.zero_le _, Nat.zero_le _⟩ (fun r72 hr72 => ?_)
              obtain rfl : r72 = lN (r2F lv af ch2 i j a b) := hr72
              have hr2 := (r2_b (i := i) (j := j) (a := a) (hVl b (by omega)) hVa hVc2).2
              refine va_mmax_long hx hb (by rw [hml]; exact hl.1.symm) hown (hts _ qm_X4_91) (hts _ qt_Lib_MathLoose_max_long_x) (hts _ qz_java_lang_Math) (hts _ qc_Lib_MathLoose_max_long_x) (Nat.le_of_ble_eq_true rfl) (Nat.le_of_ble_eq_true rfl) (Nat.zero_le _) (Nat.zero_le _) dX4_solveBefores_75 ?_
              refine rl_topn (n := max (af (pA i j a)) (r2F lv af ch2 i j a b)) (lmax_n (by omega) (by omega)) ?_
              refine lv_lstore (lv' := [(5, .long (lN (max (af (pA i j a)) (r2F lv af ch2 i j a b)))), (0, .ref h0), (1, .int (nI i)), (2, .int (nI j)), (3, .int (nI a)), (4, .int (nI b))]) hx hb dX4_solveBefores_78 hl (by decide) rfl (fun ls hl => ?_)
              refine lv_aload_n hx hb dX4_solveBefores_80 rfl (lv_at hl 1 rfl) ?_
              refine va_get (D := (dC, dI)) (ci := 4) (v := .ref v1) (C := RX4) (T := TX4) (N := 11) hx hb hts inlX4 hown hK hP 0 rfl rfl 1 (by decide) (hts _ qf_X4_15) (fun _ h9 => h9) rfl dX4_solveBefores_81 ?_
              refine lv_iload_n hx hb dX4_solveBefores_84 rfl (lv_at hl 2 rfl) ?_
              refine lv_iload_n hx hb dX4_solveBefores_85 rfl (lv_at hl 3 rfl) ?_
              refine lv_iload_n hx hb dX4_solveBefores_86 rfl (lv_at hl 4 rfl) ?_
              refine lv_iload hx hb dX4_solveBefores_87 (lv_at hl 5 rfl) ?_
              refine kSi (As := [.int (nI i), .int (nI j), .int (nI a), .int (nI b)]) (rest := [.ref v1]) Y m_X4_placeBefore (c_X4_placeBefore l dC dI i j a b (by omega)) qm_X4_32 (kpS hK hP hZ hS [] [] rfl rfl) rfl hl.1 rfl (Nat.le_of_ble_eq_true rfl) dX4_solveBefores_89 ⟨Nat.le_of_ble_eq_true rfl, Nat.le_of_ble_eq_true rfl⟩ ⟨Nat.zero_le _, Nat.zero_le _⟩ (fun r89 hr89 => ?_)
              obtain rfl : r89 = nI (pB i j a b) := hr89
              refine lv_lload hx hb dX4_solveBefores_92 (lv_at hl 0 rfl) ?_
              refine rm_ast hx hb hK hP hD hS 1 0 (F := bf3) rfl rfl dX4_solveBefores_94 (by decide) (pB_lt (by omega) (by omega) (by omega) (by omega)) (fun H locs hP hD hS => ?_)
              have hP : va_P (dC, dI) vwCl [(h0, .inr (4, [.int (nI wr), .ref v1, .ref v2, .ref v3, .ref v4, .ref v5, .int (nI sv), .int (nI n), .long (lN co), .int (nI ch1), .int (nI ch2)])), (v1, .inl (cL, 1152, .inr (.inl (fun zz => lN (updN bf3 (pB i j a b) (max (af (pA i j a)) (r2F lv af ch2 i j a b)) zz))))), (v2, .inl (cL, 192, .inr (.inl (fun zz => lN (af zz))))), (v3, .inl (cL, 32, .inr (.inl fl))), (v4, .inl (cL, 5, .inr (.inl (fun zz => lN (lv zz))))), (v5, .inl (cI, 5, .inl (fun zz => nI (wt zz))))] H := hP
              have hD : va_D A [(h0, .inr (4, [.int (nI wr), .ref v1, .ref v2, .ref v3, .ref v4, .ref v5, .int (nI sv), .int (nI n), .long (lN co), .int (nI ch1), .int (nI ch2)])), (v1, .inl (cL, 1152, .inr (.inl (fun zz => lN (updN bf3 (pB i j a b) (max (af (pA i j a)) (r2F lv af ch2 i j a b)) zz))))), (v2, .inl (cL, 192, .inr (.inl (fun zz => lN (af zz))))), (v3, .inl (cL, 32, .inr (.inl fl))), (v4, .inl (cL, 5, .inr (.inl (fun zz => lN (lv zz))))), (v5, .inl (cI, 5, .inl (fun zz => nI (wt zz))))] := hD
              refine lv_iinc (v := nI (b + 1)) (lv' := [(4, .int (nI (b + 1))), (5, .long (lN (max (af (pA i j a)) (r2F lv af ch2 i j a b)))), (0, .ref h0), (1, .int (nI i)), (2, .int (nI j)), (3, .int (nI a))]) hx hb dX4_solveBefores_95 hl (k := 5) rfl (inc1 _) (by decide) rfl (fun ls hl => ?_)
              refine lv_goto (tgt := 11) hx hb dX4_solveBefores_98 (by decide) ?_
              exact ih11 (b + 1) (updN bf3 (pB i j a b) (max (af (pA i j a)) (r2F lv af ch2 i j a b))) _ _ _ (by show _ < _; omega) (by exact ⟨lv_sub hl [2, 3, 4, 5, 0] rfl, hP.sub [0, 1, 2, 3, 4, 5] rfl, hD.sub [0, 1, 2, 3, 4, 5] (by decide) rfl, hS, by omega, sb_oth (by omega) (by omega) hoth1, sb_put (by omega) hput1 (sb_01 (by omega) ⟨by omega, by omega⟩)⟩)
        · refine lv_lload hx hb dX4_solveBefores_40 (lv_at hl 0 rfl) ?_
          refine lv_aload_n hx hb dX4_solveBefores_42 rfl (lv_at hl 1 rfl) ?_
          refine lv_iload_n hx hb dX4_solveBefores_43 rfl (lv_at hl 2 rfl) ?_
          refine lv_iload_n hx hb dX4_solveBefores_44 rfl (lv_at hl 3 rfl) ?_
          refine lv_iload_n hx hb dX4_solveBefores_45 rfl (lv_at hl 4 rfl) ?_
          refine kVl (As := [.int (nI i), .int (nI j), .int (nI a)]) (rest := [.long (lN (af (pA i j a)))]) Y m_X4_recallOfAge1 (c_X4_recallOfAge1 l dC dI cL cI h0 v1 v2 v3 v4 v5 wr sv n co ch1 ch2 bf3 af lv wt fl i j a (by omega) (by omega) (by omega) (by omega) (by omega) hVl hVa hVc1) qm_X4_44 (kpV (ci := 4) hK hP hZ hS [0, 1, 2, 3, 4, 5] [0, 1] rfl rfl 0 rfl rfl rfl) rfl hl.1 rfl (Nat.le_of_ble_eq_true rfl) dX4_solveBefores_46 ⟨Nat.le_of_ble_eq_true rfl, Nat.le_of_ble_eq_true rfl⟩ ⟨Nat.zero_le _, Nat.zero_le _⟩ (fun r46 hr46 => ?_)
          obtain rfl : r46 = lN (r1F lv af ch1 i j a) := hr46
          have hr1 := (r1_b (i := i) (j := j) (hVl a (by omega)) hVa hVc1).2
          refine va_mmax_long hx hb (by rw [hml]; exact hl.1.symm) hown (hts _ qm_X4_91) (hts _ qt_Lib_MathLoose_max_long_x) (hts _ qz_java_lang_Math) (hts _ qc_Lib_MathLoose_max_long_x) (Nat.le_of_ble_eq_true rfl) (Nat.le_of_ble_eq_true rfl) (Nat.zero_le _) (Nat.zero_le _) dX4_solveBefores_49 ?_
          refine rl_topn (n := max (af (pA i j a)) (r1F lv af ch1 i j a)) (lmax_n (by omega) (by omega)) ?_
          refine lv_lstore (lv' := [(5, .long (lN (max (af (pA i j a)) (r1F lv af ch1 i j a)))), (0, .ref h0), (1, .int (nI i)), (2, .int (nI j)), (3, .int (nI a)), (4, .int (nI b))]) hx hb dX4_solveBefores_52 hl (by decide) rfl (fun ls hl => ?_)
          refine lv_iload_n hx hb dX4_solveBefores_54 rfl (lv_at hl 3 rfl) ?_
          refine ri_zle (tgt := 80) hx hb dX4_solveBefores_55 (by decide) (by omega) (fun c55 => ?_) (fun c55 => ?_)
          · refine lv_aload_n hx hb dX4_solveBefores_80 rfl (lv_at hl 1 rfl) ?_
            refine va_get (D := (dC, dI)) (ci := 4) (v := .ref v1) (C := RX4) (T := TX4) (N := 11) hx hb hts inlX4 hown hK hP 0 rfl rfl 1 (by decide) (hts _ qf_X4_15) (fun _ h9 => h9) rfl dX4_solveBefores_81 ?_
            refine lv_iload_n hx hb dX4_solveBefores_84 rfl (lv_at hl 2 rfl) ?_
            refine lv_iload_n hx hb dX4_solveBefores_85 rfl (lv_at hl 3 rfl) ?_
            refine lv_iload_n hx hb dX4_solveBefores_86 rfl (lv_at hl 4 rfl) ?_
            refine lv_iload hx hb dX4_solveBefores_87 (lv_at hl 5 rfl) ?_
            refine kSi (As := [.int (nI i), .int (nI j), .int (nI a), .int (nI b)]) (rest := [.ref v1]) Y m_X4_placeBefore (c_X4_placeBefore l dC dI i j a b (by omega)) qm_X4_32 (kpS hK hP hZ hS [] [] rfl rfl) rfl hl.1 rfl (Nat.le_of_ble_eq_true rfl) dX4_solveBefores_89 ⟨Nat.le_of_ble_eq_true rfl, Nat.le_of_ble_eq_true rfl⟩ ⟨Nat.zero_le _, Nat.zero_le _⟩ (fun r89 hr89 => ?_)
            obtain rfl : r89 = nI (pB i j a b) := hr89
            refine lv_lload hx hb dX4_solveBefores_92 (lv_at hl 0 rfl) ?_
            refine rm_ast hx hb hK hP hD hS 1 0 (F := bf3) rfl rfl dX4_solveBefores_94 (by decide) (pB_lt (by omega) (by omega) (by omega) (by omega)) (fun H locs hP hD hS => ?_)
            have hP : va_P (dC, dI) vwCl [(h0, .inr (4, [.int (nI wr), .ref v1, .ref v2, .ref v3, .ref v4, .ref v5, .int (nI sv), .int (nI n), .long (lN co), .int (nI ch1), .int (nI ch2)])), (v1, .inl (cL, 1152, .inr (.inl (fun zz => lN (updN bf3 (pB i j a b) (max (af (pA i j a)) (r1F lv af ch1 i j a)) zz))))), (v2, .inl (cL, 192, .inr (.inl (fun zz => lN (af zz))))), (v3, .inl (cL, 32, .inr (.inl fl))), (v4, .inl (cL, 5, .inr (.inl (fun zz => lN (lv zz))))), (v5, .inl (cI, 5, .inl (fun zz => nI (wt zz))))] H := hP
            have hD : va_D A [(h0, .inr (4, [.int (nI wr), .ref v1, .ref v2, .ref v3, .ref v4, .ref v5, .int (nI sv), .int (nI n), .long (lN co), .int (nI ch1), .int (nI ch2)])), (v1, .inl (cL, 1152, .inr (.inl (fun zz => lN (updN bf3 (pB i j a b) (max (af (pA i j a)) (r1F lv af ch1 i j a)) zz))))), (v2, .inl (cL, 192, .inr (.inl (fun zz => lN (af zz))))), (v3, .inl (cL, 32, .inr (.inl fl))), (v4, .inl (cL, 5, .inr (.inl (fun zz => lN (lv zz))))), (v5, .inl (cI, 5, .inl (fun zz => nI (wt zz))))] := hD
            refine lv_iinc (v := nI (b + 1)) (lv' := [(4, .int (nI (b + 1))), (5, .long (lN (max (af (pA i j a)) (r1F lv af ch1 i j a)))), (0, .ref h0), (1, .int (nI i)), (2, .int (nI j)), (3, .int (nI a))]) hx hb dX4_solveBefores_95 hl (k := 5) rfl (inc1 _) (by decide) rfl (fun ls hl => ?_)
            refine lv_goto (tgt := 11) hx hb dX4_solveBefores_98 (by decide) ?_
            exact ih11 (b + 1) (updN bf3 (pB i j a b) (max (af (pA i j a)) (r1F lv af ch1 i j a))) _ _ _ (by show _ < _; omega) (by exact ⟨lv_sub hl [2, 3, 4, 5, 0] rfl, hP.sub [0, 1, 2, 3, 4, 5] rfl, hD.sub [0, 1, 2, 3, 4, 5] (by decide) rfl, hS, by omega, sb_oth (by omega) (by omega) hoth1, sb_put (by omega) hput1 (sb_10 ⟨by omega, by omega⟩ (by omega))⟩)
          · refine lv_iload hx hb dX4_solveBefores_58 (lv_at hl 5 rfl) ?_
            refine lv_iconst (v := nI 5) hx hb dX4_solveBefores_60 (by decide) ?_
            refine ri_ceq (tgt := 80) hx hb dX4_solveBefores_61 (by decide) (by omega) (by omega) (fun c61 => ?_) (fun c61 => ?_)
            · refine lv_aload_n hx hb dX4_solveBefores_80 rfl (lv_at hl 1 rfl) ?_
              refine va_get (D := (dC, dI)) (ci := 4) (v := .ref v1) (C := RX4) (T := TX4) (N := 11) hx hb hts inlX4 hown hK hP 0 rfl rfl 1 (by decide) (hts _ qf_X4_15) (fun _ h9 => h9) rfl dX4_solveBefores_81 ?_
              refine lv_iload_n hx hb dX4_solveBefores_84 rfl (lv_at hl 2 rfl) ?_
              refine lv_iload_n hx hb dX4_solveBefores_85 rfl (lv_at hl 3 rfl) ?_
              refine lv_iload_n hx hb dX4_solveBefores_86 rfl (lv_at hl 4 rfl) ?_
              refine lv_iload hx hb dX4_solveBefores_87 (lv_at hl 5 rfl) ?_
              refine kSi (As := [.int (nI i), .int (nI j), .int (nI a), .int (nI b)]) (rest := [.ref v1]) Y m_X4_placeBefore (c_X4_placeBefore l dC dI i j a b (by omega)) qm_X4_32 (kpS hK hP hZ hS [] [] rfl rfl) rfl hl.1 rfl (Nat.le_of_ble_eq_true rfl) dX4_solveBefores_89 ⟨Nat.le_of_ble_eq_true rfl, Nat.le_of_ble_eq_true rfl⟩ ⟨Nat.zero_le _, Nat.zero_le _⟩ (fun r89 hr89 => ?_)
              obtain rfl : r89 = nI (pB i j a b) := hr89
              refine lv_lload hx hb dX4_solveBefores_92 (lv_at hl 0 rfl) ?_
              refine rm_ast hx hb hK hP hD hS 1 0 (F := bf3) rfl rfl dX4_solveBefores_94 (by decide) (pB_lt (by omega) (by omega) (by omega) (by omega)) (fun H locs hP hD hS => ?_)
              have hP : va_P (dC, dI) vwCl [(h0, .inr (4, [.int (nI wr), .ref v1, .ref v2, .ref v3, .ref v4, .ref v5, .int (nI sv), .int (nI n), .long (lN co), .int (nI ch1), .int (nI ch2)])), (v1, .inl (cL, 1152, .inr (.inl (fun zz => lN (updN bf3 (pB i j a b) (max (af (pA i j a)) (r1F lv af ch1 i j a)) zz))))), (v2, .inl (cL, 192, .inr (.inl (fun zz => lN (af zz))))), (v3, .inl (cL, 32, .inr (.inl fl))), (v4, .inl (cL, 5, .inr (.inl (fun zz => lN (lv zz))))), (v5, .inl (cI, 5, .inl (fun zz => nI (wt zz))))] H := hP
              have hD : va_D A [(h0, .inr (4, [.int (nI wr), .ref v1, .ref v2, .ref v3, .ref v4, .ref v5, .int (nI sv), .int (nI n), .long (lN co), .int (nI ch1), .int (nI ch2)])), (v1, .inl (cL, 1152, .inr (.inl (fun zz => lN (updN bf3 (pB i j a b) (max (af (pA i j a)) (r1F lv af ch1 i j a)) zz))))), (v2, .inl (cL, 192, .inr (.inl (fun zz => lN (af zz))))), (v3, .inl (cL, 32, .inr (.inl fl))), (v4, .inl (cL, 5, .inr (.inl (fun zz => lN (lv zz))))), (v5, .inl (cI, 5, .inl (fun zz => nI (wt zz))))] := hD
              refine lv_iinc (v := nI (b + 1)) (lv' := [(4, .int (nI (b + 1))), (5, .long (lN (max (af (pA i j a)) (r1F lv af ch1 i j a)))), (0, .ref h0), (1, .int (nI i)), (2, .int (nI j)), (3, .int (nI a))]) hx hb dX4_solveBefores_95 hl (k := 5) rfl (inc1 _) (by decide) rfl (fun ls hl => ?_)
              refine lv_goto (tgt := 11) hx hb dX4_solveBefores_98 (by decide) ?_
              exact ih11 (b + 1) (updN bf3 (pB i j a b) (max (af (pA i j a)) (r1F lv af ch1 i j a))) _ _ _ (by show _ < _; omega) (by exact ⟨lv_sub hl [2, 3, 4, 5, 0] rfl, hP.sub [0, 1, 2, 3, 4, 5] rfl, hD.sub [0, 1, 2, 3, 4, 5] (by decide) rfl, hS, by omega, sb_oth (by omega) (by omega) hoth1, sb_put (by omega) hput1 (sb_10 ⟨by omega, by omega⟩ (by omega))⟩)
            · refine lv_lload hx hb dX4_solveBefores_64 (lv_at hl 0 rfl) ?_
              refine lv_aload_n hx hb dX4_solveBefores_66 rfl (lv_at hl 1 rfl) ?_
              refine lv_iload_n hx hb dX4_solveBefores_67 rfl (lv_at hl 2 rfl) ?_
              refine lv_iload_n hx hb dX4_solveBefores_68 rfl (lv_at hl 3 rfl) ?_
              refine lv_iload_n hx hb dX4_solveBefores_69 rfl (lv_at hl 4 rfl) ?_
              refine lv_iload hx hb dX4_solveBefores_70 (lv_at hl 5 rfl) ?_
              refine kVl (As := [.int (nI i), .int (nI j), .int (nI a), .int (nI b)]) (rest := [.long (lN (max (af (pA i j a)) (r1F lv af ch1 i j a)))]) Y m_X4_recallOfAge2 (c_X4_recallOfAge2 l dC dI cL cI h0 v1 v2 v3 v4 v5 wr sv n co ch1 ch2 bf3 af lv wt fl i j a b (by omega) (by omega) (by omega) (by omega) (by omega) (by omega) hVl hVa hVc2) qm_X4_47 (kpV (ci := 4) hK hP hZ hS [0, 1, 2, 3, 4, 5] [0, 1] rfl rfl 0 rfl rfl rfl) rfl hl.1 rfl (Nat.le_of_ble_eq_true rfl) dX4_solveBefores_72 ⟨Nat.le_of_ble_eq_true rfl, Nat.le_of_ble_eq_true rfl⟩ ⟨Nat.zero_le _, Nat.zero_le _⟩ (fun r72 hr72 => ?_)
              obtain rfl : r72 = lN (r2F lv af ch2 i j a b) := hr72
              have hr2 := (r2_b (i := i) (j := j) (a := a) (hVl b (by omega)) hVa hVc2).2
              refine va_mmax_long hx hb (by rw [hml]; exact hl.1.symm) hown (hts _ qm_X4_91) (hts _ qt_Lib_MathLoose_max_long_x) (hts _ qz_java_lang_Math) (hts _ qc_Lib_MathLoose_max_long_x) (Nat.le_of_ble_eq_true rfl) (Nat.le_of_ble_eq_true rfl) (Nat.zero_le _) (Nat.zero_le _) dX4_solveBefores_75 ?_
              refine rl_topn (n := max (max (af (pA i j a)) (r1F lv af ch1 i j a)) (r2F lv af ch2 i j a b)) (lmax_n (by omega) (by omega)) ?_
              refine lv_lstore (lv' := [(5, .long (lN (max (max (af (pA i j a)) (r1F lv af ch1 i j a)) (r2F lv af ch2 i j a b)))), (0, .ref h0), (1, .int (nI i)), (2, .int (nI j)), (3, .int (nI a)), (4, .int (nI b))]) hx hb dX4_solveBefores_78 hl (by decide) rfl (fun ls hl => ?_)
              refine lv_aload_n hx hb dX4_solveBefores_80 rfl (lv_at hl 1 rfl) ?_
              refine va_get (D := (dC, dI)) (ci := 4) (v := .ref v1) (C := RX4) (T := TX4) (N := 11) hx hb hts inlX4 hown hK hP 0 rfl rfl 1 (by decide) (hts _ qf_X4_15) (fun _ h9 => h9) rfl dX4_solveBefores_81 ?_
              refine lv_iload_n hx hb dX4_solveBefores_84 rfl (lv_at hl 2 rfl) ?_
              refine lv_iload_n hx hb dX4_solveBefores_85 rfl (lv_at hl 3 rfl) ?_
              refine lv_iload_n hx hb dX4_solveBefores_86 rfl (lv_at hl 4 rfl) ?_
              refine lv_iload hx hb dX4_solveBefores_87 (lv_at hl 5 rfl) ?_
              refine kSi (As := [.int (nI i), .int (nI j), .int (nI a), .int (nI b)]) (rest := [.ref v1]) Y m_X4_placeBefore (c_X4_placeBefore l dC dI i j a b (by omega)) qm_X4_32 (kpS hK hP hZ hS [] [] rfl rfl) rfl hl.1 rfl (Nat.le_of_ble_eq_true rfl) dX4_solveBefores_89 ⟨Nat.le_of_ble_eq_true rfl, Nat.le_of_ble_eq_true rfl⟩ ⟨Nat.zero_le _, Nat.zero_le _⟩ (fun r89 hr89 => ?_)
              obtain rfl : r89 = nI (pB i j a b) := hr89
              refine lv_lload hx hb dX4_solveBefores_92 (lv_at hl 0 rfl) ?_
              refine rm_ast hx hb hK hP hD hS 1 0 (F := bf3) rfl rfl dX4_solveBefores_94 (by decide) (pB_lt (by omega) (by omega) (by omega) (by omega)) (fun H locs hP hD hS => ?_)
              have hP : va_P (dC, dI) vwCl [(h0, .inr (4, [.int (nI wr), .ref v1, .ref v2, .ref v3, .ref v4, .ref v5, .int (nI sv), .int (nI n), .long (lN co), .int (nI ch1), .int (nI ch2)])), (v1, .inl (cL, 1152, .inr (.inl (fun zz => lN (updN bf3 (pB i j a b) (max (max (af (pA i j a)) (r1F lv af ch1 i j a)) (r2F lv af ch2 i j a b)) zz))))), (v2, .inl (cL, 192, .inr (.inl (fun zz => lN (af zz))))), (v3, .inl (cL, 32, .inr (.inl fl))), (v4, .inl (cL, 5, .inr (.inl (fun zz => lN (lv zz))))), (v5, .inl (cI, 5, .inl (fun zz => nI (wt zz))))] H := hP
              have hD : va_D A [(h0, .inr (4, [.int (nI wr), .ref v1, .ref v2, .ref v3, .ref v4, .ref v5, .int (nI sv), .int (nI n), .long (lN co), .int (nI ch1), .int (nI ch2)])), (v1, .inl (cL, 1152, .inr (.inl (fun zz => lN (updN bf3 (pB i j a b) (max (max (af (pA i j a)) (r1F lv af ch1 i j a)) (r2F lv af ch2 i j a b)) zz))))), (v2, .inl (cL, 192, .inr (.inl (fun zz => lN (af zz))))), (v3, .inl (cL, 32, .inr (.inl fl))), (v4, .inl (cL, 5, .inr (.inl (fun zz => lN (lv zz))))), (v5, .inl (cI, 5, .inl (fun zz => nI (wt zz))))] := hD
              refine lv_iinc (v := nI (b + 1)) (lv' := [(4, .int (nI (b + 1))), (5, .long (lN (max (max (af (pA i j a)) (r1F lv af ch1 i j a)) (r2F lv af ch2 i j a b)))), (0, .ref h0), (1, .int (nI i)), (2, .int (nI j)), (3, .int (nI a))]) hx hb dX4_solveBefores_95 hl (k := 5) rfl (inc1 _) (by decide) rfl (fun ls hl => ?_)
              refine lv_goto (tgt := 11) hx hb dX4_solveBefores_98 (by decide) ?_
              exact ih11 (b + 1) (updN bf3 (pB i j a b) (max (max (af (pA i j a)) (r1F lv af ch1 i j a)) (r2F lv af ch2 i j a b))) _ _ _ (by show _ < _; omega) (by exact ⟨lv_sub hl [2, 3, 4, 5, 0] rfl, hP.sub [0, 1, 2, 3, 4, 5] rfl, hD.sub [0, 1, 2, 3, 4, 5] (by decide) rfl, hS, by omega, sb_oth (by omega) (by omega) hoth1, sb_put (by omega) hput1 (sb_11 ⟨by omega, by omega⟩ ⟨by omega, by omega⟩)⟩)
