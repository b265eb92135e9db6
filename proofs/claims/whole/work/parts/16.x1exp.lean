set_option maxHeartbeats 4000000 in
set_option maxRecDepth 100000 in
theorem c_X1_expected (l : Launch) (dC : Nat → ClassId) (dI : Nat → Nat → Nat) (sz : Nat) (cL : ClassId) (h0 q1 q2 q3 : Nat) (w b f : Nat → Int64) (sv n : Nat) (co : Int64) (P : Nat → Nat) (wh k : Nat) (h1 : wh ≤ 2) (h2 : 1 ≤ k) (h3 : k ≤ 3) (hPI : PI P) (hRS : RS P w b n co) : Met l yX1_expected (kw yX1_expected cX1_expected 9 (some .long)) (kR 3 71) (kPq (dC, dI) [.ref h0, .int (nI wh), .int (nI k)] sz [(h0, .inr (1, [.ref q1, .ref q2, .ref q3, .int (nI sv), .int (nI n), .long co])), (q1, .inl (cL, 49, .inr (.inl w))), (q2, .inl (cL, 32, .inr (.inl b))), (q3, .inl (cL, 32, .inr (.inl f)))] [(cL, .long)]) (va_Ql (fun (res : Int64) (u : Nat → Int64) => res = lN (420 * EX P wh (P 0) k)) (fun u : Nat → Int64 => kB (dC, dI) [(cL, .long)] (va_A [(h0, .inr (1, [.ref q1, .ref q2, .ref q3, .int (nI sv), .int (nI n), .long co])), (q1, .inl (cL, 49, .inr (.inl w))), (q2, .inl (cL, 32, .inr (.inl b))), (q3, .inl (cL, 32, .inr (.inl f)))] sz) ([(h0, .inr (1, [.ref q1, .ref q2, .ref q3, .int (nI sv), .int (nI n), .long co])), (q1, .inl (cL, 49, .inr (.inl w))), (q2, .inl (cL, 32, .inr (.inl b))), (q3, .inl (cL, 32, .inr (.inl u)))])) (va_A [(h0, .inr (1, [.ref q1, .ref q2, .ref q3, .int (nI sv), .int (nI n), .long co])), (q1, .inl (cL, 49, .inr (.inl w))), (q2, .inl (cL, 32, .inr (.inl b))), (q3, .inl (cL, 32, .inr (.inl f)))] sz)) 0 0 (va_A [(h0, .inr (1, [.ref q1, .ref q2, .ref q3, .int (nI sv), .int (nI n), .long co])), (q1, .inl (cL, 49, .inr (.inl w))), (q2, .inl (cL, 32, .inr (.inl b))), (q3, .inl (cL, 32, .inr (.inl f)))] sz) := by
  refine kmet (by decide) ?_
  intro p e s m args below meth c Y hr hlocks hin hv
  obtain ⟨rfl, A, hAe, hsz, hP, hK, hD, hZ, hA⟩ := kinQ hv
  rw [hAe]
  have hS : va_S A s.heap s.heap [] := va_S.rf
  have hx := Y.1
  have hb := Y.2.1
  have hml := Y.2.2.1
  have hown := Y.2.2.2.1
  have hts := Y.2.2.2.2
  have hl := lv_entry ([.ref h0, .int (nI wh), .int (nI k)]) (n := 9) (Nat.le_of_ble_eq_true rfl)
  rw [lg_entry_eq]
  generalize (lg_sl ([.ref h0, .int (nI wh), .int (nI k)]) ++ List.replicate (9 - (lg_sl ([.ref h0, .int (nI wh), .int (nI k)])).length) Slot.unset).toArray = ls at hl ⊢
  have hl : lv_has ls 9 [(0, .ref h0), (1, .int (nI wh)), (2, .int (nI k))] := hl
  obtain ⟨hn0, hco, hw, hb2⟩ := hRS
  subst hn0
  subst hco
  have hp0 := hPI.1
  have hp2 := hPI.2.2.1
  rcases (show wh = 0 ∨ wh = 1 ∨ wh = 2 by omega) with rfl | rfl | rfl
  · refine lv_iload_n hx hb dX1_expected_0 rfl (lv_at hl 1 rfl) ?_
    refine ri_zne (tgt := 8) hx hb dX1_expected_1 (by decide) (by omega) (fun c1 => ?_) (fun c1 => ?_)
    · exact absurd c1 (by decide)
    · refine lv_iconst (v := nI 1) hx hb dX1_expected_4 (by decide) ?_
      refine lv_goto (tgt := 9) hx hb dX1_expected_5 (by decide) ?_
      refine lv_istore_n (lv' := [(3, .int (nI 1)), (0, .ref h0), (1, .int (nI 0)), (2, .int (nI k))]) hx hb dX1_expected_9 rfl hl (by decide) rfl (fun ls hl => ?_)
      refine lv_iload_n hx hb dX1_expected_10 rfl (lv_at hl 2 rfl) ?_
      refine lv_iconst (v := nI 1) hx hb dX1_expected_11 (by decide) ?_
      refine ri_cne (tgt := 19) hx hb dX1_expected_12 (by decide) (by omega) (by omega) (fun c12 => ?_) (fun c12 => ?_)
      · refine lv_iconst (v := nI 0) hx hb dX1_expected_19 (by decide) ?_
        refine lv_istore (lv' := [(4, .int (nI 0)), (3, .int (nI 1)), (0, .ref h0), (1, .int (nI 0)), (2, .int (nI k))]) hx hb dX1_expected_20 hl (by decide) rfl (fun ls hl => ?_)
        refine lv_aload_n hx hb dX1_expected_22 rfl (lv_at hl 2 rfl) ?_
        refine lv_aload_n hx hb dX1_expected_23 rfl (lv_at hl 2 rfl) ?_
        refine va_get (D := (dC, dI)) (ci := 1) (v := .ref q3) (C := RX1) (T := TX1) (N := 6) hx hb hts inlX1 hown hK hP 0 rfl rfl 2 (by decide) (hts _ qf_X1_18) (fun _ h9 => h9) rfl dX1_expected_24 ?_
        refine kQv (As := [.ref q3]) (rest := []) (wr := [(q1, .inl (cL, 49, .inr (.inl w))), (q2, .inl (cL, 32, .inr (.inl b)))]) Y m_X1_clearEnds (c_X1_clearEnds l dC dI _ cL h0 q1 q2 q3 q3 f sv (P 0) (lN (P 2 * 2116800)) (by omega) (by omega)) qm_X1_47 hP hD hS hA [0, 3] [1, 2] rfl rfl (by decide) (by decide) (kqV (ci := 1) hK hP hD hZ hS hA [0, 3] [0] rfl (by decide) rfl 0 rfl rfl rfl) rfl hl.1 rfl (Nat.le_of_ble_eq_true rfl) dX1_expected_27 ⟨Nat.le_of_ble_eq_true rfl, Nat.le_of_ble_eq_true rfl⟩ ⟨Nat.zero_le _, Nat.zero_le _⟩ (fun u27 H locs hr27 hP hD hS => ?_)
        obtain ⟨g2_27, rfl⟩ : ∃ z, z = u27 := ⟨_, rfl⟩
        have hP : va_P (dC, dI) vwCl [(q1, .inl (cL, 49, .inr (.inl w))), (q2, .inl (cL, 32, .inr (.inl b))), (h0, .inr (1, [.ref q1, .ref q2, .ref q3, .int (nI sv), .int (nI (P 0)), .long (lN (P 2 * 2116800))])), (q3, .inl (cL, 32, .inr (.inl g2_27)))] H := hP
        have hD : va_D A [(q1, .inl (cL, 49, .inr (.inl w))), (q2, .inl (cL, 32, .inr (.inl b))), (h0, .inr (1, [.ref q1, .ref q2, .ref q3, .int (nI sv), .int (nI (P 0)), .long (lN (P 2 * 2116800))])), (q3, .inl (cL, 32, .inr (.inl g2_27)))] := hD
        have hr27 : g2_27 = clr (P 0) f := hr27
        refine lv_iload_n hx hb dX1_expected_30 rfl (lv_at hl 1 rfl) ?_
        refine ri_zne (tgt := 73) hx hb dX1_expected_31 (by decide) (by omega) (fun c31 => ?_) (fun c31 => ?_)
        · refine lv_aload_n hx hb dX1_expected_73 rfl (lv_at hl 2 rfl) ?_
          refine va_get (D := (dC, dI)) (ci := 1) (v := .int (nI (P 0))) (C := RX1) (T := TX1) (N := 6) hx hb hts inlX1 hown hK hP 2 rfl rfl 4 (by decide) (hts _ qf_X1_33) (fun _ h9 => h9) rfl dX1_expected_74 ?_
          refine lv_istore (lv' := [(5, .int (nI (P 0))), (4, .int (nI 0)), (3, .int (nI 1)), (0, .ref h0), (1, .int (nI 0)), (2, .int (nI k))]) hx hb dX1_expected_77 hl (by decide) rfl (fun ls hl => ?_)
          refine wl2 (fun (i : Nat) (f1 : Nat → Int64) => i) (fun (i : Nat) (f1 : Nat → Int64) (ls : Array Slot) (H : Heap) (locs : List Loc) => lv_has ls 9 [(0, .ref h0), (1, .int (nI 0)), (2, .int (nI k)), (3, .int (nI 1)), (4, .int (nI 0)), (5, .int (nI i))] ∧ va_P (dC, dI) vwCl [(h0, .inr (1, [.ref q1, .ref q2, .ref q3, .int (nI sv), .int (nI (P 0)), .long (lN (P 2 * 2116800))])), (q1, .inl (cL, 49, .inr (.inl w))), (q2, .inl (cL, 32, .inr (.inl b))), (q3, .inl (cL, 32, .inr (.inl f1)))] H ∧ va_D A [(h0, .inr (1, [.ref q1, .ref q2, .ref q3, .int (nI sv), .int (nI (P 0)), .long (lN (P 2 * 2116800))])), (q1, .inl (cL, 49, .inr (.inl w))), (q2, .inl (cL, 32, .inr (.inl b))), (q3, .inl (cL, 32, .inr (.inl f1)))] ∧ va_S A s.heap H locs ∧ (i ≤ P 0 ∧ FD (P 0) k (ET P 420 0) f1 i 1)) (P 0) g2_27 (by exact ⟨lv_sub hl [3, 4, 5, 2, 1, 0] rfl, hP.sub [2, 0, 1, 3] rfl, hD.sub [2, 0, 1, 3] (by decide) rfl, hS, by omega, by rw [hr27]; exact FD_clr (by omega) (ET_0 (by decide)).1 (ET_0 (by decide)).2⟩) (fun i f1 ls H locs hI ih => ?_)
          obtain ⟨hl, hP, hD, hS, hi2, hF0⟩ := hI
          have ih79 := ih
          refine lv_iload hx hb dX1_expected_79 (lv_at hl 5 rfl) ?_
          refine lv_iconst (v := nI 1) hx hb dX1_expected_81 (by decide) ?_
          refine ri_clt (tgt := 160) hx hb dX1_expected_82 (by decide) (by omega) (by omega) (fun c82 => ?_) (fun c82 => ?_)
          · obtain rfl : i = 0 := by omega
            refine lv_aload_n hx hb dX1_expected_160 rfl (lv_at hl 0 rfl) ?_
            refine va_get (D := (dC, dI)) (ci := 1) (v := .ref q3) (C := RX1) (T := TX1) (N := 6) hx hb hts inlX1 hown hK hP 0 rfl rfl 2 (by decide) (hts _ qf_X1_18) (fun _ h9 => h9) rfl dX1_expected_161 ?_
            refine lv_iconst (v := nI 1) hx hb dX1_expected_164 (by decide) ?_
            refine lv_iload_n hx hb dX1_expected_165 rfl (lv_at hl 2 rfl) ?_
            refine kSi (As := [.int (nI 1), .int (nI k)]) (rest := [.ref q3]) Y m_X1_place (c_X1_place l dC dI 1 k (by omega)) qm_X1_21 (kpS hK hP hZ hS [] [] rfl rfl) rfl hl.1 rfl (Nat.le_of_ble_eq_true rfl) dX1_expected_166 ⟨Nat.le_of_ble_eq_true rfl, Nat.le_of_ble_eq_true rfl⟩ ⟨Nat.zero_le _, Nat.zero_le _⟩ (fun r166 hr166 => ?_)
            obtain rfl : r166 = nI (((1 - 1) * 4) + k) := hr166
            refine rl_ald hx hb hK hP 3 0 (F := f1) rfl rfl dX1_expected_169 (by decide) (by omega) ?_
            refine rl_set (x' := lN (420 * EX P 0 (P 0) k)) (FD_all hF0 (by decide) (by omega) (by omega)) ?_
            exact kql (w1 := (fun u : Nat → Int64 => [(h0, .inr (1, [.ref q1, .ref q2, .ref q3, .int (nI sv), .int (nI (P 0)), .long (lN (P 2 * 2116800))])), (q1, .inl (cL, 49, .inr (.inl w))), (q2, .inl (cL, 32, .inr (.inl b))), (q3, .inl (cL, 32, .inr (.inl u)))])) (v := lN (420 * EX P 0 (P 0) k)) Y hr hlocks hK hP hD hS [0, 1, 2, 3] (by decide) (f1) rfl rfl dX1_expected_170
          · refine lv_iconst (v := nI 1) hx hb dX1_expected_85 (by decide) ?_
            refine lv_istore (lv' := [(6, .int (nI 1)), (0, .ref h0), (1, .int (nI 0)), (2, .int (nI k)), (3, .int (nI 1)), (4, .int (nI 0)), (5, .int (nI i))]) hx hb dX1_expected_86 hl (by decide) rfl (fun ls hl => ?_)
            refine wl2 (fun (j : Nat) (f3 : Nat → Int64) => k + 1 - j) (fun (j : Nat) (f3 : Nat → Int64) (ls : Array Slot) (H : Heap) (locs : List Loc) => lv_has ls 9 [(0, .ref h0), (1, .int (nI 0)), (2, .int (nI k)), (3, .int (nI 1)), (4, .int (nI 0)), (5, .int (nI i)), (6, .int (nI j))] ∧ va_P (dC, dI) vwCl [(h0, .inr (1, [.ref q1, .ref q2, .ref q3, .int (nI sv), .int (nI (P 0)), .long (lN (P 2 * 2116800))])), (q1, .inl (cL, 49, .inr (.inl w))), (q2, .inl (cL, 32, .inr (.inl b))), (q3, .inl (cL, 32, .inr (.inl f3)))] H ∧ va_D A [(h0, .inr (1, [.ref q1, .ref q2, .ref q3, .int (nI sv), .int (nI (P 0)), .long (lN (P 2 * 2116800))])), (q1, .inl (cL, 49, .inr (.inl w))), (q2, .inl (cL, 32, .inr (.inl b))), (q3, .inl (cL, 32, .inr (.inl f3)))] ∧ va_S A s.heap H locs ∧ (1 ≤ j ∧ j ≤ k + 1 ∧ FD (P 0) k (ET P 420 0) f3 i j)) 1 f1 (by exact ⟨lv_sub hl [1, 2, 3, 4, 5, 6, 0] rfl, hP.sub [0, 1, 2, 3] rfl, hD.sub [0, 1, 2, 3] (by decide) rfl, hS, by omega, by omega, hF0⟩) (fun j f3 ls H locs hI ih => ?_)
            obtain ⟨hl, hP, hD, hS, hj1, hj2, hF⟩ := hI
            have ih88 := ih
            refine lv_iload hx hb dX1_expected_88 (lv_at hl 6 rfl) ?_
            refine lv_iload_n hx hb dX1_expected_90 rfl (lv_at hl 2 rfl) ?_
            refine ri_cgt (tgt := 154) hx hb dX1_expected_91 (by decide) (by omega) (by omega) (fun c91 => ?_) (fun c91 => ?_)
            · refine lv_iinc (v := nI (i - 1)) (lv' := [(5, .int (nI (i - 1))), (0, .ref h0), (1, .int (nI 0)), (2, .int (nI k)), (3, .int (nI 1)), (4, .int (nI 0)), (6, .int (nI j))]) hx hb dX1_expected_154 hl (k := 5) rfl (dec1 (by omega)) (by decide) rfl (fun ls hl => ?_)
              refine lv_goto (tgt := 79) hx hb dX1_expected_157 (by decide) ?_
              exact ih79 (i - 1) f3 _ _ _ (by show _ < _; omega) (by exact ⟨lv_sub hl [1, 2, 3, 4, 5, 0] rfl, hP.sub [0, 1, 2, 3] rfl, hD.sub [0, 1, 2, 3] (by decide) rfl, hS, by omega, FD_next hF (by omega)⟩)
            · refine lv_lconst (v := lN 0) hx hb dX1_expected_94 rfl ?_
              refine lv_lstore (lv' := [(7, .long (lN 0)), (0, .ref h0), (1, .int (nI 0)), (2, .int (nI k)), (3, .int (nI 1)), (4, .int (nI 0)), (5, .int (nI i)), (6, .int (nI j))]) hx hb dX1_expected_95 hl (by decide) rfl (fun ls hl => ?_)
              refine lv_aload_n hx hb dX1_expected_97 rfl (lv_at hl 1 rfl) ?_
              refine lv_iload hx hb dX1_expected_98 (lv_at hl 6 rfl) ?_
              refine lv_iload hx hb dX1_expected_100 (lv_at hl 7 rfl) ?_
              refine kVl (As := [.int (nI i), .int (nI j)]) (rest := []) Y m_X1_valueBefore (c_X1_valueBefore l dC dI cL h0 q1 q2 q3 w b f3 sv (P 0) (lN (P 2 * 2116800)) i j (by omega) (by omega) (by omega)) qm_X1_60 (kpV (ci := 1) hK hP hZ hS [0, 1, 2, 3] [0] rfl rfl 0 rfl rfl rfl) rfl hl.1 rfl (Nat.le_of_ble_eq_true rfl) dX1_expected_102 ⟨Nat.le_of_ble_eq_true rfl, Nat.le_of_ble_eq_true rfl⟩ ⟨Nat.zero_le _, Nat.zero_le _⟩ (fun r102 hr102 => ?_)
              obtain rfl : r102 = b (((i - 1) * 4) + j) := hr102
              refine rl_set (x' := lN (420 * VR P (P 0 + 1 - i) j)) (hb2 i j (by omega) (by omega) (by omega)) ?_
              have hvb := VR_le hPI (P 0 + 1 - i) j (by omega)
              refine lv_lconst (v := lN 0) hx hb dX1_expected_105 rfl ?_
              refine rl_eqn (tgt := 134) hx hb dX1_expected_106 dX1_expected_107 (by decide) (by omega) (by omega) (fun c106 => ?_) (fun c106 => ?_)
              · refine lv_aload_n hx hb dX1_expected_134 rfl (lv_at hl 1 rfl) ?_
                refine va_get (D := (dC, dI)) (ci := 1) (v := .ref q3) (C := RX1) (T := TX1) (N := 6) hx hb hts inlX1 hown hK hP 0 rfl rfl 2 (by decide) (hts _ qf_X1_18) (fun _ h9 => h9) rfl dX1_expected_135 ?_
                refine lv_iload hx hb dX1_expected_138 (lv_at hl 6 rfl) ?_
                refine lv_iload hx hb dX1_expected_140 (lv_at hl 7 rfl) ?_
                refine kSi (As := [.int (nI i), .int (nI j)]) (rest := [.ref q3]) Y m_X1_place (c_X1_place l dC dI i j (by omega)) qm_X1_21 (kpS hK hP hZ hS [] [] rfl rfl) rfl hl.1 rfl (Nat.le_of_ble_eq_true rfl) dX1_expected_142 ⟨Nat.le_of_ble_eq_true rfl, Nat.le_of_ble_eq_true rfl⟩ ⟨Nat.zero_le _, Nat.zero_le _⟩ (fun r142 hr142 => ?_)
                obtain rfl : r142 = nI (((i - 1) * 4) + j) := hr142
                refine lv_lload hx hb dX1_expected_145 (lv_at hl 0 rfl) ?_
                refine rl_set (x' := lN (420 * EX P 0 (P 0 + 1 - i) j)) (exp_z (by omega) (by omega)) ?_
                refine rl_ast hx hb hK hP hD hS 3 0 (F := f3) rfl rfl dX1_expected_147 (by decide) (by omega) (fun H locs hP hD hS => ?_)
                have hP : va_P (dC, dI) vwCl [(h0, .inr (1, [.ref q1, .ref q2, .ref q3, .int (nI sv), .int (nI (P 0)), .long (lN (P 2 * 2116800))])), (q1, .inl (cL, 49, .inr (.inl w))), (q2, .inl (cL, 32, .inr (.inl b))), (q3, .inl (cL, 32, .inr (.inl (updL f3 (((i - 1) * 4) + j) (lN (420 * EX P 0 (P 0 + 1 - i) j))))))] H := hP
                have hD : va_D A [(h0, .inr (1, [.ref q1, .ref q2, .ref q3, .int (nI sv), .int (nI (P 0)), .long (lN (P 2 * 2116800))])), (q1, .inl (cL, 49, .inr (.inl w))), (q2, .inl (cL, 32, .inr (.inl b))), (q3, .inl (cL, 32, .inr (.inl (updL f3 (((i - 1) * 4) + j) (lN (420 * EX P 0 (P 0 + 1 - i) j))))))] := hD
                refine lv_iinc (v := nI (j + 1)) (lv' := [(6, .int (nI (j + 1))), (7, .long (lN 0)), (0, .ref h0), (1, .int (nI 0)), (2, .int (nI k)), (3, .int (nI 1)), (4, .int (nI 0)), (5, .int (nI i))]) hx hb dX1_expected_148 hl (k := 7) rfl (inc1 _) (by decide) rfl (fun ls hl => ?_)
                refine lv_goto (tgt := 88) hx hb dX1_expected_151 (by decide) ?_
                exact ih88 (j + 1) (updL f3 (((i - 1) * 4) + j) (lN (420 * EX P 0 (P 0 + 1 - i) j))) _ _ _ (by show _ < _; omega) (by exact ⟨lv_sub hl [2, 3, 4, 5, 6, 7, 0] rfl, hP.sub [0, 1, 2, 3] rfl, hD.sub [0, 1, 2, 3] (by decide) rfl, hS, by omega, by omega, FD_put hF (by omega) (by omega) (by omega) rfl⟩)
              · refine lv_aload_n hx hb dX1_expected_110 rfl (lv_at hl 1 rfl) ?_
                refine lv_iload hx hb dX1_expected_111 (lv_at hl 6 rfl) ?_
                refine lv_iload hx hb dX1_expected_113 (lv_at hl 7 rfl) ?_
                refine lv_iload hx hb dX1_expected_115 (lv_at hl 5 rfl) ?_
                refine kVl (As := [.int (nI i), .int (nI j), .int (nI 0)]) (rest := []) Y m_X1_meanFollowed (c_X1_meanFollowed l dC dI cL h0 q1 q2 q3 w b f3 sv (P 0) (lN (P 2 * 2116800)) i j 0 (by omega) (by omega) (by omega) (by omega) (by omega)) qm_X1_63 (kpV (ci := 1) hK hP hZ hS [0, 1, 2, 3] [0] rfl rfl 0 rfl rfl rfl) rfl hl.1 rfl (Nat.le_of_ble_eq_true rfl) dX1_expected_117 ⟨Nat.le_of_ble_eq_true rfl, Nat.le_of_ble_eq_true rfl⟩ ⟨Nat.zero_le _, Nat.zero_le _⟩ (fun r117 hr117 => ?_)
                obtain rfl : r117 = sumL (mfF w b f3 0 i j) i / lN i := hr117
                refine lv_iload_n hx hb dX1_expected_120 rfl (lv_at hl 4 rfl) ?_
                refine ri_zeq (tgt := 130) hx hb dX1_expected_121 (by decide) (by omega) (fun c121 => ?_) (fun c121 => ?_)
                · exact absurd c121 (by decide)
                · refine lv_ldc2 (v := lN 2116800) hx hb hown (hts _ ql_X1_37) dX1_expected_124 ?_
                  refine lv_goto (tgt := 131) hx hb dX1_expected_127 (by decide) ?_
                  refine lv_ladd hx hb dX1_expected_131 ?_
                  refine lv_lstore (lv' := [(7, .long ((sumL (mfF w b f3 0 i j) i / lN i) + (lN 2116800))), (0, .ref h0), (1, .int (nI 0)), (2, .int (nI k)), (3, .int (nI 1)), (4, .int (nI 0)), (5, .int (nI i)), (6, .int (nI j))]) hx hb dX1_expected_132 hl (by decide) rfl (fun ls hl => ?_)
                  refine lv_aload_n hx hb dX1_expected_134 rfl (lv_at hl 1 rfl) ?_
                  refine va_get (D := (dC, dI)) (ci := 1) (v := .ref q3) (C := RX1) (T := TX1) (N := 6) hx hb hts inlX1 hown hK hP 0 rfl rfl 2 (by decide) (hts _ qf_X1_18) (fun _ h9 => h9) rfl dX1_expected_135 ?_
                  refine lv_iload hx hb dX1_expected_138 (lv_at hl 6 rfl) ?_
                  refine lv_iload hx hb dX1_expected_140 (lv_at hl 7 rfl) ?_
                  refine kSi (As := [.int (nI i), .int (nI j)]) (rest := [.ref q3]) Y m_X1_place (c_X1_place l dC dI i j (by omega)) qm_X1_21 (kpS hK hP hZ hS [] [] rfl rfl) rfl hl.1 rfl (Nat.le_of_ble_eq_true rfl) dX1_expected_142 ⟨Nat.le_of_ble_eq_true rfl, Nat.le_of_ble_eq_true rfl⟩ ⟨Nat.zero_le _, Nat.zero_le _⟩ (fun r142 hr142 => ?_)
                  obtain rfl : r142 = nI (((i - 1) * 4) + j) := hr142
                  refine lv_lload hx hb dX1_expected_145 (lv_at hl 0 rfl) ?_
                  refine rl_set (x' := lN (420 * EX P 0 (P 0 + 1 - i) j)) (exp_conv hPI (by omega) (by omega) (by omega) (by omega) (by omega) hw hb2 (FD_wk hF) (by omega) rfl rfl) ?_
                  refine rl_ast hx hb hK hP hD hS 3 0 (F := f3) rfl rfl dX1_expected_147 (by decide) (by omega) (fun H locs hP hD hS => ?_)
                  have hP : va_P (dC, dI) vwCl [(h0, .inr (1, [.ref q1, .ref q2, .ref q3, .int (nI sv), .int (nI (P 0)), .long (lN (P 2 * 2116800))])), (q1, .inl (cL, 49, .inr (.inl w))), (q2, .inl (cL, 32, .inr (.inl b))), (q3, .inl (cL, 32, .inr (.inl (updL f3 (((i - 1) * 4) + j) (lN (420 * EX P 0 (P 0 + 1 - i) j))))))] H := hP
                  have hD : va_D A [(h0, .inr (1, [.ref q1, .ref q2, .ref q3, .int (nI sv), .int (nI (P 0)), .long (lN (P 2 * 2116800))])), (q1, .inl (cL, 49, .inr (.inl w))), (q2, .inl (cL, 32, .inr (.inl b))), (q3, .inl (cL, 32, .inr (.inl (updL f3 (((i - 1) * 4) + j) (lN (420 * EX P 0 (P 0 + 1 - i) j))))))] := hD
                  refine lv_iinc (v := nI (j + 1)) (lv' := [(6, .int (nI (j + 1))), (7, .long ((sumL (mfF w b f3 0 i j) i / lN i) + (lN 2116800))), (0, .ref h0), (1, .int (nI 0)), (2, .int (nI k)), (3, .int (nI 1)), (4, .int (nI 0)), (5, .int (nI i))]) hx hb dX1_expected_148 hl (k := 7) rfl (inc1 _) (by decide) rfl (fun ls hl => ?_)
                  refine lv_goto (tgt := 88) hx hb dX1_expected_151 (by decide) ?_
                  exact ih88 (j + 1) (updL f3 (((i - 1) * 4) + j) (lN (420 * EX P 0 (P 0 + 1 - i) j))) _ _ _ (by show _ < _; omega) (by exact ⟨lv_sub hl [2, 3, 4, 5, 6, 7, 0] rfl, hP.sub [0, 1, 2, 3] rfl, hD.sub [0, 1, 2, 3] (by decide) rfl, hS, by omega, by omega, FD_put hF (by omega) (by omega) (by omega) rfl⟩)
        · exact absurd c31 (by decide)
      · exact absurd c12 (by decide)
  · refine lv_iload_n hx hb dX1_expected_0 rfl (lv_at hl 1 rfl) ?_
    refine ri_zne (tgt := 8) hx hb dX1_expected_1 (by decide) (by omega) (fun c1 => ?_) (fun c1 => ?_)
    · refine lv_iconst (v := nI 0) hx hb dX1_expected_8 (by decide) ?_
      refine lv_istore_n (lv' := [(3, .int (nI 0)), (0, .ref h0), (1, .int (nI 1)), (2, .int (nI k))]) hx hb dX1_expected_9 rfl hl (by decide) rfl (fun ls hl => ?_)
      refine lv_iload_n hx hb dX1_expected_10 rfl (lv_at hl 2 rfl) ?_
      refine lv_iconst (v := nI 1) hx hb dX1_expected_11 (by decide) ?_
      refine ri_cne (tgt := 19) hx hb dX1_expected_12 (by decide) (by omega) (by omega) (fun c12 => ?_) (fun c12 => ?_)
      · exact absurd c12 (by decide)
      · refine lv_iconst (v := nI 1) hx hb dX1_expected_15 (by decide) ?_
        refine lv_goto (tgt := 20) hx hb dX1_expected_16 (by decide) ?_
        refine lv_istore (lv' := [(4, .int (nI 1)), (3, .int (nI 0)), (0, .ref h0), (1, .int (nI 1)), (2, .int (nI k))]) hx hb dX1_expected_20 hl (by decide) rfl (fun ls hl => ?_)
        refine lv_aload_n hx hb dX1_expected_22 rfl (lv_at hl 2 rfl) ?_
        refine lv_aload_n hx hb dX1_expected_23 rfl (lv_at hl 2 rfl) ?_
        refine va_get (D := (dC, dI)) (ci := 1) (v := .ref q3) (C := RX1) (T := TX1) (N := 6) hx hb hts inlX1 hown hK hP 0 rfl rfl 2 (by decide) (hts _ qf_X1_18) (fun _ h9 => h9) rfl dX1_expected_24 ?_
        refine kQv (As := [.ref q3]) (rest := []) (wr := [(q1, .inl (cL, 49, .inr (.inl w))), (q2, .inl (cL, 32, .inr (.inl b)))]) Y m_X1_clearEnds (c_X1_clearEnds l dC dI _ cL h0 q1 q2 q3 q3 f sv (P 0) (lN (P 2 * 2116800)) (by omega) (by omega)) qm_X1_47 hP hD hS hA [0, 3] [1, 2] rfl rfl (by decide) (by decide) (kqV (ci := 1) hK hP hD hZ hS hA [0, 3] [0] rfl (by decide) rfl 0 rfl rfl rfl) rfl hl.1 rfl (Nat.le_of_ble_eq_true rfl) dX1_expected_27 ⟨Nat.le_of_ble_eq_true rfl, Nat.le_of_ble_eq_true rfl⟩ ⟨Nat.zero_le _, Nat.zero_le _⟩ (fun u27 H locs hr27 hP hD hS => ?_)
        obtain ⟨g2_27, rfl⟩ : ∃ z, z = u27 := ⟨_, rfl⟩
        have hP : va_P (dC, dI) vwCl [(q1, .inl (cL, 49, .inr (.inl w))), (q2, .inl (cL, 32, .inr (.inl b))), (h0, .inr (1, [.ref q1, .ref q2, .ref q3, .int (nI sv), .int (nI (P 0)), .long (lN (P 2 * 2116800))])), (q3, .inl (cL, 32, .inr (.inl g2_27)))] H := hP
        have hD : va_D A [(q1, .inl (cL, 49, .inr (.inl w))), (q2, .inl (cL, 32, .inr (.inl b))), (h0, .inr (1, [.ref q1, .ref q2, .ref q3, .int (nI sv), .int (nI (P 0)), .long (lN (P 2 * 2116800))])), (q3, .inl (cL, 32, .inr (.inl g2_27)))] := hD
        have hr27 : g2_27 = clr (P 0) f := hr27
        refine lv_iload_n hx hb dX1_expected_30 rfl (lv_at hl 1 rfl) ?_
        refine ri_zne (tgt := 73) hx hb dX1_expected_31 (by decide) (by omega) (fun c31 => ?_) (fun c31 => ?_)
        · exact absurd c31 (by decide)
        · refine lv_iload hx hb dX1_expected_34 (lv_at hl 0 rfl) ?_
          refine ri_zne (tgt := 73) hx hb dX1_expected_36 (by decide) (by omega) (fun c36 => ?_) (fun c36 => ?_)
          · refine lv_aload_n hx hb dX1_expected_73 rfl (lv_at hl 2 rfl) ?_
            refine va_get (D := (dC, dI)) (ci := 1) (v := .int (nI (P 0))) (C := RX1) (T := TX1) (N := 6) hx hb hts inlX1 hown hK hP 2 rfl rfl 4 (by decide) (hts _ qf_X1_33) (fun _ h9 => h9) rfl dX1_expected_74 ?_
            refine lv_istore (lv' := [(5, .int (nI (P 0))), (4, .int (nI 1)), (3, .int (nI 0)), (0, .ref h0), (1, .int (nI 1)), (2, .int (nI k))]) hx hb dX1_expected_77 hl (by decide) rfl (fun ls hl => ?_)
            refine wl2 (fun (i : Nat) (f1 : Nat → Int64) => i) (fun (i : Nat) (f1 : Nat → Int64) (ls : Array Slot) (H : Heap) (locs : List Loc) => lv_has ls 9 [(0, .ref h0), (1, .int (nI 1)), (2, .int (nI k)), (3, .int (nI 0)), (4, .int (nI 1)), (5, .int (nI i))] ∧ va_P (dC, dI) vwCl [(h0, .inr (1, [.ref q1, .ref q2, .ref q3, .int (nI sv), .int (nI (P 0)), .long (lN (P 2 * 2116800))])), (q1, .inl (cL, 49, .inr (.inl w))), (q2, .inl (cL, 32, .inr (.inl b))), (q3, .inl (cL, 32, .inr (.inl f1)))] H ∧ va_D A [(h0, .inr (1, [.ref q1, .ref q2, .ref q3, .int (nI sv), .int (nI (P 0)), .long (lN (P 2 * 2116800))])), (q1, .inl (cL, 49, .inr (.inl w))), (q2, .inl (cL, 32, .inr (.inl b))), (q3, .inl (cL, 32, .inr (.inl f1)))] ∧ va_S A s.heap H locs ∧ (i ≤ P 0 ∧ FD (P 0) k (ET P 420 1) f1 i 1)) (P 0) g2_27 (by exact ⟨lv_sub hl [3, 4, 5, 2, 1, 0] rfl, hP.sub [2, 0, 1, 3] rfl, hD.sub [2, 0, 1, 3] (by decide) rfl, hS, by omega, by rw [hr27]; exact FD_clr (by omega) (ET_0 (by decide)).1 (ET_0 (by decide)).2⟩) (fun i f1 ls H locs hI ih => ?_)
            obtain ⟨hl, hP, hD, hS, hi2, hF0⟩ := hI
            have ih79 := ih
            refine lv_iload hx hb dX1_expected_79 (lv_at hl 5 rfl) ?_
            refine lv_iconst (v := nI 1) hx hb dX1_expected_81 (by decide) ?_
            refine ri_clt (tgt := 160) hx hb dX1_expected_82 (by decide) (by omega) (by omega) (fun c82 => ?_) (fun c82 => ?_)
            · obtain rfl : i = 0 := by omega
              refine lv_aload_n hx hb dX1_expected_160 rfl (lv_at hl 0 rfl) ?_
              refine va_get (D := (dC, dI)) (ci := 1) (v := .ref q3) (C := RX1) (T := TX1) (N := 6) hx hb hts inlX1 hown hK hP 0 rfl rfl 2 (by decide) (hts _ qf_X1_18) (fun _ h9 => h9) rfl dX1_expected_161 ?_
              refine lv_iconst (v := nI 1) hx hb dX1_expected_164 (by decide) ?_
              refine lv_iload_n hx hb dX1_expected_165 rfl (lv_at hl 2 rfl) ?_
              refine kSi (As := [.int (nI 1), .int (nI k)]) (rest := [.ref q3]) Y m_X1_place (c_X1_place l dC dI 1 k (by omega)) qm_X1_21 (kpS hK hP hZ hS [] [] rfl rfl) rfl hl.1 rfl (Nat.le_of_ble_eq_true rfl) dX1_expected_166 ⟨Nat.le_of_ble_eq_true rfl, Nat.le_of_ble_eq_true rfl⟩ ⟨Nat.zero_le _, Nat.zero_le _⟩ (fun r166 hr166 => ?_)
              obtain rfl : r166 = nI (((1 - 1) * 4) + k) := hr166
              refine rl_ald hx hb hK hP 3 0 (F := f1) rfl rfl dX1_expected_169 (by decide) (by omega) ?_
              refine rl_set (x' := lN (420 * EX P 1 (P 0) k)) (FD_all hF0 (by decide) (by omega) (by omega)) ?_
              exact kql (w1 := (fun u : Nat → Int64 => [(h0, .inr (1, [.ref q1, .ref q2, .ref q3, .int (nI sv), .int (nI (P 0)), .long (lN (P 2 * 2116800))])), (q1, .inl (cL, 49, .inr (.inl w))), (q2, .inl (cL, 32, .inr (.inl b))), (q3, .inl (cL, 32, .inr (.inl u)))])) (v := lN (420 * EX P 1 (P 0) k)) Y hr hlocks hK hP hD hS [0, 1, 2, 3] (by decide) (f1) rfl rfl dX1_expected_170
            · refine lv_iconst (v := nI 1) hx hb dX1_expected_85 (by decide) ?_
              refine lv_istore (lv' := [(6, .int (nI 1)), (0, .ref h0), (1, .int (nI 1)), (2, .int (nI k)), (3, .int (nI 0)), (4, .int (nI 1)), (5, .int (nI i))]) hx hb dX1_expected_86 hl (by decide) rfl (fun ls hl => ?_)
              refine wl2 (fun (j : Nat) (f3 : Nat → Int64) => k + 1 - j) (fun (j : Nat) (f3 : Nat → Int64) (ls : Array Slot) (H : Heap) (locs : List Loc) => lv_has ls 9 [(0, .ref h0), (1, .int (nI 1)), (2, .int (nI k)), (3, .int (nI 0)), (4, .int (nI 1)), (5, .int (nI i)), (6, .int (nI j))] ∧ va_P (dC, dI) vwCl [(h0, .inr (1, [.ref q1, .ref q2, .ref q3, .int (nI sv), .int (nI (P 0)), .long (lN (P 2 * 2116800))])), (q1, .inl (cL, 49, .inr (.inl w))), (q2, .inl (cL, 32, .inr (.inl b))), (q3, .inl (cL, 32, .inr (.inl f3)))] H ∧ va_D A [(h0, .inr (1, [.ref q1, .ref q2, .ref q3, .int (nI sv), .int (nI (P 0)), .long (lN (P 2 * 2116800))])), (q1, .inl (cL, 49, .inr (.inl w))), (q2, .inl (cL, 32, .inr (.inl b))), (q3, .inl (cL, 32, .inr (.inl f3)))] ∧ va_S A s.heap H locs ∧ (1 ≤ j ∧ j ≤ k + 1 ∧ FD (P 0) k (ET P 420 1) f3 i j)) 1 f1 (by exact ⟨lv_sub hl [1, 2, 3, 4, 5, 6, 0] rfl, hP.sub [0, 1, 2, 3] rfl, hD.sub [0, 1, 2, 3] (by decide) rfl, hS, by omega, by omega, hF0⟩) (fun j f3 ls H locs hI ih => ?_)
              obtain ⟨hl, hP, hD, hS, hj1, hj2, hF⟩ := hI
              have ih88 := ih
              refine lv_iload hx hb dX1_expected_88 (lv_at hl 6 rfl) ?_
              refine lv_iload_n hx hb dX1_expected_90 rfl (lv_at hl 2 rfl) ?_
              refine ri_cgt (tgt := 154) hx hb dX1_expected_91 (by decide) (by omega) (by omega) (fun c91 => ?_) (fun c91 => ?_)
              · refine lv_iinc (v := nI (i - 1)) (lv' := [(5, .int (nI (i - 1))), (0, .ref h0), (1, .int (nI 1)), (2, .int (nI k)), (3, .int (nI 0)), (4, .int (nI 1)), (6, .int (nI j))]) hx hb dX1_expected_154 hl (k := 5) rfl (dec1 (by omega)) (by decide) rfl (fun ls hl => ?_)
                refine lv_goto (tgt := 79) hx hb dX1_expected_157 (by decide) ?_
                exact ih79 (i - 1) f3 _ _ _ (by show _ < _; omega) (by exact ⟨lv_sub hl [1, 2, 3, 4, 5, 0] rfl, hP.sub [0, 1, 2, 3] rfl, hD.sub [0, 1, 2, 3] (by decide) rfl, hS, by omega, FD_next hF (by omega)⟩)
              · refine lv_lconst (v := lN 0) hx hb dX1_expected_94 rfl ?_
                refine lv_lstore (lv' := [(7, .long (lN 0)), (0, .ref h0), (1, .int (nI 1)), (2, .int (nI k)), (3, .int (nI 0)), (4, .int (nI 1)), (5, .int (nI i)), (6, .int (nI j))]) hx hb dX1_expected_95 hl (by decide) rfl (fun ls hl => ?_)
                refine lv_aload_n hx hb dX1_expected_97 rfl (lv_at hl 1 rfl) ?_
                refine lv_iload hx hb dX1_expected_98 (lv_at hl 6 rfl) ?_
                refine lv_iload hx hb dX1_expected_100 (lv_at hl 7 rfl) ?_
                refine kVl (As := [.int (nI i), .int (nI j)]) (rest := []) Y m_X1_valueBefore (c_X1_valueBefore l dC dI cL h0 q1 q2 q3 w b f3 sv (P 0) (lN (P 2 * 2116800)) i j (by omega) (by omega) (by omega)) qm_X1_60 (kpV (ci := 1) hK hP hZ hS [0, 1, 2, 3] [0] rfl rfl 0 rfl rfl rfl) rfl hl.1 rfl (Nat.le_of_ble_eq_true rfl) dX1_expected_102 ⟨Nat.le_of_ble_eq_true rfl, Nat.le_of_ble_eq_true rfl⟩ ⟨Nat.zero_le _, Nat.zero_le _⟩ (fun r102 hr102 => ?_)
                obtain rfl : r102 = b (((i - 1) * 4) + j) := hr102
                refine rl_set (x' := lN (420 * VR P (P 0 + 1 - i) j)) (hb2 i j (by omega) (by omega) (by omega)) ?_
                have hvb := VR_le hPI (P 0 + 1 - i) j (by omega)
                refine lv_lconst (v := lN 0) hx hb dX1_expected_105 rfl ?_
                refine rl_eqn (tgt := 134) hx hb dX1_expected_106 dX1_expected_107 (by decide) (by omega) (by omega) (fun c106 => ?_) (fun c106 => ?_)
                · refine lv_aload_n hx hb dX1_expected_134 rfl (lv_at hl 1 rfl) ?_
                  refine va_get (D := (dC, dI)) (ci := 1) (v := .ref q3) (C := RX1) (T := TX1) (N := 6) hx hb hts inlX1 hown hK hP 0 rfl rfl 2 (by decide) (hts _ qf_X1_18) (fun _ h9 => h9) rfl dX1_expected_135 ?_
                  refine lv_iload hx hb dX1_expected_138 (lv_at hl 6 rfl) ?_
                  refine lv_iload hx hb dX1_expected_140 (lv_at hl 7 rfl) ?_
                  refine kSi (As := [.int (nI i), .int (nI j)]) (rest := [.ref q3]) Y m_X1_place (c_X1_place l dC dI i j (by omega)) qm_X1_21 (kpS hK hP hZ hS [] [] rfl rfl) rfl hl.1 rfl (Nat.le_of_ble_eq_true rfl) dX1_expected_142 ⟨Nat.le_of_ble_eq_true rfl, Nat.le_of_ble_eq_true rfl⟩ ⟨Nat.zero_le _, Nat.zero_le _⟩ (fun r142 hr142 => ?_)
                  obtain rfl : r142 = nI (((i - 1) * 4) + j) := hr142
                  refine lv_lload hx hb dX1_expected_145 (lv_at hl 0 rfl) ?_
                  refine rl_set (x' := lN (420 * EX P 1 (P 0 + 1 - i) j)) (exp_z (by omega) (by omega)) ?_
                  refine rl_ast hx hb hK hP hD hS 3 0 (F := f3) rfl rfl dX1_expected_147 (by decide) (by omega) (fun H locs hP hD hS => ?_)
                  have hP : va_P (dC, dI) vwCl [(h0, .inr (1, [.ref q1, .ref q2, .ref q3, .int (nI sv), .int (nI (P 0)), .long (lN (P 2 * 2116800))])), (q1, .inl (cL, 49, .inr (.inl w))), (q2, .inl (cL, 32, .inr (.inl b))), (q3, .inl (cL, 32, .inr (.inl (updL f3 (((i - 1) * 4) + j) (lN (420 * EX P 1 (P 0 + 1 - i) j))))))] H := hP
                  have hD : va_D A [(h0, .inr (1, [.ref q1, .ref q2, .ref q3, .int (nI sv), .int (nI (P 0)), .long (lN (P 2 * 2116800))])), (q1, .inl (cL, 49, .inr (.inl w))), (q2, .inl (cL, 32, .inr (.inl b))), (q3, .inl (cL, 32, .inr (.inl (updL f3 (((i - 1) * 4) + j) (lN (420 * EX P 1 (P 0 + 1 - i) j))))))] := hD
                  refine lv_iinc (v := nI (j + 1)) (lv' := [(6, .int (nI (j + 1))), (7, .long (lN 0)), (0, .ref h0), (1, .int (nI 1)), (2, .int (nI k)), (3, .int (nI 0)), (4, .int (nI 1)), (5, .int (nI i))]) hx hb dX1_expected_148 hl (k := 7) rfl (inc1 _) (by decide) rfl (fun ls hl => ?_)
                  refine lv_goto (tgt := 88) hx hb dX1_expected_151 (by decide) ?_
                  exact ih88 (j + 1) (updL f3 (((i - 1) * 4) + j) (lN (420 * EX P 1 (P 0 + 1 - i) j))) _ _ _ (by show _ < _; omega) (by exact ⟨lv_sub hl [2, 3, 4, 5, 6, 7, 0] rfl, hP.sub [0, 1, 2, 3] rfl, hD.sub [0, 1, 2, 3] (by decide) rfl, hS, by omega, by omega, FD_put hF (by omega) (by omega) (by omega) rfl⟩)
                · refine lv_aload_n hx hb dX1_expected_110 rfl (lv_at hl 1 rfl) ?_
                  refine lv_iload hx hb dX1_expected_111 (lv_at hl 6 rfl) ?_
                  refine lv_iload hx hb dX1_expected_113 (lv_at hl 7 rfl) ?_
                  refine lv_iload hx hb dX1_expected_115 (lv_at hl 5 rfl) ?_
                  refine kVl (As := [.int (nI i), .int (nI j), .int (nI 1)]) (rest := []) Y m_X1_meanFollowed (c_X1_meanFollowed l dC dI cL h0 q1 q2 q3 w b f3 sv (P 0) (lN (P 2 * 2116800)) i j 1 (by omega) (by omega) (by omega) (by omega) (by omega)) qm_X1_63 (kpV (ci := 1) hK hP hZ hS [0, 1, 2, 3] [0] rfl rfl 0 rfl rfl rfl) rfl hl.1 rfl (Nat.le_of_ble_eq_true rfl) dX1_expected_117 ⟨Nat.le_of_ble_eq_true rfl, Nat.le_of_ble_eq_true rfl⟩ ⟨Nat.zero_le _, Nat.zero_le _⟩ (fun r117 hr117 => ?_)
                  obtain rfl : r117 = sumL (mfF w b f3 1 i j) i / lN i := hr117
                  refine lv_iload_n hx hb dX1_expected_120 rfl (lv_at hl 4 rfl) ?_
                  refine ri_zeq (tgt := 130) hx hb dX1_expected_121 (by decide) (by omega) (fun c121 => ?_) (fun c121 => ?_)
                  · refine lv_lconst (v := lN 0) hx hb dX1_expected_130 rfl ?_
                    refine lv_ladd hx hb dX1_expected_131 ?_
                    refine lv_lstore (lv' := [(7, .long ((sumL (mfF w b f3 1 i j) i / lN i) + (lN 0))), (0, .ref h0), (1, .int (nI 1)), (2, .int (nI k)), (3, .int (nI 0)), (4, .int (nI 1)), (5, .int (nI i)), (6, .int (nI j))]) hx hb dX1_expected_132 hl (by decide) rfl (fun ls hl => ?_)
                    refine lv_aload_n hx hb dX1_expected_134 rfl (lv_at hl 1 rfl) ?_
                    refine va_get (D := (dC, dI)) (ci := 1) (v := .ref q3) (C := RX1) (T := TX1) (N := 6) hx hb hts inlX1 hown hK hP 0 rfl rfl 2 (by decide) (hts _ qf_X1_18) (fun _ h9 => h9) rfl dX1_expected_135 ?_
                    refine lv_iload hx hb dX1_expected_138 (lv_at hl 6 rfl) ?_
                    refine lv_iload hx hb dX1_expected_140 (lv_at hl 7 rfl) ?_
                    refine kSi (As := [.int (nI i), .int (nI j)]) (rest := [.ref q3]) Y m_X1_place (c_X1_place l dC dI i j (by omega)) qm_X1_21 (kpS hK hP hZ hS [] [] rfl rfl) rfl hl.1 rfl (Nat.le_of_ble_eq_true rfl) dX1_expected_142 ⟨Nat.le_of_ble_eq_true rfl, Nat.le_of_ble_eq_true rfl⟩ ⟨Nat.zero_le _, Nat.zero_le _⟩ (fun r142 hr142 => ?_)
                    obtain rfl : r142 = nI (((i - 1) * 4) + j) := hr142
                    refine lv_lload hx hb dX1_expected_145 (lv_at hl 0 rfl) ?_
                    refine rl_set (x' := lN (420 * EX P 1 (P 0 + 1 - i) j)) (exp_conv hPI (by omega) (by omega) (by omega) (by omega) (by omega) hw hb2 (FD_wk hF) (by omega) rfl rfl) ?_
                    refine rl_ast hx hb hK hP hD hS 3 0 (F := f3) rfl rfl dX1_expected_147 (by decide) (by omega) (fun H locs hP hD hS => ?_)
                    have hP : va_P (dC, dI) vwCl [(h0, .inr (1, [.ref q1, .ref q2, .ref q3, .int (nI sv), .int (nI (P 0)), .long (lN (P 2 * 2116800))])), (q1, .inl (cL, 49, .inr (.inl w))), (q2, .inl (cL, 32, .inr (.inl b))), (q3, .inl (cL, 32, .inr (.inl (updL f3 (((i - 1) * 4) + j) (lN (420 * EX P 1 (P 0 + 1 - i) j))))))] H := hP
                    have hD : va_D A [(h0, .inr (1, [.ref q1, .ref q2, .ref q3, .int (nI sv), .int (nI (P 0)), .long (lN (P 2 * 2116800))])), (q1, .inl (cL, 49, .inr (.inl w))), (q2, .inl (cL, 32, .inr (.inl b))), (q3, .inl (cL, 32, .inr (.inl (updL f3 (((i - 1) * 4) + j) (lN (420 * EX P 1 (P 0 + 1 - i) j))))))] := hD
                    refine lv_iinc (v := nI (j + 1)) (lv' := [(6, .int (nI (j + 1))), (7, .long ((sumL (mfF w b f3 1 i j) i / lN i) + (lN 0))), (0, .ref h0), (1, .int (nI 1)), (2, .int (nI k)), (3, .int (nI 0)), (4, .int (nI 1)), (5, .int (nI i))]) hx hb dX1_expected_148 hl (k := 7) rfl (inc1 _) (by decide) rfl (fun ls hl => ?_)
                    refine lv_goto (tgt := 88) hx hb dX1_expected_151 (by decide) ?_
                    exact ih88 (j + 1) (updL f3 (((i - 1) * 4) + j) (lN (420 * EX P 1 (P 0 + 1 - i) j))) _ _ _ (by show _ < _; omega) (by exact ⟨lv_sub hl [2, 3, 4, 5, 6, 7, 0] rfl, hP.sub [0, 1, 2, 3] rfl, hD.sub [0, 1, 2, 3] (by decide) rfl, hS, by omega, by omega, FD_put hF (by omega) (by omega) (by omega) rfl⟩)
                  · exact absurd c121 (by decide)
          · exact absurd c36 (by decide)
    · exact absurd c1 (by decide)
  · refine lv_iload_n hx hb dX1_expected_0 rfl (lv_at hl 1 rfl) ?_
    refine ri_zne (tgt := 8) hx hb dX1_expected_1 (by decide) (by omega) (fun c1 => ?_) (fun c1 => ?_)
    · refine lv_iconst (v := nI 0) hx hb dX1_expected_8 (by decide) ?_
      refine lv_istore_n (lv' := [(3, .int (nI 0)), (0, .ref h0), (1, .int (nI 2)), (2, .int (nI k))]) hx hb dX1_expected_9 rfl hl (by decide) rfl (fun ls hl => ?_)
      refine lv_iload_n hx hb dX1_expected_10 rfl (lv_at hl 2 rfl) ?_
      refine lv_iconst (v := nI 1) hx hb dX1_expected_11 (by decide) ?_
      refine ri_cne (tgt := 19) hx hb dX1_expected_12 (by decide) (by omega) (by omega) (fun c12 => ?_) (fun c12 => ?_)
      · refine lv_iconst (v := nI 0) hx hb dX1_expected_19 (by decide) ?_
        refine lv_istore (lv' := [(4, .int (nI 0)), (3, .int (nI 0)), (0, .ref h0), (1, .int (nI 2)), (2, .int (nI k))]) hx hb dX1_expected_20 hl (by decide) rfl (fun ls hl => ?_)
        refine lv_aload_n hx hb dX1_expected_22 rfl (lv_at hl 2 rfl) ?_
        refine lv_aload_n hx hb dX1_expected_23 rfl (lv_at hl 2 rfl) ?_
        refine va_get (D := (dC, dI)) (ci := 1) (v := .ref q3) (C := RX1) (T := TX1) (N := 6) hx hb hts inlX1 hown hK hP 0 rfl rfl 2 (by decide) (hts _ qf_X1_18) (fun _ h9 => h9) rfl dX1_expected_24 ?_
        refine kQv (As := [.ref q3]) (rest := []) (wr := [(q1, .inl (cL, 49, .inr (.inl w))), (q2, .inl (cL, 32, .inr (.inl b)))]) Y m_X1_clearEnds (c_X1_clearEnds l dC dI _ cL h0 q1 q2 q3 q3 f sv (P 0) (lN (P 2 * 2116800)) (by omega) (by omega)) qm_X1_47 hP hD hS hA [0, 3] [1, 2] rfl rfl (by decide) (by decide) (kqV (ci := 1) hK hP hD hZ hS hA [0, 3] [0] rfl (by decide) rfl 0 rfl rfl rfl) rfl hl.1 rfl (Nat.le_of_ble_eq_true rfl) dX1_expected_27 ⟨Nat.le_of_ble_eq_true rfl, Nat.le_of_ble_eq_true rfl⟩ ⟨Nat.zero_le _, Nat.zero_le _⟩ (fun u27 H locs hr27 hP hD hS => ?_)
        obtain ⟨g2_27, rfl⟩ : ∃ z, z = u27 := ⟨_, rfl⟩
        have hP : va_P (dC, dI) vwCl [(q1, .inl (cL, 49, .inr (.inl w))), (q2, .inl (cL, 32, .inr (.inl b))), (h0, .inr (1, [.ref q1, .ref q2, .ref q3, .int (nI sv), .int (nI (P 0)), .long (lN (P 2 * 2116800))])), (q3, .inl (cL, 32, .inr (.inl g2_27)))] H := hP
        have hD : va_D A [(q1, .inl (cL, 49, .inr (.inl w))), (q2, .inl (cL, 32, .inr (.inl b))), (h0, .inr (1, [.ref q1, .ref q2, .ref q3, .int (nI sv), .int (nI (P 0)), .long (lN (P 2 * 2116800))])), (q3, .inl (cL, 32, .inr (.inl g2_27)))] := hD
        have hr27 : g2_27 = clr (P 0) f := hr27
        refine lv_iload_n hx hb dX1_expected_30 rfl (lv_at hl 1 rfl) ?_
        refine ri_zne (tgt := 73) hx hb dX1_expected_31 (by decide) (by omega) (fun c31 => ?_) (fun c31 => ?_)
        · exact absurd c31 (by decide)
        · refine lv_iload hx hb dX1_expected_34 (lv_at hl 0 rfl) ?_
          refine ri_zne (tgt := 73) hx hb dX1_expected_36 (by decide) (by omega) (fun c36 => ?_) (fun c36 => ?_)
          · exact absurd c36 (by decide)
          · refine lv_iconst (v := nI 1) hx hb dX1_expected_39 (by decide) ?_
            refine lv_istore (lv' := [(5, .int (nI 1)), (4, .int (nI 0)), (3, .int (nI 0)), (0, .ref h0), (1, .int (nI 2)), (2, .int (nI k))]) hx hb dX1_expected_40 hl (by decide) rfl (fun ls hl => ?_)
            refine wl2 (fun (i4 : Nat) (f4 : Nat → Int64) => P 0 + 2 - i4) (fun (i4 : Nat) (f4 : Nat → Int64) (ls : Array Slot) (H : Heap) (locs : List Loc) => lv_has ls 9 [(0, .ref h0), (1, .int (nI 2)), (2, .int (nI k)), (3, .int (nI 0)), (4, .int (nI 0)), (5, .int (nI i4))] ∧ va_P (dC, dI) vwCl [(h0, .inr (1, [.ref q1, .ref q2, .ref q3, .int (nI sv), .int (nI (P 0)), .long (lN (P 2 * 2116800))])), (q1, .inl (cL, 49, .inr (.inl w))), (q2, .inl (cL, 32, .inr (.inl b))), (q3, .inl (cL, 32, .inr (.inl f4)))] H ∧ va_D A [(h0, .inr (1, [.ref q1, .ref q2, .ref q3, .int (nI sv), .int (nI (P 0)), .long (lN (P 2 * 2116800))])), (q1, .inl (cL, 49, .inr (.inl w))), (q2, .inl (cL, 32, .inr (.inl b))), (q3, .inl (cL, 32, .inr (.inl f4)))] ∧ va_S A s.heap H locs ∧ (1 ≤ i4 ∧ i4 ≤ P 0 + 2 ∧ (∀ i, 1 ≤ i → i < i4 → f4 (((i - 1) * 4) + 0) = lN 2116800) ∧ (∀ j, 1 ≤ j → j ≤ 3 → f4 ((((P 0 + 1) - 1) * 4) + j) = lN 0))) 1 g2_27 (by exact ⟨lv_sub hl [3, 4, 5, 2, 1, 0] rfl, hP.sub [2, 0, 1, 3] rfl, hD.sub [2, 0, 1, 3] (by decide) rfl, hS, by omega, by omega, fun i a b => by omega, fun j a b => by rw [hr27]; unfold clr; rw [if_pos (by omega)]⟩) (fun i4 f4 ls H locs hI ih => ?_)
            obtain ⟨hl, hP, hD, hS, hi41, hi42, hf1, hf2⟩ := hI
            have ih42 := ih
            refine lv_iload hx hb dX1_expected_42 (lv_at hl 5 rfl) ?_
            refine lv_aload_n hx hb dX1_expected_44 rfl (lv_at hl 0 rfl) ?_
            refine va_get (D := (dC, dI)) (ci := 1) (v := .int (nI (P 0))) (C := RX1) (T := TX1) (N := 6) hx hb hts inlX1 hown hK hP 0 rfl rfl 4 (by decide) (hts _ qf_X1_33) (fun _ h9 => h9) rfl dX1_expected_45 ?_
            refine lv_iconst (v := nI 1) hx hb dX1_expected_48 (by decide) ?_
            refine ri_add hx hb dX1_expected_49 ?_
            refine ri_cgt (tgt := 73) hx hb dX1_expected_50 (by decide) (by omega) (by omega) (fun c50 => ?_) (fun c50 => ?_)
            · refine lv_aload_n hx hb dX1_expected_73 rfl (lv_at hl 0 rfl) ?_
              refine va_get (D := (dC, dI)) (ci := 1) (v := .int (nI (P 0))) (C := RX1) (T := TX1) (N := 6) hx hb hts inlX1 hown hK hP 0 rfl rfl 4 (by decide) (hts _ qf_X1_33) (fun _ h9 => h9) rfl dX1_expected_74 ?_
              refine lv_istore (lv' := [(5, .int (nI (P 0))), (0, .ref h0), (1, .int (nI 2)), (2, .int (nI k)), (3, .int (nI 0)), (4, .int (nI 0))]) hx hb dX1_expected_77 hl (by decide) rfl (fun ls hl => ?_)
              refine wl2 (fun (i : Nat) (f1 : Nat → Int64) => i) (fun (i : Nat) (f1 : Nat → Int64) (ls : Array Slot) (H : Heap) (locs : List Loc) => lv_has ls 9 [(0, .ref h0), (1, .int (nI 2)), (2, .int (nI k)), (3, .int (nI 0)), (4, .int (nI 0)), (5, .int (nI i))] ∧ va_P (dC, dI) vwCl [(h0, .inr (1, [.ref q1, .ref q2, .ref q3, .int (nI sv), .int (nI (P 0)), .long (lN (P 2 * 2116800))])), (q1, .inl (cL, 49, .inr (.inl w))), (q2, .inl (cL, 32, .inr (.inl b))), (q3, .inl (cL, 32, .inr (.inl f1)))] H ∧ va_D A [(h0, .inr (1, [.ref q1, .ref q2, .ref q3, .int (nI sv), .int (nI (P 0)), .long (lN (P 2 * 2116800))])), (q1, .inl (cL, 49, .inr (.inl w))), (q2, .inl (cL, 32, .inr (.inl b))), (q3, .inl (cL, 32, .inr (.inl f1)))] ∧ va_S A s.heap H locs ∧ (i ≤ P 0 ∧ FD (P 0) k (ET P 420 2) f1 i 1)) (P 0) f4 (by exact ⟨lv_sub hl [1, 2, 3, 4, 5, 0] rfl, hP.sub [0, 1, 2, 3] rfl, hD.sub [0, 1, 2, 3] (by decide) rfl, hS, by omega, FD_two (by omega) (fun i a b => hf1 i a (by omega)) hf2⟩) (fun i f1 ls H locs hI ih => ?_)
              obtain ⟨hl, hP, hD, hS, hi2, hF0⟩ := hI
              have ih79 := ih
              refine lv_iload hx hb dX1_expected_79 (lv_at hl 5 rfl) ?_
              refine lv_iconst (v := nI 1) hx hb dX1_expected_81 (by decide) ?_
              refine ri_clt (tgt := 160) hx hb dX1_expected_82 (by decide) (by omega) (by omega) (fun c82 => ?_) (fun c82 => ?_)
              · obtain rfl : i = 0 := by omega
                refine lv_aload_n hx hb dX1_expected_160 rfl (lv_at hl 0 rfl) ?_
                refine va_get (D := (dC, dI)) (ci := 1) (v := .ref q3) (C := RX1) (T := TX1) (N := 6) hx hb hts inlX1 hown hK hP 0 rfl rfl 2 (by decide) (hts _ qf_X1_18) (fun _ h9 => h9) rfl dX1_expected_161 ?_
                refine lv_iconst (v := nI 1) hx hb dX1_expected_164 (by decide) ?_
                refine lv_iload_n hx hb dX1_expected_165 rfl (lv_at hl 2 rfl) ?_
                refine kSi (As := [.int (nI 1), .int (nI k)]) (rest := [.ref q3]) Y m_X1_place (c_X1_place l dC dI 1 k (by omega)) qm_X1_21 (kpS hK hP hZ hS [] [] rfl rfl) rfl hl.1 rfl (Nat.le_of_ble_eq_true rfl) dX1_expected_166 ⟨Nat.le_of_ble_eq_true rfl, Nat.le_of_ble_eq_true rfl⟩ ⟨Nat.zero_le _, Nat.zero_le _⟩ (fun r166 hr166 => ?_)
                obtain rfl : r166 = nI (((1 - 1) * 4) + k) := hr166
                refine rl_ald hx hb hK hP 3 0 (F := f1) rfl rfl dX1_expected_169 (by decide) (by omega) ?_
                refine rl_set (x' := lN (420 * EX P 2 (P 0) k)) (FD_all hF0 (by decide) (by omega) (by omega)) ?_
                exact kql (w1 := (fun u : Nat → Int64 => [(h0, .inr (1, [.ref q1, .ref q2, .ref q3, .int (nI sv), .int (nI (P 0)), .long (lN (P 2 * 2116800))])), (q1, .inl (cL, 49, .inr (.inl w))), (q2, .inl (cL, 32, .inr (.inl b))), (q3, .inl (cL, 32, .inr (.inl u)))])) (v := lN (420 * EX P 2 (P 0) k)) Y hr hlocks hK hP hD hS [0, 1, 2, 3] (by decide) (f1) rfl rfl dX1_expected_170
              · refine lv_iconst (v := nI 1) hx hb dX1_expected_85 (by decide) ?_
                refine lv_istore (lv' := [(6, .int (nI 1)), (0, .ref h0), (1, .int (nI 2)), (2, .int (nI k)), (3, .int (nI 0)), (4, .int (nI 0)), (5, .int (nI i))]) hx hb dX1_expected_86 hl (by decide) rfl (fun ls hl => ?_)
                refine wl2 (fun (j : Nat) (f3 : Nat → Int64) => k + 1 - j) (fun (j : Nat) (f3 : Nat → Int64) (ls : Array Slot) (H : Heap) (locs : List Loc) => lv_has ls 9 [(0, .ref h0), (1, .int (nI 2)), (2, .int (nI k)), (3, .int (nI 0)), (4, .int (nI 0)), (5, .int (nI i)), (6, .int (nI j))] ∧ va_P (dC, dI) vwCl [(h0, .inr (1, [.ref q1, .ref q2, .ref q3, .int (nI sv), .int (nI (P 0)), .long (lN (P 2 * 2116800))])), (q1, .inl (cL, 49, .inr (.inl w))), (q2, .inl (cL, 32, .inr (.inl b))), (q3, .inl (cL, 32, .inr (.inl f3)))] H ∧ va_D A [(h0, .inr (1, [.ref q1, .ref q2, .ref q3, .int (nI sv), .int (nI (P 0)), .long (lN (P 2 * 2116800))])), (q1, .inl (cL, 49, .inr (.inl w))), (q2, .inl (cL, 32, .inr (.inl b))), (q3, .inl (cL, 32, .inr (.inl f3)))] ∧ va_S A s.heap H locs ∧ (1 ≤ j ∧ j ≤ k + 1 ∧ FD (P 0) k (ET P 420 2) f3 i j)) 1 f1 (by exact ⟨lv_sub hl [1, 2, 3, 4, 5, 6, 0] rfl, hP.sub [0, 1, 2, 3] rfl, hD.sub [0, 1, 2, 3] (by decide) rfl, hS, by omega, by omega, hF0⟩) (fun j f3 ls H locs hI ih => ?_)
                obtain ⟨hl, hP, hD, hS, hj1, hj2, hF⟩ := hI
                have ih88 := ih
                refine lv_iload hx hb dX1_expected_88 (lv_at hl 6 rfl) ?_
                refine lv_iload_n hx hb dX1_expected_90 rfl (lv_at hl 2 rfl) ?_
                refine ri_cgt (tgt := 154) hx hb dX1_expected_91 (by decide) (by omega) (by omega) (fun c91 => ?_) (fun c91 => ?_)
                · refine lv_iinc (v := nI (i - 1)) (lv' := [(5, .int (nI (i - 1))), (0, .ref h0), (1, .int (nI 2)), (2, .int (nI k)), (3, .int (nI 0)), (4, .int (nI 0)), (6, .int (nI j))]) hx hb dX1_expected_154 hl (k := 5) rfl (dec1 (by omega)) (by decide) rfl (fun ls hl => ?_)
                  refine lv_goto (tgt := 79) hx hb dX1_expected_157 (by decide) ?_
                  exact ih79 (i - 1) f3 _ _ _ (by show _ < _; omega) (by exact ⟨lv_sub hl [1, 2, 3, 4, 5, 0] rfl, hP.sub [0, 1, 2, 3] rfl, hD.sub [0, 1, 2, 3] (by decide) rfl, hS, by omega, FD_next hF (by omega)⟩)
                · refine lv_lconst (v := lN 0) hx hb dX1_expected_94 rfl ?_
                  refine lv_lstore (lv' := [(7, .long (lN 0)), (0, .ref h0), (1, .int (nI 2)), (2, .int (nI k)), (3, .int (nI 0)), (4, .int (nI 0)), (5, .int (nI i)), (6, .int (nI j))]) hx hb dX1_expected_95 hl (by decide) rfl (fun ls hl => ?_)
                  refine lv_aload_n hx hb dX1_expected_97 rfl (lv_at hl 1 rfl) ?_
                  refine lv_iload hx hb dX1_expected_98 (lv_at hl 6 rfl) ?_
                  refine lv_iload hx hb dX1_expected_100 (lv_at hl 7 rfl) ?_
                  refine kVl (As := [.int (nI i), .int (nI j)]) (rest := []) Y m_X1_valueBefore (c_X1_valueBefore l dC dI cL h0 q1 q2 q3 w b f3 sv (P 0) (lN (P 2 * 2116800)) i j (by omega) (by omega) (by omega)) qm_X1_60 (kpV (ci := 1) hK hP hZ hS [0, 1, 2, 3] [0] rfl rfl 0 rfl rfl rfl) rfl hl.1 rfl (Nat.le_of_ble_eq_true rfl) dX1_expected_102 ⟨Nat.le_of_ble_eq_true rfl, Nat.le_of_ble_eq_true rfl⟩ ⟨Nat.zero_le _, Nat.zero_le _⟩ (fun r102 hr102 => ?_)
                  obtain rfl : r102 = b (((i - 1) * 4) + j) := hr102
                  refine rl_set (x' := lN (420 * VR P (P 0 + 1 - i) j)) (hb2 i j (by omega) (by omega) (by omega)) ?_
                  have hvb := VR_le hPI (P 0 + 1 - i) j (by omega)
                  refine lv_lconst (v := lN 0) hx hb dX1_expected_105 rfl ?_
                  refine rl_eqn (tgt := 134) hx hb dX1_expected_106 dX1_expected_107 (by decide) (by omega) (by omega) (fun c106 => ?_) (fun c106 => ?_)
                  · refine lv_aload_n hx hb dX1_expected_134 rfl (lv_at hl 1 rfl) ?_
                    refine va_get (D := (dC, dI)) (ci := 1) (v := .ref q3) (C := RX1) (T := TX1) (N := 6) hx hb hts inlX1 hown hK hP 0 rfl rfl 2 (by decide) (hts _ qf_X1_18) (fun _ h9 => h9) rfl dX1_expected_135 ?_
                    refine lv_iload hx hb dX1_expected_138 (lv_at hl 6 rfl) ?_
                    refine lv_iload hx hb dX1_expected_140 (lv_at hl 7 rfl) ?_
                    refine kSi (As := [.int (nI i), .int (nI j)]) (rest := [.ref q3]) Y m_X1_place (c_X1_place l dC dI i j (by omega)) qm_X1_21 (kpS hK hP hZ hS [] [] rfl rfl) rfl hl.1 rfl (Nat.le_of_ble_eq_true rfl) dX1_expected_142 ⟨Nat.le_of_ble_eq_true rfl, Nat.le_of_ble_eq_true rfl⟩ ⟨Nat.zero_le _, Nat.zero_le _⟩ (fun r142 hr142 => ?_)
                    obtain rfl : r142 = nI (((i - 1) * 4) + j) := hr142
                    refine lv_lload hx hb dX1_expected_145 (lv_at hl 0 rfl) ?_
                    refine rl_set (x' := lN (420 * EX P 2 (P 0 + 1 - i) j)) (exp_z (by omega) (by omega)) ?_
                    refine rl_ast hx hb hK hP hD hS 3 0 (F := f3) rfl rfl dX1_expected_147 (by decide) (by omega) (fun H locs hP hD hS => ?_)
                    have hP : va_P (dC, dI) vwCl [(h0, .inr (1, [.ref q1, .ref q2, .ref q3, .int (nI sv), .int (nI (P 0)), .long (lN (P 2 * 2116800))])), (q1, .inl (cL, 49, .inr (.inl w))), (q2, .inl (cL, 32, .inr (.inl b))), (q3, .inl (cL, 32, .inr (.inl (updL f3 (((i - 1) * 4) + j) (lN (420 * EX P 2 (P 0 + 1 - i) j))))))] H := hP
                    have hD : va_D A [(h0, .inr (1, [.ref q1, .ref q2, .ref q3, .int (nI sv), .int (nI (P 0)), .long (lN (P 2 * 2116800))])), (q1, .inl (cL, 49, .inr (.inl w))), (q2, .inl (cL, 32, .inr (.inl b))), (q3, .inl (cL, 32, .inr (.inl (updL f3 (((i - 1) * 4) + j) (lN (420 * EX P 2 (P 0 + 1 - i) j))))))] := hD
                    refine lv_iinc (v := nI (j + 1)) (lv' := [(6, .int (nI (j + 1))), (7, .long (lN 0)), (0, .ref h0), (1, .int (nI 2)), (2, .int (nI k)), (3, .int (nI 0)), (4, .int (nI 0)), (5, .int (nI i))]) hx hb dX1_expected_148 hl (k := 7) rfl (inc1 _) (by decide) rfl (fun ls hl => ?_)
                    refine lv_goto (tgt := 88) hx hb dX1_expected_151 (by decide) ?_
                    exact ih88 (j + 1) (updL f3 (((i - 1) * 4) + j) (lN (420 * EX P 2 (P 0 + 1 - i) j))) _ _ _ (by show _ < _; omega) (by exact ⟨lv_sub hl [2, 3, 4, 5, 6, 7, 0] rfl, hP.sub [0, 1, 2, 3] rfl, hD.sub [0, 1, 2, 3] (by decide) rfl, hS, by omega, by omega, FD_put hF (by omega) (by omega) (by omega) rfl⟩)
                  · refine lv_aload_n hx hb dX1_expected_110 rfl (lv_at hl 1 rfl) ?_
                    refine lv_iload hx hb dX1_expected_111 (lv_at hl 6 rfl) ?_
                    refine lv_iload hx hb dX1_expected_113 (lv_at hl 7 rfl) ?_
                    refine lv_iload hx hb dX1_expected_115 (lv_at hl 5 rfl) ?_
                    refine kVl (As := [.int (nI i), .int (nI j), .int (nI 0)]) (rest := []) Y m_X1_meanFollowed (c_X1_meanFollowed l dC dI cL h0 q1 q2 q3 w b f3 sv (P 0) (lN (P 2 * 2116800)) i j 0 (by omega) (by omega) (by omega) (by omega) (by omega)) qm_X1_63 (kpV (ci := 1) hK hP hZ hS [0, 1, 2, 3] [0] rfl rfl 0 rfl rfl rfl) rfl hl.1 rfl (Nat.le_of_ble_eq_true rfl) dX1_expected_117 ⟨Nat.le_of_ble_eq_true rfl, Nat.le_of_ble_eq_true rfl⟩ ⟨Nat.zero_le _, Nat.zero_le _⟩ (fun r117 hr117 => ?_)
                    obtain rfl : r117 = sumL (mfF w b f3 0 i j) i / lN i := hr117
                    refine lv_iload_n hx hb dX1_expected_120 rfl (lv_at hl 4 rfl) ?_
                    refine ri_zeq (tgt := 130) hx hb dX1_expected_121 (by decide) (by omega) (fun c121 => ?_) (fun c121 => ?_)
                    · refine lv_lconst (v := lN 0) hx hb dX1_expected_130 rfl ?_
                      refine lv_ladd hx hb dX1_expected_131 ?_
                      refine lv_lstore (lv' := [(7, .long ((sumL (mfF w b f3 0 i j) i / lN i) + (lN 0))), (0, .ref h0), (1, .int (nI 2)), (2, .int (nI k)), (3, .int (nI 0)), (4, .int (nI 0)), (5, .int (nI i)), (6, .int (nI j))]) hx hb dX1_expected_132 hl (by decide) rfl (fun ls hl => ?_)
                      refine lv_aload_n hx hb dX1_expected_134 rfl (lv_at hl 1 rfl) ?_
                      refine va_get (D := (dC, dI)) (ci := 1) (v := .ref q3) (C := RX1) (T := TX1) (N := 6) hx hb hts inlX1 hown hK hP 0 rfl rfl 2 (by decide) (hts _ qf_X1_18) (fun _ h9 => h9) rfl dX1_expected_135 ?_
                      refine lv_iload hx hb dX1_expected_138 (lv_at hl 6 rfl) ?_
                      refine lv_iload hx hb dX1_expected_140 (lv_at hl 7 rfl) ?_
                      refine kSi (As := [.int (nI i), .int (nI j)]) (rest := [.ref q3]) Y m_X1_place (c_X1_place l dC dI i j (by omega)) qm_X1_21 (kpS hK hP hZ hS [] [] rfl rfl) rfl hl.1 rfl (Nat.le_of_ble_eq_true rfl) dX1_expected_142 ⟨Nat.le_of_ble_eq_true rfl, Nat.le_of_ble_eq_true rfl⟩ ⟨Nat.zero_le _, Nat.zero_le _⟩ (fun r142 hr142 => ?_)
                      obtain rfl : r142 = nI (((i - 1) * 4) + j) := hr142
                      refine lv_lload hx hb dX1_expected_145 (lv_at hl 0 rfl) ?_
                      refine rl_set (x' := lN (420 * EX P 2 (P 0 + 1 - i) j)) (exp_conv hPI (by omega) (by omega) (by omega) (by omega) (by omega) hw hb2 (FD_wk hF) (by omega) rfl rfl) ?_
                      refine rl_ast hx hb hK hP hD hS 3 0 (F := f3) rfl rfl dX1_expected_147 (by decide) (by omega) (fun H locs hP hD hS => ?_)
                      have hP : va_P (dC, dI) vwCl [(h0, .inr (1, [.ref q1, .ref q2, .ref q3, .int (nI sv), .int (nI (P 0)), .long (lN (P 2 * 2116800))])), (q1, .inl (cL, 49, .inr (.inl w))), (q2, .inl (cL, 32, .inr (.inl b))), (q3, .inl (cL, 32, .inr (.inl (updL f3 (((i - 1) * 4) + j) (lN (420 * EX P 2 (P 0 + 1 - i) j))))))] H := hP
                      have hD : va_D A [(h0, .inr (1, [.ref q1, .ref q2, .ref q3, .int (nI sv), .int (nI (P 0)), .long (lN (P 2 * 2116800))])), (q1, .inl (cL, 49, .inr (.inl w))), (q2, .inl (cL, 32, .inr (.inl b))), (q3, .inl (cL, 32, .inr (.inl (updL f3 (((i - 1) * 4) + j) (lN (420 * EX P 2 (P 0 + 1 - i) j))))))] := hD
                      refine lv_iinc (v := nI (j + 1)) (lv' := [(6, .int (nI (j + 1))), (7, .long ((sumL (mfF w b f3 0 i j) i / lN i) + (lN 0))), (0, .ref h0), (1, .int (nI 2)), (2, .int (nI k)), (3, .int (nI 0)), (4, .int (nI 0)), (5, .int (nI i))]) hx hb dX1_expected_148 hl (k := 7) rfl (inc1 _) (by decide) rfl (fun ls hl => ?_)
                      refine lv_goto (tgt := 88) hx hb dX1_expected_151 (by decide) ?_
                      exact ih88 (j + 1) (updL f3 (((i - 1) * 4) + j) (lN (420 * EX P 2 (P 0 + 1 - i) j))) _ _ _ (by show _ < _; omega) (by exact ⟨lv_sub hl [2, 3, 4, 5, 6, 7, 0] rfl, hP.sub [0, 1, 2, 3] rfl, hD.sub [0, 1, 2, 3] (by decide) rfl, hS, by omega, by omega, FD_put hF (by omega) (by omega) (by omega) rfl⟩)
                    · exact absurd c121 (by decide)
            · refine lv_aload_n hx hb dX1_expected_53 rfl (lv_at hl 0 rfl) ?_
              refine va_get (D := (dC, dI)) (ci := 1) (v := .ref q3) (C := RX1) (T := TX1) (N := 6) hx hb hts inlX1 hown hK hP 0 rfl rfl 2 (by decide) (hts _ qf_X1_18) (fun _ h9 => h9) rfl dX1_expected_54 ?_
              refine lv_iload hx hb dX1_expected_57 (lv_at hl 5 rfl) ?_
              refine lv_iconst (v := nI 0) hx hb dX1_expected_59 (by decide) ?_
              refine kSi (As := [.int (nI i4), .int (nI 0)]) (rest := [.ref q3]) Y m_X1_place (c_X1_place l dC dI i4 0 (by omega)) qm_X1_21 (kpS hK hP hZ hS [] [] rfl rfl) rfl hl.1 rfl (Nat.le_of_ble_eq_true rfl) dX1_expected_60 ⟨Nat.le_of_ble_eq_true rfl, Nat.le_of_ble_eq_true rfl⟩ ⟨Nat.zero_le _, Nat.zero_le _⟩ (fun r60 hr60 => ?_)
              obtain rfl : r60 = nI (((i4 - 1) * 4) + 0) := hr60
              refine lv_ldc2 (v := lN 2116800) hx hb hown (hts _ ql_X1_37) dX1_expected_63 ?_
              refine rl_ast hx hb hK hP hD hS 3 0 (F := f4) rfl rfl dX1_expected_66 (by decide) (by omega) (fun H locs hP hD hS => ?_)
              have hP : va_P (dC, dI) vwCl [(h0, .inr (1, [.ref q1, .ref q2, .ref q3, .int (nI sv), .int (nI (P 0)), .long (lN (P 2 * 2116800))])), (q1, .inl (cL, 49, .inr (.inl w))), (q2, .inl (cL, 32, .inr (.inl b))), (q3, .inl (cL, 32, .inr (.inl (updL f4 (((i4 - 1) * 4) + 0) (lN 2116800)))))] H := hP
              have hD : va_D A [(h0, .inr (1, [.ref q1, .ref q2, .ref q3, .int (nI sv), .int (nI (P 0)), .long (lN (P 2 * 2116800))])), (q1, .inl (cL, 49, .inr (.inl w))), (q2, .inl (cL, 32, .inr (.inl b))), (q3, .inl (cL, 32, .inr (.inl (updL f4 (((i4 - 1) * 4) + 0) (lN 2116800)))))] := hD
              refine lv_iinc (v := nI (i4 + 1)) (lv' := [(5, .int (nI (i4 + 1))), (0, .ref h0), (1, .int (nI 2)), (2, .int (nI k)), (3, .int (nI 0)), (4, .int (nI 0))]) hx hb dX1_expected_67 hl (k := 5) rfl (inc1 _) (by decide) rfl (fun ls hl => ?_)
              refine lv_goto (tgt := 42) hx hb dX1_expected_70 (by decide) ?_
              exact ih42 (i4 + 1) (updL f4 (((i4 - 1) * 4) + 0) (lN 2116800)) _ _ _ (by show _ < _; omega) (by exact ⟨lv_sub hl [1, 2, 3, 4, 5, 0] rfl, hP.sub [0, 1, 2, 3] rfl, hD.sub [0, 1, 2, 3] (by decide) rfl, hS, by omega, by omega, fun i a b => by unfold updL; split <;> first | rfl | exact hf1 i a (by omega), fun j a b => by rw [updL_n _ _ (by omega)]; exact hf2 j a b⟩)
      · exact absurd c12 (by decide)
    · exact absurd c1 (by decide)
