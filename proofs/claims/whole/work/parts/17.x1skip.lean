set_option maxHeartbeats 4000000 in
set_option maxRecDepth 100000 in
theorem c_X1_valueOfSkipping (l : Launch) (dC : Nat → ClassId) (dI : Nat → Nat → Nat) (sz : Nat) (cL : ClassId) (h0 q1 q2 q3 : Nat) (w b f : Nat → Int64) (sv n : Nat) (co : Int64) (P : Nat → Nat) (s0 k : Nat) (h1 : s0 ≤ 7) (h2 : 1 ≤ k) (h3 : k ≤ 3) (hPI : PI P) (hRS : RS P w b n co) : Met l yX1_valueOfSkipping (kw yX1_valueOfSkipping cX1_valueOfSkipping 11 (some .long)) (kR 2 43) (kPq (dC, dI) [.ref h0, .int (nI s0), .int (nI k)] sz [(h0, .inr (1, [.ref q1, .ref q2, .ref q3, .int (nI sv), .int (nI n), .long co])), (q1, .inl (cL, 49, .inr (.inl w))), (q2, .inl (cL, 32, .inr (.inl b))), (q3, .inl (cL, 32, .inr (.inl f)))] [(cL, .long)]) (va_Ql (fun (res : Int64) (u : Nat → Int64) => res = iN (420 * SK P s0 (P 0) k)) (fun u : Nat → Int64 => kB (dC, dI) [(cL, .long)] (va_A [(h0, .inr (1, [.ref q1, .ref q2, .ref q3, .int (nI sv), .int (nI n), .long co])), (q1, .inl (cL, 49, .inr (.inl w))), (q2, .inl (cL, 32, .inr (.inl b))), (q3, .inl (cL, 32, .inr (.inl f)))] sz) ([(h0, .inr (1, [.ref q1, .ref q2, .ref q3, .int (nI sv), .int (nI n), .long co])), (q1, .inl (cL, 49, .inr (.inl w))), (q2, .inl (cL, 32, .inr (.inl b))), (q3, .inl (cL, 32, .inr (.inl u)))])) (va_A [(h0, .inr (1, [.ref q1, .ref q2, .ref q3, .int (nI sv), .int (nI n), .long co])), (q1, .inl (cL, 49, .inr (.inl w))), (q2, .inl (cL, 32, .inr (.inl b))), (q3, .inl (cL, 32, .inr (.inl f)))] sz)) 0 0 (va_A [(h0, .inr (1, [.ref q1, .ref q2, .ref q3, .int (nI sv), .int (nI n), .long co])), (q1, .inl (cL, 49, .inr (.inl w))), (q2, .inl (cL, 32, .inr (.inl b))), (q3, .inl (cL, 32, .inr (.inl f)))] sz) := by
  refine kmet (by decide) ?_
  intro p e s m args below meth c Y hr hlocks hin hv
  obtain ⟨rfl, A, hAe, hsz, hP, hK, hD, hZ, hA⟩ := kinQ hv
  rw [hAe]
  have hS : va_S A s.heap s.heap [] := va_S.rf
  have hx := Y.1
  have hb := Y.2.1
  have hml := Y.2.2.1
  have hown := Y.2.2.2.1
  have hts := Y.2.2.2.2
  have hl := lv_entry ([.ref h0, .int (nI s0), .int (nI k)]) (n := 11) (Nat.le_of_ble_eq_true rfl)
  rw [lg_entry_eq]
  generalize (lg_sl ([.ref h0, .int (nI s0), .int (nI k)]) ++ List.replicate (11 - (lg_sl ([.ref h0, .int (nI s0), .int (nI k)])).length) Slot.unset).toArray = ls at hl ⊢
  have hl : lv_has ls 11 [(0, .ref h0), (1, .int (nI s0)), (2, .int (nI k))] := hl
  obtain ⟨hn0, hco, hw, hb2⟩ := hRS
  subst hn0
  subst hco
  have hp0 := hPI.1
  have hp2 := hPI.2.2.1
  refine lv_aload_n hx hb dX1_valueOfSkipping_0 rfl (lv_at hl 0 rfl) ?_
  refine lv_aload_n hx hb dX1_valueOfSkipping_1 rfl (lv_at hl 0 rfl) ?_
  refine va_get (D := (dC, dI)) (ci := 1) (v := .ref q3) (C := RX1) (T := TX1) (N := 6) hx hb hts inlX1 hown hK hP 0 rfl rfl 2 (by decide) (hts _ qf_X1_18) (fun _ h9 => h9) rfl dX1_valueOfSkipping_2 ?_
  refine kQv (As := [.ref q3]) (rest := []) (wr := [(q1, .inl (cL, 49, .inr (.inl w))), (q2, .inl (cL, 32, .inr (.inl b)))]) Y m_X1_clearEnds (c_X1_clearEnds l dC dI _ cL h0 q1 q2 q3 q3 f sv (P 0) (lN (P 2 * 2116800)) (by omega) (by omega)) qm_X1_47 hP hD hS hA [0, 3] [1, 2] rfl rfl (by decide) (by decide) (kqV (ci := 1) hK hP hD hZ hS hA [0, 3] [0] rfl (by decide) rfl 0 rfl rfl rfl) rfl hl.1 rfl (Nat.le_of_ble_eq_true rfl) dX1_valueOfSkipping_5 ⟨Nat.le_of_ble_eq_true rfl, Nat.le_of_ble_eq_true rfl⟩ ⟨Nat.zero_le _, Nat.zero_le _⟩ (fun u5 H locs hr5 hP hD hS => ?_)
  obtain ⟨g2_5, rfl⟩ : ∃ z, z = u5 := ⟨_, rfl⟩
  have hP : va_P (dC, dI) vwCl [(q1, .inl (cL, 49, .inr (.inl w))), (q2, .inl (cL, 32, .inr (.inl b))), (h0, .inr (1, [.ref q1, .ref q2, .ref q3, .int (nI sv), .int (nI (P 0)), .long (lN (P 2 * 2116800))])), (q3, .inl (cL, 32, .inr (.inl g2_5)))] H := hP
  have hD : va_D A [(q1, .inl (cL, 49, .inr (.inl w))), (q2, .inl (cL, 32, .inr (.inl b))), (h0, .inr (1, [.ref q1, .ref q2, .ref q3, .int (nI sv), .int (nI (P 0)), .long (lN (P 2 * 2116800))])), (q3, .inl (cL, 32, .inr (.inl g2_5)))] := hD
  have hr5 : g2_5 = clr (P 0) f := hr5
  refine lv_aload_n hx hb dX1_valueOfSkipping_8 rfl (lv_at hl 0 rfl) ?_
  refine va_get (D := (dC, dI)) (ci := 1) (v := .int (nI (P 0))) (C := RX1) (T := TX1) (N := 6) hx hb hts inlX1 hown hK hP 2 rfl rfl 4 (by decide) (hts _ qf_X1_33) (fun _ h9 => h9) rfl dX1_valueOfSkipping_9 ?_
  refine lv_istore_n (lv' := [(3, .int (nI (P 0))), (0, .ref h0), (1, .int (nI s0)), (2, .int (nI k))]) hx hb dX1_valueOfSkipping_12 rfl hl (by decide) rfl (fun ls hl => ?_)
  refine wl2 (fun (i : Nat) (f1 : Nat → Int64) => i) (fun (i : Nat) (f1 : Nat → Int64) (ls : Array Slot) (H : Heap) (locs : List Loc) => lv_has ls 11 [(0, .ref h0), (1, .int (nI s0)), (2, .int (nI k)), (3, .int (nI i))] ∧ va_P (dC, dI) vwCl [(h0, .inr (1, [.ref q1, .ref q2, .ref q3, .int (nI sv), .int (nI (P 0)), .long (lN (P 2 * 2116800))])), (q1, .inl (cL, 49, .inr (.inl w))), (q2, .inl (cL, 32, .inr (.inl b))), (q3, .inl (cL, 32, .inr (.inl f1)))] H ∧ va_D A [(h0, .inr (1, [.ref q1, .ref q2, .ref q3, .int (nI sv), .int (nI (P 0)), .long (lN (P 2 * 2116800))])), (q1, .inl (cL, 49, .inr (.inl w))), (q2, .inl (cL, 32, .inr (.inl b))), (q3, .inl (cL, 32, .inr (.inl f1)))] ∧ va_S A s.heap H locs ∧ (i ≤ P 0 ∧ FD (P 0) k (ST P 420 s0) f1 i 1)) (P 0) g2_5 (by exact ⟨lv_sub hl [1, 2, 3, 0] rfl, hP.sub [2, 0, 1, 3] rfl, hD.sub [2, 0, 1, 3] (by decide) rfl, hS, by omega, by rw [hr5]; exact FD_clr (by omega) ST_0.1 ST_0.2⟩) (fun i f1 ls H locs hI ih => ?_)
  obtain ⟨hl, hP, hD, hS, hi2, hF0⟩ := hI
  have ih13 := ih
  refine lv_iload_n hx hb dX1_valueOfSkipping_13 rfl (lv_at hl 3 rfl) ?_
  refine lv_iconst (v := nI 1) hx hb dX1_valueOfSkipping_14 (by decide) ?_
  refine ri_clt (tgt := 120) hx hb dX1_valueOfSkipping_15 (by decide) (by omega) (by omega) (fun c15 => ?_) (fun c15 => ?_)
  · obtain rfl : i = 0 := by omega
    refine lv_aload_n hx hb dX1_valueOfSkipping_120 rfl (lv_at hl 0 rfl) ?_
    refine va_get (D := (dC, dI)) (ci := 1) (v := .ref q3) (C := RX1) (T := TX1) (N := 6) hx hb hts inlX1 hown hK hP 0 rfl rfl 2 (by decide) (hts _ qf_X1_18) (fun _ h9 => h9) rfl dX1_valueOfSkipping_121 ?_
    refine lv_iconst (v := nI 1) hx hb dX1_valueOfSkipping_124 (by decide) ?_
    refine lv_iload_n hx hb dX1_valueOfSkipping_125 rfl (lv_at hl 2 rfl) ?_
    refine kSi (As := [.int (nI 1), .int (nI k)]) (rest := [.ref q3]) Y m_X1_place (c_X1_place l dC dI 1 k (by omega)) qm_X1_21 (kpS hK hP hZ hS [] [] rfl rfl) rfl hl.1 rfl (Nat.le_of_ble_eq_true rfl) dX1_valueOfSkipping_126 ⟨Nat.le_of_ble_eq_true rfl, Nat.le_of_ble_eq_true rfl⟩ ⟨Nat.zero_le _, Nat.zero_le _⟩ (fun r126 hr126 => ?_)
    obtain rfl : r126 = nI (((1 - 1) * 4) + k) := hr126
    refine rl_ald hx hb hK hP 3 0 (F := f1) rfl rfl dX1_valueOfSkipping_129 (by decide) (by omega) ?_
    refine rl_set (x' := iN (420 * SK P s0 (P 0) k)) (FD_all hF0 (by decide) (by omega) (by omega)) ?_
    exact kql (w1 := (fun u : Nat → Int64 => [(h0, .inr (1, [.ref q1, .ref q2, .ref q3, .int (nI sv), .int (nI (P 0)), .long (lN (P 2 * 2116800))])), (q1, .inl (cL, 49, .inr (.inl w))), (q2, .inl (cL, 32, .inr (.inl b))), (q3, .inl (cL, 32, .inr (.inl u)))])) (v := iN (420 * SK P s0 (P 0) k)) Y hr hlocks hK hP hD hS [0, 1, 2, 3] (by decide) (f1) rfl rfl dX1_valueOfSkipping_130
  · refine lv_iconst (v := nI 1) hx hb dX1_valueOfSkipping_18 (by decide) ?_
    refine lv_istore (lv' := [(4, .int (nI 1)), (0, .ref h0), (1, .int (nI s0)), (2, .int (nI k)), (3, .int (nI i))]) hx hb dX1_valueOfSkipping_19 hl (by decide) rfl (fun ls hl => ?_)
    refine wl2 (fun (j : Nat) (f3 : Nat → Int64) => k + 1 - j) (fun (j : Nat) (f3 : Nat → Int64) (ls : Array Slot) (H : Heap) (locs : List Loc) => lv_has ls 11 [(0, .ref h0), (1, .int (nI s0)), (2, .int (nI k)), (3, .int (nI i)), (4, .int (nI j))] ∧ va_P (dC, dI) vwCl [(h0, .inr (1, [.ref q1, .ref q2, .ref q3, .int (nI sv), .int (nI (P 0)), .long (lN (P 2 * 2116800))])), (q1, .inl (cL, 49, .inr (.inl w))), (q2, .inl (cL, 32, .inr (.inl b))), (q3, .inl (cL, 32, .inr (.inl f3)))] H ∧ va_D A [(h0, .inr (1, [.ref q1, .ref q2, .ref q3, .int (nI sv), .int (nI (P 0)), .long (lN (P 2 * 2116800))])), (q1, .inl (cL, 49, .inr (.inl w))), (q2, .inl (cL, 32, .inr (.inl b))), (q3, .inl (cL, 32, .inr (.inl f3)))] ∧ va_S A s.heap H locs ∧ (1 ≤ j ∧ j ≤ k + 1 ∧ FD (P 0) k (ST P 420 s0) f3 i j)) 1 f1 (by exact ⟨lv_sub hl [1, 2, 3, 4, 0] rfl, hP.sub [0, 1, 2, 3] rfl, hD.sub [0, 1, 2, 3] (by decide) rfl, hS, by omega, by omega, hF0⟩) (fun j f3 ls H locs hI ih => ?_)
    obtain ⟨hl, hP, hD, hS, hj1, hj2, hF⟩ := hI
    have ih21 := ih
    refine lv_iload hx hb dX1_valueOfSkipping_21 (lv_at hl 4 rfl) ?_
    refine lv_iload_n hx hb dX1_valueOfSkipping_23 rfl (lv_at hl 2 rfl) ?_
    refine ri_cgt (tgt := 114) hx hb dX1_valueOfSkipping_24 (by decide) (by omega) (by omega) (fun c24 => ?_) (fun c24 => ?_)
    · refine lv_iinc (v := nI (i - 1)) (lv' := [(3, .int (nI (i - 1))), (0, .ref h0), (1, .int (nI s0)), (2, .int (nI k)), (4, .int (nI j))]) hx hb dX1_valueOfSkipping_114 hl (k := 3) rfl (dec1 (by omega)) (by decide) rfl (fun ls hl => ?_)
      refine lv_goto (tgt := 13) hx hb dX1_valueOfSkipping_117 (by decide) ?_
      exact ih13 (i - 1) f3 _ _ _ (by show _ < _; omega) (by exact ⟨lv_sub hl [1, 2, 3, 0] rfl, hP.sub [0, 1, 2, 3] rfl, hD.sub [0, 1, 2, 3] (by decide) rfl, hS, by omega, FD_next hF (by omega)⟩)
    · refine lv_aload_n hx hb dX1_valueOfSkipping_27 rfl (lv_at hl 0 rfl) ?_
      refine va_get (D := (dC, dI)) (ci := 1) (v := .ref q3) (C := RX1) (T := TX1) (N := 6) hx hb hts inlX1 hown hK hP 0 rfl rfl 2 (by decide) (hts _ qf_X1_18) (fun _ h9 => h9) rfl dX1_valueOfSkipping_28 ?_
      refine lv_iload_n hx hb dX1_valueOfSkipping_31 rfl (lv_at hl 3 rfl) ?_
      refine lv_iconst (v := nI 1) hx hb dX1_valueOfSkipping_32 (by decide) ?_
      refine ri_add hx hb dX1_valueOfSkipping_33 ?_
      refine lv_iload hx hb dX1_valueOfSkipping_34 (lv_at hl 4 rfl) ?_
      refine kSi (As := [.int (nI (i + 1)), .int (nI j)]) (rest := [.ref q3]) Y m_X1_place (c_X1_place l dC dI (i + 1) j (by omega)) qm_X1_21 (kpS hK hP hZ hS [] [] rfl rfl) rfl hl.1 rfl (Nat.le_of_ble_eq_true rfl) dX1_valueOfSkipping_36 ⟨Nat.le_of_ble_eq_true rfl, Nat.le_of_ble_eq_true rfl⟩ ⟨Nat.zero_le _, Nat.zero_le _⟩ (fun r36 hr36 => ?_)
      obtain rfl : r36 = nI ((((i + 1) - 1) * 4) + j) := hr36
      refine rl_ald hx hb hK hP 3 0 (F := f3) rfl rfl dX1_valueOfSkipping_39 (by decide) (by omega) ?_
      refine lv_lstore (lv' := [(5, .long (f3 ((((i + 1) - 1) * 4) + j))), (0, .ref h0), (1, .int (nI s0)), (2, .int (nI k)), (3, .int (nI i)), (4, .int (nI j))]) hx hb dX1_valueOfSkipping_40 hl (by decide) rfl (fun ls hl => ?_)
      refine lv_lload hx hb dX1_valueOfSkipping_42 (lv_at hl 0 rfl) ?_
      refine lv_lstore (lv' := [(7, .long (f3 ((((i + 1) - 1) * 4) + j))), (5, .long (f3 ((((i + 1) - 1) * 4) + j))), (0, .ref h0), (1, .int (nI s0)), (2, .int (nI k)), (3, .int (nI i)), (4, .int (nI j))]) hx hb dX1_valueOfSkipping_44 hl (by decide) rfl (fun ls hl => ?_)
      refine lv_iload_n hx hb dX1_valueOfSkipping_46 rfl (lv_at hl 5 rfl) ?_
      refine lv_iload_n hx hb dX1_valueOfSkipping_47 rfl (lv_at hl 3 rfl) ?_
      refine ri_cle (tgt := 90) hx hb dX1_valueOfSkipping_48 (by decide) (by omega) (by omega) (fun c48 => ?_) (fun c48 => ?_)
      · refine lv_aload_n hx hb dX1_valueOfSkipping_90 rfl (lv_at hl 2 rfl) ?_
        refine va_get (D := (dC, dI)) (ci := 1) (v := .ref q3) (C := RX1) (T := TX1) (N := 6) hx hb hts inlX1 hown hK hP 0 rfl rfl 2 (by decide) (hts _ qf_X1_18) (fun _ h9 => h9) rfl dX1_valueOfSkipping_91 ?_
        refine lv_iload_n hx hb dX1_valueOfSkipping_94 rfl (lv_at hl 5 rfl) ?_
        refine lv_iload hx hb dX1_valueOfSkipping_95 (lv_at hl 6 rfl) ?_
        refine kSi (As := [.int (nI i), .int (nI j)]) (rest := [.ref q3]) Y m_X1_place (c_X1_place l dC dI i j (by omega)) qm_X1_21 (kpS hK hP hZ hS [] [] rfl rfl) rfl hl.1 rfl (Nat.le_of_ble_eq_true rfl) dX1_valueOfSkipping_97 ⟨Nat.le_of_ble_eq_true rfl, Nat.le_of_ble_eq_true rfl⟩ ⟨Nat.zero_le _, Nat.zero_le _⟩ (fun r97 hr97 => ?_)
        obtain rfl : r97 = nI (((i - 1) * 4) + j) := hr97
        refine lv_lload hx hb dX1_valueOfSkipping_100 (lv_at hl 0 rfl) ?_
        refine lv_aload_n hx hb dX1_valueOfSkipping_102 rfl (lv_at hl 2 rfl) ?_
        refine va_get (D := (dC, dI)) (ci := 1) (v := .long (lN (P 2 * 2116800))) (C := RX1) (T := TX1) (N := 6) hx hb hts inlX1 hown hK hP 0 rfl rfl 5 (by decide) (hts _ qf_X1_39) (fun _ h9 => h9) rfl dX1_valueOfSkipping_103 ?_
        refine lv_lsub hx hb dX1_valueOfSkipping_106 ?_
        refine rl_set (x' := iN (420 * SK P s0 (P 0 + 1 - i) j)) (skip_put1 hPI (by omega) (by omega) (by omega) (by omega) (by omega) (by omega) hw (FD_wk hF)) ?_
        refine rl_ast hx hb hK hP hD hS 3 0 (F := f3) rfl rfl dX1_valueOfSkipping_107 (by decide) (by omega) (fun H locs hP hD hS => ?_)
        have hP : va_P (dC, dI) vwCl [(h0, .inr (1, [.ref q1, .ref q2, .ref q3, .int (nI sv), .int (nI (P 0)), .long (lN (P 2 * 2116800))])), (q1, .inl (cL, 49, .inr (.inl w))), (q2, .inl (cL, 32, .inr (.inl b))), (q3, .inl (cL, 32, .inr (.inl (updL f3 (((i - 1) * 4) + j) (iN (420 * SK P s0 (P 0 + 1 - i) j))))))] H := hP
        have hD : va_D A [(h0, .inr (1, [.ref q1, .ref q2, .ref q3, .int (nI sv), .int (nI (P 0)), .long (lN (P 2 * 2116800))])), (q1, .inl (cL, 49, .inr (.inl w))), (q2, .inl (cL, 32, .inr (.inl b))), (q3, .inl (cL, 32, .inr (.inl (updL f3 (((i - 1) * 4) + j) (iN (420 * SK P s0 (P 0 + 1 - i) j))))))] := hD
        refine lv_iinc (v := nI (j + 1)) (lv' := [(4, .int (nI (j + 1))), (7, .long (f3 ((((i + 1) - 1) * 4) + j))), (5, .long (f3 ((((i + 1) - 1) * 4) + j))), (0, .ref h0), (1, .int (nI s0)), (2, .int (nI k)), (3, .int (nI i))]) hx hb dX1_valueOfSkipping_108 hl (k := 6) rfl (inc1 _) (by decide) rfl (fun ls hl => ?_)
        refine lv_goto (tgt := 21) hx hb dX1_valueOfSkipping_111 (by decide) ?_
        exact ih21 (j + 1) (updL f3 (((i - 1) * 4) + j) (iN (420 * SK P s0 (P 0 + 1 - i) j))) _ _ _ (by show _ < _; omega) (by exact ⟨lv_sub hl [3, 4, 5, 6, 0] rfl, hP.sub [0, 1, 2, 3] rfl, hD.sub [0, 1, 2, 3] (by decide) rfl, hS, by omega, by omega, FD_put hF (by omega) (by omega) (by omega) rfl⟩)
      · refine lv_aload_n hx hb dX1_valueOfSkipping_51 rfl (lv_at hl 2 rfl) ?_
        refine lv_iload_n hx hb dX1_valueOfSkipping_52 rfl (lv_at hl 5 rfl) ?_
        refine lv_iconst (v := nI 1) hx hb dX1_valueOfSkipping_53 (by decide) ?_
        refine kVl (As := [.int (nI i), .int (nI 1)]) (rest := []) Y m_X1_worthOf (c_X1_worthOf l dC dI cL h0 q1 q2 q3 w b f3 sv (P 0) (lN (P 2 * 2116800)) i 1 (by omega) (by omega) (by omega) (by omega)) qm_X1_25 (kpV (ci := 1) hK hP hZ hS [0, 1, 2, 3] [0] rfl rfl 0 rfl rfl rfl) rfl hl.1 rfl (Nat.le_of_ble_eq_true rfl) dX1_valueOfSkipping_54 ⟨Nat.le_of_ble_eq_true rfl, Nat.le_of_ble_eq_true rfl⟩ ⟨Nat.zero_le _, Nat.zero_le _⟩ (fun r54 hr54 => ?_)
        obtain rfl : r54 = w ((((i - 1) * 7) + 1) - 1) := hr54
        refine lv_aload_n hx hb dX1_valueOfSkipping_57 rfl (lv_at hl 2 rfl) ?_
        refine va_get (D := (dC, dI)) (ci := 1) (v := .ref q3) (C := RX1) (T := TX1) (N := 6) hx hb hts inlX1 hown hK hP 0 rfl rfl 2 (by decide) (hts _ qf_X1_18) (fun _ h9 => h9) rfl dX1_valueOfSkipping_58 ?_
        refine lv_iload_n hx hb dX1_valueOfSkipping_61 rfl (lv_at hl 5 rfl) ?_
        refine lv_iconst (v := nI 1) hx hb dX1_valueOfSkipping_62 (by decide) ?_
        refine ri_add hx hb dX1_valueOfSkipping_63 ?_
        refine lv_iload hx hb dX1_valueOfSkipping_64 (lv_at hl 6 rfl) ?_
        refine lv_iconst (v := nI 1) hx hb dX1_valueOfSkipping_66 (by decide) ?_
        refine ri_sub hx hb dX1_valueOfSkipping_67 (by omega) ?_
        refine kSi (As := [.int (nI (i + 1)), .int (nI (j - 1))]) (rest := [.ref q3, .long (w ((((i - 1) * 7) + 1) - 1))]) Y m_X1_place (c_X1_place l dC dI (i + 1) (j - 1) (by omega)) qm_X1_21 (kpS hK hP hZ hS [] [] rfl rfl) rfl hl.1 rfl (Nat.le_of_ble_eq_true rfl) dX1_valueOfSkipping_68 ⟨Nat.le_of_ble_eq_true rfl, Nat.le_of_ble_eq_true rfl⟩ ⟨Nat.zero_le _, Nat.zero_le _⟩ (fun r68 hr68 => ?_)
        obtain rfl : r68 = nI ((((i + 1) - 1) * 4) + (j - 1)) := hr68
        refine rl_ald hx hb hK hP 3 0 (F := f3) rfl rfl dX1_valueOfSkipping_71 (by decide) (by omega) ?_
        refine lv_ladd hx hb dX1_valueOfSkipping_72 ?_
        refine lv_lstore (lv' := [(9, .long ((w ((((i - 1) * 7) + 1) - 1)) + (f3 ((((i + 1) - 1) * 4) + (j - 1))))), (7, .long (f3 ((((i + 1) - 1) * 4) + j))), (5, .long (f3 ((((i + 1) - 1) * 4) + j))), (0, .ref h0), (1, .int (nI s0)), (2, .int (nI k)), (3, .int (nI i)), (4, .int (nI j))]) hx hb dX1_valueOfSkipping_73 hl (by decide) rfl (fun ls hl => ?_)
        refine lv_lload hx hb dX1_valueOfSkipping_75 (lv_at hl 0 rfl) ?_
        refine lv_iload_n hx hb dX1_valueOfSkipping_77 rfl (lv_at hl 6 rfl) ?_
        refine lv_iconst (v := nI 1) hx hb dX1_valueOfSkipping_78 (by decide) ?_
        refine ri_sub hx hb dX1_valueOfSkipping_79 (by omega) ?_
        refine ri_i2l hx hb dX1_valueOfSkipping_80 (by omega) ?_
        refine lv_lload hx hb dX1_valueOfSkipping_81 (lv_at hl 2 rfl) ?_
        refine lv_lmul hx hb dX1_valueOfSkipping_83 ?_
        refine lv_ladd hx hb dX1_valueOfSkipping_84 ?_
        refine lv_iload_n hx hb dX1_valueOfSkipping_85 rfl (lv_at hl 6 rfl) ?_
        refine ri_i2l hx hb dX1_valueOfSkipping_86 (by omega) ?_
        refine lv_ldiv hx hb dX1_valueOfSkipping_87 (lN_z (by omega) (by omega)) ?_
        refine lv_lstore (lv' := [(7, .long ((((w ((((i - 1) * 7) + 1) - 1)) + (f3 ((((i + 1) - 1) * 4) + (j - 1)))) + ((lN (i - 1)) * (f3 ((((i + 1) - 1) * 4) + j)))) / (lN i))), (9, .long ((w ((((i - 1) * 7) + 1) - 1)) + (f3 ((((i + 1) - 1) * 4) + (j - 1))))), (5, .long (f3 ((((i + 1) - 1) * 4) + j))), (0, .ref h0), (1, .int (nI s0)), (2, .int (nI k)), (3, .int (nI i)), (4, .int (nI j))]) hx hb dX1_valueOfSkipping_88 hl (by decide) rfl (fun ls hl => ?_)
        refine lv_aload_n hx hb dX1_valueOfSkipping_90 rfl (lv_at hl 3 rfl) ?_
        refine va_get (D := (dC, dI)) (ci := 1) (v := .ref q3) (C := RX1) (T := TX1) (N := 6) hx hb hts inlX1 hown hK hP 0 rfl rfl 2 (by decide) (hts _ qf_X1_18) (fun _ h9 => h9) rfl dX1_valueOfSkipping_91 ?_
        refine lv_iload_n hx hb dX1_valueOfSkipping_94 rfl (lv_at hl 6 rfl) ?_
        refine lv_iload hx hb dX1_valueOfSkipping_95 (lv_at hl 7 rfl) ?_
        refine kSi (As := [.int (nI i), .int (nI j)]) (rest := [.ref q3]) Y m_X1_place (c_X1_place l dC dI i j (by omega)) qm_X1_21 (kpS hK hP hZ hS [] [] rfl rfl) rfl hl.1 rfl (Nat.le_of_ble_eq_true rfl) dX1_valueOfSkipping_97 ⟨Nat.le_of_ble_eq_true rfl, Nat.le_of_ble_eq_true rfl⟩ ⟨Nat.zero_le _, Nat.zero_le _⟩ (fun r97 hr97 => ?_)
        obtain rfl : r97 = nI (((i - 1) * 4) + j) := hr97
        refine lv_lload hx hb dX1_valueOfSkipping_100 (lv_at hl 0 rfl) ?_
        refine lv_aload_n hx hb dX1_valueOfSkipping_102 rfl (lv_at hl 3 rfl) ?_
        refine va_get (D := (dC, dI)) (ci := 1) (v := .long (lN (P 2 * 2116800))) (C := RX1) (T := TX1) (N := 6) hx hb hts inlX1 hown hK hP 0 rfl rfl 5 (by decide) (hts _ qf_X1_39) (fun _ h9 => h9) rfl dX1_valueOfSkipping_103 ?_
        refine lv_lsub hx hb dX1_valueOfSkipping_106 ?_
        refine rl_set (x' := iN (420 * SK P s0 (P 0 + 1 - i) j)) (skip_put2 hPI (by omega) (by omega) (by omega) (by omega) (by omega) (by omega) hw (FD_wk hF)) ?_
        refine rl_ast hx hb hK hP hD hS 3 0 (F := f3) rfl rfl dX1_valueOfSkipping_107 (by decide) (by omega) (fun H locs hP hD hS => ?_)
        have hP : va_P (dC, dI) vwCl [(h0, .inr (1, [.ref q1, .ref q2, .ref q3, .int (nI sv), .int (nI (P 0)), .long (lN (P 2 * 2116800))])), (q1, .inl (cL, 49, .inr (.inl w))), (q2, .inl (cL, 32, .inr (.inl b))), (q3, .inl (cL, 32, .inr (.inl (updL f3 (((i - 1) * 4) + j) (iN (420 * SK P s0 (P 0 + 1 - i) j))))))] H := hP
        have hD : va_D A [(h0, .inr (1, [.ref q1, .ref q2, .ref q3, .int (nI sv), .int (nI (P 0)), .long (lN (P 2 * 2116800))])), (q1, .inl (cL, 49, .inr (.inl w))), (q2, .inl (cL, 32, .inr (.inl b))), (q3, .inl (cL, 32, .inr (.inl (updL f3 (((i - 1) * 4) + j) (iN (420 * SK P s0 (P 0 + 1 - i) j))))))] := hD
        refine lv_iinc (v := nI (j + 1)) (lv' := [(4, .int (nI (j + 1))), (7, .long ((((w ((((i - 1) * 7) + 1) - 1)) + (f3 ((((i + 1) - 1) * 4) + (j - 1)))) + ((lN (i - 1)) * (f3 ((((i + 1) - 1) * 4) + j)))) / (lN i))), (9, .long ((w ((((i - 1) * 7) + 1) - 1)) + (f3 ((((i + 1) - 1) * 4) + (j - 1))))), (5, .long (f3 ((((i + 1) - 1) * 4) + j))), (0, .ref h0), (1, .int (nI s0)), (2, .int (nI k)), (3, .int (nI i))]) hx hb dX1_valueOfSkipping_108 hl (k := 7) rfl (inc1 _) (by decide) rfl (fun ls hl => ?_)
        refine lv_goto (tgt := 21) hx hb dX1_valueOfSkipping_111 (by decide) ?_
        exact ih21 (j + 1) (updL f3 (((i - 1) * 4) + j) (iN (420 * SK P s0 (P 0 + 1 - i) j))) _ _ _ (by show _ < _; omega) (by exact ⟨lv_sub hl [4, 5, 6, 7, 0] rfl, hP.sub [0, 1, 2, 3] rfl, hD.sub [0, 1, 2, 3] (by decide) rfl, hS, by omega, by omega, FD_put hF (by omega) (by omega) (by omega) rfl⟩)
