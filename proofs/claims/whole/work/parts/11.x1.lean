set_option maxHeartbeats 4000000 in
set_option maxRecDepth 100000 in
theorem c_X1_place (l : Launch) (dC : Nat → ClassId) (dI : Nat → Nat → Nat) (i j : Nat) (h1 : 1 ≤ i) : Met l yX1_place (kw yX1_place cX1_place 2 (some .int)) (kR 0 0) (kPr (dC, dI) [.int (nI i), .int (nI j)] [] []) (vp_Si (fun res : Int32 => res = nI (((i - 1) * 4) + j))) 0 0 kNo := by
  refine kmet (by decide) ?_
  intro p e s m args below meth c Y hr hlocks hin hv
  obtain ⟨rfl, hP, hK, hZ⟩ := kinR hv
  have hS : va_S kNo s.heap s.heap [] := va_S.rf
  have hx := Y.1
  have hb := Y.2.1
  have hml := Y.2.2.1
  have hown := Y.2.2.2.1
  have hts := Y.2.2.2.2
  have hl := lv_entry ([.int (nI i), .int (nI j)]) (n := 2) (Nat.le_of_ble_eq_true rfl)
  rw [lg_entry_eq]
  generalize (lg_sl ([.int (nI i), .int (nI j)]) ++ List.replicate (2 - (lg_sl ([.int (nI i), .int (nI j)])).length) Slot.unset).toArray = ls at hl ⊢
  have hl : lv_has ls 2 [(0, .int (nI i)), (1, .int (nI j))] := hl
  refine lv_iload_n hx hb dX1_place_0 rfl (lv_at hl 0 rfl) ?_
  refine lv_iconst (v := nI 1) hx hb dX1_place_1 (by decide) ?_
  refine ri_sub hx hb dX1_place_2 (by omega) ?_
  refine lv_iconst (v := nI 4) hx hb dX1_place_3 (by decide) ?_
  refine ri_mul hx hb dX1_place_4 ?_
  refine lv_iload_n hx hb dX1_place_5 rfl (lv_at hl 1 rfl) ?_
  refine ri_add hx hb dX1_place_6 ?_
  exact kri (v := nI (((i - 1) * 4) + j)) Y hr hlocks rfl dX1_place_7
set_option maxHeartbeats 4000000 in
set_option maxRecDepth 100000 in
theorem c_X1_binomial (l : Launch) (dC : Nat → ClassId) (dI : Nat → Nat → Nat) (i j : Nat) (h1 : i ≤ 7) (h2 : j ≤ 7) : Met l yX1_binomial (kw yX1_binomial cX1_binomial 2 (some .int)) (kR 0 0) (kPr (dC, dI) [.int (nI i), .int (nI j)] [] []) (vp_Si (fun res : Int32 => res = nI (tbl tBIN ((i * 8) + j)))) 0 0 kNo := by
  refine kmet (by decide) ?_
  intro p e s m args below meth c Y hr hlocks hin hv
  obtain ⟨rfl, hP, hK, hZ⟩ := kinR hv
  have hS : va_S kNo s.heap s.heap [] := va_S.rf
  have hx := Y.1
  have hb := Y.2.1
  have hml := Y.2.2.1
  have hown := Y.2.2.2.1
  have hts := Y.2.2.2.2
  have hl := lv_entry ([.int (nI i), .int (nI j)]) (n := 2) (Nat.le_of_ble_eq_true rfl)
  rw [lg_entry_eq]
  generalize (lg_sl ([.int (nI i), .int (nI j)]) ++ List.replicate (2 - (lg_sl ([.int (nI i), .int (nI j)])).length) Slot.unset).toArray = ls at hl ⊢
  have hl : lv_has ls 2 [(0, .int (nI i)), (1, .int (nI j))] := hl
  refine r_gets Y hZ.2.2.2.1 hS qf_X1_67 (fun _ h9 => h9) dX1_binomial_0 (fun t0 ht0 => ?_)
  refine lv_iload_n hx hb dX1_binomial_3 rfl (lv_at hl 0 rfl) ?_
  refine lv_bipush (v := nI 8) hx hb dX1_binomial_4 (by decide) ?_
  refine ri_mul hx hb dX1_binomial_6 ?_
  refine lv_iload_n hx hb dX1_binomial_7 rfl (lv_at hl 1 rfl) ?_
  refine ri_add hx hb dX1_binomial_8 ?_
  refine r_ti hx hb ht0 hS dX1_binomial_9 (by decide) (by omega) ?_
  exact kri (v := nI (tbl tBIN ((i * 8) + j))) Y hr hlocks rfl dX1_binomial_10
set_option maxHeartbeats 4000000 in
set_option maxRecDepth 100000 in
theorem c_X1_worthOf (l : Launch) (dC : Nat → ClassId) (dI : Nat → Nat → Nat) (cL : ClassId) (h0 q1 q2 q3 : Nat) (w b f : Nat → Int64) (sv n : Nat) (co : Int64) (i r : Nat) (h1 : 1 ≤ i) (h2 : i ≤ 7) (h3 : 1 ≤ r) (h4 : r ≤ 7) : Met l yX1_worthOf (kw yX1_worthOf cX1_worthOf 3 (some .long)) (kR 0 0) (kPr (dC, dI) [.ref h0, .int (nI i), .int (nI r)] [(h0, .inr (1, [.ref q1, .ref q2, .ref q3, .int (nI sv), .int (nI n), .long co])), (q1, .inl (cL, 49, .inr (.inl w))), (q2, .inl (cL, 32, .inr (.inl b))), (q3, .inl (cL, 32, .inr (.inl f)))] [(cL, .long)]) (vp_Sl (fun res : Int64 => res = w ((((i - 1) * 7) + r) - 1))) 0 0 kNo := by
  refine kmet (by decide) ?_
  intro p e s m args below meth c Y hr hlocks hin hv
  obtain ⟨rfl, hP, hK, hZ⟩ := kinR hv
  have hS : va_S kNo s.heap s.heap [] := va_S.rf
  have hx := Y.1
  have hb := Y.2.1
  have hml := Y.2.2.1
  have hown := Y.2.2.2.1
  have hts := Y.2.2.2.2
  have hl := lv_entry ([.ref h0, .int (nI i), .int (nI r)]) (n := 3) (Nat.le_of_ble_eq_true rfl)
  rw [lg_entry_eq]
  generalize (lg_sl ([.ref h0, .int (nI i), .int (nI r)]) ++ List.replicate (3 - (lg_sl ([.ref h0, .int (nI i), .int (nI r)])).length) Slot.unset).toArray = ls at hl ⊢
  have hl : lv_has ls 3 [(0, .ref h0), (1, .int (nI i)), (2, .int (nI r))] := hl
  refine lv_aload_n hx hb dX1_worthOf_0 rfl (lv_at hl 0 rfl) ?_
  refine va_get (D := (dC, dI)) (ci := 1) (v := .ref q1) (C := RX1) (T := TX1) (N := 6) hx hb hts inlX1 hown hK hP 0 rfl rfl 0 (by decide) (hts _ qf_X1_9) (fun _ h9 => h9) rfl dX1_worthOf_1 ?_
  refine lv_iload_n hx hb dX1_worthOf_4 rfl (lv_at hl 1 rfl) ?_
  refine lv_iconst (v := nI 1) hx hb dX1_worthOf_5 (by decide) ?_
  refine ri_sub hx hb dX1_worthOf_6 (by omega) ?_
  refine lv_bipush (v := nI 7) hx hb dX1_worthOf_7 (by decide) ?_
  refine ri_mul hx hb dX1_worthOf_9 ?_
  refine lv_iload_n hx hb dX1_worthOf_10 rfl (lv_at hl 2 rfl) ?_
  refine ri_add hx hb dX1_worthOf_11 ?_
  refine lv_iconst (v := nI 1) hx hb dX1_worthOf_12 (by decide) ?_
  refine ri_sub hx hb dX1_worthOf_13 (by omega) ?_
  refine rl_ald hx hb hK hP 1 0 (F := w) rfl rfl dX1_worthOf_14 (by decide) (by omega) ?_
  exact krl (v := w ((((i - 1) * 7) + r) - 1)) Y hr hlocks rfl dX1_worthOf_15
set_option maxHeartbeats 4000000 in
set_option maxRecDepth 100000 in
theorem c_X1_valueBefore (l : Launch) (dC : Nat → ClassId) (dI : Nat → Nat → Nat) (cL : ClassId) (h0 q1 q2 q3 : Nat) (w b f : Nat → Int64) (sv n : Nat) (co : Int64) (i j : Nat) (h1 : 1 ≤ i) (h2 : i ≤ 8) (h3 : j ≤ 3) : Met l yX1_valueBefore (kw yX1_valueBefore cX1_valueBefore 3 (some .long)) (kR 1 21) (kPr (dC, dI) [.ref h0, .int (nI i), .int (nI j)] [(h0, .inr (1, [.ref q1, .ref q2, .ref q3, .int (nI sv), .int (nI n), .long co])), (q1, .inl (cL, 49, .inr (.inl w))), (q2, .inl (cL, 32, .inr (.inl b))), (q3, .inl (cL, 32, .inr (.inl f)))] [(cL, .long)]) (vp_Sl (fun res : Int64 => res = b (((i - 1) * 4) + j))) 0 0 kNo := by
  refine kmet (by decide) ?_
  intro p e s m args below meth c Y hr hlocks hin hv
  obtain ⟨rfl, hP, hK, hZ⟩ := kinR hv
  have hS : va_S kNo s.heap s.heap [] := va_S.rf
  have hx := Y.1
  have hb := Y.2.1
  have hml := Y.2.2.1
  have hown := Y.2.2.2.1
  have hts := Y.2.2.2.2
  have hl := lv_entry ([.ref h0, .int (nI i), .int (nI j)]) (n := 3) (Nat.le_of_ble_eq_true rfl)
  rw [lg_entry_eq]
  generalize (lg_sl ([.ref h0, .int (nI i), .int (nI j)]) ++ List.replicate (3 - (lg_sl ([.ref h0, .int (nI i), .int (nI j)])).length) Slot.unset).toArray = ls at hl ⊢
  have hl : lv_has ls 3 [(0, .ref h0), (1, .int (nI i)), (2, .int (nI j))] := hl
  refine lv_aload_n hx hb dX1_valueBefore_0 rfl (lv_at hl 0 rfl) ?_
  refine va_get (D := (dC, dI)) (ci := 1) (v := .ref q2) (C := RX1) (T := TX1) (N := 6) hx hb hts inlX1 hown hK hP 0 rfl rfl 1 (by decide) (hts _ qf_X1_15) (fun _ h9 => h9) rfl dX1_valueBefore_1 ?_
  refine lv_iload_n hx hb dX1_valueBefore_4 rfl (lv_at hl 1 rfl) ?_
  refine lv_iload_n hx hb dX1_valueBefore_5 rfl (lv_at hl 2 rfl) ?_
  refine kSi (As := [.int (nI i), .int (nI j)]) (rest := [.ref q2]) Y m_X1_place (c_X1_place l dC dI i j (by omega)) qm_X1_21 (kpS hK hP hZ hS [] [] rfl rfl) rfl hl.1 rfl (Nat.le_of_ble_eq_true rfl) dX1_valueBefore_6 ⟨Nat.le_of_ble_eq_true rfl, Nat.le_of_ble_eq_true rfl⟩ ⟨Nat.zero_le _, Nat.zero_le _⟩ (fun r6 hr6 => ?_)
  obtain rfl : r6 = nI (((i - 1) * 4) + j) := hr6
  refine rl_ald hx hb hK hP 2 0 (F := b) rfl rfl dX1_valueBefore_9 (by decide) (by omega) ?_
  exact krl (v := b (((i - 1) * 4) + j)) Y hr hlocks rfl dX1_valueBefore_10
set_option maxHeartbeats 4000000 in
set_option maxRecDepth 100000 in
theorem c_X1_takes (l : Launch) (dC : Nat → ClassId) (dI : Nat → Nat → Nat) (cL : ClassId) (h0 q1 q2 q3 : Nat) (w b f : Nat → Int64) (sv n : Nat) (co : Int64) (i j r : Nat) (h1 : 1 ≤ i) (h2 : i ≤ 7) (h3 : 1 ≤ j) (h4 : j ≤ 3) (h5 : 1 ≤ r) (h6 : r ≤ 7) : Met l yX1_takes (kw yX1_takes cX1_takes 4 (some .boolean)) (kR 1 22) (kPr (dC, dI) [.ref h0, .int (nI i), .int (nI j), .int (nI r)] [(h0, .inr (1, [.ref q1, .ref q2, .ref q3, .int (nI sv), .int (nI n), .long co])), (q1, .inl (cL, 49, .inr (.inl w))), (q2, .inl (cL, 32, .inr (.inl b))), (q3, .inl (cL, 32, .inr (.inl f)))] [(cL, .long)]) (vp_Si (fun res : Int32 => res = b2i (b ((((i + 1) - 1) * 4) + j) ≤ w ((((i - 1) * 7) + r) - 1) + b ((((i + 1) - 1) * 4) + (j - 1))))) 0 0 kNo := by
  refine kmet (by decide) ?_
  intro p e s m args below meth c Y hr hlocks hin hv
  obtain ⟨rfl, hP, hK, hZ⟩ := kinR hv
  have hS : va_S kNo s.heap s.heap [] := va_S.rf
  have hx := Y.1
  have hb := Y.2.1
  have hml := Y.2.2.1
  have hown := Y.2.2.2.1
  have hts := Y.2.2.2.2
  have hl := lv_entry ([.ref h0, .int (nI i), .int (nI j), .int (nI r)]) (n := 4) (Nat.le_of_ble_eq_true rfl)
  rw [lg_entry_eq]
  generalize (lg_sl ([.ref h0, .int (nI i), .int (nI j), .int (nI r)]) ++ List.replicate (4 - (lg_sl ([.ref h0, .int (nI i), .int (nI j), .int (nI r)])).length) Slot.unset).toArray = ls at hl ⊢
  have hl : lv_has ls 4 [(0, .ref h0), (1, .int (nI i)), (2, .int (nI j)), (3, .int (nI r))] := hl
  refine lv_aload_n hx hb dX1_takes_0 rfl (lv_at hl 0 rfl) ?_
  refine lv_iload_n hx hb dX1_takes_1 rfl (lv_at hl 1 rfl) ?_
  refine lv_iload_n hx hb dX1_takes_2 rfl (lv_at hl 3 rfl) ?_
  refine kVl (As := [.int (nI i), .int (nI r)]) (rest := []) Y m_X1_worthOf (c_X1_worthOf l dC dI cL h0 q1 q2 q3 w b f sv n co i r (by omega) (by omega) (by omega) (by omega)) qm_X1_25 (kpV (ci := 1) hK hP hZ hS [0, 1, 2, 3] [0] rfl rfl 0 rfl rfl rfl) rfl hl.1 rfl (Nat.le_of_ble_eq_true rfl) dX1_takes_3 ⟨Nat.le_of_ble_eq_true rfl, Nat.le_of_ble_eq_true rfl⟩ ⟨Nat.zero_le _, Nat.zero_le _⟩ (fun r3 hr3 => ?_)
  obtain rfl : r3 = w ((((i - 1) * 7) + r) - 1) := hr3
  refine lv_aload_n hx hb dX1_takes_6 rfl (lv_at hl 0 rfl) ?_
  refine va_get (D := (dC, dI)) (ci := 1) (v := .ref q2) (C := RX1) (T := TX1) (N := 6) hx hb hts inlX1 hown hK hP 0 rfl rfl 1 (by decide) (hts _ qf_X1_15) (fun _ h9 => h9) rfl dX1_takes_7 ?_
  refine lv_iload_n hx hb dX1_takes_10 rfl (lv_at hl 1 rfl) ?_
  refine lv_iconst (v := nI 1) hx hb dX1_takes_11 (by decide) ?_
  refine ri_add hx hb dX1_takes_12 ?_
  refine lv_iload_n hx hb dX1_takes_13 rfl (lv_at hl 2 rfl) ?_
  refine lv_iconst (v := nI 1) hx hb dX1_takes_14 (by decide) ?_
  refine ri_sub hx hb dX1_takes_15 (by omega) ?_
  refine kSi (As := [.int (nI (i + 1)), .int (nI (j - 1))]) (rest := [.ref q2, .long (w ((((i - 1) * 7) + r) - 1))]) Y m_X1_place (c_X1_place l dC dI (i + 1) (j - 1) (by omega)) qm_X1_21 (kpS hK hP hZ hS [] [] rfl rfl) rfl hl.1 rfl (Nat.le_of_ble_eq_true rfl) dX1_takes_16 ⟨Nat.le_of_ble_eq_true rfl, Nat.le_of_ble_eq_true rfl⟩ ⟨Nat.zero_le _, Nat.zero_le _⟩ (fun r16 hr16 => ?_)
  obtain rfl : r16 = nI ((((i + 1) - 1) * 4) + (j - 1)) := hr16
  refine rl_ald hx hb hK hP 2 0 (F := b) rfl rfl dX1_takes_19 (by decide) (by omega) ?_
  refine lv_ladd hx hb dX1_takes_20 ?_
  refine lv_aload_n hx hb dX1_takes_21 rfl (lv_at hl 0 rfl) ?_
  refine va_get (D := (dC, dI)) (ci := 1) (v := .ref q2) (C := RX1) (T := TX1) (N := 6) hx hb hts inlX1 hown hK hP 0 rfl rfl 1 (by decide) (hts _ qf_X1_15) (fun _ h9 => h9) rfl dX1_takes_22 ?_
  refine lv_iload_n hx hb dX1_takes_25 rfl (lv_at hl 1 rfl) ?_
  refine lv_iconst (v := nI 1) hx hb dX1_takes_26 (by decide) ?_
  refine ri_add hx hb dX1_takes_27 ?_
  refine lv_iload_n hx hb dX1_takes_28 rfl (lv_at hl 2 rfl) ?_
  refine kSi (As := [.int (nI (i + 1)), .int (nI j)]) (rest := [.ref q2, .long ((w ((((i - 1) * 7) + r) - 1)) + (b ((((i + 1) - 1) * 4) + (j - 1))))]) Y m_X1_place (c_X1_place l dC dI (i + 1) j (by omega)) qm_X1_21 (kpS hK hP hZ hS [] [] rfl rfl) rfl hl.1 rfl (Nat.le_of_ble_eq_true rfl) dX1_takes_29 ⟨Nat.le_of_ble_eq_true rfl, Nat.le_of_ble_eq_true rfl⟩ ⟨Nat.zero_le _, Nat.zero_le _⟩ (fun r29 hr29 => ?_)
  obtain rfl : r29 = nI ((((i + 1) - 1) * 4) + j) := hr29
  refine rl_ald hx hb hK hP 2 0 (F := b) rfl rfl dX1_takes_32 (by decide) (by omega) ?_
  refine rl_lt (tgt := 41) hx hb dX1_takes_33 dX1_takes_34 (by decide) (fun c33 => ?_) (fun c33 => ?_)
  · refine lv_iconst (v := nI 0) hx hb dX1_takes_41 (by decide) ?_
    exact krz (v := nI 0) Y hr hlocks (by decide) (b2i_f (Int64.not_le.mpr c33)).symm dX1_takes_42
  · refine lv_iconst (v := nI 1) hx hb dX1_takes_37 (by decide) ?_
    refine lv_goto (tgt := 42) hx hb dX1_takes_38 (by decide) ?_
    exact krz (v := nI 1) Y hr hlocks (by decide) (b2i_t (Int64.not_lt.mp c33)).symm dX1_takes_42
set_option maxHeartbeats 4000000 in
set_option maxRecDepth 100000 in
theorem c_X1_meanOfBest (l : Launch) (dC : Nat → ClassId) (dI : Nat → Nat → Nat) (cL : ClassId) (h0 q1 q2 q3 : Nat) (w b f : Nat → Int64) (sv n : Nat) (co : Int64) (i j : Nat) (h1 : 1 ≤ i) (h2 : i ≤ 7) (h3 : 1 ≤ j) (h4 : j ≤ 3) : Met l yX1_meanOfBest (kw yX1_meanOfBest cX1_meanOfBest 10 (some .long)) (kR 1 23) (kPr (dC, dI) [.ref h0, .int (nI i), .int (nI j)] [(h0, .inr (1, [.ref q1, .ref q2, .ref q3, .int (nI sv), .int (nI n), .long co])), (q1, .inl (cL, 49, .inr (.inl w))), (q2, .inl (cL, 32, .inr (.inl b))), (q3, .inl (cL, 32, .inr (.inl f)))] [(cL, .long)]) (vp_Sl (fun res : Int64 => res = sumL (fun r => mxL (b ((((i + 1) - 1) * 4) + j)) (w ((((i - 1) * 7) + r) - 1) + b ((((i + 1) - 1) * 4) + (j - 1)))) i / lN i)) 0 0 kNo := by
  refine kmet (by decide) ?_
  intro p e s m args below meth c Y hr hlocks hin hv
  obtain ⟨rfl, hP, hK, hZ⟩ := kinR hv
  have hS : va_S kNo s.heap s.heap [] := va_S.rf
  have hx := Y.1
  have hb := Y.2.1
  have hml := Y.2.2.1
  have hown := Y.2.2.2.1
  have hts := Y.2.2.2.2
  have hl := lv_entry ([.ref h0, .int (nI i), .int (nI j)]) (n := 10) (Nat.le_of_ble_eq_true rfl)
  rw [lg_entry_eq]
  generalize (lg_sl ([.ref h0, .int (nI i), .int (nI j)]) ++ List.replicate (10 - (lg_sl ([.ref h0, .int (nI i), .int (nI j)])).length) Slot.unset).toArray = ls at hl ⊢
  have hl : lv_has ls 10 [(0, .ref h0), (1, .int (nI i)), (2, .int (nI j))] := hl
  refine lv_aload_n hx hb dX1_meanOfBest_0 rfl (lv_at hl 0 rfl) ?_
  refine va_get (D := (dC, dI)) (ci := 1) (v := .ref q2) (C := RX1) (T := TX1) (N := 6) hx hb hts inlX1 hown hK hP 0 rfl rfl 1 (by decide) (hts _ qf_X1_15) (fun _ h9 => h9) rfl dX1_meanOfBest_1 ?_
  refine lv_iload_n hx hb dX1_meanOfBest_4 rfl (lv_at hl 1 rfl) ?_
  refine lv_iconst (v := nI 1) hx hb dX1_meanOfBest_5 (by decide) ?_
  refine ri_add hx hb dX1_meanOfBest_6 ?_
  refine lv_iload_n hx hb dX1_meanOfBest_7 rfl (lv_at hl 2 rfl) ?_
  refine kSi (As := [.int (nI (i + 1)), .int (nI j)]) (rest := [.ref q2]) Y m_X1_place (c_X1_place l dC dI (i + 1) j (by omega)) qm_X1_21 (kpS hK hP hZ hS [] [] rfl rfl) rfl hl.1 rfl (Nat.le_of_ble_eq_true rfl) dX1_meanOfBest_8 ⟨Nat.le_of_ble_eq_true rfl, Nat.le_of_ble_eq_true rfl⟩ ⟨Nat.zero_le _, Nat.zero_le _⟩ (fun r8 hr8 => ?_)
  obtain rfl : r8 = nI ((((i + 1) - 1) * 4) + j) := hr8
  refine rl_ald hx hb hK hP 2 0 (F := b) rfl rfl dX1_meanOfBest_11 (by decide) (by omega) ?_
  refine lv_lstore_n (lv' := [(3, .long (b ((((i + 1) - 1) * 4) + j))), (0, .ref h0), (1, .int (nI i)), (2, .int (nI j))]) hx hb dX1_meanOfBest_12 rfl hl (by decide) rfl (fun ls hl => ?_)
  refine lv_aload_n hx hb dX1_meanOfBest_13 rfl (lv_at hl 1 rfl) ?_
  refine va_get (D := (dC, dI)) (ci := 1) (v := .ref q2) (C := RX1) (T := TX1) (N := 6) hx hb hts inlX1 hown hK hP 0 rfl rfl 1 (by decide) (hts _ qf_X1_15) (fun _ h9 => h9) rfl dX1_meanOfBest_14 ?_
  refine lv_iload_n hx hb dX1_meanOfBest_17 rfl (lv_at hl 2 rfl) ?_
  refine lv_iconst (v := nI 1) hx hb dX1_meanOfBest_18 (by decide) ?_
  refine ri_add hx hb dX1_meanOfBest_19 ?_
  refine lv_iload_n hx hb dX1_meanOfBest_20 rfl (lv_at hl 3 rfl) ?_
  refine lv_iconst (v := nI 1) hx hb dX1_meanOfBest_21 (by decide) ?_
  refine ri_sub hx hb dX1_meanOfBest_22 (by omega) ?_
  refine kSi (As := [.int (nI (i + 1)), .int (nI (j - 1))]) (rest := [.ref q2]) Y m_X1_place (c_X1_place l dC dI (i + 1) (j - 1) (by omega)) qm_X1_21 (kpS hK hP hZ hS [] [] rfl rfl) rfl hl.1 rfl (Nat.le_of_ble_eq_true rfl) dX1_meanOfBest_23 ⟨Nat.le_of_ble_eq_true rfl, Nat.le_of_ble_eq_true rfl⟩ ⟨Nat.zero_le _, Nat.zero_le _⟩ (fun r23 hr23 => ?_)
  obtain rfl : r23 = nI ((((i + 1) - 1) * 4) + (j - 1)) := hr23
  refine rl_ald hx hb hK hP 2 0 (F := b) rfl rfl dX1_meanOfBest_26 (by decide) (by omega) ?_
  refine lv_lstore (lv' := [(5, .long (b ((((i + 1) - 1) * 4) + (j - 1)))), (3, .long (b ((((i + 1) - 1) * 4) + j))), (0, .ref h0), (1, .int (nI i)), (2, .int (nI j))]) hx hb dX1_meanOfBest_27 hl (by decide) rfl (fun ls hl => ?_)
  refine lv_lconst (v := lN 0) hx hb dX1_meanOfBest_29 rfl ?_
  refine lv_lstore (lv' := [(7, .long (lN 0)), (5, .long (b ((((i + 1) - 1) * 4) + (j - 1)))), (3, .long (b ((((i + 1) - 1) * 4) + j))), (0, .ref h0), (1, .int (nI i)), (2, .int (nI j))]) hx hb dX1_meanOfBest_30 hl (by decide) rfl (fun ls hl => ?_)
  refine lv_iconst (v := nI 1) hx hb dX1_meanOfBest_32 (by decide) ?_
  refine lv_istore (lv' := [(9, .int (nI 1)), (7, .long (lN 0)), (5, .long (b ((((i + 1) - 1) * 4) + (j - 1)))), (3, .long (b ((((i + 1) - 1) * 4) + j))), (0, .ref h0), (1, .int (nI i)), (2, .int (nI j))]) hx hb dX1_meanOfBest_33 hl (by decide) rfl (fun ls hl => ?_)
  refine wr2 (fun (r : Nat) (sm : Int64) => i + 1 - r) (fun (r : Nat) (sm : Int64) (ls : Array Slot) => lv_has ls 10 [(0, .ref h0), (1, .int (nI i)), (2, .int (nI j)), (3, .long (b ((((i + 1) - 1) * 4) + j))), (5, .long (b ((((i + 1) - 1) * 4) + (j - 1)))), (7, .long sm), (9, .int (nI r))] ∧ (1 ≤ r ∧ r ≤ i + 1 ∧ sm = sumL (fun r => mxL (b ((((i + 1) - 1) * 4) + j)) (w ((((i - 1) * 7) + r) - 1) + b ((((i + 1) - 1) * 4) + (j - 1)))) (r - 1))) 1 (lN 0) (by exact ⟨lv_sub hl [4, 5, 6, 3, 2, 1, 0] rfl, ⟨by omega, by omega, rfl⟩⟩) (fun r sm ls hI ih => ?_)
  obtain ⟨hl, hr1, hr2, hsm⟩ := hI
  have ih35 := ih
  refine lv_iload hx hb dX1_meanOfBest_35 (lv_at hl 6 rfl) ?_
  refine lv_iload_n hx hb dX1_meanOfBest_37 rfl (lv_at hl 1 rfl) ?_
  refine ri_cgt (tgt := 66) hx hb dX1_meanOfBest_38 (by decide) (by omega) (by omega) (fun c38 => ?_) (fun c38 => ?_)
  · refine lv_lload hx hb dX1_meanOfBest_66 (lv_at hl 5 rfl) ?_
    refine lv_iload_n hx hb dX1_meanOfBest_68 rfl (lv_at hl 1 rfl) ?_
    refine ri_i2l hx hb dX1_meanOfBest_69 (by omega) ?_
    refine lv_ldiv hx hb dX1_meanOfBest_70 (lN_z (by omega) (by omega)) ?_
    exact krl (v := sm / (lN i)) Y hr hlocks (by rw [hsm, show r - 1 = i by omega]) dX1_meanOfBest_71
  · refine lv_lload hx hb dX1_meanOfBest_41 (lv_at hl 5 rfl) ?_
    refine lv_lload_n hx hb dX1_meanOfBest_43 rfl (lv_at hl 3 rfl) ?_
    refine lv_aload_n hx hb dX1_meanOfBest_44 rfl (lv_at hl 0 rfl) ?_
    refine lv_iload_n hx hb dX1_meanOfBest_45 rfl (lv_at hl 1 rfl) ?_
    refine lv_iload hx hb dX1_meanOfBest_46 (lv_at hl 6 rfl) ?_
    refine kVl (As := [.int (nI i), .int (nI r)]) (rest := [.long (b ((((i + 1) - 1) * 4) + j)), .long sm]) Y m_X1_worthOf (c_X1_worthOf l dC dI cL h0 q1 q2 q3 w b f sv n co i r (by omega) (by omega) (by omega) (by omega)) qm_X1_25 (kpV (ci := 1) hK hP hZ hS [0, 1, 2, 3] [0] rfl rfl 0 rfl rfl rfl) rfl hl.1 rfl (Nat.le_of_ble_eq_true rfl) dX1_meanOfBest_48 ⟨Nat.le_of_ble_eq_true rfl, Nat.le_of_ble_eq_true rfl⟩ ⟨Nat.zero_le _, Nat.zero_le _⟩ (fun r48 hr48 => ?_)
    obtain rfl : r48 = w ((((i - 1) * 7) + r) - 1) := hr48
    refine lv_lload hx hb dX1_meanOfBest_51 (lv_at hl 4 rfl) ?_
    refine lv_ladd hx hb dX1_meanOfBest_53 ?_
    refine va_mmax_long hx hb (by rw [hml]; exact hl.1.symm) hown (hts _ qm_X1_54) (hts _ qt_Lib_MathLoose_max_long_x) (hts _ qz_java_lang_Math) (hts _ qc_Lib_MathLoose_max_long_x) (Nat.le_of_ble_eq_true rfl) (Nat.le_of_ble_eq_true rfl) (Nat.zero_le _) (Nat.zero_le _) dX1_meanOfBest_54 ?_
    refine lv_ladd hx hb dX1_meanOfBest_57 ?_
    refine lv_lstore (lv' := [(7, .long (sm + (if ((w ((((i - 1) * 7) + r) - 1)) + (b ((((i + 1) - 1) * 4) + (j - 1)))) < (b ((((i + 1) - 1) * 4) + j)) then (b ((((i + 1) - 1) * 4) + j)) else ((w ((((i - 1) * 7) + r) - 1)) + (b ((((i + 1) - 1) * 4) + (j - 1))))))), (0, .ref h0), (1, .int (nI i)), (2, .int (nI j)), (3, .long (b ((((i + 1) - 1) * 4) + j))), (5, .long (b ((((i + 1) - 1) * 4) + (j - 1)))), (9, .int (nI r))]) hx hb dX1_meanOfBest_58 hl (by decide) rfl (fun ls hl => ?_)
    refine lv_iinc (v := nI (r + 1)) (lv' := [(9, .int (nI (r + 1))), (7, .long (sm + (if ((w ((((i - 1) * 7) + r) - 1)) + (b ((((i + 1) - 1) * 4) + (j - 1)))) < (b ((((i + 1) - 1) * 4) + j)) then (b ((((i + 1) - 1) * 4) + j)) else ((w ((((i - 1) * 7) + r) - 1)) + (b ((((i + 1) - 1) * 4) + (j - 1))))))), (0, .ref h0), (1, .int (nI i)), (2, .int (nI j)), (3, .long (b ((((i + 1) - 1) * 4) + j))), (5, .long (b ((((i + 1) - 1) * 4) + (j - 1))))]) hx hb dX1_meanOfBest_60 hl (k := 6) rfl (inc1 _) (by decide) rfl (fun ls hl => ?_)
    refine lv_goto (tgt := 35) hx hb dX1_meanOfBest_63 (by decide) ?_
    exact ih35 (r + 1) (sm + (if ((w ((((i - 1) * 7) + r) - 1)) + (b ((((i + 1) - 1) * 4) + (j - 1)))) < (b ((((i + 1) - 1) * 4) + j)) then (b ((((i + 1) - 1) * 4) + j)) else ((w ((((i - 1) * 7) + r) - 1)) + (b ((((i + 1) - 1) * 4) + (j - 1)))))) _ (by show _ < _; omega) (by exact ⟨lv_sub hl [2, 3, 4, 5, 6, 1, 0] rfl, ⟨by omega, by omega, by rw [hsm]; exact (sumL_s _ hr1).symm⟩⟩)
