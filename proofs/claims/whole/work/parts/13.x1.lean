set_option maxHeartbeats 4000000 in
set_option maxRecDepth 100000 in
theorem c_X1_place (l : Launch) (dC : Nat → ClassId) (dI : Nat → Nat → Nat) (i j : Nat) (h1 : 1 ≤ i) : Met l yX1_place (kw yX1_place cX1_place 2 (some .int)) (kR 0 0) (kPr (dC, dI) [.int (nI i), .int (nI j)] [] []) (vp_Si (fun res : Int32 => res = nI (((i - 1) * 4) + j))) 0 0 kNo := by
  refine kmet (by decide) ?_
  intro p e s m args below meth c Y hr hlocks hin hv
  obtain ⟨rfl, hP, hK, hZ⟩ := kinR hv
  have hS : va_S kNo s.heap s.heap [] := va_S.rf
  have hx := Y.1
  have hb := Y.2.1
  have hml := Y.2.2.1
  have hown := Y.2.2.2.1
  have hts := Y.2.2.2.2
  have hl := lv_entry ([.int (nI i), .int (nI j)]) (n := 2) (Nat.le_of_ble_eq_true rfl)
  rw [lg_entry_eq]
  generalize (lg_sl ([.int (nI i), .int (nI j)]) ++ List.replicate (2 - (lg_sl ([.int (nI i), .int (nI j)])).length) Slot.unset).toArray = ls at hl ⊢
  have hl : lv_has ls 2 [(0, .int (nI i)), (1, .int (nI j))] := hl
  refine lv_iload_n hx hb dX1_place_0 rfl (lv_at hl 0 rfl) ?_
  refine lv_iconst (v := nI 1) hx hb dX1_place_1 (by decide) ?_
  refine ri_sub hx hb dX1_place_2 (by omega) ?_
  refine lv_iconst (v := nI 4) hx hb dX1_place_3 (by decide) ?_
  refine ri_mul hx hb dX1_place_4 ?_
  refine lv_iload_n hx hb dX1_place_5 rfl (lv_at hl 1 rfl) ?_
  refine ri_add hx hb dX1_place_6 ?_
  exact kri (v := nI (((i - 1) * 4) + j)) Y hr hlocks rfl dX1_place_7
set_option maxHeartbeats 4000000 in
set_option maxRecDepth 100000 in
theorem c_X1_binomial (l : Launch) (dC : Nat → ClassId) (dI : Nat → Nat → Nat) (i j : Nat) (h1 : i ≤ 7) (h2 : j ≤ 7) : Met l yX1_binomial (kw yX1_binomial cX1_binomial 2 (some .int)) (kR 0 0) (kPr (dC, dI) [.int (nI i), .int (nI j)] [] []) (vp_Si (fun res : Int32 => res = nI (tbl tBIN ((i * 8) + j)))) 0 0 kNo := by
  refine kmet (by decide) ?_
  intro p e s m args below meth c Y hr hlocks hin hv
  obtain ⟨rfl, hP, hK, hZ⟩ := kinR hv
  have hS : va_S kNo s.heap s.heap [] := va_S.rf
  have hx := Y.1
  have hb := Y.2.1
  have hml := Y.2.2.1
  have hown := Y.2.2.2.1
  have hts := Y.2.2.2.2
  have hl := lv_entry ([.int (nI i), .int (nI j)]) (n := 2) (Nat.le_of_ble_eq_true rfl)
  rw [lg_entry_eq]
  generalize (lg_sl ([.int (nI i), .int (nI j)]) ++ List.replicate (2 - (lg_sl ([.int (nI i), .int (nI j)])).length) Slot.unset).toArray = ls at hl ⊢
  have hl : lv_has ls 2 [(0, .int (nI i)), (1, .int (nI j))] := hl
  refine r_gets Y hZ.2.2.2.1 hS qf_X1_67 (fun _ h9 => h9) dX1_binomial_0 (fun t0 ht0 => ?_)
  refine lv_iload_n hx hb dX1_binomial_3 rfl (lv_at hl 0 rfl) ?_
  refine lv_bipush (v := nI 8) hx hb dX1_binomial_4 (by decide) ?_
  refine ri_mul hx hb dX1_binomial_6 ?_
  refine lv_iload_n hx hb dX1_binomial_7 rfl (lv_at hl 1 rfl) ?_
  refine ri_add hx hb dX1_binomial_8 ?_
  refine r_ti hx hb ht0 hS dX1_binomial_9 (by decide) (by omega) ?_
  exact kri (v := nI (tbl tBIN ((i * 8) + j))) Y hr hlocks rfl dX1_binomial_10
set_option maxHeartbeats 4000000 in
set_option maxRecDepth 100000 in
theorem c_X1_worthOf (l : Launch) (dC : Nat → ClassId) (dI : Nat → Nat → Nat) (cL : ClassId) (h0 q1 q2 q3 : Nat) (w b f : Nat → Int64) (sv n : Nat) (co : Int64) (i r : Nat) (h1 : 1 ≤ i) (h2 : i ≤ 7) (h3 : 1 ≤ r) (h4 : r ≤ 7) : Met l yX1_worthOf (kw yX1_worthOf cX1_worthOf 3 (some .long)) (kR 0 0) (kPr (dC, dI) [.ref h0, .int (nI i), .int (nI r)] [(h0, .inr (1, [.ref q1, .ref q2, .ref q3, .int (nI sv), .int (nI n), .long co])), (q1, .inl (cL, 49, .inr (.inl w))), (q2, .inl (cL, 32, .inr (.inl b))), (q3, .inl (cL, 32, .inr (.inl f)))] [(cL, .long)]) (vp_Sl (fun res : Int64 => res = w ((((i - 1) * 7) + r) - 1))) 0 0 kNo := by
  refine kmet (by decide) ?_
  intro p e s m args below meth c Y hr hlocks hin hv
  obtain ⟨rfl, hP, hK, hZ⟩ := kinR hv
  have hS : va_S kNo s.heap s.heap [] := va_S.rf
  have hx := Y.1
  have hb := Y.2.1
  have hml := Y.2.2.1
  have hown := Y.2.2.2.1
  have hts := Y.2.2.2.2
  have hl := lv_entry ([.ref h0, .int (nI i), .int (nI r)]) (n := 3) (Nat.le_of_ble_eq_true rfl)
  rw [lg_entry_eq]
  generalize (lg_sl ([.ref h0, .int (nI i), .int (nI r)]) ++ List.replicate (3 - (lg_sl ([.ref h0, .int (nI i), .int (nI r)])).length) Slot.unset).toArray = ls at hl ⊢
  have hl : lv_has ls 3 [(0, .ref h0), (1, .int (nI i)), (2, .int (nI r))] := hl
  refine lv_aload_n hx hb dX1_worthOf_0 rfl (lv_at hl 0 rfl) ?_
  refine va_get (D := (dC, dI)) (ci := 1) (v := .ref q1) (C := RX1) (T := TX1) (N := 6) hx hb hts inlX1 hown hK hP 0 rfl rfl 0 (by decide) (hts _ qf_X1_9) (fun _ h9 => h9) rfl dX1_worthOf_1 ?_
  refine lv_iload_n hx hb dX1_worthOf_4 rfl (lv_at hl 1 rfl) ?_
  refine lv_iconst (v := nI 1) hx hb dX1_worthOf_5 (by decide) ?_
  refine ri_sub hx hb dX1_worthOf_6 (by omega) ?_
  refine lv_bipush (v := nI 7) hx hb dX1_worthOf_7 (by decide) ?_
  refine ri_mul hx hb dX1_worthOf_9 ?_
  refine lv_iload_n hx hb dX1_worthOf_10 rfl (lv_at hl 2 rfl) ?_
  refine ri_add hx hb dX1_worthOf_11 ?_
  refine lv_iconst (v := nI 1) hx hb dX1_worthOf_12 (by decide) ?_
  refine ri_sub hx hb dX1_worthOf_13 (by omega) ?_
  refine rl_ald hx hb hK hP 1 0 (F := w) rfl rfl dX1_worthOf_14 (by decide) (by omega) ?_
  exact krl (v := w ((((i - 1) * 7) + r) - 1)) Y hr hlocks rfl dX1_worthOf_15
set_option maxHeartbeats 4000000 in
set_option maxRecDepth 100000 in
theorem c_X1_valueBefore (l : Launch) (dC : Nat → ClassId) (dI : Nat → Nat → Nat) (cL : ClassId) (h0 q1 q2 q3 : Nat) (w b f : Nat → Int64) (sv n : Nat) (co : Int64) (i j : Nat) (h1 : 1 ≤ i) (h2 : i ≤ 8) (h3 : j ≤ 3) : Met l yX1_valueBefore (kw yX1_valueBefore cX1_valueBefore 3 (some .long)) (kR 1 21) (kPr (dC, dI) [.ref h0, .int (nI i), .int (nI j)] [(h0, .inr (1, [.ref q1, .ref q2, .ref q3, .int (nI sv), .int (nI n), .long co])), (q1, .inl (cL, 49, .inr (.inl w))), (q2, .inl (cL, 32, .inr (.inl b))), (q3, .inl (cL, 32, .inr (.inl f)))] [(cL, .long)]) (vp_Sl (fun res : Int64 => res = b (((i - 1) * 4) + j))) 0 0 kNo := by
  refine kmet (by decide) ?_
  intro p e s m args below meth c Y hr hlocks hin hv
  obtain ⟨rfl, hP, hK, hZ⟩ := kinR hv
  have hS : va_S kNo s.heap s.heap [] := va_S.rf
  have hx := Y.1
  have hb := Y.2.1
  have hml := Y.2.2.1
  have hown := Y.2.2.2.1
  have hts := Y.2.2.2.2
  have hl := lv_entry ([.ref h0, .int (nI i), .int (nI j)]) (n := 3) (Nat.le_of_ble_eq_true rfl)
  rw [lg_entry_eq]
  generalize (lg_sl ([.ref h0, .int (nI i), .int (nI j)]) ++ List.replicate (3 - (lg_sl ([.ref h0, .int (nI i), .int (nI j)])).length) Slot.unset).toArray = ls at hl ⊢
  have hl : lv_has ls 3 [(0, .ref h0), (1, .int (nI i)), (2, .int (nI j))] := hl
  refine lv_aload_n hx hb dX1_valueBefore_0 rfl (lv_at hl 0 rfl) ?_
  refine va_get (D := (dC, dI)) (ci := 1) (v := .ref q2) (C := RX1) (T := TX1) (N := 6) hx hb hts inlX1 hown hK hP 0 rfl rfl 1 (by decide) (hts _ qf_X1_15) (fun _ h9 => h9) rfl dX1_valueBefore_1 ?_
  refine lv_iload_n hx hb dX1_valueBefore_4 rfl (lv_at hl 1 rfl) ?_
  refine lv_iload_n hx hb dX1_valueBefore_5 rfl (lv_at hl 2 rfl) ?_
  refine kSi (As := [.int (nI i), .int (nI j)]) (rest := [.ref q2]) Y m_X1_place (c_X1_place l dC dI i j (by omega)) qm_X1_21 (kpS hK hP hZ hS [] [] rfl rfl) rfl hl.1 rfl (Nat.le_of_ble_eq_true rfl) dX1_valueBefore_6 ⟨Nat.le_of_ble_eq_true rfl, Nat.le_of_ble_eq_true rfl⟩ ⟨Nat.zero_le _, Nat.zero_le _⟩ (fun r6 hr6 => ?_)
  obtain rfl : r6 = nI (((i - 1) * 4) + j) := hr6
  refine rl_ald hx hb hK hP 2 0 (F := b) rfl rfl dX1_valueBefore_9 (by decide) (by omega) ?_
  exact krl (v := b (((i - 1) * 4) + j)) Y hr hlocks rfl dX1_valueBefore_10
set_option maxHeartbeats 4000000 in
set_option maxRecDepth 100000 in
theorem c_X1_takes (l : Launch) (dC : Nat → ClassId) (dI : Nat → Nat → Nat) (cL : ClassId) (h0 q1 q2 q3 : Nat) (w b f : Nat → Int64) (sv n : Nat) (co : Int64) (i j r : Nat) (h1 : 1 ≤ i) (h2 : i ≤ 7) (h3 : 1 ≤ j) (h4 : j ≤ 3) (h5 : 1 ≤ r) (h6 : r ≤ 7) : Met l yX1_takes (kw yX1_takes cX1_takes 4 (some .boolean)) (kR 1 22) (kPr (dC, dI) [.ref h0, .int (nI i), .int (nI j), .int (nI r)] [(h0, .inr (1, [.ref q1, .ref q2, .ref q3, .int (nI sv), .int (nI n), .long co])), (q1, .inl (cL, 49, .inr (.inl w))), (q2, .inl (cL, 32, .inr (.inl b))), (q3, .inl (cL, 32, .inr (.inl f)))] [(cL, .long)]) (vp_Si (fun res : Int32 => res = b2i (b ((((i + 1) - 1) * 4) + j) ≤ w ((((i - 1) * 7) + r) - 1) + b ((((i + 1) - 1) * 4) + (j - 1))))) 0 0 kNo := by
  refine kmet (by decide) ?_
  intro p e s m args below meth c Y hr hlocks hin hv
  obtain ⟨rfl, hP, hK, hZ⟩ := kinR hv
  have hS : va_S kNo s.heap s.heap [] := va_S.rf
  have hx := Y.1
  have hb := Y.2.1
  have hml := Y.2.2.1
  have hown := Y.2.2.2.1
  have hts := Y.2.2.2.2
  have hl := lv_entry ([.ref h0, .int (nI i), .int (nI j), .int (nI r)]) (n := 4) (Nat.le_of_ble_eq_true rfl)
  rw [lg_entry_eq]
  generalize (lg_sl ([.ref h0, .int (nI i), .int (nI j), .int (nI r)]) ++ List.replicate (4 - (lg_sl ([.ref h0, .int (nI i), .int (nI j), .int (nI r)])).length) Slot.unset).toArray = ls at hl ⊢
  have hl : lv_has ls 4 [(0, .ref h0), (1, .int (nI i)), (2, .int (nI j)), (3, .int (nI r))] := hl
  refine lv_aload_n hx hb dX1_takes_0 rfl (lv_at hl 0 rfl) ?_
  refine lv_iload_n hx hb dX1_takes_1 rfl (lv_at hl 1 rfl) ?_
  refine lv_iload_n hx hb dX1_takes_2 rfl (lv_at hl 3 rfl) ?_
  refine kVl (As := [.int (nI i), .int (nI r)]) (rest := []) Y m_X1_worthOf (c_X1_worthOf l dC dI cL h0 q1 q2 q3 w b f sv n co i r (by omega) (by omega) (by omega) (by omega)) qm_X1_25 (kpV (ci := 1) hK hP hZ hS [0, 1, 2, 3] [0] rfl rfl 0 rfl rfl rfl) rfl hl.1 rfl (Nat.le_of_ble_eq_true rfl) dX1_takes_3 ⟨Nat.le_of_ble_eq_true rfl, Nat.le_of_ble_eq_true rfl⟩ ⟨Nat.zero_le _, Nat.zero_le _⟩ (fun r3 hr3 => ?_)
  obtain rfl : r3 = w ((((i - 1) * 7) + r) - 1) := hr3
  refine lv_aload_n hx hb dX1_takes_6 rfl (lv_at hl 0 rfl) ?_
  refine va_get (D := (dC, dI)) (ci := 1) (v := .ref q2) (C := RX1) (T := TX1) (N := 6) hx hb hts inlX1 hown hK hP 0 rfl rfl 1 (by decide) (hts _ qf_X1_15) (fun _ h9 => h9) rfl dX1_takes_7 ?_
  refine lv_iload_n hx hb dX1_takes_10 rfl (lv_at hl 1 rfl) ?_
  refine lv_iconst (v := nI 1) hx hb dX1_takes_11 (by decide) ?_
  refine ri_add hx hb dX1_takes_12 ?_
  refine lv_iload_n hx hb dX1_takes_13 rfl (lv_at hl 2 rfl) ?_
  refine lv_iconst (v := nI 1) hx hb dX1_takes_14 (by decide) ?_
  refine ri_sub hx hb dX1_takes_15 (by omega) ?_
  refine kSi (As := [.int (nI (i + 1)), .int (nI (j - 1))]) (rest := [.ref q2, .long (w ((((i - 1) * 7) + r) - 1))]) Y m_X1_place (c_X1_place l dC dI (i + 1) (j - 1) (by omega)) qm_X1_21 (kpS hK hP hZ hS [] [] rfl rfl) rfl hl.1 rfl (Nat.le_of_ble_eq_true rfl) dX1_takes_16 ⟨Nat.le_of_ble_eq_true rfl, Nat.le_of_ble_eq_true rfl⟩ ⟨Nat.zero_le _, Nat.zero_le _⟩ (fun r16 hr16 => ?_)
  obtain rfl : r16 = nI ((((i + 1) - 1) * 4) + (j - 1)) := hr16
  refine rl_ald hx hb hK hP 2 0 (F := b) rfl rfl dX1_takes_19 (by decide) (by omega) ?_
  refine lv_ladd hx hb dX1_takes_20 ?_
  refine lv_aload_n hx hb dX1_takes_21 rfl (lv_at hl 0 rfl) ?_
  refine va_get (D := (dC, dI)) (ci := 1) (v := .ref q2) (C := RX1) (T := TX1) (N := 6) hx hb hts inlX1 hown hK hP 0 rfl rfl 1 (by decide) (hts _ qf_X1_15) (fun _ h9 => h9) rfl dX1_takes_22 ?_
  refine lv_iload_n hx hb dX1_takes_25 rfl (lv_at hl 1 rfl) ?_
  refine lv_iconst (v := nI 1) hx hb dX1_takes_26 (by decide) ?_
  refine ri_add hx hb dX1_takes_27 ?_
  refine lv_iload_n hx hb dX1_takes_28 rfl (lv_at hl 2 rfl) ?_
  refine kSi (As := [.int (nI (i + 1)), .int (nI j)]) (rest := [.ref q2, .long ((w ((((i - 1) * 7) + r) - 1)) + (b ((((i + 1) - 1) * 4) + (j - 1))))]) Y m_X1_place (c_X1_place l dC dI (i + 1) j (by omega)) qm_X1_21 (kpS hK hP hZ hS [] [] rfl rfl) rfl hl.1 rfl (Nat.le_of_ble_eq_true rfl) dX1_takes_29 ⟨Nat.le_of_ble_eq_true rfl, Nat.le_of_ble_eq_true rfl⟩ ⟨Nat.zero_le _, Nat.zero_le _⟩ (fun r29 hr29 => ?_)
  obtain rfl : r29 = nI ((((i + 1) - 1) * 4) + j) := hr29
  refine rl_ald hx hb hK hP 2 0 (F := b) rfl rfl dX1_takes_32 (by decide) (by omega) ?_
  refine rl_lt (tgt := 41) hx hb dX1_takes_33 dX1_takes_34 (by decide) (fun c33 => ?_) (fun c33 => ?_)
  · refine lv_iconst (v := nI 0) hx hb dX1_takes_41 (by decide) ?_
    exact krz (v := nI 0) Y hr hlocks (by decide) (b2i_f (Int64.not_le.mpr c33)).symm dX1_takes_42
  · refine lv_iconst (v := nI 1) hx hb dX1_takes_37 (by decide) ?_
    refine lv_goto (tgt := 42) hx hb dX1_takes_38 (by decide) ?_
    exact krz (v := nI 1) Y hr hlocks (by decide) (b2i_t (Int64.not_lt.mp c33)).symm dX1_takes_42
set_option maxHeartbeats 4000000 in
set_option maxRecDepth 100000 in
theorem c_X1_meanOfBest (l : Launch) (dC : Nat → ClassId) (dI : Nat → Nat → Nat) (cL : ClassId) (h0 q1 q2 q3 : Nat) (w b f : Nat → Int64) (sv n : Nat) (co : Int64) (i j : Nat) (h1 : 1 ≤ i) (h2 : i ≤ 7) (h3 : 1 ≤ j) (h4 : j ≤ 3) : Met l yX1_meanOfBest (kw yX1_meanOfBest cX1_meanOfBest 10 (some .long)) (kR 1 23) (kPr (dC, dI) [.ref h0, .int (nI i), .int (nI j)] [(h0, .inr (1, [.ref q1, .ref q2, .ref q3, .int (nI sv), .int (nI n), .long co])), (q1, .inl (cL, 49, .inr (.inl w))), (q2, .inl (cL, 32, .inr (.inl b))), (q3, .inl (cL, 32, .inr (.inl f)))] [(cL, .long)]) (vp_Sl (fun res : Int64 => res = sumL (fun r => mxL (b ((((i + 1) - 1) * 4) + j)) (w ((((i - 1) * 7) + r) - 1) + b ((((i + 1) - 1) * 4) + (j - 1)))) i / lN i)) 0 0 kNo := by
  refine kmet (by decide) ?_
  intro p e s m args below meth c Y hr hlocks hin hv
  obtain ⟨rfl, hP, hK, hZ⟩ := kinR hv
  have hS : va_S kNo s.heap s.heap [] := va_S.rf
  have hx := Y.1
  have hb := Y.2.1
  have hml := Y.2.2.1
  have hown := Y.2.2.2.1
  have hts := Y.2.2.2.2
  have hl := lv_entry ([.ref h0, .int (nI i), .int (nI j)]) (n := 10) (Nat.le_of_ble_eq_true rfl)
  rw [lg_entry_eq]
  generalize (lg_sl ([.ref h0, .int (nI i), .int (nI j)]) ++ List.replicate (10 - (lg_sl ([.ref h0, .int (nI i), .int (nI j)])).length) Slot.unset).toArray = ls at hl ⊢
  have hl : lv_has ls 10 [(0, .ref h0), (1, .int (nI i)), (2, .int (nI j))] := hl
  refine lv_aload_n hx hb dX1_meanOfBest_0 rfl (lv_at hl 0 rfl) ?_
  refine va_get (D := (dC, dI)) (ci := 1) (v := .ref q2) (C := RX1) (T := TX1) (N := 6) hx hb hts inlX1 hown hK hP 0 rfl rfl 1 (by decide) (hts _ qf_X1_15) (fun _ h9 => h9) rfl dX1_meanOfBest_1 ?_
  refine lv_iload_n hx hb dX1_meanOfBest_4 rfl (lv_at hl 1 rfl) ?_
  refine lv_iconst (v := nI 1) hx hb dX1_meanOfBest_5 (by decide) ?_
  refine ri_add hx hb dX1_meanOfBest_6 ?_
  refine lv_iload_n hx hb dX1_meanOfBest_7 rfl (lv_at hl 2 rfl) ?_
  refine kSi (As := [.int (nI (i + 1)), .int (nI j)]) (rest := [.ref q2]) Y m_X1_place (c_X1_place l dC dI (i + 1) j (by omega)) qm_X1_21 (kpS hK hP hZ hS [] [] rfl rfl) rfl hl.1 rfl (Nat.le_of_ble_eq_true rfl) dX1_meanOfBest_8 ⟨Nat.le_of_ble_eq_true rfl, Nat.le_of_ble_eq_true rfl⟩ ⟨Nat.zero_le _, Nat.zero_le _⟩ (fun r8 hr8 => ?_)
  obtain rfl : r8 = nI ((((i + 1) - 1) * 4) + j) := hr8
  refine rl_ald hx hb hK hP 2 0 (F := b) rfl rfl dX1_meanOfBest_11 (by decide) (by omega) ?_
  refine lv_lstore_n (lv' := [(3, .long (b ((((i + 1) - 1) * 4) + j))), (0, .ref h0), (1, .int (nI i)), (2, .int (nI j))]) hx hb dX1_meanOfBest_12 rfl hl (by decide) rfl (fun ls hl => ?_)
  refine lv_aload_n hx hb dX1_meanOfBest_13 rfl (lv_at hl 1 rfl) ?_
  refine va_get (D := (dC, dI)) (ci := 1) (v := .ref q2) (C := RX1) (T := TX1) (N := 6) hx hb hts inlX1 hown hK hP 0 rfl rfl 1 (by decide) (hts _ qf_X1_15) (fun _ h9 => h9) rfl dX1_meanOfBest_14 ?_
  refine lv_iload_n hx hb dX1_meanOfBest_17 rfl (lv_at hl 2 rfl) ?_
  refine lv_iconst (v := nI 1) hx hb dX1_meanOfBest_18 (by decide) ?_
  refine ri_add hx hb dX1_meanOfBest_19 ?_
  refine lv_iload_n hx hb dX1_meanOfBest_20 rfl (lv_at hl 3 rfl) ?_
  refine lv_iconst (v := nI 1) hx hb dX1_meanOfBest_21 (by decide) ?_
  refine ri_sub hx hb dX1_meanOfBest_22 (by omega) ?_
  refine kSi (As := [.int (nI (i + 1)), .int (nI (j - 1))]) (rest := [.ref q2]) Y m_X1_place (c_X1_place l dC dI (i + 1) (j - 1) (by omega)) qm_X1_21 (kpS hK hP hZ hS [] [] rfl rfl) rfl hl.1 rfl (Nat.le_of_ble_eq_true rfl) dX1_meanOfBest_23 ⟨Nat.le_of_ble_eq_true rfl, Nat.le_of_ble_eq_true rfl⟩ ⟨Nat.zero_le _, Nat.zero_le _⟩ (fun r23 hr23 => ?_)
  obtain rfl : r23 = nI ((((i + 1) - 1) * 4) + (j - 1)) := hr23
  refine rl_ald hx hb hK hP 2 0 (F := b) rfl rfl dX1_meanOfBest_26 (by decide) (by omega) ?_
  refine lv_lstore (lv' := [(5, .long (b ((((i + 1) - 1) * 4) + (j - 1)))), (3, .long (b ((((i + 1) - 1) * 4) + j))), (0, .ref h0), (1, .int (nI i)), (2, .int (nI j))]) hx hb dX1_meanOfBest_27 hl (by decide) rfl (fun ls hl => ?_)
  refine lv_lconst (v := lN 0) hx hb dX1_meanOfBest_29 rfl ?_
  refine lv_lstore (lv' := [(7, .long (lN 0)), (5, .long (b ((((i + 1) - 1) * 4) + (j - 1)))), (3, .long (b ((((i + 1) - 1) * 4) + j))), (0, .ref h0), (1, .int (nI i)), (2, .int (nI j))]) hx hb dX1_meanOfBest_30 hl (by decide) rfl (fun ls hl => ?_)
  refine lv_iconst (v := nI 1) hx hb dX1_meanOfBest_32 (by decide) ?_
  refine lv_istore (lv' := [(9, .int (nI 1)), (7, .long (lN 0)), (5, .long (b ((((i + 1) - 1) * 4) + (j - 1)))), (3, .long (b ((((i + 1) - 1) * 4) + j))), (0, .ref h0), (1, .int (nI i)), (2, .int (nI j))]) hx hb dX1_meanOfBest_33 hl (by decide) rfl (fun ls hl => ?_)
  refine wr2 (fun (r : Nat) (sm : Int64) => i + 1 - r) (fun (r : Nat) (sm : Int64) (ls : Array Slot) => lv_has ls 10 [(0, .ref h0), (1, .int (nI i)), (2, .int (nI j)), (3, .long (b ((((i + 1) - 1) * 4) + j))), (5, .long (b ((((i + 1) - 1) * 4) + (j - 1)))), (7, .long sm), (9, .int (nI r))] ∧ (1 ≤ r ∧ r ≤ i + 1 ∧ sm = sumL (fun r => mxL (b ((((i + 1) - 1) * 4) + j)) (w ((((i - 1) * 7) + r) - 1) + b ((((i + 1) - 1) * 4) + (j - 1)))) (r - 1))) 1 (lN 0) (by exact ⟨lv_sub hl [4, 5, 6, 3, 2, 1, 0] rfl, ⟨by omega, by omega, rfl⟩⟩) (fun r sm ls hI ih => ?_)
  obtain ⟨hl, hr1, hr2, hsm⟩ := hI
  have ih35 := ih
  refine lv_iload hx hb dX1_meanOfBest_35 (lv_at hl 6 rfl) ?_
  refine lv_iload_n hx hb dX1_meanOfBest_37 rfl (lv_at hl 1 rfl) ?_
  refine ri_cgt (tgt := 66) hx hb dX1_meanOfBest_38 (by decide) (by omega) (by omega) (fun c38 => ?_) (fun c38 => ?_)
  · refine lv_lload hx hb dX1_meanOfBest_66 (lv_at hl 5 rfl) ?_
    refine lv_iload_n hx hb dX1_meanOfBest_68 rfl (lv_at hl 1 rfl) ?_
    refine ri_i2l hx hb dX1_meanOfBest_69 (by omega) ?_
    refine lv_ldiv hx hb dX1_meanOfBest_70 (lN_z (by omega) (by omega)) ?_
    exact krl (v := sm / (lN i)) Y hr hlocks (by rw [hsm, show r - 1 = i by omega]) dX1_meanOfBest_71
  · refine lv_lload hx hb dX1_meanOfBest_41 (lv_at hl 5 rfl) ?_
    refine lv_lload_n hx hb dX1_meanOfBest_43 rfl (lv_at hl 3 rfl) ?_
    refine lv_aload_n hx hb dX1_meanOfBest_44 rfl (lv_at hl 0 rfl) ?_
    refine lv_iload_n hx hb dX1_meanOfBest_45 rfl (lv_at hl 1 rfl) ?_
    refine lv_iload hx hb dX1_meanOfBest_46 (lv_at hl 6 rfl) ?_
    refine kVl (As := [.int (nI i), .int (nI r)]) (rest := [.long (b ((((i + 1) - 1) * 4) + j)), .long sm]) Y m_X1_worthOf (c_X1_worthOf l dC dI cL h0 q1 q2 q3 w b f sv n co i r (by omega) (by omega) (by omega) (by omega)) qm_X1_25 (kpV (ci := 1) hK hP hZ hS [0, 1, 2, 3] [0] rfl rfl 0 rfl rfl rfl) rfl hl.1 rfl (Nat.le_of_ble_eq_true rfl) dX1_meanOfBest_48 ⟨Nat.le_of_ble_eq_true rfl, Nat.le_of_ble_eq_true rfl⟩ ⟨Nat.zero_le _, Nat.zero_le _⟩ (fun r48 hr48 => ?_)
    obtain rfl : r48 = w ((((i - 1) * 7) + r) - 1) := hr48
    refine lv_lload hx hb dX1_meanOfBest_51 (lv_at hl 4 rfl) ?_
    refine lv_ladd hx hb dX1_meanOfBest_53 ?_
    refine va_mmax_long hx hb (by rw [hml]; exact hl.1.symm) hown (hts _ qm_X1_54) (hts _ qt_Lib_MathLoose_max_long_x) (hts _ qz_java_lang_Math) (hts _ qc_Lib_MathLoose_max_long_x) (Nat.le_of_ble_eq_true rfl) (Nat.le_of_ble_eq_true rfl) (Nat.zero_le _) (Nat.zero_le _) dX1_meanOfBest_54 ?_
    refine lv_ladd hx hb dX1_meanOfBest_57 ?_
    refine lv_lstore (lv' := [(7, .long (sm + (if ((w ((((i - 1) * 7) + r) - 1)) + (b ((((i + 1) - 1) * 4) + (j - 1)))) < (b ((((i + 1) - 1) * 4) + j)) then (b ((((i + 1) - 1) * 4) + j)) else ((w ((((i - 1) * 7) + r) - 1)) + (b ((((i + 1) - 1) * 4) + (j - 1))))))), (0, .ref h0), (1, .int (nI i)), (2, .int (nI j)), (3, .long (b ((((i + 1) - 1) * 4) + j))), (5, .long (b ((((i + 1) - 1) * 4) + (j - 1)))), (9, .int (nI r))]) hx hb dX1_meanOfBest_58 hl (by decide) rfl (fun ls hl => ?_)
    refine lv_iinc (v := nI (r + 1)) (lv' := [(9, .int (nI (r + 1))), (7, .long (sm + (if ((w ((((i - 1) * 7) + r) - 1)) + (b ((((i + 1) - 1) * 4) + (j - 1)))) < (b ((((i + 1) - 1) * 4) + j)) then (b ((((i + 1) - 1) * 4) + j)) else ((w ((((i - 1) * 7) + r) - 1)) + (b ((((i + 1) - 1) * 4) + (j - 1))))))), (0, .ref h0), (1, .int (nI i)), (2, .int (nI j)), (3, .long (b ((((i + 1) - 1) * 4) + j))), (5, .long (b ((((i + 1) - 1) * 4) + (j - 1))))]) hx hb dX1_meanOfBest_60 hl (k := 6) rfl (inc1 _) (by decide) rfl (fun ls hl => ?_)
    refine lv_goto (tgt := 35) hx hb dX1_meanOfBest_63 (by decide) ?_
    exact ih35 (r + 1) (sm + (if ((w ((((i - 1) * 7) + r) - 1)) + (b ((((i + 1) - 1) * 4) + (j - 1)))) < (b ((((i + 1) - 1) * 4) + j)) then (b ((((i + 1) - 1) * 4) + j)) else ((w ((((i - 1) * 7) + r) - 1)) + (b ((((i + 1) - 1) * 4) + (j - 1)))))) _ (by show _ < _; omega) (by exact ⟨lv_sub hl [2, 3, 4, 5, 6, 1, 0] rfl, ⟨by omega, by omega, by rw [hsm]; exact (sumL_s _ hr1).symm⟩⟩)
set_option maxHeartbeats 4000000 in
set_option maxRecDepth 100000 in
theorem c_X1_forget (l : Launch) (dC : Nat → ClassId) (dI : Nat → Nat → Nat) (sz : Nat) (h0 q1 q2 q3 : Nat) (sv n : Nat) (co : Int64)  : Met l yX1_forget (kw yX1_forget cX1_forget 1 none) (kR 0 0) (kPq (dC, dI) [.ref h0] sz [(h0, .inr (1, [.ref q1, .ref q2, .ref q3, .int (nI sv), .int (nI n), .long co]))] []) (va_Qv (fun u : Unit => True) (fun u : Unit => kB (dC, dI) [] (va_A [(h0, .inr (1, [.ref q1, .ref q2, .ref q3, .int (nI sv), .int (nI n), .long co]))] sz) ([(h0, .inr (1, [.ref q1, .ref q2, .ref q3, .int (nI 0), .int (nI n), .long co]))])) (va_A [(h0, .inr (1, [.ref q1, .ref q2, .ref q3, .int (nI sv), .int (nI n), .long co]))] sz)) 0 0 (va_A [(h0, .inr (1, [.ref q1, .ref q2, .ref q3, .int (nI sv), .int (nI n), .long co]))] sz) := by
  refine kmet (by decide) ?_
  intro p e s m args below meth c Y hr hlocks hin hv
  obtain ⟨rfl, A, hAe, hsz, hP, hK, hD, hZ, hA⟩ := kinQ hv
  rw [hAe]
  have hS : va_S A s.heap s.heap [] := va_S.rf
  have hx := Y.1
  have hb := Y.2.1
  have hml := Y.2.2.1
  have hown := Y.2.2.2.1
  have hts := Y.2.2.2.2
  have hl := lv_entry ([.ref h0]) (n := 1) (Nat.le_of_ble_eq_true rfl)
  rw [lg_entry_eq]
  generalize (lg_sl ([.ref h0]) ++ List.replicate (1 - (lg_sl ([.ref h0])).length) Slot.unset).toArray = ls at hl ⊢
  have hl : lv_has ls 1 [(0, .ref h0)] := hl
  refine lv_aload_n hx hb dX1_forget_0 rfl (lv_at hl 0 rfl) ?_
  refine lv_iconst (v := nI 0) hx hb dX1_forget_1 (by decide) ?_
  refine va_put (D := (dC, dI)) (ci := 1) (v := .int (nI 0)) (ty := .boolean) (C := RX1) (T := TX1) (N := 6) hx hb hts inlX1 tyX1 tyX1_ok nmX1 hown hK hP hD hS 0 rfl rfl 3 (by decide) (hts _ qf_X1_29) (fun _ h9 => h9) rfl (by decide +kernel) (by decide) rfl (Nat.le_of_ble_eq_true rfl) dX1_forget_2 (fun H locs hP hD hS => ?_)
  have hP : va_P (dC, dI) vwCl [(h0, .inr (1, [.ref q1, .ref q2, .ref q3, .int (nI 0), .int (nI n), .long co]))] H := hP
  have hD : va_D A [(h0, .inr (1, [.ref q1, .ref q2, .ref q3, .int (nI 0), .int (nI n), .long co]))] := hD
  exact kqv (w1 := (fun u : Unit => [(h0, .inr (1, [.ref q1, .ref q2, .ref q3, .int (nI 0), .int (nI n), .long co]))])) Y hr hlocks hK hP hD hS [0] (by decide) () rfl trivial dX1_forget_5
set_option maxHeartbeats 4000000 in
set_option maxRecDepth 100000 in
theorem c_X1_clearEnds (l : Launch) (dC : Nat → ClassId) (dI : Nat → Nat → Nat) (sz : Nat) (cL : ClassId) (h0 q1 q2 q3 a : Nat) (g : Nat → Int64) (sv n : Nat) (co : Int64) (h1 : 1 ≤ n) (h2 : n ≤ 7) : Met l yX1_clearEnds (kw yX1_clearEnds cX1_clearEnds 3 none) (kR 1 21) (kPq (dC, dI) [.ref h0, .ref a] sz [(h0, .inr (1, [.ref q1, .ref q2, .ref q3, .int (nI sv), .int (nI n), .long co])), (a, .inl (cL, 32, .inr (.inl g)))] [(cL, .long)]) (va_Qv (fun u : Nat → Int64 => u = clr n g) (fun u : Nat → Int64 => kB (dC, dI) [(cL, .long)] (va_A [(h0, .inr (1, [.ref q1, .ref q2, .ref q3, .int (nI sv), .int (nI n), .long co])), (a, .inl (cL, 32, .inr (.inl g)))] sz) ([(h0, .inr (1, [.ref q1, .ref q2, .ref q3, .int (nI sv), .int (nI n), .long co])), (a, .inl (cL, 32, .inr (.inl u)))])) (va_A [(h0, .inr (1, [.ref q1, .ref q2, .ref q3, .int (nI sv), .int (nI n), .long co])), (a, .inl (cL, 32, .inr (.inl g)))] sz)) 0 0 (va_A [(h0, .inr (1, [.ref q1, .ref q2, .ref q3, .int (nI sv), .int (nI n), .long co])), (a, .inl (cL, 32, .inr (.inl g)))] sz) := by
  refine kmet (by decide) ?_
  intro p e s m args below meth c Y hr hlocks hin hv
  obtain ⟨rfl, A, hAe, hsz, hP, hK, hD, hZ, hA⟩ := kinQ hv
  rw [hAe]
  have hS : va_S A s.heap s.heap [] := va_S.rf
  have hx := Y.1
  have hb := Y.2.1
  have hml := Y.2.2.1
  have hown := Y.2.2.2.1
  have hts := Y.2.2.2.2
  have hl := lv_entry ([.ref h0, .ref a]) (n := 3) (Nat.le_of_ble_eq_true rfl)
  rw [lg_entry_eq]
  generalize (lg_sl ([.ref h0, .ref a]) ++ List.replicate (3 - (lg_sl ([.ref h0, .ref a])).length) Slot.unset).toArray = ls at hl ⊢
  have hl : lv_has ls 3 [(0, .ref h0), (1, .ref a)] := hl
  refine lv_iconst (v := nI 1) hx hb dX1_clearEnds_0 (by decide) ?_
  refine lv_istore_n (lv' := [(2, .int (nI 1)), (0, .ref h0), (1, .ref a)]) hx hb dX1_clearEnds_1 rfl hl (by decide) rfl (fun ls hl => ?_)
  refine wl2 (fun (i : Nat) (g1 : Nat → Int64) => n + 1 - i) (fun (i : Nat) (g1 : Nat → Int64) (ls : Array Slot) (H : Heap) (locs : List Loc) => lv_has ls 3 [(0, .ref h0), (1, .ref a), (2, .int (nI i))] ∧ va_P (dC, dI) vwCl [(h0, .inr (1, [.ref q1, .ref q2, .ref q3, .int (nI sv), .int (nI n), .long co])), (a, .inl (cL, 32, .inr (.inl g1)))] H ∧ va_D A [(h0, .inr (1, [.ref q1, .ref q2, .ref q3, .int (nI sv), .int (nI n), .long co])), (a, .inl (cL, 32, .inr (.inl g1)))] ∧ va_S A s.heap H locs ∧ (1 ≤ i ∧ i ≤ n + 1 ∧ ∀ x, g1 x = if x % 4 = 0 ∧ x / 4 + 1 < i then lN 0 else g x)) 1 g (by exact ⟨lv_sub hl [1, 2, 0] rfl, hP.sub [0, 1] rfl, hD.sub [0, 1] (by decide) rfl, hS, by omega, by omega, fun x => by rw [if_neg (by omega)]⟩) (fun i g1 ls H locs hI ih => ?_)
  obtain ⟨hl, hP, hD, hS, hi1, hi2, hg⟩ := hI
  have ih2 := ih
  refine lv_iload_n hx hb dX1_clearEnds_2 rfl (lv_at hl 2 rfl) ?_
  refine lv_aload_n hx hb dX1_clearEnds_3 rfl (lv_at hl 0 rfl) ?_
  refine va_get (D := (dC, dI)) (ci := 1) (v := .int (nI n)) (C := RX1) (T := TX1) (N := 6) hx hb hts inlX1 hown hK hP 0 rfl rfl 4 (by decide) (hts _ qf_X1_33) (fun _ h9 => h9) rfl dX1_clearEnds_4 ?_
  refine ri_cgt (tgt := 24) hx hb dX1_clearEnds_7 (by decide) (by omega) (by omega) (fun c7 => ?_) (fun c7 => ?_)
  · refine lv_iconst (v := nI 0) hx hb dX1_clearEnds_24 (by decide) ?_
    refine lv_istore_n (lv' := [(2, .int (nI 0)), (0, .ref h0), (1, .ref a)]) hx hb dX1_clearEnds_25 rfl hl (by decide) rfl (fun ls hl => ?_)
    refine wl2 (fun (j : Nat) (g3 : Nat → Int64) => 4 - j) (fun (j : Nat) (g3 : Nat → Int64) (ls : Array Slot) (H : Heap) (locs : List Loc) => lv_has ls 3 [(0, .ref h0), (1, .ref a), (2, .int (nI j))] ∧ va_P (dC, dI) vwCl [(h0, .inr (1, [.ref q1, .ref q2, .ref q3, .int (nI sv), .int (nI n), .long co])), (a, .inl (cL, 32, .inr (.inl g3)))] H ∧ va_D A [(h0, .inr (1, [.ref q1, .ref q2, .ref q3, .int (nI sv), .int (nI n), .long co])), (a, .inl (cL, 32, .inr (.inl g3)))] ∧ va_S A s.heap H locs ∧ (j ≤ 4 ∧ ∀ x, g3 x = if (x % 4 = 0 ∧ x / 4 < n) ∨ (x / 4 = n ∧ x % 4 < j) then lN 0 else g x)) 0 g1 (by exact ⟨lv_sub hl [1, 2, 0] rfl, hP.sub [0, 1] rfl, hD.sub [0, 1] (by decide) rfl, hS, by omega, fun x => by rw [hg x]; split <;> (try split) <;> (try split) <;> first | rfl | omega⟩) (fun j g3 ls H locs hI ih => ?_)
    obtain ⟨hl, hP, hD, hS, hj, hg3⟩ := hI
    have ih26 := ih
    refine lv_iload_n hx hb dX1_clearEnds_26 rfl (lv_at hl 2 rfl) ?_
    refine lv_iconst (v := nI 3) hx hb dX1_clearEnds_27 (by decide) ?_
    refine ri_cgt (tgt := 50) hx hb dX1_clearEnds_28 (by decide) (by omega) (by omega) (fun c28 => ?_) (fun c28 => ?_)
    · exact kqv (w1 := (fun u : Nat → Int64 => [(h0, .inr (1, [.ref q1, .ref q2, .ref q3, .int (nI sv), .int (nI n), .long co])), (a, .inl (cL, 32, .inr (.inl u)))])) Y hr hlocks hK hP hD hS [0, 1] (by decide) (g3) rfl (by funext x; unfold clr; rw [hg3 x]; split <;> (try split) <;> (try split) <;> first | rfl | omega) dX1_clearEnds_50
    · refine lv_aload_n hx hb dX1_clearEnds_31 rfl (lv_at hl 1 rfl) ?_
      refine lv_aload_n hx hb dX1_clearEnds_32 rfl (lv_at hl 0 rfl) ?_
      refine va_get (D := (dC, dI)) (ci := 1) (v := .int (nI n)) (C := RX1) (T := TX1) (N := 6) hx hb hts inlX1 hown hK hP 0 rfl rfl 4 (by decide) (hts _ qf_X1_33) (fun _ h9 => h9) rfl dX1_clearEnds_33 ?_
      refine lv_iconst (v := nI 1) hx hb dX1_clearEnds_36 (by decide) ?_
      refine ri_add hx hb dX1_clearEnds_37 ?_
      refine lv_iload_n hx hb dX1_clearEnds_38 rfl (lv_at hl 2 rfl) ?_
      refine kSi (As := [.int (nI (n + 1)), .int (nI j)]) (rest := [.ref a]) Y m_X1_place (c_X1_place l dC dI (n + 1) j (by omega)) qm_X1_21 (kpS hK hP hZ hS [] [] rfl rfl) rfl hl.1 rfl (Nat.le_of_ble_eq_true rfl) dX1_clearEnds_39 ⟨Nat.le_of_ble_eq_true rfl, Nat.le_of_ble_eq_true rfl⟩ ⟨Nat.zero_le _, Nat.zero_le _⟩ (fun r39 hr39 => ?_)
      obtain rfl : r39 = nI ((((n + 1) - 1) * 4) + j) := hr39
      refine lv_lconst (v := lN 0) hx hb dX1_clearEnds_42 rfl ?_
      refine rl_ast hx hb hK hP hD hS 1 0 (F := g3) rfl rfl dX1_clearEnds_43 (by decide) (by omega) (fun H locs hP hD hS => ?_)
      have hP : va_P (dC, dI) vwCl [(h0, .inr (1, [.ref q1, .ref q2, .ref q3, .int (nI sv), .int (nI n), .long co])), (a, .inl (cL, 32, .inr (.inl (updL g3 ((((n + 1) - 1) * 4) + j) (lN 0)))))] H := hP
      have hD : va_D A [(h0, .inr (1, [.ref q1, .ref q2, .ref q3, .int (nI sv), .int (nI n), .long co])), (a, .inl (cL, 32, .inr (.inl (updL g3 ((((n + 1) - 1) * 4) + j) (lN 0)))))] := hD
      refine lv_iinc (v := nI (j + 1)) (lv' := [(2, .int (nI (j + 1))), (0, .ref h0), (1, .ref a)]) hx hb dX1_clearEnds_44 hl (k := 2) rfl (inc1 _) (by decide) rfl (fun ls hl => ?_)
      refine lv_goto (tgt := 26) hx hb dX1_clearEnds_47 (by decide) ?_
      exact ih26 (j + 1) (updL g3 ((((n + 1) - 1) * 4) + j) (lN 0)) _ _ _ (by show _ < _; omega) (by exact ⟨lv_sub hl [1, 2, 0] rfl, hP.sub [0, 1] rfl, hD.sub [0, 1] (by decide) rfl, hS, by omega, fun x => by unfold updL; rw [hg3 x]; split <;> (try split) <;> (try split) <;> first | rfl | omega⟩)
  · refine lv_aload_n hx hb dX1_clearEnds_10 rfl (lv_at hl 1 rfl) ?_
    refine lv_iload_n hx hb dX1_clearEnds_11 rfl (lv_at hl 2 rfl) ?_
    refine lv_iconst (v := nI 0) hx hb dX1_clearEnds_12 (by decide) ?_
    refine kSi (As := [.int (nI i), .int (nI 0)]) (rest := [.ref a]) Y m_X1_place (c_X1_place l dC dI i 0 (by omega)) qm_X1_21 (kpS hK hP hZ hS [] [] rfl rfl) rfl hl.1 rfl (Nat.le_of_ble_eq_true rfl) dX1_clearEnds_13 ⟨Nat.le_of_ble_eq_true rfl, Nat.le_of_ble_eq_true rfl⟩ ⟨Nat.zero_le _, Nat.zero_le _⟩ (fun r13 hr13 => ?_)
    obtain rfl : r13 = nI (((i - 1) * 4) + 0) := hr13
    refine lv_lconst (v := lN 0) hx hb dX1_clearEnds_16 rfl ?_
    refine rl_ast hx hb hK hP hD hS 1 0 (F := g1) rfl rfl dX1_clearEnds_17 (by decide) (by omega) (fun H locs hP hD hS => ?_)
    have hP : va_P (dC, dI) vwCl [(h0, .inr (1, [.ref q1, .ref q2, .ref q3, .int (nI sv), .int (nI n), .long co])), (a, .inl (cL, 32, .inr (.inl (updL g1 (((i - 1) * 4) + 0) (lN 0)))))] H := hP
    have hD : va_D A [(h0, .inr (1, [.ref q1, .ref q2, .ref q3, .int (nI sv), .int (nI n), .long co])), (a, .inl (cL, 32, .inr (.inl (updL g1 (((i - 1) * 4) + 0) (lN 0)))))] := hD
    refine lv_iinc (v := nI (i + 1)) (lv' := [(2, .int (nI (i + 1))), (0, .ref h0), (1, .ref a)]) hx hb dX1_clearEnds_18 hl (k := 2) rfl (inc1 _) (by decide) rfl (fun ls hl => ?_)
    refine lv_goto (tgt := 2) hx hb dX1_clearEnds_21 (by decide) ?_
    exact ih2 (i + 1) (updL g1 (((i - 1) * 4) + 0) (lN 0)) _ _ _ (by show _ < _; omega) (by exact ⟨lv_sub hl [1, 2, 0] rfl, hP.sub [0, 1] rfl, hD.sub [0, 1] (by decide) rfl, hS, by omega, by omega, fun x => by unfold updL; rw [hg x]; split <;> (try split) <;> (try split) <;> first | rfl | omega⟩)
set_option maxHeartbeats 4000000 in
set_option maxRecDepth 100000 in
theorem c_X1_meanFollowed (l : Launch) (dC : Nat → ClassId) (dI : Nat → Nat → Nat) (cL : ClassId) (h0 q1 q2 q3 : Nat) (w b f : Nat → Int64) (sv n : Nat) (co : Int64) (i j oc : Nat) (h1 : 1 ≤ i) (h2 : i ≤ 7) (h3 : 1 ≤ j) (h4 : j ≤ 3) (h5 : oc ≤ 1) : Met l yX1_meanFollowed (kw yX1_meanFollowed cX1_meanFollowed 7 (some .long)) (kR 2 45) (kPr (dC, dI) [.ref h0, .int (nI i), .int (nI j), .int (nI oc)] [(h0, .inr (1, [.ref q1, .ref q2, .ref q3, .int (nI sv), .int (nI n), .long co])), (q1, .inl (cL, 49, .inr (.inl w))), (q2, .inl (cL, 32, .inr (.inl b))), (q3, .inl (cL, 32, .inr (.inl f)))] [(cL, .long)]) (vp_Sl (fun res : Int64 => res = sumL (mfF w b f oc i j) i / lN i)) 0 0 kNo := by
  refine kmet (by decide) ?_
  intro p e s m args below meth c Y hr hlocks hin hv
  obtain ⟨rfl, hP, hK, hZ⟩ := kinR hv
  have hS : va_S kNo s.heap s.heap [] := va_S.rf
  have hx := Y.1
  have hb := Y.2.1
  have hml := Y.2.2.1
  have hown := Y.2.2.2.1
  have hts := Y.2.2.2.2
  have hl := lv_entry ([.ref h0, .int (nI i), .int (nI j), .int (nI oc)]) (n := 7) (Nat.le_of_ble_eq_true rfl)
  rw [lg_entry_eq]
  generalize (lg_sl ([.ref h0, .int (nI i), .int (nI j), .int (nI oc)]) ++ List.replicate (7 - (lg_sl ([.ref h0, .int (nI i), .int (nI j), .int (nI oc)])).length) Slot.unset).toArray = ls at hl ⊢
  have hl : lv_has ls 7 [(0, .ref h0), (1, .int (nI i)), (2, .int (nI j)), (3, .int (nI oc))] := hl
  refine lv_lconst (v := lN 0) hx hb dX1_meanFollowed_0 rfl ?_
  refine lv_lstore (lv' := [(4, .long (lN 0)), (0, .ref h0), (1, .int (nI i)), (2, .int (nI j)), (3, .int (nI oc))]) hx hb dX1_meanFollowed_1 hl (by decide) rfl (fun ls hl => ?_)
  refine lv_iconst (v := nI 1) hx hb dX1_meanFollowed_3 (by decide) ?_
  refine lv_istore (lv' := [(6, .int (nI 1)), (4, .long (lN 0)), (0, .ref h0), (1, .int (nI i)), (2, .int (nI j)), (3, .int (nI oc))]) hx hb dX1_meanFollowed_4 hl (by decide) rfl (fun ls hl => ?_)
  refine wr2 (fun (r : Nat) (sm : Int64) => i + 1 - r) (fun (r : Nat) (sm : Int64) (ls : Array Slot) => lv_has ls 7 [(0, .ref h0), (1, .int (nI i)), (2, .int (nI j)), (3, .int (nI oc)), (4, .long sm), (6, .int (nI r))] ∧ (1 ≤ r ∧ r ≤ i + 1 ∧ sm = sumL (mfF w b f oc i j) (r - 1))) 1 (lN 0) (by exact ⟨lv_sub hl [2, 3, 4, 5, 1, 0] rfl, ⟨by omega, by omega, rfl⟩⟩) (fun r sm ls hI ih => ?_)
  obtain ⟨hl, hr1, hr2, hsm⟩ := hI
  have ih6 := ih
  refine lv_iload hx hb dX1_meanFollowed_6 (lv_at hl 5 rfl) ?_
  refine lv_iload_n hx hb dX1_meanFollowed_8 rfl (lv_at hl 1 rfl) ?_
  refine ri_cgt (tgt := 80) hx hb dX1_meanFollowed_9 (by decide) (by omega) (by omega) (fun c9 => ?_) (fun c9 => ?_)
  · refine lv_lload hx hb dX1_meanFollowed_80 (lv_at hl 4 rfl) ?_
    refine lv_iload_n hx hb dX1_meanFollowed_82 rfl (lv_at hl 1 rfl) ?_
    refine ri_i2l hx hb dX1_meanFollowed_83 (by omega) ?_
    refine lv_ldiv hx hb dX1_meanFollowed_84 (lN_z (by omega) (by omega)) ?_
    exact krl (v := sm / (lN i)) Y hr hlocks (by rw [hsm, show r - 1 = i by omega]) dX1_meanFollowed_85
  · refine lv_aload_n hx hb dX1_meanFollowed_12 rfl (lv_at hl 0 rfl) ?_
    refine lv_iload_n hx hb dX1_meanFollowed_13 rfl (lv_at hl 1 rfl) ?_
    refine lv_iload_n hx hb dX1_meanFollowed_14 rfl (lv_at hl 2 rfl) ?_
    refine lv_iload hx hb dX1_meanFollowed_15 (lv_at hl 5 rfl) ?_
    refine kVi (As := [.int (nI i), .int (nI j), .int (nI r)]) (rest := []) Y m_X1_takes (c_X1_takes l dC dI cL h0 q1 q2 q3 w b f sv n co i j r (by omega) (by omega) (by omega) (by omega) (by omega) (by omega)) qm_X1_74 (kpV (ci := 1) hK hP hZ hS [0, 1, 2, 3] [0] rfl rfl 0 rfl rfl rfl) rfl hl.1 rfl (Nat.le_of_ble_eq_true rfl) dX1_meanFollowed_17 ⟨Nat.le_of_ble_eq_true rfl, Nat.le_of_ble_eq_true rfl⟩ ⟨Nat.zero_le _, Nat.zero_le _⟩ (fun r17 hr17 => ?_)
    obtain rfl : r17 = b2i (b ((((i + 1) - 1) * 4) + j) ≤ w ((((i - 1) * 7) + r) - 1) + b ((((i + 1) - 1) * 4) + (j - 1))) := hr17
    refine ri_beq (tgt := 57) hx hb dX1_meanFollowed_20 (by decide) (fun c20 => ?_) (fun c20 => ?_)
    · refine lv_lload hx hb dX1_meanFollowed_57 (lv_at hl 4 rfl) ?_
      refine lv_aload_n hx hb dX1_meanFollowed_59 rfl (lv_at hl 0 rfl) ?_
      refine va_get (D := (dC, dI)) (ci := 1) (v := .ref q3) (C := RX1) (T := TX1) (N := 6) hx hb hts inlX1 hown hK hP 0 rfl rfl 2 (by decide) (hts _ qf_X1_18) (fun _ h9 => h9) rfl dX1_meanFollowed_60 ?_
      refine lv_iload_n hx hb dX1_meanFollowed_63 rfl (lv_at hl 1 rfl) ?_
      refine lv_iconst (v := nI 1) hx hb dX1_meanFollowed_64 (by decide) ?_
      refine ri_add hx hb dX1_meanFollowed_65 ?_
      refine lv_iload_n hx hb dX1_meanFollowed_66 rfl (lv_at hl 2 rfl) ?_
      refine kSi (As := [.int (nI (i + 1)), .int (nI j)]) (rest := [.ref q3, .long sm]) Y m_X1_place (c_X1_place l dC dI (i + 1) j (by omega)) qm_X1_21 (kpS hK hP hZ hS [] [] rfl rfl) rfl hl.1 rfl (Nat.le_of_ble_eq_true rfl) dX1_meanFollowed_67 ⟨Nat.le_of_ble_eq_true rfl, Nat.le_of_ble_eq_true rfl⟩ ⟨Nat.zero_le _, Nat.zero_le _⟩ (fun r67 hr67 => ?_)
      obtain rfl : r67 = nI ((((i + 1) - 1) * 4) + j) := hr67
      refine rl_ald hx hb hK hP 3 0 (F := f) rfl rfl dX1_meanFollowed_70 (by decide) (by omega) ?_
      refine lv_ladd hx hb dX1_meanFollowed_71 ?_
      refine lv_lstore (lv' := [(4, .long (sm + (f ((((i + 1) - 1) * 4) + j)))), (0, .ref h0), (1, .int (nI i)), (2, .int (nI j)), (3, .int (nI oc)), (6, .int (nI r))]) hx hb dX1_meanFollowed_72 hl (by decide) rfl (fun ls hl => ?_)
      refine lv_iinc (v := nI (r + 1)) (lv' := [(6, .int (nI (r + 1))), (4, .long (sm + (f ((((i + 1) - 1) * 4) + j)))), (0, .ref h0), (1, .int (nI i)), (2, .int (nI j)), (3, .int (nI oc))]) hx hb dX1_meanFollowed_74 hl (k := 5) rfl (inc1 _) (by decide) rfl (fun ls hl => ?_)
      refine lv_goto (tgt := 6) hx hb dX1_meanFollowed_77 (by decide) ?_
      exact ih6 (r + 1) (sm + (f ((((i + 1) - 1) * 4) + j))) _ (by show _ < _; omega) (by exact ⟨lv_sub hl [2, 3, 4, 5, 1, 0] rfl, ⟨by omega, by omega, by rw [sumL_s _ hr1, ← hsm]; unfold mfF; rw [if_neg c20]⟩⟩)
    · refine lv_lload hx hb dX1_meanFollowed_23 (lv_at hl 4 rfl) ?_
      refine lv_aload_n hx hb dX1_meanFollowed_25 rfl (lv_at hl 0 rfl) ?_
      refine va_get (D := (dC, dI)) (ci := 1) (v := .ref q3) (C := RX1) (T := TX1) (N := 6) hx hb hts inlX1 hown hK hP 0 rfl rfl 2 (by decide) (hts _ qf_X1_18) (fun _ h9 => h9) rfl dX1_meanFollowed_26 ?_
      refine lv_iload_n hx hb dX1_meanFollowed_29 rfl (lv_at hl 1 rfl) ?_
      refine lv_iconst (v := nI 1) hx hb dX1_meanFollowed_30 (by decide) ?_
      refine ri_add hx hb dX1_meanFollowed_31 ?_
      refine lv_iload_n hx hb dX1_meanFollowed_32 rfl (lv_at hl 2 rfl) ?_
      refine lv_iconst (v := nI 1) hx hb dX1_meanFollowed_33 (by decide) ?_
      refine ri_sub hx hb dX1_meanFollowed_34 (by omega) ?_
      refine kSi (As := [.int (nI (i + 1)), .int (nI (j - 1))]) (rest := [.ref q3, .long sm]) Y m_X1_place (c_X1_place l dC dI (i + 1) (j - 1) (by omega)) qm_X1_21 (kpS hK hP hZ hS [] [] rfl rfl) rfl hl.1 rfl (Nat.le_of_ble_eq_true rfl) dX1_meanFollowed_35 ⟨Nat.le_of_ble_eq_true rfl, Nat.le_of_ble_eq_true rfl⟩ ⟨Nat.zero_le _, Nat.zero_le _⟩ (fun r35 hr35 => ?_)
      obtain rfl : r35 = nI ((((i + 1) - 1) * 4) + (j - 1)) := hr35
      refine rl_ald hx hb hK hP 3 0 (F := f) rfl rfl dX1_meanFollowed_38 (by decide) (by omega) ?_
      refine lv_iload_n hx hb dX1_meanFollowed_39 rfl (lv_at hl 3 rfl) ?_
      refine ri_zeq (tgt := 49) hx hb dX1_meanFollowed_40 (by decide) (by omega) (fun c40 => ?_) (fun c40 => ?_)
      · refine lv_lconst (v := lN 0) hx hb dX1_meanFollowed_49 rfl ?_
        refine lv_ladd hx hb dX1_meanFollowed_50 ?_
        refine lv_ladd hx hb dX1_meanFollowed_51 ?_
        refine lv_lstore (lv' := [(4, .long (sm + ((f ((((i + 1) - 1) * 4) + (j - 1))) + (lN 0)))), (0, .ref h0), (1, .int (nI i)), (2, .int (nI j)), (3, .int (nI oc)), (6, .int (nI r))]) hx hb dX1_meanFollowed_52 hl (by decide) rfl (fun ls hl => ?_)
        refine lv_goto (tgt := 74) hx hb dX1_meanFollowed_54 (by decide) ?_
        refine lv_iinc (v := nI (r + 1)) (lv' := [(6, .int (nI (r + 1))), (4, .long (sm + ((f ((((i + 1) - 1) * 4) + (j - 1))) + (lN 0)))), (0, .ref h0), (1, .int (nI i)), (2, .int (nI j)), (3, .int (nI oc))]) hx hb dX1_meanFollowed_74 hl (k := 5) rfl (inc1 _) (by decide) rfl (fun ls hl => ?_)
        refine lv_goto (tgt := 6) hx hb dX1_meanFollowed_77 (by decide) ?_
        exact ih6 (r + 1) (sm + ((f ((((i + 1) - 1) * 4) + (j - 1))) + (lN 0))) _ (by show _ < _; omega) (by exact ⟨lv_sub hl [2, 3, 4, 5, 1, 0] rfl, ⟨by omega, by omega, by rw [sumL_s _ hr1, ← hsm]; unfold mfF; rw [if_pos c20, if_pos c40]⟩⟩)
      · refine lv_ldc2 (v := lN 2116800) hx hb hown (hts _ ql_X1_37) dX1_meanFollowed_43 ?_
        refine lv_goto (tgt := 50) hx hb dX1_meanFollowed_46 (by decide) ?_
        refine lv_ladd hx hb dX1_meanFollowed_50 ?_
        refine lv_ladd hx hb dX1_meanFollowed_51 ?_
        refine lv_lstore (lv' := [(4, .long (sm + ((f ((((i + 1) - 1) * 4) + (j - 1))) + (lN 2116800)))), (0, .ref h0), (1, .int (nI i)), (2, .int (nI j)), (3, .int (nI oc)), (6, .int (nI r))]) hx hb dX1_meanFollowed_52 hl (by decide) rfl (fun ls hl => ?_)
        refine lv_goto (tgt := 74) hx hb dX1_meanFollowed_54 (by decide) ?_
        refine lv_iinc (v := nI (r + 1)) (lv' := [(6, .int (nI (r + 1))), (4, .long (sm + ((f ((((i + 1) - 1) * 4) + (j - 1))) + (lN 2116800)))), (0, .ref h0), (1, .int (nI i)), (2, .int (nI j)), (3, .int (nI oc))]) hx hb dX1_meanFollowed_74 hl (k := 5) rfl (inc1 _) (by decide) rfl (fun ls hl => ?_)
        refine lv_goto (tgt := 6) hx hb dX1_meanFollowed_77 (by decide) ?_
        exact ih6 (r + 1) (sm + ((f ((((i + 1) - 1) * 4) + (j - 1))) + (lN 2116800))) _ (by show _ < _; omega) (by exact ⟨lv_sub hl [2, 3, 4, 5, 1, 0] rfl, ⟨by omega, by omega, by rw [sumL_s _ hr1, ← hsm]; unfold mfF; rw [if_pos c20, if_neg (by omega)]⟩⟩)
set_option maxHeartbeats 4000000 in
set_option maxRecDepth 100000 in
theorem c_X1_computeWorth (l : Launch) (dC : Nat → ClassId) (dI : Nat → Nat → Nat) (cI : ClassId) (h0 q1 q2 q3 pa : Nat) (P : Nat → Nat) (sv n : Nat) (co : Int64) (i r : Nat) (h1 : 1 ≤ i) (h2 : i ≤ n) (h3 : n ≤ 7) (h4 : 1 ≤ r) (h5 : r ≤ i) (hPI : PI P) : Met l yX1_computeWorth (kw yX1_computeWorth cX1_computeWorth 9 (some .long)) (kR 1 21) (kPr (dC, dI) [.ref h0, .ref pa, .int (nI i), .int (nI r)] [(h0, .inr (1, [.ref q1, .ref q2, .ref q3, .int (nI sv), .int (nI n), .long co])), (pa, .inl (cI, 22, .inl (fun zz => nI (P zz))))] [(cI, .int)]) (vp_Sl (fun res : Int64 => res = lN (woS P n i r * (2116800 / ch n i)))) 0 0 kNo := by
  refine kmet (by decide) ?_
  intro p e s m args below meth c Y hr hlocks hin hv
  obtain ⟨rfl, hP, hK, hZ⟩ := kinR hv
  have hS : va_S kNo s.heap s.heap [] := va_S.rf
  have hx := Y.1
  have hb := Y.2.1
  have hml := Y.2.2.1
  have hown := Y.2.2.2.1
  have hts := Y.2.2.2.2
  have hl := lv_entry ([.ref h0, .ref pa, .int (nI i), .int (nI r)]) (n := 9) (Nat.le_of_ble_eq_true rfl)
  rw [lg_entry_eq]
  generalize (lg_sl ([.ref h0, .ref pa, .int (nI i), .int (nI r)]) ++ List.replicate (9 - (lg_sl ([.ref h0, .ref pa, .int (nI i), .int (nI r)])).length) Slot.unset).toArray = ls at hl ⊢
  have hl : lv_has ls 9 [(0, .ref h0), (1, .ref pa), (2, .int (nI i)), (3, .int (nI r))] := hl
  refine lv_lconst (v := lN 0) hx hb dX1_computeWorth_0 rfl ?_
  refine lv_lstore (lv' := [(4, .long (lN 0)), (0, .ref h0), (1, .ref pa), (2, .int (nI i)), (3, .int (nI r))]) hx hb dX1_computeWorth_1 hl (by decide) rfl (fun ls hl => ?_)
  refine lv_iload_n hx hb dX1_computeWorth_3 rfl (lv_at hl 4 rfl) ?_
  refine lv_istore (lv' := [(6, .int (nI r)), (4, .long (lN 0)), (0, .ref h0), (1, .ref pa), (2, .int (nI i)), (3, .int (nI r))]) hx hb dX1_computeWorth_4 hl (by decide) rfl (fun ls hl => ?_)
  refine wr2 (fun (k : Nat) (sm : Nat) => n + 1 - k) (fun (k : Nat) (sm : Nat) (ls : Array Slot) => lv_has ls 9 [(0, .ref h0), (1, .ref pa), (2, .int (nI i)), (3, .int (nI r)), (4, .long (lN sm)), (6, .int (nI k))] ∧ (r ≤ k ∧ k ≤ n - i + r + 1 ∧ sm = sgN (woT P n i r) (k - r))) r 0 (by exact ⟨lv_sub hl [2, 3, 4, 5, 1, 0] rfl, ⟨by omega, by omega, by rw [Nat.sub_self]; rfl⟩⟩) (fun k sm ls hI ih => ?_)
  obtain ⟨hl, hk1, hk2, hsm⟩ := hI
  have ih6 := ih
  have hb1 := tBIN_le (((k - 1) * 8) + (r - 1))
  have hb2 := tBIN_le (((n - k) * 8) + (i - r))
  have hb3 := tBIN_le ((n * 8) + i)
  have hb4 : 0 < tbl tBIN ((n * 8) + i) := ch_pos n (by omega) i (by omega)
  refine lv_iload hx hb dX1_computeWorth_6 (lv_at hl 5 rfl) ?_
  refine lv_aload_n hx hb dX1_computeWorth_8 rfl (lv_at hl 0 rfl) ?_
  refine va_get (D := (dC, dI)) (ci := 1) (v := .int (nI n)) (C := RX1) (T := TX1) (N := 6) hx hb hts inlX1 hown hK hP 0 rfl rfl 4 (by decide) (hts _ qf_X1_33) (fun _ h9 => h9) rfl dX1_computeWorth_9 ?_
  refine lv_iload_n hx hb dX1_computeWorth_12 rfl (lv_at hl 2 rfl) ?_
  refine ri_sub hx hb dX1_computeWorth_13 (by omega) ?_
  refine lv_iload_n hx hb dX1_computeWorth_14 rfl (lv_at hl 3 rfl) ?_
  refine ri_add hx hb dX1_computeWorth_15 ?_
  refine ri_cgt (tgt := 70) hx hb dX1_computeWorth_16 (by decide) (by omega) (by omega) (fun c16 => ?_) (fun c16 => ?_)
  · refine lv_aload_n hx hb dX1_computeWorth_70 rfl (lv_at hl 0 rfl) ?_
    refine va_get (D := (dC, dI)) (ci := 1) (v := .int (nI n)) (C := RX1) (T := TX1) (N := 6) hx hb hts inlX1 hown hK hP 0 rfl rfl 4 (by decide) (hts _ qf_X1_33) (fun _ h9 => h9) rfl dX1_computeWorth_71 ?_
    refine lv_iload_n hx hb dX1_computeWorth_74 rfl (lv_at hl 2 rfl) ?_
    refine kSi (As := [.int (nI n), .int (nI i)]) (rest := []) Y m_X1_binomial (c_X1_binomial l dC dI n i (by omega) (by omega)) qm_X1_71 (kpS hK hP hZ hS [] [] rfl rfl) rfl hl.1 rfl (Nat.le_of_ble_eq_true rfl) dX1_computeWorth_75 ⟨Nat.le_of_ble_eq_true rfl, Nat.le_of_ble_eq_true rfl⟩ ⟨Nat.zero_le _, Nat.zero_le _⟩ (fun r75 hr75 => ?_)
    obtain rfl : r75 = nI (tbl tBIN ((n * 8) + i)) := hr75
    refine ri_i2l hx hb dX1_computeWorth_78 (by omega) ?_
    refine lv_lstore (lv' := [(6, .long (lN (tbl tBIN ((n * 8) + i)))), (0, .ref h0), (1, .ref pa), (2, .int (nI i)), (3, .int (nI r)), (4, .long (lN sm))]) hx hb dX1_computeWorth_79 hl (by decide) rfl (fun ls hl => ?_)
    refine lv_lload hx hb dX1_computeWorth_81 (lv_at hl 0 rfl) ?_
    refine lv_lconst (v := lN 0) hx hb dX1_computeWorth_83 rfl ?_
    refine rl_len (tgt := 100) hx hb dX1_computeWorth_84 dX1_computeWorth_85 (by decide) (by omega) (by omega) (fun c84 => ?_) (fun c84 => ?_)
    · exact absurd c84 (Nat.not_le.mpr hb4)
    · refine lv_lload hx hb dX1_computeWorth_88 (lv_at hl 5 rfl) ?_
      refine lv_ldc2 (v := lN 2116800) hx hb hown (hts _ ql_X1_37) dX1_computeWorth_90 ?_
      refine lv_lload hx hb dX1_computeWorth_93 (lv_at hl 0 rfl) ?_
      refine rl_divn hx hb dX1_computeWorth_95 (by omega) (by omega) (by omega) ?_
      refine rl_muln hx hb dX1_computeWorth_96 ?_
      refine lv_goto (tgt := 101) hx hb dX1_computeWorth_97 (by decide) ?_
      exact krl (v := lN (sm * (2116800 / (tbl tBIN ((n * 8) + i))))) Y hr hlocks (by rw [hsm, show k - r = n - i + 1 by omega]; rfl) dX1_computeWorth_101
  · refine lv_iload hx hb dX1_computeWorth_19 (lv_at hl 5 rfl) ?_
    refine lv_iconst (v := nI 1) hx hb dX1_computeWorth_21 (by decide) ?_
    refine ri_sub hx hb dX1_computeWorth_22 (by omega) ?_
    refine lv_iload_n hx hb dX1_computeWorth_23 rfl (lv_at hl 3 rfl) ?_
    refine lv_iconst (v := nI 1) hx hb dX1_computeWorth_24 (by decide) ?_
    refine ri_sub hx hb dX1_computeWorth_25 (by omega) ?_
    refine kSi (As := [.int (nI (k - 1)), .int (nI (r - 1))]) (rest := []) Y m_X1_binomial (c_X1_binomial l dC dI (k - 1) (r - 1) (by omega) (by omega)) qm_X1_71 (kpS hK hP hZ hS [] [] rfl rfl) rfl hl.1 rfl (Nat.le_of_ble_eq_true rfl) dX1_computeWorth_26 ⟨Nat.le_of_ble_eq_true rfl, Nat.le_of_ble_eq_true rfl⟩ ⟨Nat.zero_le _, Nat.zero_le _⟩ (fun r26 hr26 => ?_)
    obtain rfl : r26 = nI (tbl tBIN (((k - 1) * 8) + (r - 1))) := hr26
    refine ri_i2l hx hb dX1_computeWorth_29 (by omega) ?_
    refine lv_aload_n hx hb dX1_computeWorth_30 rfl (lv_at hl 0 rfl) ?_
    refine va_get (D := (dC, dI)) (ci := 1) (v := .int (nI n)) (C := RX1) (T := TX1) (N := 6) hx hb hts inlX1 hown hK hP 0 rfl rfl 4 (by decide) (hts _ qf_X1_33) (fun _ h9 => h9) rfl dX1_computeWorth_31 ?_
    refine lv_iload hx hb dX1_computeWorth_34 (lv_at hl 5 rfl) ?_
    refine ri_sub hx hb dX1_computeWorth_36 (by omega) ?_
    refine lv_iload_n hx hb dX1_computeWorth_37 rfl (lv_at hl 2 rfl) ?_
    refine lv_iload_n hx hb dX1_computeWorth_38 rfl (lv_at hl 3 rfl) ?_
    refine ri_sub hx hb dX1_computeWorth_39 (by omega) ?_
    refine kSi (As := [.int (nI (n - k)), .int (nI (i - r))]) (rest := [.long (lN (tbl tBIN (((k - 1) * 8) + (r - 1))))]) Y m_X1_binomial (c_X1_binomial l dC dI (n - k) (i - r) (by omega) (by omega)) qm_X1_71 (kpS hK hP hZ hS [] [] rfl rfl) rfl hl.1 rfl (Nat.le_of_ble_eq_true rfl) dX1_computeWorth_40 ⟨Nat.le_of_ble_eq_true rfl, Nat.le_of_ble_eq_true rfl⟩ ⟨Nat.zero_le _, Nat.zero_le _⟩ (fun r40 hr40 => ?_)
    obtain rfl : r40 = nI (tbl tBIN (((n - k) * 8) + (i - r))) := hr40
    refine ri_i2l hx hb dX1_computeWorth_43 (by omega) ?_
    refine rl_muln hx hb dX1_computeWorth_44 ?_
    refine lv_lstore (lv' := [(7, .long (lN ((tbl tBIN (((k - 1) * 8) + (r - 1))) * (tbl tBIN (((n - k) * 8) + (i - r)))))), (0, .ref h0), (1, .ref pa), (2, .int (nI i)), (3, .int (nI r)), (4, .long (lN sm)), (6, .int (nI k))]) hx hb dX1_computeWorth_45 hl (by decide) rfl (fun ls hl => ?_)
    refine lv_lload hx hb dX1_computeWorth_47 (lv_at hl 5 rfl) ?_
    have hpk := hPI.le (k := (3 + k) - 1) (by omega)
    refine lv_aload_n hx hb dX1_computeWorth_49 rfl (lv_at hl 2 rfl) ?_
    refine lv_iconst (v := nI 3) hx hb dX1_computeWorth_50 (by decide) ?_
    refine lv_iload hx hb dX1_computeWorth_51 (lv_at hl 6 rfl) ?_
    refine ri_add hx hb dX1_computeWorth_53 ?_
    refine lv_iconst (v := nI 1) hx hb dX1_computeWorth_54 (by decide) ?_
    refine ri_sub hx hb dX1_computeWorth_55 (by omega) ?_
    refine ri_ald hx hb hK hP 1 0 (F := P) rfl rfl dX1_computeWorth_56 (by decide) (by omega) ?_
    refine ri_i2l hx hb dX1_computeWorth_57 (by omega) ?_
    refine lv_lload hx hb dX1_computeWorth_58 (lv_at hl 0 rfl) ?_
    refine rl_muln hx hb dX1_computeWorth_60 ?_
    refine rl_addn hx hb dX1_computeWorth_61 ?_
    refine lv_lstore (lv' := [(4, .long (lN (sm + ((P ((3 + k) - 1)) * ((tbl tBIN (((k - 1) * 8) + (r - 1))) * (tbl tBIN (((n - k) * 8) + (i - r)))))))), (7, .long (lN ((tbl tBIN (((k - 1) * 8) + (r - 1))) * (tbl tBIN (((n - k) * 8) + (i - r)))))), (0, .ref h0), (1, .ref pa), (2, .int (nI i)), (3, .int (nI r)), (6, .int (nI k))]) hx hb dX1_computeWorth_62 hl (by decide) rfl (fun ls hl => ?_)
    refine lv_iinc (v := nI (k + 1)) (lv' := [(6, .int (nI (k + 1))), (4, .long (lN (sm + ((P ((3 + k) - 1)) * ((tbl tBIN (((k - 1) * 8) + (r - 1))) * (tbl tBIN (((n - k) * 8) + (i - r)))))))), (7, .long (lN ((tbl tBIN (((k - 1) * 8) + (r - 1))) * (tbl tBIN (((n - k) * 8) + (i - r)))))), (0, .ref h0), (1, .ref pa), (2, .int (nI i)), (3, .int (nI r))]) hx hb dX1_computeWorth_64 hl (k := 6) rfl (inc1 _) (by decide) rfl (fun ls hl => ?_)
    refine lv_goto (tgt := 6) hx hb dX1_computeWorth_67 (by decide) ?_
    exact ih6 (k + 1) (sm + ((P ((3 + k) - 1)) * ((tbl tBIN (((k - 1) * 8) + (r - 1))) * (tbl tBIN (((n - k) * 8) + (i - r)))))) _ (by show _ < _; omega) (by exact ⟨lv_sub hl [3, 4, 5, 6, 1, 0] rfl, ⟨by omega, by omega, woT_s hk1 hsm⟩⟩)
