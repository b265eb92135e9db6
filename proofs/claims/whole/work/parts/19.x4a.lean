set_option maxHeartbeats 4000000 in
set_option maxRecDepth 100000 in
theorem c_X4_place (l : Launch) (dC : Nat → ClassId) (dI : Nat → Nat → Nat) (i j : Nat) (h1 : 1 ≤ i) : Met l yX4_place (kw yX4_place cX4_place 2 (some .int)) (kR 0 0) (kPr (dC, dI) [.int (nI i), .int (nI j)] [] []) (vp_Si (fun res : Int32 => res = nI (((i - 1) * 4) + j))) 0 0 kNo := by
  refine kmet (by decide) ?_
  intro p e s m args below meth c Y hr hlocks hin hv
  obtain ⟨rfl, hP, hK, hZ⟩ := kinR hv
  have hS : va_S kNo s.heap s.heap [] := va_S.rf
  have hx := Y.1
  have hb := Y.2.1
  have hml := Y.2.2.1
  have hown := Y.2.2.2.1
  have hts := Y.2.2.2.2
  have hl := lv_entry ([.int (nI i), .int (nI j)]) (n := 2) (Nat.le_of_ble_eq_true rfl)
  rw [lg_entry_eq]
  generalize (lg_sl ([.int (nI i), .int (nI j)]) ++ List.replicate (2 - (lg_sl ([.int (nI i), .int (nI j)])).length) Slot.unset).toArray = ls at hl ⊢
  have hl : lv_has ls 2 [(0, .int (nI i)), (1, .int (nI j))] := hl
  refine lv_iload_n hx hb dX4_place_0 rfl (lv_at hl 0 rfl) ?_
  refine lv_iconst (v := nI 1) hx hb dX4_place_1 (by decide) ?_
  refine ri_sub hx hb dX4_place_2 (by omega) ?_
  refine lv_iconst (v := nI 4) hx hb dX4_place_3 (by decide) ?_
  refine ri_mul hx hb dX4_place_4 ?_
  refine lv_iload_n hx hb dX4_place_5 rfl (lv_at hl 1 rfl) ?_
  refine ri_add hx hb dX4_place_6 ?_
  exact kri (v := nI (((i - 1) * 4) + j)) Y hr hlocks rfl dX4_place_7
set_option maxHeartbeats 4000000 in
set_option maxRecDepth 100000 in
theorem c_X4_placeAfter (l : Launch) (dC : Nat → ClassId) (dI : Nat → Nat → Nat) (i j a : Nat) (h1 : 1 ≤ i) : Met l yX4_placeAfter (kw yX4_placeAfter cX4_placeAfter 3 (some .int)) (kR 0 0) (kPr (dC, dI) [.int (nI i), .int (nI j), .int (nI a)] [] []) (vp_Si (fun res : Int32 => res = nI (pA i j a))) 0 0 kNo := by
  refine kmet (by decide) ?_
  intro p e s m args below meth c Y hr hlocks hin hv
  obtain ⟨rfl, hP, hK, hZ⟩ := kinR hv
  have hS : va_S kNo s.heap s.heap [] := va_S.rf
  have hx := Y.1
  have hb := Y.2.1
  have hml := Y.2.2.1
  have hown := Y.2.2.2.1
  have hts := Y.2.2.2.2
  have hl := lv_entry ([.int (nI i), .int (nI j), .int (nI a)]) (n := 3) (Nat.le_of_ble_eq_true rfl)
  rw [lg_entry_eq]
  generalize (lg_sl ([.int (nI i), .int (nI j), .int (nI a)]) ++ List.replicate (3 - (lg_sl ([.int (nI i), .int (nI j), .int (nI a)])).length) Slot.unset).toArray = ls at hl ⊢
  have hl : lv_has ls 3 [(0, .int (nI i)), (1, .int (nI j)), (2, .int (nI a))] := hl
  refine lv_iload_n hx hb dX4_placeAfter_0 rfl (lv_at hl 0 rfl) ?_
  refine lv_iconst (v := nI 1) hx hb dX4_placeAfter_1 (by decide) ?_
  refine ri_sub hx hb dX4_placeAfter_2 (by omega) ?_
  refine lv_iconst (v := nI 4) hx hb dX4_placeAfter_3 (by decide) ?_
  refine ri_mul hx hb dX4_placeAfter_4 ?_
  refine lv_iload_n hx hb dX4_placeAfter_5 rfl (lv_at hl 1 rfl) ?_
  refine ri_add hx hb dX4_placeAfter_6 ?_
  refine lv_bipush (v := nI 6) hx hb dX4_placeAfter_7 (by decide) ?_
  refine ri_mul hx hb dX4_placeAfter_9 ?_
  refine lv_iload_n hx hb dX4_placeAfter_10 rfl (lv_at hl 2 rfl) ?_
  refine ri_add hx hb dX4_placeAfter_11 ?_
  exact kri (v := nI (((((i - 1) * 4) + j) * 6) + a)) Y hr hlocks rfl dX4_placeAfter_12
set_option maxHeartbeats 4000000 in
set_option maxRecDepth 100000 in
theorem c_X4_placeBefore (l : Launch) (dC : Nat → ClassId) (dI : Nat → Nat → Nat) (i j a b : Nat) (h1 : 1 ≤ i) : Met l yX4_placeBefore (kw yX4_placeBefore cX4_placeBefore 4 (some .int)) (kR 0 0) (kPr (dC, dI) [.int (nI i), .int (nI j), .int (nI a), .int (nI b)] [] []) (vp_Si (fun res : Int32 => res = nI (pB i j a b))) 0 0 kNo := by
  refine kmet (by decide) ?_
  intro p e s m args below meth c Y hr hlocks hin hv
  obtain ⟨rfl, hP, hK, hZ⟩ := kinR hv
  have hS : va_S kNo s.heap s.heap [] := va_S.rf
  have hx := Y.1
  have hb := Y.2.1
  have hml := Y.2.2.1
  have hown := Y.2.2.2.1
  have hts := Y.2.2.2.2
  have hl := lv_entry ([.int (nI i), .int (nI j), .int (nI a), .int (nI b)]) (n := 4) (Nat.le_of_ble_eq_true rfl)
  rw [lg_entry_eq]
  generalize (lg_sl ([.int (nI i), .int (nI j), .int (nI a), .int (nI b)]) ++ List.replicate (4 - (lg_sl ([.int (nI i), .int (nI j), .int (nI a), .int (nI b)])).length) Slot.unset).toArray = ls at hl ⊢
  have hl : lv_has ls 4 [(0, .int (nI i)), (1, .int (nI j)), (2, .int (nI a)), (3, .int (nI b))] := hl
  refine lv_iload_n hx hb dX4_placeBefore_0 rfl (lv_at hl 0 rfl) ?_
  refine lv_iconst (v := nI 1) hx hb dX4_placeBefore_1 (by decide) ?_
  refine ri_sub hx hb dX4_placeBefore_2 (by omega) ?_
  refine lv_iconst (v := nI 4) hx hb dX4_placeBefore_3 (by decide) ?_
  refine ri_mul hx hb dX4_placeBefore_4 ?_
  refine lv_iload_n hx hb dX4_placeBefore_5 rfl (lv_at hl 1 rfl) ?_
  refine ri_add hx hb dX4_placeBefore_6 ?_
  refine lv_bipush (v := nI 6) hx hb dX4_placeBefore_7 (by decide) ?_
  refine ri_mul hx hb dX4_placeBefore_9 ?_
  refine lv_iload_n hx hb dX4_placeBefore_10 rfl (lv_at hl 2 rfl) ?_
  refine ri_add hx hb dX4_placeBefore_11 ?_
  refine lv_bipush (v := nI 6) hx hb dX4_placeBefore_12 (by decide) ?_
  refine ri_mul hx hb dX4_placeBefore_14 ?_
  refine lv_iload_n hx hb dX4_placeBefore_15 rfl (lv_at hl 3 rfl) ?_
  refine ri_add hx hb dX4_placeBefore_16 ?_
  exact kri (v := nI (((((((i - 1) * 4) + j) * 6) + a) * 6) + b)) Y hr hlocks rfl dX4_placeBefore_17
set_option maxHeartbeats 4000000 in
set_option maxRecDepth 100000 in
theorem c_X4_valueBefore (l : Launch) (dC : Nat → ClassId) (dI : Nat → Nat → Nat) (cL cI : ClassId) (h0 v1 v2 v3 v4 v5 : Nat) (wr sv n co ch1 ch2 : Nat) (bf af lv wt : Nat → Nat) (fl : Nat → Int64) (i j a b : Nat) (h1 : 1 ≤ i) (h2 : i ≤ 8) (h3 : j ≤ 3) (h4 : a ≤ 5) (h5 : b ≤ 5) : Met l yX4_valueBefore (kw yX4_valueBefore cX4_valueBefore 5 (some .long)) (kR 1 23) (kPr (dC, dI) [.ref h0, .int (nI i), .int (nI j), .int (nI a), .int (nI b)] [(h0, .inr (4, [.int (nI wr), .ref v1, .ref v2, .ref v3, .ref v4, .ref v5, .int (nI sv), .int (nI n), .long (lN co), .int (nI ch1), .int (nI ch2)])), (v1, .inl (cL, 1152, .inr (.inl (fun zz => lN (bf zz))))), (v2, .inl (cL, 192, .inr (.inl (fun zz => lN (af zz))))), (v3, .inl (cL, 32, .inr (.inl fl))), (v4, .inl (cL, 5, .inr (.inl (fun zz => lN (lv zz))))), (v5, .inl (cI, 5, .inl (fun zz => nI (wt zz))))] [(cL, .long), (cI, .int)]) (vp_Sl (fun res : Int64 => res = lN (bf (pB i j a b)))) 0 0 kNo := by
  refine kmet (by decide) ?_
  intro p e s m args below meth c Y hr hlocks hin hv
  obtain ⟨rfl, hP, hK, hZ⟩ := kinR hv
  have hS : va_S kNo s.heap s.heap [] := va_S.rf
  have hx := Y.1
  have hb := Y.2.1
  have hml := Y.2.2.1
  have hown := Y.2.2.2.1
  have hts := Y.2.2.2.2
  have hl := lv_entry ([.ref h0, .int (nI i), .int (nI j), .int (nI a), .int (nI b)]) (n := 5) (Nat.le_of_ble_eq_true rfl)
  rw [lg_entry_eq]
  generalize (lg_sl ([.ref h0, .int (nI i), .int (nI j), .int (nI a), .int (nI b)]) ++ List.replicate (5 - (lg_sl ([.ref h0, .int (nI i), .int (nI j), .int (nI a), .int (nI b)])).length) Slot.unset).toArray = ls at hl ⊢
  have hl : lv_has ls 5 [(0, .ref h0), (1, .int (nI i)), (2, .int (nI j)), (3, .int (nI a)), (4, .int (nI b))] := hl
  refine lv_aload_n hx hb dX4_valueBefore_0 rfl (lv_at hl 0 rfl) ?_
  refine va_get (D := (dC, dI)) (ci := 4) (v := .ref v1) (C := RX4) (T := TX4) (N := 11) hx hb hts inlX4 hown hK hP 0 rfl rfl 1 (by decide) (hts _ qf_X4_15) (fun _ h9 => h9) rfl dX4_valueBefore_1 ?_
  refine lv_iload_n hx hb dX4_valueBefore_4 rfl (lv_at hl 1 rfl) ?_
  refine lv_iload_n hx hb dX4_valueBefore_5 rfl (lv_at hl 2 rfl) ?_
  refine lv_iload_n hx hb dX4_valueBefore_6 rfl (lv_at hl 3 rfl) ?_
  refine lv_iload hx hb dX4_valueBefore_7 (lv_at hl 4 rfl) ?_
  refine kSi (As := [.int (nI i), .int (nI j), .int (nI a), .int (nI b)]) (rest := [.ref v1]) Y m_X4_placeBefore (c_X4_placeBefore l dC dI i j a b (by omega)) qm_X4_32 (kpS hK hP hZ hS [] [] rfl rfl) rfl hl.1 rfl (Nat.le_of_ble_eq_true rfl) dX4_valueBefore_9 ⟨Nat.le_of_ble_eq_true rfl, Nat.le_of_ble_eq_true rfl⟩ ⟨Nat.zero_le _, Nat.zero_le _⟩ (fun r9 hr9 => ?_)
  obtain rfl : r9 = nI (pB i j a b) := hr9
  refine rm_ald hx hb hK hP 1 0 (F := bf) rfl rfl dX4_valueBefore_12 (by decide) (pB_lt (by omega) (by omega) (by omega) (by omega)) ?_
  exact krl (v := lN (bf (pB i j a b))) Y hr hlocks rfl dX4_valueBefore_13
set_option maxHeartbeats 4000000 in
set_option maxRecDepth 100000 in
theorem c_X4_valueAfterRecall (l : Launch) (dC : Nat → ClassId) (dI : Nat → Nat → Nat) (cL cI : ClassId) (h0 v1 v2 v3 v4 v5 : Nat) (wr sv n co ch1 ch2 : Nat) (bf af lv wt : Nat → Nat) (fl : Nat → Int64) (i j a : Nat) (h1 : 1 ≤ i) (h2 : i ≤ 8) (h3 : j ≤ 3) (h4 : a ≤ 5) : Met l yX4_valueAfterRecall (kw yX4_valueAfterRecall cX4_valueAfterRecall 4 (some .long)) (kR 1 22) (kPr (dC, dI) [.ref h0, .int (nI i), .int (nI j), .int (nI a)] [(h0, .inr (4, [.int (nI wr), .ref v1, .ref v2, .ref v3, .ref v4, .ref v5, .int (nI sv), .int (nI n), .long (lN co), .int (nI ch1), .int (nI ch2)])), (v1, .inl (cL, 1152, .inr (.inl (fun zz => lN (bf zz))))), (v2, .inl (cL, 192, .inr (.inl (fun zz => lN (af zz))))), (v3, .inl (cL, 32, .inr (.inl fl))), (v4, .inl (cL, 5, .inr (.inl (fun zz => lN (lv zz))))), (v5, .inl (cI, 5, .inl (fun zz => nI (wt zz))))] [(cL, .long), (cI, .int)]) (vp_Sl (fun res : Int64 => res = lN (af (pA i j a)))) 0 0 kNo := by
  refine kmet (by decide) ?_
  intro p e s m args below meth c Y hr hlocks hin hv
  obtain ⟨rfl, hP, hK, hZ⟩ := kinR hv
  have hS : va_S kNo s.heap s.heap [] := va_S.rf
  have hx := Y.1
  have hb := Y.2.1
  have hml := Y.2.2.1
  have hown := Y.2.2.2.1
  have hts := Y.2.2.2.2
  have hl := lv_entry ([.ref h0, .int (nI i), .int (nI j), .int (nI a)]) (n := 4) (Nat.le_of_ble_eq_true rfl)
  rw [lg_entry_eq]
  generalize (lg_sl ([.ref h0, .int (nI i), .int (nI j), .int (nI a)]) ++ List.replicate (4 - (lg_sl ([.ref h0, .int (nI i), .int (nI j), .int (nI a)])).length) Slot.unset).toArray = ls at hl ⊢
  have hl : lv_has ls 4 [(0, .ref h0), (1, .int (nI i)), (2, .int (nI j)), (3, .int (nI a))] := hl
  refine lv_aload_n hx hb dX4_valueAfterRecall_0 rfl (lv_at hl 0 rfl) ?_
  refine va_get (D := (dC, dI)) (ci := 4) (v := .ref v2) (C := RX4) (T := TX4) (N := 11) hx hb hts inlX4 hown hK hP 0 rfl rfl 2 (by decide) (hts _ qf_X4_19) (fun _ h9 => h9) rfl dX4_valueAfterRecall_1 ?_
  refine lv_iload_n hx hb dX4_valueAfterRecall_4 rfl (lv_at hl 1 rfl) ?_
  refine lv_iload_n hx hb dX4_valueAfterRecall_5 rfl (lv_at hl 2 rfl) ?_
  refine lv_iload_n hx hb dX4_valueAfterRecall_6 rfl (lv_at hl 3 rfl) ?_
  refine kSi (As := [.int (nI i), .int (nI j), .int (nI a)]) (rest := [.ref v2]) Y m_X4_placeAfter (c_X4_placeAfter l dC dI i j a (by omega)) qm_X4_36 (kpS hK hP hZ hS [] [] rfl rfl) rfl hl.1 rfl (Nat.le_of_ble_eq_true rfl) dX4_valueAfterRecall_7 ⟨Nat.le_of_ble_eq_true rfl, Nat.le_of_ble_eq_true rfl⟩ ⟨Nat.zero_le _, Nat.zero_le _⟩ (fun r7 hr7 => ?_)
  obtain rfl : r7 = nI (pA i j a) := hr7
  refine rm_ald hx hb hK hP 2 0 (F := af) rfl rfl dX4_valueAfterRecall_10 (by decide) (pA_lt (by omega) (by omega) (by omega)) ?_
  exact krl (v := lN (af (pA i j a))) Y hr hlocks rfl dX4_valueAfterRecall_11
set_option maxHeartbeats 4000000 in
set_option maxRecDepth 100000 in
theorem c_X4_recallOfAge1 (l : Launch) (dC : Nat → ClassId) (dI : Nat → Nat → Nat) (cL cI : ClassId) (h0 v1 v2 v3 v4 v5 : Nat) (wr sv n co ch1 ch2 : Nat) (bf af lv wt : Nat → Nat) (fl : Nat → Int64) (i j a : Nat) (h1 : 1 ≤ i) (h2 : i ≤ 8) (h3 : j ≤ 3) (h4 : a ≤ 4) (h5 : 1 ≤ j) (hVl : ∀ k, k < 5 → lv k ≤ 99000000000000000) (hVa : ∀ k, af k ≤ 297000000000000000) (hVc1 : ch1 ≤ 10) : Met l yX4_recallOfAge1 (kw yX4_recallOfAge1 cX4_recallOfAge1 8 (some .long)) (kR 1 22) (kPr (dC, dI) [.ref h0, .int (nI i), .int (nI j), .int (nI a)] [(h0, .inr (4, [.int (nI wr), .ref v1, .ref v2, .ref v3, .ref v4, .ref v5, .int (nI sv), .int (nI n), .long (lN co), .int (nI ch1), .int (nI ch2)])), (v1, .inl (cL, 1152, .inr (.inl (fun zz => lN (bf zz))))), (v2, .inl (cL, 192, .inr (.inl (fun zz => lN (af zz))))), (v3, .inl (cL, 32, .inr (.inl fl))), (v4, .inl (cL, 5, .inr (.inl (fun zz => lN (lv zz))))), (v5, .inl (cI, 5, .inl (fun zz => nI (wt zz))))] [(cL, .long), (cI, .int)]) (vp_Sl (fun res : Int64 => res = lN (r1F lv af ch1 i j a))) 0 0 kNo := by
  refine kmet (by decide) ?_
  intro p e s m args below meth c Y hr hlocks hin hv
  obtain ⟨rfl, hP, hK, hZ⟩ := kinR hv
  have hS : va_S kNo s.heap s.heap [] := va_S.rf
  have hx := Y.1
  have hb := Y.2.1
  have hml := Y.2.2.1
  have hown := Y.2.2.2.1
  have hts := Y.2.2.2.2
  have hl := lv_entry ([.ref h0, .int (nI i), .int (nI j), .int (nI a)]) (n := 8) (Nat.le_of_ble_eq_true rfl)
  rw [lg_entry_eq]
  generalize (lg_sl ([.ref h0, .int (nI i), .int (nI j), .int (nI a)]) ++ List.replicate (8 - (lg_sl ([.ref h0, .int (nI i), .int (nI j), .int (nI a)])).length) Slot.unset).toArray = ls at hl ⊢
  have hl : lv_has ls 8 [(0, .ref h0), (1, .int (nI i)), (2, .int (nI j)), (3, .int (nI a))] := hl
  refine lv_aload_n hx hb dX4_recallOfAge1_0 rfl (lv_at hl 0 rfl) ?_
  refine va_get (D := (dC, dI)) (ci := 4) (v := .ref v4) (C := RX4) (T := TX4) (N := 11) hx hb hts inlX4 hown hK hP 0 rfl rfl 4 (by decide) (hts _ qf_X4_25) (fun _ h9 => h9) rfl dX4_recallOfAge1_1 ?_
  refine lv_iload_n hx hb dX4_recallOfAge1_4 rfl (lv_at hl 3 rfl) ?_
  refine rm_ald hx hb hK hP 4 0 (F := lv) rfl rfl dX4_recallOfAge1_5 (by decide) (by omega) ?_
  refine lv_aload_n hx hb dX4_recallOfAge1_6 rfl (lv_at hl 0 rfl) ?_
  refine va_get (D := (dC, dI)) (ci := 4) (v := .ref v2) (C := RX4) (T := TX4) (N := 11) hx hb hts inlX4 hown hK hP 0 rfl rfl 2 (by decide) (hts _ qf_X4_19) (fun _ h9 => h9) rfl dX4_recallOfAge1_7 ?_
  refine lv_iload_n hx hb dX4_recallOfAge1_10 rfl (lv_at hl 1 rfl) ?_
  refine lv_iload_n hx hb dX4_recallOfAge1_11 rfl (lv_at hl 2 rfl) ?_
  refine lv_iconst (v := nI 1) hx hb dX4_recallOfAge1_12 (by decide) ?_
  refine ri_sub hx hb dX4_recallOfAge1_13 (by omega) ?_
  refine lv_iconst (v := nI 5) hx hb dX4_recallOfAge1_14 (by decide) ?_
  refine kSi (As := [.int (nI i), .int (nI (j - 1)), .int (nI 5)]) (rest := [.ref v2, .long (lN (lv a))]) Y m_X4_placeAfter (c_X4_placeAfter l dC dI i (j - 1) 5 (by omega)) qm_X4_36 (kpS hK hP hZ hS [] [] rfl rfl) rfl hl.1 rfl (Nat.le_of_ble_eq_true rfl) dX4_recallOfAge1_15 ⟨Nat.le_of_ble_eq_true rfl, Nat.le_of_ble_eq_true rfl⟩ ⟨Nat.zero_le _, Nat.zero_le _⟩ (fun r15 hr15 => ?_)
  obtain rfl : r15 = nI (pA i (j - 1) 5) := hr15
  refine rm_ald hx hb hK hP 2 0 (F := af) rfl rfl dX4_recallOfAge1_18 (by decide) (pA_lt (by omega) (by omega) (by omega)) ?_
  refine rl_addn hx hb dX4_recallOfAge1_19 ?_
  refine lv_lstore (lv' := [(4, .long (lN ((lv a) + (af (pA i (j - 1) 5))))), (0, .ref h0), (1, .int (nI i)), (2, .int (nI j)), (3, .int (nI a))]) hx hb dX4_recallOfAge1_20 hl (by decide) rfl (fun ls hl => ?_)
  refine lv_aload_n hx hb dX4_recallOfAge1_22 rfl (lv_at hl 1 rfl) ?_
  refine va_get (D := (dC, dI)) (ci := 4) (v := .ref v2) (C := RX4) (T := TX4) (N := 11) hx hb hts inlX4 hown hK hP 0 rfl rfl 2 (by decide) (hts _ qf_X4_19) (fun _ h9 => h9) rfl dX4_recallOfAge1_23 ?_
  refine lv_iload_n hx hb dX4_recallOfAge1_26 rfl (lv_at hl 2 rfl) ?_
  refine lv_iload_n hx hb dX4_recallOfAge1_27 rfl (lv_at hl 3 rfl) ?_
  refine lv_iconst (v := nI 5) hx hb dX4_recallOfAge1_28 (by decide) ?_
  refine kSi (As := [.int (nI i), .int (nI j), .int (nI 5)]) (rest := [.ref v2]) Y m_X4_placeAfter (c_X4_placeAfter l dC dI i j 5 (by omega)) qm_X4_36 (kpS hK hP hZ hS [] [] rfl rfl) rfl hl.1 rfl (Nat.le_of_ble_eq_true rfl) dX4_recallOfAge1_29 ⟨Nat.le_of_ble_eq_true rfl, Nat.le_of_ble_eq_true rfl⟩ ⟨Nat.zero_le _, Nat.zero_le _⟩ (fun r29 hr29 => ?_)
  obtain rfl : r29 = nI (pA i j 5) := hr29
  refine rm_ald hx hb hK hP 2 0 (F := af) rfl rfl dX4_recallOfAge1_32 (by decide) (pA_lt (by omega) (by omega) (by omega)) ?_
  refine lv_lstore (lv' := [(6, .long (lN (af (pA i j 5)))), (4, .long (lN ((lv a) + (af (pA i (j - 1) 5))))), (0, .ref h0), (1, .int (nI i)), (2, .int (nI j)), (3, .int (nI a))]) hx hb dX4_recallOfAge1_33 hl (by decide) rfl (fun ls hl => ?_)
  refine lv_aload_n hx hb dX4_recallOfAge1_35 rfl (lv_at hl 2 rfl) ?_
  refine va_get (D := (dC, dI)) (ci := 4) (v := .int (nI ch1)) (C := RX4) (T := TX4) (N := 11) hx hb hts inlX4 hown hK hP 0 rfl rfl 9 (by decide) (hts _ qf_X4_82) (fun _ h9 => h9) rfl dX4_recallOfAge1_36 ?_
  refine ri_i2l hx hb dX4_recallOfAge1_39 (by omega) ?_
  refine lv_lload hx hb dX4_recallOfAge1_40 (lv_at hl 1 rfl) ?_
  refine rl_muln hx hb dX4_recallOfAge1_42 ?_
  refine lv_bipush (v := nI 10) hx hb dX4_recallOfAge1_43 (by decide) ?_
  refine lv_aload_n hx hb dX4_recallOfAge1_45 rfl (lv_at hl 2 rfl) ?_
  refine va_get (D := (dC, dI)) (ci := 4) (v := .int (nI ch1)) (C := RX4) (T := TX4) (N := 11) hx hb hts inlX4 hown hK hP 0 rfl rfl 9 (by decide) (hts _ qf_X4_82) (fun _ h9 => h9) rfl dX4_recallOfAge1_46 ?_
  refine ri_sub hx hb dX4_recallOfAge1_49 (by omega) ?_
  refine ri_i2l hx hb dX4_recallOfAge1_50 (by omega) ?_
  refine lv_lload hx hb dX4_recallOfAge1_51 (lv_at hl 0 rfl) ?_
  refine rl_muln hx hb dX4_recallOfAge1_53 ?_
  refine rl_addn hx hb dX4_recallOfAge1_54 ?_
  refine lv_ldc2 (v := lN 10) hx hb hown (hts _ ql_X4_97) dX4_recallOfAge1_55 ?_
  have hnum := (r1_b (i := i) (j := j) (hVl a (by omega)) hVa hVc1).1
  refine rl_divn hx hb dX4_recallOfAge1_58 (by omega) (by omega) (by omega) ?_
  exact krl (v := lN (((ch1 * ((lv a) + (af (pA i (j - 1) 5)))) + ((10 - ch1) * (af (pA i j 5)))) / 10)) Y hr hlocks rfl dX4_recallOfAge1_59
set_option maxHeartbeats 4000000 in
set_option maxRecDepth 100000 in
theorem c_X4_recallOfAge2 (l : Launch) (dC : Nat → ClassId) (dI : Nat → Nat → Nat) (cL cI : ClassId) (h0 v1 v2 v3 v4 v5 : Nat) (wr sv n co ch1 ch2 : Nat) (bf af lv wt : Nat → Nat) (fl : Nat → Int64) (i j a b : Nat) (h1 : 1 ≤ i) (h2 : i ≤ 8) (h3 : j ≤ 3) (h4 : a ≤ 5) (h5 : 1 ≤ j) (h6 : b ≤ 4) (hVl : ∀ k, k < 5 → lv k ≤ 99000000000000000) (hVa : ∀ k, af k ≤ 297000000000000000) (hVc2 : ch2 ≤ 10) : Met l yX4_recallOfAge2 (kw yX4_recallOfAge2 cX4_recallOfAge2 9 (some .long)) (kR 1 22) (kPr (dC, dI) [.ref h0, .int (nI i), .int (nI j), .int (nI a), .int (nI b)] [(h0, .inr (4, [.int (nI wr), .ref v1, .ref v2, .ref v3, .ref v4, .ref v5, .int (nI sv), .int (nI n), .long (lN co), .int (nI ch1), .int (nI ch2)])), (v1, .inl (cL, 1152, .inr (.inl (fun zz => lN (bf zz))))), (v2, .inl (cL, 192, .inr (.inl (fun zz => lN (af zz))))), (v3, .inl (cL, 32, .inr (.inl fl))), (v4, .inl (cL, 5, .inr (.inl (fun zz => lN (lv zz))))), (v5, .inl (cI, 5, .inl (fun zz => nI (wt zz))))] [(cL, .long), (cI, .int)]) (vp_Sl (fun res : Int64 => res = lN (r2F lv af ch2 i j a b))) 0 0 kNo := by
  refine kmet (by decide) ?_
  intro p e s m args below meth c Y hr hlocks hin hv
  obtain ⟨rfl, hP, hK, hZ⟩ := kinR hv
  have hS : va_S kNo s.heap s.heap [] := va_S.rf
  have hx := Y.1
  have hb := Y.2.1
  have hml := Y.2.2.1
  have hown := Y.2.2.2.1
  have hts := Y.2.2.2.2
  have hl := lv_entry ([.ref h0, .int (nI i), .int (nI j), .int (nI a), .int (nI b)]) (n := 9) (Nat.le_of_ble_eq_true rfl)
  rw [lg_entry_eq]
  generalize (lg_sl ([.ref h0, .int (nI i), .int (nI j), .int (nI a), .int (nI b)]) ++ List.replicate (9 - (lg_sl ([.ref h0, .int (nI i), .int (nI j), .int (nI a), .int (nI b)])).length) Slot.unset).toArray = ls at hl ⊢
  have hl : lv_has ls 9 [(0, .ref h0), (1, .int (nI i)), (2, .int (nI j)), (3, .int (nI a)), (4, .int (nI b))] := hl
  refine lv_aload_n hx hb dX4_recallOfAge2_0 rfl (lv_at hl 0 rfl) ?_
  refine va_get (D := (dC, dI)) (ci := 4) (v := .ref v4) (C := RX4) (T := TX4) (N := 11) hx hb hts inlX4 hown hK hP 0 rfl rfl 4 (by decide) (hts _ qf_X4_25) (fun _ h9 => h9) rfl dX4_recallOfAge2_1 ?_
  refine lv_iload hx hb dX4_recallOfAge2_4 (lv_at hl 4 rfl) ?_
  refine rm_ald hx hb hK hP 4 0 (F := lv) rfl rfl dX4_recallOfAge2_6 (by decide) (by omega) ?_
  refine lv_aload_n hx hb dX4_recallOfAge2_7 rfl (lv_at hl 0 rfl) ?_
  refine va_get (D := (dC, dI)) (ci := 4) (v := .ref v2) (C := RX4) (T := TX4) (N := 11) hx hb hts inlX4 hown hK hP 0 rfl rfl 2 (by decide) (hts _ qf_X4_19) (fun _ h9 => h9) rfl dX4_recallOfAge2_8 ?_
  refine lv_iload_n hx hb dX4_recallOfAge2_11 rfl (lv_at hl 1 rfl) ?_
  refine lv_iload_n hx hb dX4_recallOfAge2_12 rfl (lv_at hl 2 rfl) ?_
  refine lv_iconst (v := nI 1) hx hb dX4_recallOfAge2_13 (by decide) ?_
  refine ri_sub hx hb dX4_recallOfAge2_14 (by omega) ?_
  refine lv_iload_n hx hb dX4_recallOfAge2_15 rfl (lv_at hl 3 rfl) ?_
  refine kSi (As := [.int (nI i), .int (nI (j - 1)), .int (nI a)]) (rest := [.ref v2, .long (lN (lv b))]) Y m_X4_placeAfter (c_X4_placeAfter l dC dI i (j - 1) a (by omega)) qm_X4_36 (kpS hK hP hZ hS [] [] rfl rfl) rfl hl.1 rfl (Nat.le_of_ble_eq_true rfl) dX4_recallOfAge2_16 ⟨Nat.le_of_ble_eq_true rfl, Nat.le_of_ble_eq_true rfl⟩ ⟨Nat.zero_le _, Nat.zero_le _⟩ (fun r16 hr16 => ?_)
  obtain rfl : r16 = nI (pA i (j - 1) a) := hr16
  refine rm_ald hx hb hK hP 2 0 (F := af) rfl rfl dX4_recallOfAge2_19 (by decide) (pA_lt (by omega) (by omega) (by omega)) ?_
  refine rl_addn hx hb dX4_recallOfAge2_20 ?_
  refine lv_lstore (lv' := [(5, .long (lN ((lv b) + (af (pA i (j - 1) a))))), (0, .ref h0), (1, .int (nI i)), (2, .int (nI j)), (3, .int (nI a)), (4, .int (nI b))]) hx hb dX4_recallOfAge2_21 hl (by decide) rfl (fun ls hl => ?_)
  refine lv_aload_n hx hb dX4_recallOfAge2_23 rfl (lv_at hl 1 rfl) ?_
  refine va_get (D := (dC, dI)) (ci := 4) (v := .ref v2) (C := RX4) (T := TX4) (N := 11) hx hb hts inlX4 hown hK hP 0 rfl rfl 2 (by decide) (hts _ qf_X4_19) (fun _ h9 => h9) rfl dX4_recallOfAge2_24 ?_
  refine lv_iload_n hx hb dX4_recallOfAge2_27 rfl (lv_at hl 2 rfl) ?_
  refine lv_iload_n hx hb dX4_recallOfAge2_28 rfl (lv_at hl 3 rfl) ?_
  refine lv_iload_n hx hb dX4_recallOfAge2_29 rfl (lv_at hl 4 rfl) ?_
  refine kSi (As := [.int (nI i), .int (nI j), .int (nI a)]) (rest := [.ref v2]) Y m_X4_placeAfter (c_X4_placeAfter l dC dI i j a (by omega)) qm_X4_36 (kpS hK hP hZ hS [] [] rfl rfl) rfl hl.1 rfl (Nat.le_of_ble_eq_true rfl) dX4_recallOfAge2_30 ⟨Nat.le_of_ble_eq_true rfl, Nat.le_of_ble_eq_true rfl⟩ ⟨Nat.zero_le _, Nat.zero_le _⟩ (fun r30 hr30 => ?_)
  obtain rfl : r30 = nI (pA i j a) := hr30
  refine rm_ald hx hb hK hP 2 0 (F := af) rfl rfl dX4_recallOfAge2_33 (by decide) (pA_lt (by omega) (by omega) (by omega)) ?_
  refine lv_lstore (lv' := [(7, .long (lN (af (pA i j a)))), (5, .long (lN ((lv b) + (af (pA i (j - 1) a))))), (0, .ref h0), (1, .int (nI i)), (2, .int (nI j)), (3, .int (nI a)), (4, .int (nI b))]) hx hb dX4_recallOfAge2_34 hl (by decide) rfl (fun ls hl => ?_)
  refine lv_aload_n hx hb dX4_recallOfAge2_36 rfl (lv_at hl 2 rfl) ?_
  refine va_get (D := (dC, dI)) (ci := 4) (v := .int (nI ch2)) (C := RX4) (T := TX4) (N := 11) hx hb hts inlX4 hown hK hP 0 rfl rfl 10 (by decide) (hts _ qf_X4_85) (fun _ h9 => h9) rfl dX4_recallOfAge2_37 ?_
  refine ri_i2l hx hb dX4_recallOfAge2_40 (by omega) ?_
  refine lv_lload hx hb dX4_recallOfAge2_41 (lv_at hl 1 rfl) ?_
  refine rl_muln hx hb dX4_recallOfAge2_43 ?_
  refine lv_bipush (v := nI 10) hx hb dX4_recallOfAge2_44 (by decide) ?_
  refine lv_aload_n hx hb dX4_recallOfAge2_46 rfl (lv_at hl 2 rfl) ?_
  refine va_get (D := (dC, dI)) (ci := 4) (v := .int (nI ch2)) (C := RX4) (T := TX4) (N := 11) hx hb hts inlX4 hown hK hP 0 rfl rfl 10 (by decide) (hts _ qf_X4_85) (fun _ h9 => h9) rfl dX4_recallOfAge2_47 ?_
  refine ri_sub hx hb dX4_recallOfAge2_50 (by omega) ?_
  refine ri_i2l hx hb dX4_recallOfAge2_51 (by omega) ?_
  refine lv_lload hx hb dX4_recallOfAge2_52 (lv_at hl 0 rfl) ?_
  refine rl_muln hx hb dX4_recallOfAge2_54 ?_
  refine rl_addn hx hb dX4_recallOfAge2_55 ?_
  refine lv_ldc2 (v := lN 10) hx hb hown (hts _ ql_X4_97) dX4_recallOfAge2_56 ?_
  have hnum := (r2_b (i := i) (j := j) (a := a) (hVl b (by omega)) hVa hVc2).1
  refine rl_divn hx hb dX4_recallOfAge2_59 (by omega) (by omega) (by omega) ?_
  exact krl (v := lN (((ch2 * ((lv b) + (af (pA i (j - 1) a)))) + ((10 - ch2) * (af (pA i j a)))) / 10)) Y hr hlocks rfl dX4_recallOfAge2_60
set_option maxHeartbeats 4000000 in
set_option maxRecDepth 100000 in
theorem c_X4_meanOfBest (l : Launch) (dC : Nat → ClassId) (dI : Nat → Nat → Nat) (cL cI : ClassId) (h0 v1 v2 v3 v4 v5 : Nat) (wr sv n co ch1 ch2 : Nat) (bf af lv wt : Nat → Nat) (fl : Nat → Int64) (i j a : Nat) (h1 : 1 ≤ i) (h2 : i ≤ 7) (h3 : 1 ≤ j) (h4 : j ≤ 3) (h5 : a ≤ 5) (hVl : ∀ k, k < 5 → lv k ≤ 99000000000000000) (hVb : ∀ k, bf k ≤ 297000000000000000) (hVw : sgN wt 5 = 10) : Met l yX4_meanOfBest (kw yX4_meanOfBest cX4_meanOfBest 11 (some .long)) (kR 1 23) (kPr (dC, dI) [.ref h0, .int (nI i), .int (nI j), .int (nI a)] [(h0, .inr (4, [.int (nI wr), .ref v1, .ref v2, .ref v3, .ref v4, .ref v5, .int (nI sv), .int (nI n), .long (lN co), .int (nI ch1), .int (nI ch2)])), (v1, .inl (cL, 1152, .inr (.inl (fun zz => lN (bf zz))))), (v2, .inl (cL, 192, .inr (.inl (fun zz => lN (af zz))))), (v3, .inl (cL, 32, .inr (.inl fl))), (v4, .inl (cL, 5, .inr (.inl (fun zz => lN (lv zz))))), (v5, .inl (cI, 5, .inl (fun zz => nI (wt zz))))] [(cL, .long), (cI, .int)]) (vp_Sl (fun res : Int64 => res = lN (sgN (mbF lv wt bf i j a) 5 / 10))) 0 0 kNo := by
  refine kmet (by decide) ?_
  intro p e s m args below meth c Y hr hlocks hin hv
  obtain ⟨rfl, hP, hK, hZ⟩ := kinR hv
  have hS : va_S kNo s.heap s.heap [] := va_S.rf
  have hx := Y.1
  have hb := Y.2.1
  have hml := Y.2.2.1
  have hown := Y.2.2.2.1
  have hts := Y.2.2.2.2
  have hl := lv_entry ([.ref h0, .int (nI i), .int (nI j), .int (nI a)]) (n := 11) (Nat.le_of_ble_eq_true rfl)
  rw [lg_entry_eq]
  generalize (lg_sl ([.ref h0, .int (nI i), .int (nI j), .int (nI a)]) ++ List.replicate (11 - (lg_sl ([.ref h0, .int (nI i), .int (nI j), .int (nI a)])).length) Slot.unset).toArray = ls at hl ⊢
  have hl : lv_has ls 11 [(0, .ref h0), (1, .int (nI i)), (2, .int (nI j)), (3, .int (nI a))] := hl
  refine lv_lconst (v := lN 0) hx hb dX4_meanOfBest_0 rfl ?_
  refine lv_lstore (lv' := [(4, .long (lN 0)), (0, .ref h0), (1, .int (nI i)), (2, .int (nI j)), (3, .int (nI a))]) hx hb dX4_meanOfBest_1 hl (by decide) rfl (fun ls hl => ?_)
  refine lv_aload_n hx hb dX4_meanOfBest_3 rfl (lv_at hl 1 rfl) ?_
  refine va_get (D := (dC, dI)) (ci := 4) (v := .ref v1) (C := RX4) (T := TX4) (N := 11) hx hb hts inlX4 hown hK hP 0 rfl rfl 1 (by decide) (hts _ qf_X4_15) (fun _ h9 => h9) rfl dX4_meanOfBest_4 ?_
  refine lv_iload_n hx hb dX4_meanOfBest_7 rfl (lv_at hl 2 rfl) ?_
  refine lv_iconst (v := nI 1) hx hb dX4_meanOfBest_8 (by decide) ?_
  refine ri_add hx hb dX4_meanOfBest_9 ?_
  refine lv_iload_n hx hb dX4_meanOfBest_10 rfl (lv_at hl 3 rfl) ?_
  refine lv_iconst (v := nI 1) hx hb dX4_meanOfBest_11 (by decide) ?_
  refine ri_sub hx hb dX4_meanOfBest_12 (by omega) ?_
  refine lv_iconst (v := nI 5) hx hb dX4_meanOfBest_13 (by decide) ?_
  refine lv_iload_n hx hb dX4_meanOfBest_14 rfl (lv_at hl 4 rfl) ?_
  refine kSi (As := [.int (nI (i + 1)), .int (nI (j - 1)), .int (nI 5), .int (nI a)]) (rest := [.ref v1]) Y m_X4_placeBefore (c_X4_placeBefore l dC dI (i + 1) (j - 1) 5 a (by omega)) qm_X4_32 (kpS hK hP hZ hS [] [] rfl rfl) rfl hl.1 rfl (Nat.le_of_ble_eq_true rfl) dX4_meanOfBest_15 ⟨Nat.le_of_ble_eq_true rfl, Nat.le_of_ble_eq_true rfl⟩ ⟨Nat.zero_le _, Nat.zero_le _⟩ (fun r15 hr15 => ?_)
  obtain rfl : r15 = nI (pB (i + 1) (j - 1) 5 a) := hr15
  refine rm_ald hx hb hK hP 1 0 (F := bf) rfl rfl dX4_meanOfBest_18 (by decide) (pB_lt (by omega) (by omega) (by omega) (by omega)) ?_
  refine lv_lstore (lv' := [(6, .long (lN (bf (pB (i + 1) (j - 1) 5 a)))), (4, .long (lN 0)), (0, .ref h0), (1, .int (nI i)), (2, .int (nI j)), (3, .int (nI a))]) hx hb dX4_meanOfBest_19 hl (by decide) rfl (fun ls hl => ?_)
  refine lv_iconst (v := nI 0) hx hb dX4_meanOfBest_21 (by decide) ?_
  refine lv_istore (lv' := [(8, .int (nI 0)), (6, .long (lN (bf (pB (i + 1) (j - 1) 5 a)))), (4, .long (lN 0)), (0, .ref h0), (1, .int (nI i)), (2, .int (nI j)), (3, .int (nI a))]) hx hb dX4_meanOfBest_22 hl (by decide) rfl (fun ls hl => ?_)
  refine wr2 (fun (t : Nat) (sm : Nat) => 5 - t) (fun (t : Nat) (sm : Nat) (ls : Array Slot) => lv_has ls 11 [(0, .ref h0), (1, .int (nI i)), (2, .int (nI j)), (3, .int (nI a)), (4, .long (lN sm)), (6, .long (lN (bf (pB (i + 1) (j - 1) 5 a)))), (8, .int (nI t))] ∧ (t ≤ 5 ∧ sm = sgN (mbF lv wt bf i j a) t)) 0 0 (by exact ⟨lv_sub hl [3, 4, 5, 6, 2, 1, 0] rfl, ⟨by omega, rfl⟩⟩) (fun t sm ls hI ih => ?_)
  obtain ⟨hl, ht, hsm⟩ := hI
  have ih24 := ih
  refine lv_iload hx hb dX4_meanOfBest_24 (lv_at hl 6 rfl) ?_
  refine lv_iconst (v := nI 5) hx hb dX4_meanOfBest_26 (by decide) ?_
  refine ri_cge (tgt := 82) hx hb dX4_meanOfBest_27 (by decide) (by omega) (by omega) (fun c27 => ?_) (fun c27 => ?_)
  · have e5 : t = 5 := by omega
    subst e5
    have hnum := mbF_b hVl hVb hVw i j a
    refine lv_lload hx hb dX4_meanOfBest_82 (lv_at hl 4 rfl) ?_
    refine lv_ldc2 (v := lN 10) hx hb hown (hts _ ql_X4_97) dX4_meanOfBest_84 ?_
    refine rl_divn hx hb dX4_meanOfBest_87 (by omega) (by omega) (by omega) ?_
    exact krl (v := lN (sm / 10)) Y hr hlocks (by rw [hsm]) dX4_meanOfBest_88
  · refine lv_aload_n hx hb dX4_meanOfBest_30 rfl (lv_at hl 0 rfl) ?_
    refine va_get (D := (dC, dI)) (ci := 4) (v := .ref v1) (C := RX4) (T := TX4) (N := 11) hx hb hts inlX4 hown hK hP 0 rfl rfl 1 (by decide) (hts _ qf_X4_15) (fun _ h9 => h9) rfl dX4_meanOfBest_31 ?_
    refine lv_iload_n hx hb dX4_meanOfBest_34 rfl (lv_at hl 1 rfl) ?_
    refine lv_iconst (v := nI 1) hx hb dX4_meanOfBest_35 (by decide) ?_
    refine ri_add hx hb dX4_meanOfBest_36 ?_
    refine lv_iload_n hx hb dX4_meanOfBest_37 rfl (lv_at hl 2 rfl) ?_
    refine lv_iload hx hb dX4_meanOfBest_38 (lv_at hl 6 rfl) ?_
    refine lv_iload_n hx hb dX4_meanOfBest_40 rfl (lv_at hl 3 rfl) ?_
    refine kSi (As := [.int (nI (i + 1)), .int (nI j), .int (nI t), .int (nI a)]) (rest := [.ref v1]) Y m_X4_placeBefore (c_X4_placeBefore l dC dI (i + 1) j t a (by omega)) qm_X4_32 (kpS hK hP hZ hS [] [] rfl rfl) rfl hl.1 rfl (Nat.le_of_ble_eq_true rfl) dX4_meanOfBest_41 ⟨Nat.le_of_ble_eq_true rfl, Nat.le_of_ble_eq_true rfl⟩ ⟨Nat.zero_le _, Nat.zero_le _⟩ (fun r41 hr41 => ?_)
    obtain rfl : r41 = nI (pB (i + 1) j t a) := hr41
    refine rm_ald hx hb hK hP 1 0 (F := bf) rfl rfl dX4_meanOfBest_44 (by decide) (pB_lt (by omega) (by omega) (by omega) (by omega)) ?_
    refine lv_lstore (lv' := [(9, .long (lN (bf (pB (i + 1) j t a)))), (0, .ref h0), (1, .int (nI i)), (2, .int (nI j)), (3, .int (nI a)), (4, .long (lN sm)), (6, .long (lN (bf (pB (i + 1) (j - 1) 5 a)))), (8, .int (nI t))]) hx hb dX4_meanOfBest_45 hl (by decide) rfl (fun ls hl => ?_)
    have hwl := wt_le hVw (k := t) (by omega)
    have hll := hVl t (by omega)
    have hb1 := hVb (pB (i + 1) j t a)
    have hb2 := hVb (pB (i + 1) (j - 1) 5 a)
    refine lv_lload hx hb dX4_meanOfBest_47 (lv_at hl 5 rfl) ?_
    refine lv_aload_n hx hb dX4_meanOfBest_49 rfl (lv_at hl 1 rfl) ?_
    refine va_get (D := (dC, dI)) (ci := 4) (v := .ref v5) (C := RX4) (T := TX4) (N := 11) hx hb hts inlX4 hown hK hP 0 rfl rfl 5 (by decide) (hts _ qf_X4_28) (fun _ h9 => h9) rfl dX4_meanOfBest_50 ?_
    refine lv_iload hx hb dX4_meanOfBest_53 (lv_at hl 7 rfl) ?_
    refine ri_ald hx hb hK hP 5 1 (F := wt) rfl rfl dX4_meanOfBest_55 (by decide) (by omega) ?_
    refine ri_i2l hx hb dX4_meanOfBest_56 (by omega) ?_
    refine lv_lload hx hb dX4_meanOfBest_57 (lv_at hl 0 rfl) ?_
    refine lv_aload_n hx hb dX4_meanOfBest_59 rfl (lv_at hl 1 rfl) ?_
    refine va_get (D := (dC, dI)) (ci := 4) (v := .ref v4) (C := RX4) (T := TX4) (N := 11) hx hb hts inlX4 hown hK hP 0 rfl rfl 4 (by decide) (hts _ qf_X4_25) (fun _ h9 => h9) rfl dX4_meanOfBest_60 ?_
    refine lv_iload hx hb dX4_meanOfBest_63 (lv_at hl 7 rfl) ?_
    refine rm_ald hx hb hK hP 4 0 (F := lv) rfl rfl dX4_meanOfBest_65 (by decide) (by omega) ?_
    refine lv_lload hx hb dX4_meanOfBest_66 (lv_at hl 6 rfl) ?_
    refine rl_addn hx hb dX4_meanOfBest_68 ?_
    refine va_mmax_long hx hb (by rw [hml]; exact hl.1.symm) hown (hts _ qm_X4_91) (hts _ qt_Lib_MathLoose_max_long_x) (hts _ qz_java_lang_Math) (hts _ qc_Lib_MathLoose_max_long_x) (Nat.le_of_ble_eq_true rfl) (Nat.le_of_ble_eq_true rfl) (Nat.zero_le _) (Nat.zero_le _) dX4_meanOfBest_69 ?_
    refine rl_topn (n := max (bf (pB (i + 1) j t a)) ((lv t) + (bf (pB (i + 1) (j - 1) 5 a)))) (lmax_n (by omega) (by omega)) ?_
    refine rl_muln hx hb dX4_meanOfBest_72 ?_
    refine rl_addn hx hb dX4_meanOfBest_73 ?_
    refine lv_lstore (lv' := [(4, .long (lN (sm + ((wt t) * (max (bf (pB (i + 1) j t a)) ((lv t) + (bf (pB (i + 1) (j - 1) 5 a)))))))), (9, .long (lN (bf (pB (i + 1) j t a)))), (0, .ref h0), (1, .int (nI i)), (2, .int (nI j)), (3, .int (nI a)), (6, .long (lN (bf (pB (i + 1) (j - 1) 5 a)))), (8, .int (nI t))]) hx hb dX4_meanOfBest_74 hl (by decide) rfl (fun ls hl => ?_)
    refine lv_iinc (v := nI (t + 1)) (lv' := [(8, .int (nI (t + 1))), (4, .long (lN (sm + ((wt t) * (max (bf (pB (i + 1) j t a)) ((lv t) + (bf (pB (i + 1) (j - 1) 5 a)))))))), (9, .long (lN (bf (pB (i + 1) j t a)))), (0, .ref h0), (1, .int (nI i)), (2, .int (nI j)), (3, .int (nI a)), (6, .long (lN (bf (pB (i + 1) (j - 1) 5 a))))]) hx hb dX4_meanOfBest_76 hl (k := 7) rfl (inc1 _) (by decide) rfl (fun ls hl => ?_)
    refine lv_goto (tgt := 24) hx hb dX4_meanOfBest_79 (by decide) ?_
    exact ih24 (t + 1) (sm + ((wt t) * (max (bf (pB (i + 1) j t a)) ((lv t) + (bf (pB (i + 1) (j - 1) 5 a)))))) _ (by show _ < _; omega) (by exact ⟨lv_sub hl [3, 4, 5, 6, 1, 7, 0] rfl, ⟨by omega, by rw [hsm]; rfl⟩⟩)
set_option maxHeartbeats 4000000 in
set_option maxRecDepth 100000 in
theorem c_X4_takes (l : Launch) (dC : Nat → ClassId) (dI : Nat → Nat → Nat) (cL cI : ClassId) (h0 v1 v2 v3 v4 v5 : Nat) (wr sv n co ch1 ch2 : Nat) (bf af lv wt : Nat → Nat) (fl : Nat → Int64) (i j a v : Nat) (h1 : 1 ≤ i) (h2 : i ≤ 7) (h3 : 1 ≤ j) (h4 : j ≤ 3) (h5 : a ≤ 5) (h6 : v ≤ 4) (hVl : ∀ k, k < 5 → lv k ≤ 99000000000000000) (hVb : ∀ k, bf k ≤ 297000000000000000) : Met l yX4_takes (kw yX4_takes cX4_takes 7 (some .boolean)) (kR 1 23) (kPr (dC, dI) [.ref h0, .int (nI i), .int (nI j), .int (nI a), .int (nI v)] [(h0, .inr (4, [.int (nI wr), .ref v1, .ref v2, .ref v3, .ref v4, .ref v5, .int (nI sv), .int (nI n), .long (lN co), .int (nI ch1), .int (nI ch2)])), (v1, .inl (cL, 1152, .inr (.inl (fun zz => lN (bf zz))))), (v2, .inl (cL, 192, .inr (.inl (fun zz => lN (af zz))))), (v3, .inl (cL, 32, .inr (.inl fl))), (v4, .inl (cL, 5, .inr (.inl (fun zz => lN (lv zz))))), (v5, .inl (cI, 5, .inl (fun zz => nI (wt zz))))] [(cL, .long), (cI, .int)]) (vp_Si (fun res : Int32 => res = b2i (bf (pB (i + 1) j v a) ≤ lv v + bf (pB (i + 1) (j - 1) 5 a)))) 0 0 kNo := by
  refine kmet (by decide) ?_
  intro p e s m args below meth c Y hr hlocks hin hv
  obtain ⟨rfl, hP, hK, hZ⟩ := kinR hv
  have hS : va_S kNo s.heap s.heap [] := va_S.rf
  have hx := Y.1
  have hb := Y.2.1
  have hml := Y.2.2.1
  have hown := Y.2.2.2.1
  have hts := Y.2.2.2.2
  have hl := lv_entry ([.ref h0, .int (nI i), .int (nI j), .int (nI a), .int (nI v)]) (n := 7) (Nat.le_of_ble_eq_true rfl)
  rw [lg_entry_eq]
  generalize (lg_sl ([.ref h0, .int (nI i), .int (nI j), .int (nI a), .int (nI v)]) ++ List.replicate (7 - (lg_sl ([.ref h0, .int (nI i), .int (nI j), .int (nI a), .int (nI v)])).length) Slot.unset).toArray = ls at hl ⊢
  have hl : lv_has ls 7 [(0, .ref h0), (1, .int (nI i)), (2, .int (nI j)), (3, .int (nI a)), (4, .int (nI v))] := hl
  refine lv_aload_n hx hb dX4_takes_0 rfl (lv_at hl 0 rfl) ?_
  refine va_get (D := (dC, dI)) (ci := 4) (v := .ref v4) (C := RX4) (T := TX4) (N := 11) hx hb hts inlX4 hown hK hP 0 rfl rfl 4 (by decide) (hts _ qf_X4_25) (fun _ h9 => h9) rfl dX4_takes_1 ?_
  refine lv_iload hx hb dX4_takes_4 (lv_at hl 4 rfl) ?_
  refine rm_ald hx hb hK hP 4 0 (F := lv) rfl rfl dX4_takes_6 (by decide) (by omega) ?_
  refine lv_aload_n hx hb dX4_takes_7 rfl (lv_at hl 0 rfl) ?_
  refine va_get (D := (dC, dI)) (ci := 4) (v := .ref v1) (C := RX4) (T := TX4) (N := 11) hx hb hts inlX4 hown hK hP 0 rfl rfl 1 (by decide) (hts _ qf_X4_15) (fun _ h9 => h9) rfl dX4_takes_8 ?_
  refine lv_iload_n hx hb dX4_takes_11 rfl (lv_at hl 1 rfl) ?_
  refine lv_iconst (v := nI 1) hx hb dX4_takes_12 (by decide) ?_
  refine ri_add hx hb dX4_takes_13 ?_
  refine lv_iload_n hx hb dX4_takes_14 rfl (lv_at hl 2 rfl) ?_
  refine lv_iconst (v := nI 1) hx hb dX4_takes_15 (by decide) ?_
  refine ri_sub hx hb dX4_takes_16 (by omega) ?_
  refine lv_iconst (v := nI 5) hx hb dX4_takes_17 (by decide) ?_
  refine lv_iload_n hx hb dX4_takes_18 rfl (lv_at hl 3 rfl) ?_
  refine kSi (As := [.int (nI (i + 1)), .int (nI (j - 1)), .int (nI 5), .int (nI a)]) (rest := [.ref v1, .long (lN (lv v))]) Y m_X4_placeBefore (c_X4_placeBefore l dC dI (i + 1) (j - 1) 5 a (by omega)) qm_X4_32 (kpS hK hP hZ hS [] [] rfl rfl) rfl hl.1 rfl (Nat.le_of_ble_eq_true rfl) dX4_takes_19 ⟨Nat.le_of_ble_eq_true rfl, Nat.le_of_ble_eq_true rfl⟩ ⟨Nat.zero_le _, Nat.zero_le _⟩ (fun r19 hr19 => ?_)
  obtain rfl : r19 = nI (pB (i + 1) (j - 1) 5 a) := hr19
  refine rm_ald hx hb hK hP 1 0 (F := bf) rfl rfl dX4_takes_22 (by decide) (pB_lt (by omega) (by omega) (by omega) (by omega)) ?_
  refine rl_addn hx hb dX4_takes_23 ?_
  refine lv_lstore (lv' := [(5, .long (lN ((lv v) + (bf (pB (i + 1) (j - 1) 5 a))))), (0, .ref h0), (1, .int (nI i)), (2, .int (nI j)), (3, .int (nI a)), (4, .int (nI v))]) hx hb dX4_takes_24 hl (by decide) rfl (fun ls hl => ?_)
  refine lv_lload hx hb dX4_takes_26 (lv_at hl 0 rfl) ?_
  refine lv_aload_n hx hb dX4_takes_28 rfl (lv_at hl 1 rfl) ?_
  refine va_get (D := (dC, dI)) (ci := 4) (v := .ref v1) (C := RX4) (T := TX4) (N := 11) hx hb hts inlX4 hown hK hP 0 rfl rfl 1 (by decide) (hts _ qf_X4_15) (fun _ h9 => h9) rfl dX4_takes_29 ?_
  refine lv_iload_n hx hb dX4_takes_32 rfl (lv_at hl 2 rfl) ?_
  refine lv_iconst (v := nI 1) hx hb dX4_takes_33 (by decide) ?_
  refine ri_add hx hb dX4_takes_34 ?_
  refine lv_iload_n hx hb dX4_takes_35 rfl (lv_at hl 3 rfl) ?_
  refine lv_iload hx hb dX4_takes_36 (lv_at hl 5 rfl) ?_
  refine lv_iload_n hx hb dX4_takes_38 rfl (lv_at hl 4 rfl) ?_
  refine kSi (As := [.int (nI (i + 1)), .int (nI j), .int (nI v), .int (nI a)]) (rest := [.ref v1, .long (lN ((lv v) + (bf (pB (i + 1) (j - 1) 5 a))))]) Y m_X4_placeBefore (c_X4_placeBefore l dC dI (i + 1) j v a (by omega)) qm_X4_32 (kpS hK hP hZ hS [] [] rfl rfl) rfl hl.1 rfl (Nat.le_of_ble_eq_true rfl) dX4_takes_39 ⟨Nat.le_of_ble_eq_true rfl, Nat.le_of_ble_eq_true rfl⟩ ⟨Nat.zero_le _, Nat.zero_le _⟩ (fun r39 hr39 => ?_)
  obtain rfl : r39 = nI (pB (i + 1) j v a) := hr39
  refine rm_ald hx hb hK hP 1 0 (F := bf) rfl rfl dX4_takes_42 (by decide) (pB_lt (by omega) (by omega) (by omega) (by omega)) ?_
  have hll := hVl v (by omega)
  have hb1 := hVb (pB (i + 1) j v a)
  have hb2 := hVb (pB (i + 1) (j - 1) 5 a)
  refine rl_ltn (tgt := 51) hx hb dX4_takes_43 dX4_takes_44 (by decide) (by omega) (by omega) (fun c43 => ?_) (fun c43 => ?_)
  · refine lv_iconst (v := nI 0) hx hb dX4_takes_51 (by decide) ?_
    exact krz (v := nI 0) Y hr hlocks (by decide) (b2i_f (by omega)).symm dX4_takes_52
  · refine lv_iconst (v := nI 1) hx hb dX4_takes_47 (by decide) ?_
    refine lv_goto (tgt := 52) hx hb dX4_takes_48 (by decide) ?_
    exact krz (v := nI 1) Y hr hlocks (by decide) (b2i_t (by omega)).symm dX4_takes_52
