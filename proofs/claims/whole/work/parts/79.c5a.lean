set_option maxHeartbeats 4000000 in
set_option maxRecDepth 100000 in
theorem c_X5_candidates (l : Launch) (dC : Nat → ClassId) (dI : Nat → Nat → Nat) (cI cL : ClassId) (x0 pa t0 y0 r0 a0 b0 s0 : Nat) (fa : Nat) (un : Int64) (P : Nat → Nat)  : Met l yX5_candidates (kw yX5_candidates cX5_candidates 1 (some .int)) (kR 0 0) (kPr (dC, dI) [.ref x0] [(x0, .inr (5, [.ref pa, .ref t0, .ref y0, .ref r0, .ref a0, .ref b0, .ref s0, .int (nI fa), .long un])), (pa, .inl (cI, 22, .inl (fun zz => nI (P zz))))] [(cI, .int)]) (vp_Si (fun res : Int32 => res = nI (P 0))) 0 0 kNo := by
  refine kmet (by decide) ?_
  intro p e s m args below meth c Y hr hlocks hin hv
  obtain ⟨rfl, hP, hK, hZ⟩ := kinR hv
  have hS : va_S kNo s.heap s.heap [] := va_S.rf
  have hx := Y.1
  have hb := Y.2.1
  have hml := Y.2.2.1
  have hown := Y.2.2.2.1
  have hts := Y.2.2.2.2
  have hl := lv_entry ([.ref x0]) (n := 1) (Nat.le_of_ble_eq_true rfl)
  rw [lg_entry_eq]
  generalize (lg_sl ([.ref x0]) ++ List.replicate (1 - (lg_sl ([.ref x0])).length) Slot.unset).toArray = ls at hl ⊢
  have hl : lv_has ls 1 [(0, .ref x0)] := hl
  refine lv_aload_n hx hb dX5_candidates_0 rfl (lv_at hl 0 rfl) ?_
  refine va_get (D := (dC, dI)) (ci := 5) (v := .ref pa) (C := RX5) (T := TX5) (N := 9) hx hb hts inlX5 hown hK hP 0 rfl rfl 0 (by decide) (hts _ qf_X5_9) (fun _ h9 => h9) rfl dX5_candidates_1 ?_
  refine lv_iconst (v := nI 0) hx hb dX5_candidates_4 (by decide) ?_
  refine ri_ald hx hb hK hP 1 0 (F := P) rfl rfl dX5_candidates_5 (by decide) (by omega) ?_
  exact kri (v := nI (P 0)) Y hr hlocks rfl dX5_candidates_6
set_option maxHeartbeats 4000000 in
set_option maxRecDepth 100000 in
theorem c_X5_choices (l : Launch) (dC : Nat → ClassId) (dI : Nat → Nat → Nat) (cI cL : ClassId) (x0 pa t0 y0 r0 a0 b0 s0 : Nat) (fa : Nat) (un : Int64) (P : Nat → Nat)  : Met l yX5_choices (kw yX5_choices cX5_choices 1 (some .int)) (kR 0 0) (kPr (dC, dI) [.ref x0] [(x0, .inr (5, [.ref pa, .ref t0, .ref y0, .ref r0, .ref a0, .ref b0, .ref s0, .int (nI fa), .long un])), (pa, .inl (cI, 22, .inl (fun zz => nI (P zz))))] [(cI, .int)]) (vp_Si (fun res : Int32 => res = nI (P 1))) 0 0 kNo := by
  refine kmet (by decide) ?_
  intro p e s m args below meth c Y hr hlocks hin hv
  obtain ⟨rfl, hP, hK, hZ⟩ := kinR hv
  have hS : va_S kNo s.heap s.heap [] := va_S.rf
  have hx := Y.1
  have hb := Y.2.1
  have hml := Y.2.2.1
  have hown := Y.2.2.2.1
  have hts := Y.2.2.2.2
  have hl := lv_entry ([.ref x0]) (n := 1) (Nat.le_of_ble_eq_true rfl)
  rw [lg_entry_eq]
  generalize (lg_sl ([.ref x0]) ++ List.replicate (1 - (lg_sl ([.ref x0])).length) Slot.unset).toArray = ls at hl ⊢
  have hl : lv_has ls 1 [(0, .ref x0)] := hl
  refine lv_aload_n hx hb dX5_choices_0 rfl (lv_at hl 0 rfl) ?_
  refine va_get (D := (dC, dI)) (ci := 5) (v := .ref pa) (C := RX5) (T := TX5) (N := 9) hx hb hts inlX5 hown hK hP 0 rfl rfl 0 (by decide) (hts _ qf_X5_9) (fun _ h9 => h9) rfl dX5_choices_1 ?_
  refine lv_iconst (v := nI 1) hx hb dX5_choices_4 (by decide) ?_
  refine ri_ald hx hb hK hP 1 0 (F := P) rfl rfl dX5_choices_5 (by decide) (by omega) ?_
  exact kri (v := nI (P 1)) Y hr hlocks rfl dX5_choices_6
set_option maxHeartbeats 4000000 in
set_option maxRecDepth 100000 in
theorem c_X5_isNoCandidate (l : Launch) (dC : Nat → ClassId) (dI : Nat → Nat → Nat) (cI cL : ClassId) (x0 pa t0 y0 r0 a0 b0 s0 : Nat) (fa : Nat) (un : Int64) (P : Nat → Nat) (a : Int32)  : Met l yX5_isNoCandidate (kw yX5_isNoCandidate cX5_isNoCandidate 2 (some .boolean)) (kR 1 20) (kPr (dC, dI) [.ref x0, .int a] [(x0, .inr (5, [.ref pa, .ref t0, .ref y0, .ref r0, .ref a0, .ref b0, .ref s0, .int (nI fa), .long un])), (pa, .inl (cI, 22, .inl (fun zz => nI (P zz))))] [(cI, .int)]) (vp_Si (fun res : Int32 => res = b2i (¬ (nI 1 ≤ a ∧ a ≤ nI (P 0))))) 0 0 kNo := by
  refine kmet (by decide) ?_
  intro p e s m args below meth c Y hr hlocks hin hv
  obtain ⟨rfl, hP, hK, hZ⟩ := kinR hv
  have hS : va_S kNo s.heap s.heap [] := va_S.rf
  have hx := Y.1
  have hb := Y.2.1
  have hml := Y.2.2.1
  have hown := Y.2.2.2.1
  have hts := Y.2.2.2.2
  have hl := lv_entry ([.ref x0, .int a]) (n := 2) (Nat.le_of_ble_eq_true rfl)
  rw [lg_entry_eq]
  generalize (lg_sl ([.ref x0, .int a]) ++ List.replicate (2 - (lg_sl ([.ref x0, .int a])).length) Slot.unset).toArray = ls at hl ⊢
  have hl : lv_has ls 2 [(0, .ref x0), (1, .int a)] := hl
  refine lv_iload_n hx hb dX5_isNoCandidate_0 rfl (lv_at hl 1 rfl) ?_
  refine lv_iconst (v := nI 1) hx hb dX5_isNoCandidate_1 (by decide) ?_
  refine lv_icmp_lt (tgt := 13) hx hb dX5_isNoCandidate_2 (by decide) (fun c2 => ?_) (fun c2 => ?_)
  · refine lv_iconst (v := nI 1) hx hb dX5_isNoCandidate_13 (by decide) ?_
    refine lv_goto (tgt := 18) hx hb dX5_isNoCandidate_14 (by decide) ?_
    exact krz (v := nI 1) Y hr hlocks (by decide) (nb_t (fun q => absurd c2 (Int32.not_lt.mpr q.1))) dX5_isNoCandidate_18
  · refine lv_iload_n hx hb dX5_isNoCandidate_5 rfl (lv_at hl 1 rfl) ?_
    refine lv_aload_n hx hb dX5_isNoCandidate_6 rfl (lv_at hl 0 rfl) ?_
    refine kVi (As := []) (rest := [.int a]) Y m_X5_candidates (c_X5_candidates l dC dI cI cL x0 pa t0 y0 r0 a0 b0 s0 fa un P ) qm_X5_149 (kpV (ci := 5) hK hP hZ hS [0, 1] [0] rfl rfl 0 rfl rfl rfl) rfl hl.1 rfl (Nat.le_of_ble_eq_true rfl) dX5_isNoCandidate_7 ⟨Nat.le_of_ble_eq_true rfl, Nat.le_of_ble_eq_true rfl⟩ ⟨Nat.zero_le _, Nat.zero_le _⟩ (fun r7 hr7 => ?_)
    obtain rfl : r7 = nI (P 0) := hr7
    refine lv_icmp_le (tgt := 17) hx hb dX5_isNoCandidate_10 (by decide) (fun c10 => ?_) (fun c10 => ?_)
    · refine lv_iconst (v := nI 0) hx hb dX5_isNoCandidate_17 (by decide) ?_
      exact krz (v := nI 0) Y hr hlocks (by decide) (nb_f ⟨Int32.not_lt.mp c2, c10⟩) dX5_isNoCandidate_18
    · refine lv_iconst (v := nI 1) hx hb dX5_isNoCandidate_13 (by decide) ?_
      refine lv_goto (tgt := 18) hx hb dX5_isNoCandidate_14 (by decide) ?_
      exact krz (v := nI 1) Y hr hlocks (by decide) (nb_t (fun q => c10 q.2)) dX5_isNoCandidate_18
set_option maxHeartbeats 4000000 in
set_option maxRecDepth 100000 in
theorem c_X5_isNoPlace (l : Launch) (dC : Nat → ClassId) (dI : Nat → Nat → Nat) (cI cL : ClassId) (x0 pa t0 y0 r0 a0 b0 s0 : Nat) (fa : Nat) (un : Int64) (P : Nat → Nat) (a : Int32)  : Met l yX5_isNoPlace (kw yX5_isNoPlace cX5_isNoPlace 2 (some .boolean)) (kR 1 20) (kPr (dC, dI) [.ref x0, .int a] [(x0, .inr (5, [.ref pa, .ref t0, .ref y0, .ref r0, .ref a0, .ref b0, .ref s0, .int (nI fa), .long un])), (pa, .inl (cI, 22, .inl (fun zz => nI (P zz))))] [(cI, .int)]) (vp_Si (fun res : Int32 => res = b2i (¬ (nI 1 ≤ a ∧ a ≤ nI (P 0 + 1))))) 0 0 kNo := by
  refine kmet (by decide) ?_
  intro p e s m args below meth c Y hr hlocks hin hv
  obtain ⟨rfl, hP, hK, hZ⟩ := kinR hv
  have hS : va_S kNo s.heap s.heap [] := va_S.rf
  have hx := Y.1
  have hb := Y.2.1
  have hml := Y.2.2.1
  have hown := Y.2.2.2.1
  have hts := Y.2.2.2.2
  have hl := lv_entry ([.ref x0, .int a]) (n := 2) (Nat.le_of_ble_eq_true rfl)
  rw [lg_entry_eq]
  generalize (lg_sl ([.ref x0, .int a]) ++ List.replicate (2 - (lg_sl ([.ref x0, .int a])).length) Slot.unset).toArray = ls at hl ⊢
  have hl : lv_has ls 2 [(0, .ref x0), (1, .int a)] := hl
  refine lv_iload_n hx hb dX5_isNoPlace_0 rfl (lv_at hl 1 rfl) ?_
  refine lv_iconst (v := nI 1) hx hb dX5_isNoPlace_1 (by decide) ?_
  refine lv_icmp_lt (tgt := 15) hx hb dX5_isNoPlace_2 (by decide) (fun c2 => ?_) (fun c2 => ?_)
  · refine lv_iconst (v := nI 1) hx hb dX5_isNoPlace_15 (by decide) ?_
    refine lv_goto (tgt := 20) hx hb dX5_isNoPlace_16 (by decide) ?_
    exact krz (v := nI 1) Y hr hlocks (by decide) (nb_t (fun q => absurd c2 (Int32.not_lt.mpr q.1))) dX5_isNoPlace_20
  · refine lv_iload_n hx hb dX5_isNoPlace_5 rfl (lv_at hl 1 rfl) ?_
    refine lv_aload_n hx hb dX5_isNoPlace_6 rfl (lv_at hl 0 rfl) ?_
    refine kVi (As := []) (rest := [.int a]) Y m_X5_candidates (c_X5_candidates l dC dI cI cL x0 pa t0 y0 r0 a0 b0 s0 fa un P ) qm_X5_149 (kpV (ci := 5) hK hP hZ hS [0, 1] [0] rfl rfl 0 rfl rfl rfl) rfl hl.1 rfl (Nat.le_of_ble_eq_true rfl) dX5_isNoPlace_7 ⟨Nat.le_of_ble_eq_true rfl, Nat.le_of_ble_eq_true rfl⟩ ⟨Nat.zero_le _, Nat.zero_le _⟩ (fun r7 hr7 => ?_)
    obtain rfl : r7 = nI (P 0) := hr7
    refine lv_iconst (v := nI 1) hx hb dX5_isNoPlace_10 (by decide) ?_
    refine ri_add hx hb dX5_isNoPlace_11 ?_
    refine lv_icmp_le (tgt := 19) hx hb dX5_isNoPlace_12 (by decide) (fun c12 => ?_) (fun c12 => ?_)
    · refine lv_iconst (v := nI 0) hx hb dX5_isNoPlace_19 (by decide) ?_
      exact krz (v := nI 0) Y hr hlocks (by decide) (nb_f ⟨Int32.not_lt.mp c2, c12⟩) dX5_isNoPlace_20
    · refine lv_iconst (v := nI 1) hx hb dX5_isNoPlace_15 (by decide) ?_
      refine lv_goto (tgt := 20) hx hb dX5_isNoPlace_16 (by decide) ?_
      exact krz (v := nI 1) Y hr hlocks (by decide) (nb_t (fun q => c12 q.2)) dX5_isNoPlace_20
set_option maxHeartbeats 4000000 in
set_option maxRecDepth 100000 in
theorem c_X5_isNoNumberLeft (l : Launch) (dC : Nat → ClassId) (dI : Nat → Nat → Nat) (cI cL : ClassId) (x0 pa t0 y0 r0 a0 b0 s0 : Nat) (fa : Nat) (un : Int64) (P : Nat → Nat) (a : Int32)  : Met l yX5_isNoNumberLeft (kw yX5_isNoNumberLeft cX5_isNoNumberLeft 2 (some .boolean)) (kR 1 20) (kPr (dC, dI) [.ref x0, .int a] [(x0, .inr (5, [.ref pa, .ref t0, .ref y0, .ref r0, .ref a0, .ref b0, .ref s0, .int (nI fa), .long un])), (pa, .inl (cI, 22, .inl (fun zz => nI (P zz))))] [(cI, .int)]) (vp_Si (fun res : Int32 => res = b2i (¬ (nI 0 ≤ a ∧ a ≤ nI (P 1))))) 0 0 kNo := by
  refine kmet (by decide) ?_
  intro p e s m args below meth c Y hr hlocks hin hv
  obtain ⟨rfl, hP, hK, hZ⟩ := kinR hv
  have hS : va_S kNo s.heap s.heap [] := va_S.rf
  have hx := Y.1
  have hb := Y.2.1
  have hml := Y.2.2.1
  have hown := Y.2.2.2.1
  have hts := Y.2.2.2.2
  have hl := lv_entry ([.ref x0, .int a]) (n := 2) (Nat.le_of_ble_eq_true rfl)
  rw [lg_entry_eq]
  generalize (lg_sl ([.ref x0, .int a]) ++ List.replicate (2 - (lg_sl ([.ref x0, .int a])).length) Slot.unset).toArray = ls at hl ⊢
  have hl : lv_has ls 2 [(0, .ref x0), (1, .int a)] := hl
  refine lv_iload_n hx hb dX5_isNoNumberLeft_0 rfl (lv_at hl 1 rfl) ?_
  refine lv_if_lt (tgt := 12) hx hb dX5_isNoNumberLeft_1 (by decide) (fun c1 => ?_) (fun c1 => ?_)
  · refine lv_iconst (v := nI 1) hx hb dX5_isNoNumberLeft_12 (by decide) ?_
    refine lv_goto (tgt := 17) hx hb dX5_isNoNumberLeft_13 (by decide) ?_
    exact krz (v := nI 1) Y hr hlocks (by decide) (nb_t (fun q => absurd c1 (Int32.not_lt.mpr q.1))) dX5_isNoNumberLeft_17
  · refine lv_iload_n hx hb dX5_isNoNumberLeft_4 rfl (lv_at hl 1 rfl) ?_
    refine lv_aload_n hx hb dX5_isNoNumberLeft_5 rfl (lv_at hl 0 rfl) ?_
    refine kVi (As := []) (rest := [.int a]) Y m_X5_choices (c_X5_choices l dC dI cI cL x0 pa t0 y0 r0 a0 b0 s0 fa un P ) qm_X5_143 (kpV (ci := 5) hK hP hZ hS [0, 1] [0] rfl rfl 0 rfl rfl rfl) rfl hl.1 rfl (Nat.le_of_ble_eq_true rfl) dX5_isNoNumberLeft_6 ⟨Nat.le_of_ble_eq_true rfl, Nat.le_of_ble_eq_true rfl⟩ ⟨Nat.zero_le _, Nat.zero_le _⟩ (fun r6 hr6 => ?_)
    obtain rfl : r6 = nI (P 1) := hr6
    refine lv_icmp_le (tgt := 16) hx hb dX5_isNoNumberLeft_9 (by decide) (fun c9 => ?_) (fun c9 => ?_)
    · refine lv_iconst (v := nI 0) hx hb dX5_isNoNumberLeft_16 (by decide) ?_
      exact krz (v := nI 0) Y hr hlocks (by decide) (nb_f ⟨Int32.not_lt.mp c1, c9⟩) dX5_isNoNumberLeft_17
    · refine lv_iconst (v := nI 1) hx hb dX5_isNoNumberLeft_12 (by decide) ?_
      refine lv_goto (tgt := 17) hx hb dX5_isNoNumberLeft_13 (by decide) ?_
      exact krz (v := nI 1) Y hr hlocks (by decide) (nb_t (fun q => c9 q.2)) dX5_isNoNumberLeft_17
set_option maxHeartbeats 4000000 in
set_option maxRecDepth 100000 in
theorem c_X5_isNoChoiceLeft (l : Launch) (dC : Nat → ClassId) (dI : Nat → Nat → Nat) (cI cL : ClassId) (x0 pa t0 y0 r0 a0 b0 s0 : Nat) (fa : Nat) (un : Int64) (P : Nat → Nat) (a : Int32)  : Met l yX5_isNoChoiceLeft (kw yX5_isNoChoiceLeft cX5_isNoChoiceLeft 2 (some .boolean)) (kR 1 20) (kPr (dC, dI) [.ref x0, .int a] [(x0, .inr (5, [.ref pa, .ref t0, .ref y0, .ref r0, .ref a0, .ref b0, .ref s0, .int (nI fa), .long un])), (pa, .inl (cI, 22, .inl (fun zz => nI (P zz))))] [(cI, .int)]) (vp_Si (fun res : Int32 => res = b2i (¬ (nI 1 ≤ a ∧ a ≤ nI (P 1))))) 0 0 kNo := by
  refine kmet (by decide) ?_
  intro p e s m args below meth c Y hr hlocks hin hv
  obtain ⟨rfl, hP, hK, hZ⟩ := kinR hv
  have hS : va_S kNo s.heap s.heap [] := va_S.rf
  have hx := Y.1
  have hb := Y.2.1
  have hml := Y.2.2.1
  have hown := Y.2.2.2.1
  have hts := Y.2.2.2.2
  have hl := lv_entry ([.ref x0, .int a]) (n := 2) (Nat.le_of_ble_eq_true rfl)
  rw [lg_entry_eq]
  generalize (lg_sl ([.ref x0, .int a]) ++ List.replicate (2 - (lg_sl ([.ref x0, .int a])).length) Slot.unset).toArray = ls at hl ⊢
  have hl : lv_has ls 2 [(0, .ref x0), (1, .int a)] := hl
  refine lv_iload_n hx hb dX5_isNoChoiceLeft_0 rfl (lv_at hl 1 rfl) ?_
  refine lv_iconst (v := nI 1) hx hb dX5_isNoChoiceLeft_1 (by decide) ?_
  refine lv_icmp_lt (tgt := 13) hx hb dX5_isNoChoiceLeft_2 (by decide) (fun c2 => ?_) (fun c2 => ?_)
  · refine lv_iconst (v := nI 1) hx hb dX5_isNoChoiceLeft_13 (by decide) ?_
    refine lv_goto (tgt := 18) hx hb dX5_isNoChoiceLeft_14 (by decide) ?_
    exact krz (v := nI 1) Y hr hlocks (by decide) (nb_t (fun q => absurd c2 (Int32.not_lt.mpr q.1))) dX5_isNoChoiceLeft_18
  · refine lv_iload_n hx hb dX5_isNoChoiceLeft_5 rfl (lv_at hl 1 rfl) ?_
    refine lv_aload_n hx hb dX5_isNoChoiceLeft_6 rfl (lv_at hl 0 rfl) ?_
    refine kVi (As := []) (rest := [.int a]) Y m_X5_choices (c_X5_choices l dC dI cI cL x0 pa t0 y0 r0 a0 b0 s0 fa un P ) qm_X5_143 (kpV (ci := 5) hK hP hZ hS [0, 1] [0] rfl rfl 0 rfl rfl rfl) rfl hl.1 rfl (Nat.le_of_ble_eq_true rfl) dX5_isNoChoiceLeft_7 ⟨Nat.le_of_ble_eq_true rfl, Nat.le_of_ble_eq_true rfl⟩ ⟨Nat.zero_le _, Nat.zero_le _⟩ (fun r7 hr7 => ?_)
    obtain rfl : r7 = nI (P 1) := hr7
    refine lv_icmp_le (tgt := 17) hx hb dX5_isNoChoiceLeft_10 (by decide) (fun c10 => ?_) (fun c10 => ?_)
    · refine lv_iconst (v := nI 0) hx hb dX5_isNoChoiceLeft_17 (by decide) ?_
      exact krz (v := nI 0) Y hr hlocks (by decide) (nb_f ⟨Int32.not_lt.mp c2, c10⟩) dX5_isNoChoiceLeft_18
    · refine lv_iconst (v := nI 1) hx hb dX5_isNoChoiceLeft_13 (by decide) ?_
      refine lv_goto (tgt := 18) hx hb dX5_isNoChoiceLeft_14 (by decide) ?_
      exact krz (v := nI 1) Y hr hlocks (by decide) (nb_t (fun q => c10 q.2)) dX5_isNoChoiceLeft_18
set_option maxHeartbeats 4000000 in
set_option maxRecDepth 100000 in
theorem c_X5_isNoLevel (l : Launch) (dC : Nat → ClassId) (dI : Nat → Nat → Nat) (a : Int32)  : Met l yX5_isNoLevel (kw yX5_isNoLevel cX5_isNoLevel 1 (some .boolean)) (kR 0 0) (kPr (dC, dI) [.int a] [] []) (vp_Si (fun res : Int32 => res = b2i (¬ (nI 0 ≤ a ∧ a ≤ nI 4)))) 0 0 kNo := by
  refine kmet (by decide) ?_
  intro p e s m args below meth c Y hr hlocks hin hv
  obtain ⟨rfl, hP, hK, hZ⟩ := kinR hv
  have hS : va_S kNo s.heap s.heap [] := va_S.rf
  have hx := Y.1
  have hb := Y.2.1
  have hml := Y.2.2.1
  have hown := Y.2.2.2.1
  have hts := Y.2.2.2.2
  have hl := lv_entry ([.int a]) (n := 1) (Nat.le_of_ble_eq_true rfl)
  rw [lg_entry_eq]
  generalize (lg_sl ([.int a]) ++ List.replicate (1 - (lg_sl ([.int a])).length) Slot.unset).toArray = ls at hl ⊢
  have hl : lv_has ls 1 [(0, .int a)] := hl
  refine lv_iload_n hx hb dX5_isNoLevel_0 rfl (lv_at hl 0 rfl) ?_
  refine lv_if_lt (tgt := 9) hx hb dX5_isNoLevel_1 (by decide) (fun c1 => ?_) (fun c1 => ?_)
  · refine lv_iconst (v := nI 1) hx hb dX5_isNoLevel_9 (by decide) ?_
    refine lv_goto (tgt := 14) hx hb dX5_isNoLevel_10 (by decide) ?_
    exact krz (v := nI 1) Y hr hlocks (by decide) (nb_t (fun q => absurd c1 (Int32.not_lt.mpr q.1))) dX5_isNoLevel_14
  · refine lv_iload_n hx hb dX5_isNoLevel_4 rfl (lv_at hl 0 rfl) ?_
    refine lv_iconst (v := nI 5) hx hb dX5_isNoLevel_5 (by decide) ?_
    refine lv_icmp_lt (tgt := 13) hx hb dX5_isNoLevel_6 (by decide) (fun c6 => ?_) (fun c6 => ?_)
    · refine lv_iconst (v := nI 0) hx hb dX5_isNoLevel_13 (by decide) ?_
      exact krz (v := nI 0) Y hr hlocks (by decide) (nb_f ⟨Int32.not_lt.mp c1, in5.mp c6⟩) dX5_isNoLevel_14
    · refine lv_iconst (v := nI 1) hx hb dX5_isNoLevel_9 (by decide) ?_
      refine lv_goto (tgt := 14) hx hb dX5_isNoLevel_10 (by decide) ?_
      exact krz (v := nI 1) Y hr hlocks (by decide) (nb_t (fun q => c6 (in5.mpr q.2))) dX5_isNoLevel_14
set_option maxHeartbeats 4000000 in
set_option maxRecDepth 100000 in
theorem c_X5_isNoMemory (l : Launch) (dC : Nat → ClassId) (dI : Nat → Nat → Nat) (a : Int32)  : Met l yX5_isNoMemory (kw yX5_isNoMemory cX5_isNoMemory 1 (some .boolean)) (kR 0 0) (kPr (dC, dI) [.int a] [] []) (vp_Si (fun res : Int32 => res = b2i (¬ (nI 0 ≤ a ∧ a ≤ nI 5)))) 0 0 kNo := by
  refine kmet (by decide) ?_
  intro p e s m args below meth c Y hr hlocks hin hv
  obtain ⟨rfl, hP, hK, hZ⟩ := kinR hv
  have hS : va_S kNo s.heap s.heap [] := va_S.rf
  have hx := Y.1
  have hb := Y.2.1
  have hml := Y.2.2.1
  have hown := Y.2.2.2.1
  have hts := Y.2.2.2.2
  have hl := lv_entry ([.int a]) (n := 1) (Nat.le_of_ble_eq_true rfl)
  rw [lg_entry_eq]
  generalize (lg_sl ([.int a]) ++ List.replicate (1 - (lg_sl ([.int a])).length) Slot.unset).toArray = ls at hl ⊢
  have hl : lv_has ls 1 [(0, .int a)] := hl
  refine lv_iload_n hx hb dX5_isNoMemory_0 rfl (lv_at hl 0 rfl) ?_
  refine lv_if_lt (tgt := 9) hx hb dX5_isNoMemory_1 (by decide) (fun c1 => ?_) (fun c1 => ?_)
  · refine lv_iconst (v := nI 1) hx hb dX5_isNoMemory_9 (by decide) ?_
    refine lv_goto (tgt := 14) hx hb dX5_isNoMemory_10 (by decide) ?_
    exact krz (v := nI 1) Y hr hlocks (by decide) (nb_t (fun q => absurd c1 (Int32.not_lt.mpr q.1))) dX5_isNoMemory_14
  · refine lv_iload_n hx hb dX5_isNoMemory_4 rfl (lv_at hl 0 rfl) ?_
    refine lv_iconst (v := nI 5) hx hb dX5_isNoMemory_5 (by decide) ?_
    refine lv_icmp_le (tgt := 13) hx hb dX5_isNoMemory_6 (by decide) (fun c6 => ?_) (fun c6 => ?_)
    · refine lv_iconst (v := nI 0) hx hb dX5_isNoMemory_13 (by decide) ?_
      exact krz (v := nI 0) Y hr hlocks (by decide) (nb_f ⟨Int32.not_lt.mp c1, c6⟩) dX5_isNoMemory_14
    · refine lv_iconst (v := nI 1) hx hb dX5_isNoMemory_9 (by decide) ?_
      refine lv_goto (tgt := 14) hx hb dX5_isNoMemory_10 (by decide) ?_
      exact krz (v := nI 1) Y hr hlocks (by decide) (nb_t (fun q => c6 q.2)) dX5_isNoMemory_14
set_option maxHeartbeats 4000000 in
set_option maxRecDepth 100000 in
theorem c_X5_isNoSituation (l : Launch) (dC : Nat → ClassId) (dI : Nat → Nat → Nat) (cI cL : ClassId) (x0 pa t0 y0 r0 a0 b0 s0 : Nat) (fa : Nat) (un : Int64) (P : Nat → Nat) (a b v w : Int32)  : Met l yX5_isNoSituation (kw yX5_isNoSituation cX5_isNoSituation 5 (some .boolean)) (kR 2 41) (kPr (dC, dI) [.ref x0, .int a, .int b, .int v, .int w] [(x0, .inr (5, [.ref pa, .ref t0, .ref y0, .ref r0, .ref a0, .ref b0, .ref s0, .int (nI fa), .long un])), (pa, .inl (cI, 22, .inl (fun zz => nI (P zz))))] [(cI, .int)]) (vp_Si (fun res : Int32 => res = b2i (¬ siO P a b v w))) 0 0 kNo := by
  refine kmet (by decide) ?_
  intro p e s m args below meth c Y hr hlocks hin hv
  obtain ⟨rfl, hP, hK, hZ⟩ := kinR hv
  have hS : va_S kNo s.heap s.heap [] := va_S.rf
  have hx := Y.1
  have hb := Y.2.1
  have hml := Y.2.2.1
  have hown := Y.2.2.2.1
  have hts := Y.2.2.2.2
  have hl := lv_entry ([.ref x0, .int a, .int b, .int v, .int w]) (n := 5) (Nat.le_of_ble_eq_true rfl)
  rw [lg_entry_eq]
  generalize (lg_sl ([.ref x0, .int a, .int b, .int v, .int w]) ++ List.replicate (5 - (lg_sl ([.ref x0, .int a, .int b, .int v, .int w])).length) Slot.unset).toArray = ls at hl ⊢
  have hl : lv_has ls 5 [(0, .ref x0), (1, .int a), (2, .int b), (3, .int v), (4, .int w)] := hl
  refine lv_aload_n hx hb dX5_isNoSituation_0 rfl (lv_at hl 0 rfl) ?_
  refine lv_iload_n hx hb dX5_isNoSituation_1 rfl (lv_at hl 1 rfl) ?_
  refine kVi (As := [.int a]) (rest := []) Y m_X5_isNoPlace (c_X5_isNoPlace l dC dI cI cL x0 pa t0 y0 r0 a0 b0 s0 fa un P a ) qm_X5_127 (kpV (ci := 5) hK hP hZ hS [0, 1] [0] rfl rfl 0 rfl rfl rfl) rfl hl.1 rfl (Nat.le_of_ble_eq_true rfl) dX5_isNoSituation_2 ⟨Nat.le_of_ble_eq_true rfl, Nat.le_of_ble_eq_true rfl⟩ ⟨Nat.zero_le _, Nat.zero_le _⟩ (fun r2 hr2 => ?_)
  obtain rfl : r2 = b2i (¬ (nI 1 ≤ a ∧ a ≤ nI (P 0 + 1))) := hr2
  refine ri_bne (tgt := 31) hx hb dX5_isNoSituation_5 (by decide) (fun c5 => ?_) (fun c5 => ?_)
  · refine lv_iconst (v := nI 1) hx hb dX5_isNoSituation_31 (by decide) ?_
    refine lv_goto (tgt := 36) hx hb dX5_isNoSituation_32 (by decide) ?_
    exact krz (v := nI 1) Y hr hlocks (by decide) (nb_t (fun q => c5 q.1.1)) dX5_isNoSituation_36
  · refine lv_aload_n hx hb dX5_isNoSituation_8 rfl (lv_at hl 0 rfl) ?_
    refine lv_iload_n hx hb dX5_isNoSituation_9 rfl (lv_at hl 2 rfl) ?_
    refine kVi (As := [.int b]) (rest := []) Y m_X5_isNoNumberLeft (c_X5_isNoNumberLeft l dC dI cI cL x0 pa t0 y0 r0 a0 b0 s0 fa un P b ) qm_X5_130 (kpV (ci := 5) hK hP hZ hS [0, 1] [0] rfl rfl 0 rfl rfl rfl) rfl hl.1 rfl (Nat.le_of_ble_eq_true rfl) dX5_isNoSituation_10 ⟨Nat.le_of_ble_eq_true rfl, Nat.le_of_ble_eq_true rfl⟩ ⟨Nat.zero_le _, Nat.zero_le _⟩ (fun r10 hr10 => ?_)
    obtain rfl : r10 = b2i (¬ (nI 0 ≤ b ∧ b ≤ nI (P 1))) := hr10
    refine ri_bne (tgt := 31) hx hb dX5_isNoSituation_13 (by decide) (fun c13 => ?_) (fun c13 => ?_)
    · refine lv_iconst (v := nI 1) hx hb dX5_isNoSituation_31 (by decide) ?_
      refine lv_goto (tgt := 36) hx hb dX5_isNoSituation_32 (by decide) ?_
      exact krz (v := nI 1) Y hr hlocks (by decide) (nb_t (fun q => c13 q.1.2)) dX5_isNoSituation_36
    · refine lv_iload_n hx hb dX5_isNoSituation_16 rfl (lv_at hl 3 rfl) ?_
      refine kSi (As := [.int v]) (rest := []) Y m_X5_isNoMemory (c_X5_isNoMemory l dC dI v ) qm_X5_173 (kpS hK hP hZ hS [] [] rfl rfl) rfl hl.1 rfl (Nat.le_of_ble_eq_true rfl) dX5_isNoSituation_17 ⟨Nat.le_of_ble_eq_true rfl, Nat.le_of_ble_eq_true rfl⟩ ⟨Nat.zero_le _, Nat.zero_le _⟩ (fun r17 hr17 => ?_)
      obtain rfl : r17 = b2i (¬ (nI 0 ≤ v ∧ v ≤ nI 5)) := hr17
      refine ri_bne (tgt := 31) hx hb dX5_isNoSituation_20 (by decide) (fun c20 => ?_) (fun c20 => ?_)
      · refine lv_iconst (v := nI 1) hx hb dX5_isNoSituation_31 (by decide) ?_
        refine lv_goto (tgt := 36) hx hb dX5_isNoSituation_32 (by decide) ?_
        exact krz (v := nI 1) Y hr hlocks (by decide) (nb_t (fun q => c20 q.2.1)) dX5_isNoSituation_36
      · refine lv_iload hx hb dX5_isNoSituation_23 (lv_at hl 4 rfl) ?_
        refine kSi (As := [.int w]) (rest := []) Y m_X5_isNoMemory (c_X5_isNoMemory l dC dI w ) qm_X5_173 (kpS hK hP hZ hS [] [] rfl rfl) rfl hl.1 rfl (Nat.le_of_ble_eq_true rfl) dX5_isNoSituation_25 ⟨Nat.le_of_ble_eq_true rfl, Nat.le_of_ble_eq_true rfl⟩ ⟨Nat.zero_le _, Nat.zero_le _⟩ (fun r25 hr25 => ?_)
        obtain rfl : r25 = b2i (¬ (nI 0 ≤ w ∧ w ≤ nI 5)) := hr25
        refine ri_beq (tgt := 35) hx hb dX5_isNoSituation_28 (by decide) (fun c28 => ?_) (fun c28 => ?_)
        · refine lv_iconst (v := nI 0) hx hb dX5_isNoSituation_35 (by decide) ?_
          exact krz (v := nI 0) Y hr hlocks (by decide) (nb_f ⟨⟨Decidable.not_not.mp c5, Decidable.not_not.mp c13⟩, ⟨Decidable.not_not.mp c20, Decidable.not_not.mp c28⟩⟩) dX5_isNoSituation_36
        · refine lv_iconst (v := nI 1) hx hb dX5_isNoSituation_31 (by decide) ?_
          refine lv_goto (tgt := 36) hx hb dX5_isNoSituation_32 (by decide) ?_
          exact krz (v := nI 1) Y hr hlocks (by decide) (nb_t (fun q => c28 q.2.2)) dX5_isNoSituation_36
set_option maxHeartbeats 4000000 in
set_option maxRecDepth 100000 in
theorem c_X5_faultKind (l : Launch) (dC : Nat → ClassId) (dI : Nat → Nat → Nat) (cI cL : ClassId) (x0 pa t0 y0 r0 a0 b0 s0 : Nat) (fa : Nat) (un : Int64)  : Met l yX5_faultKind (kw yX5_faultKind cX5_faultKind 1 (some .int)) (kR 0 0) (kPr (dC, dI) [.ref x0] [(x0, .inr (5, [.ref pa, .ref t0, .ref y0, .ref r0, .ref a0, .ref b0, .ref s0, .int (nI fa), .long un]))] []) (vp_Si (fun res : Int32 => res = nI fa)) 0 0 kNo := by
  refine kmet (by decide) ?_
  intro p e s m args below meth c Y hr hlocks hin hv
  obtain ⟨rfl, hP, hK, hZ⟩ := kinR hv
  have hS : va_S kNo s.heap s.heap [] := va_S.rf
  have hx := Y.1
  have hb := Y.2.1
  have hml := Y.2.2.1
  have hown := Y.2.2.2.1
  have hts := Y.2.2.2.2
  have hl := lv_entry ([.ref x0]) (n := 1) (Nat.le_of_ble_eq_true rfl)
  rw [lg_entry_eq]
  generalize (lg_sl ([.ref x0]) ++ List.replicate (1 - (lg_sl ([.ref x0])).length) Slot.unset).toArray = ls at hl ⊢
  have hl : lv_has ls 1 [(0, .ref x0)] := hl
  refine lv_aload_n hx hb dX5_faultKind_0 rfl (lv_at hl 0 rfl) ?_
  refine va_get (D := (dC, dI)) (ci := 5) (v := .int (nI fa)) (C := RX5) (T := TX5) (N := 9) hx hb hts inlX5 hown hK hP 0 rfl rfl 7 (by decide) (hts _ qf_X5_85) (fun _ h9 => h9) rfl dX5_faultKind_1 ?_
  exact kri (v := nI fa) Y hr hlocks rfl dX5_faultKind_4
set_option maxHeartbeats 4000000 in
set_option maxRecDepth 100000 in
theorem c_X5_denominator (l : Launch) (dC : Nat → ClassId) (dI : Nat → Nat → Nat) (cI cL : ClassId) (x0 pa t0 y0 r0 a0 b0 s0 : Nat) (fa : Nat) (un : Int64)  : Met l yX5_denominator (kw yX5_denominator cX5_denominator 1 (some .long)) (kR 0 0) (kPr (dC, dI) [.ref x0] [(x0, .inr (5, [.ref pa, .ref t0, .ref y0, .ref r0, .ref a0, .ref b0, .ref s0, .int (nI fa), .long un]))] []) (vp_Sl (fun res : Int64 => res = un)) 0 0 kNo := by
  refine kmet (by decide) ?_
  intro p e s m args below meth c Y hr hlocks hin hv
  obtain ⟨rfl, hP, hK, hZ⟩ := kinR hv
  have hS : va_S kNo s.heap s.heap [] := va_S.rf
  have hx := Y.1
  have hb := Y.2.1
  have hml := Y.2.2.1
  have hown := Y.2.2.2.1
  have hts := Y.2.2.2.2
  have hl := lv_entry ([.ref x0]) (n := 1) (Nat.le_of_ble_eq_true rfl)
  rw [lg_entry_eq]
  generalize (lg_sl ([.ref x0]) ++ List.replicate (1 - (lg_sl ([.ref x0])).length) Slot.unset).toArray = ls at hl ⊢
  have hl : lv_has ls 1 [(0, .ref x0)] := hl
  refine lv_aload_n hx hb dX5_denominator_0 rfl (lv_at hl 0 rfl) ?_
  refine va_get (D := (dC, dI)) (ci := 5) (v := .long un) (C := RX5) (T := TX5) (N := 9) hx hb hts inlX5 hown hK hP 0 rfl rfl 8 (by decide) (hts _ qf_X5_62) (fun _ h9 => h9) rfl dX5_denominator_1 ?_
  exact krl (v := un) Y hr hlocks rfl dX5_denominator_4
set_option maxHeartbeats 4000000 in
set_option maxRecDepth 100000 in
theorem c_X5_mix (l : Launch) (dC : Nat → ClassId) (dI : Nat → Nat → Nat) (x y : Int64)  : Met l yX5_mix (kw yX5_mix cX5_mix 4 (some .long)) (kR 0 0) (kPr (dC, dI) [.long x, .long y] [] []) (vp_Sl (fun res : Int64 => res = mix x y)) 0 0 kNo := by
  refine kmet (by decide) ?_
  intro p e s m args below meth c Y hr hlocks hin hv
  obtain ⟨rfl, hP, hK, hZ⟩ := kinR hv
  have hS : va_S kNo s.heap s.heap [] := va_S.rf
  have hx := Y.1
  have hb := Y.2.1
  have hml := Y.2.2.1
  have hown := Y.2.2.2.1
  have hts := Y.2.2.2.2
  have hl := lv_entry ([.long x, .long y]) (n := 4) (Nat.le_of_ble_eq_true rfl)
  rw [lg_entry_eq]
  generalize (lg_sl ([.long x, .long y]) ++ List.replicate (4 - (lg_sl ([.long x, .long y])).length) Slot.unset).toArray = ls at hl ⊢
  have hl : lv_has ls 4 [(0, .long x), (2, .long y)] := hl
  refine lv_ldc2 (v := lN 31) hx hb hown (hts _ ql_X5_266) dX5_mix_0 ?_
  refine lv_lload_n hx hb dX5_mix_3 rfl (lv_at hl 0 rfl) ?_
  refine lv_lmul hx hb dX5_mix_4 ?_
  refine lv_lload_n hx hb dX5_mix_5 rfl (lv_at hl 1 rfl) ?_
  refine lv_ladd hx hb dX5_mix_6 ?_
  exact krl (v := ((lN 31) * x) + y) Y hr hlocks rfl dX5_mix_7
set_option maxHeartbeats 4000000 in
set_option maxRecDepth 100000 in
theorem c_X5_mixFraction (l : Launch) (dC : Nat → ClassId) (dI : Nat → Nat → Nat) (cI cL : ClassId) (x0 pa t0 y0 r0 a0 b0 s0 : Nat) (fa : Nat) (un : Int64) (x y : Int64)  : Met l yX5_mixFraction (kw yX5_mixFraction cX5_mixFraction 5 (some .long)) (kR 1 23) (kPr (dC, dI) [.ref x0, .long x, .long y] [(x0, .inr (5, [.ref pa, .ref t0, .ref y0, .ref r0, .ref a0, .ref b0, .ref s0, .int (nI fa), .long un]))] []) (vp_Sl (fun res : Int64 => res = mix (mix x y) un)) 0 0 kNo := by
  refine kmet (by decide) ?_
  intro p e s m args below meth c Y hr hlocks hin hv
  obtain ⟨rfl, hP, hK, hZ⟩ := kinR hv
  have hS : va_S kNo s.heap s.heap [] := va_S.rf
  have hx := Y.1
  have hb := Y.2.1
  have hml := Y.2.2.1
  have hown := Y.2.2.2.1
  have hts := Y.2.2.2.2
  have hl := lv_entry ([.ref x0, .long x, .long y]) (n := 5) (Nat.le_of_ble_eq_true rfl)
  rw [lg_entry_eq]
  generalize (lg_sl ([.ref x0, .long x, .long y]) ++ List.replicate (5 - (lg_sl ([.ref x0, .long x, .long y])).length) Slot.unset).toArray = ls at hl ⊢
  have hl : lv_has ls 5 [(0, .ref x0), (1, .long x), (3, .long y)] := hl
  refine lv_lload_n hx hb dX5_mixFraction_0 rfl (lv_at hl 1 rfl) ?_
  refine lv_lload_n hx hb dX5_mixFraction_1 rfl (lv_at hl 2 rfl) ?_
  refine kSl (As := [.long x, .long y]) (rest := []) Y m_X5_mix (c_X5_mix l dC dI x y ) qm_X5_223 (kpS hK hP hZ hS [] [] rfl rfl) rfl hl.1 rfl (Nat.le_of_ble_eq_true rfl) dX5_mixFraction_2 ⟨Nat.le_of_ble_eq_true rfl, Nat.le_of_ble_eq_true rfl⟩ ⟨Nat.zero_le _, Nat.zero_le _⟩ (fun r2 hr2 => ?_)
  obtain rfl : r2 = mix x y := hr2
  refine lv_aload_n hx hb dX5_mixFraction_5 rfl (lv_at hl 0 rfl) ?_
  refine va_get (D := (dC, dI)) (ci := 5) (v := .long un) (C := RX5) (T := TX5) (N := 9) hx hb hts inlX5 hown hK hP 0 rfl rfl 8 (by decide) (hts _ qf_X5_62) (fun _ h9 => h9) rfl dX5_mixFraction_6 ?_
  refine kSl (As := [.long (mix x y), .long un]) (rest := []) Y m_X5_mix (c_X5_mix l dC dI (mix x y) un ) qm_X5_223 (kpS hK hP hZ hS [] [] rfl rfl) rfl hl.1 rfl (Nat.le_of_ble_eq_true rfl) dX5_mixFraction_9 ⟨Nat.le_of_ble_eq_true rfl, Nat.le_of_ble_eq_true rfl⟩ ⟨Nat.zero_le _, Nat.zero_le _⟩ (fun r9 hr9 => ?_)
  obtain rfl : r9 = mix (mix x y) un := hr9
  exact krl (v := mix (mix x y) un) Y hr hlocks rfl dX5_mixFraction_12
set_option maxHeartbeats 4000000 in
set_option maxRecDepth 100000 in
theorem c_X5_commonDivisor (l : Launch) (dC : Nat → ClassId) (dI : Nat → Nat → Nat) (x d : Nat) (h1 : x ≤ 4611686018427387904) (h2 : d < 4611686018427387904) (h3 : 0 < d) : Met l yX5_commonDivisor (kw yX5_commonDivisor cX5_commonDivisor 11 (some .long)) (kR 1 23) (kPr (dC, dI) [.long (lN x), .long (lN d)] [] []) (vp_Sl (fun res : Int64 => res = lN (Nat.gcd x d))) 0 0 kNo := by
  refine kmet (by decide) ?_
  intro p e s m args below meth c Y hr hlocks hin hv
  obtain ⟨rfl, hP, hK, hZ⟩ := kinR hv
  have hS : va_S kNo s.heap s.heap [] := va_S.rf
  have hx := Y.1
  have hb := Y.2.1
  have hml := Y.2.2.1
  have hown := Y.2.2.2.1
  have hts := Y.2.2.2.2
  have hl := lv_entry ([.long (lN x), .long (lN d)]) (n := 11) (Nat.le_of_ble_eq_true rfl)
  rw [lg_entry_eq]
  generalize (lg_sl ([.long (lN x), .long (lN d)]) ++ List.replicate (11 - (lg_sl ([.long (lN x), .long (lN d)])).length) Slot.unset).toArray = ls at hl ⊢
  have hl : lv_has ls 11 [(0, .long (lN x)), (2, .long (lN d))] := hl
  refine lv_lload_n hx hb dX5_commonDivisor_0 rfl (lv_at hl 0 rfl) ?_
  refine lv_lstore (lv' := [(4, .long (lN x)), (0, .long (lN x)), (2, .long (lN d))]) hx hb dX5_commonDivisor_1 hl (by decide) rfl (fun ls hl => ?_)
  refine lv_lload_n hx hb dX5_commonDivisor_3 rfl (lv_at hl 2 rfl) ?_
  refine lv_lstore (lv' := [(6, .long (lN d)), (4, .long (lN x)), (0, .long (lN x)), (2, .long (lN d))]) hx hb dX5_commonDivisor_4 hl (by decide) rfl (fun ls hl => ?_)
  refine lv_iconst (v := nI 0) hx hb dX5_commonDivisor_6 (by decide) ?_
  refine lv_istore (lv' := [(8, .int (nI 0)), (6, .long (lN d)), (4, .long (lN x)), (0, .long (lN x)), (2, .long (lN d))]) hx hb dX5_commonDivisor_7 hl (by decide) rfl (fun ls hl => ?_)
  refine wr3 (fun (t : Nat) (aa : Nat) (bb : Nat) => 200 - t) (fun (t : Nat) (aa : Nat) (bb : Nat) (ls : Array Slot) => lv_has ls 11 [(0, .long (lN x)), (2, .long (lN d)), (4, .long (lN aa)), (6, .long (lN bb)), (8, .int (nI t))] ∧ (t ≤ 200 ∧ aa ≤ 4611686018427387904 ∧ bb < 4611686018427387904 ∧ 2 ^ t * (aa * bb) ≤ 2 ^ 126 ∧ ((t = 0 ∧ aa * bb ≤ 2 ^ 124) ∨ bb < aa) ∧ Nat.gcd x d = Nat.gcd aa bb)) 0 x d (by exact ⟨lv_sub hl [3, 4, 2, 1, 0] rfl, ⟨by omega, h1, h2, eu_0 h1 h2, Or.inl ⟨rfl, Nat.le_trans (Nat.mul_le_mul h1 (Nat.le_of_lt h2)) (by decide)⟩, rfl⟩⟩) (fun t aa bb ls hI ih => ?_)
  obtain ⟨hl, ht, ha9, hb9, hpr, hor, hq⟩ := hI
  have ih9 := ih
  refine lv_iload hx hb dX5_commonDivisor_9 (lv_at hl 4 rfl) ?_
  refine lv_sipush (v := nI 200) hx hb dX5_commonDivisor_11 (by decide) ?_
  refine ri_cge (tgt := 45) hx hb dX5_commonDivisor_14 (by decide) (by omega) (by omega) (fun c14 => ?_) (fun c14 => ?_)
  · have hb0 : bb = 0 := eu_e hpr (by omega) (hor.resolve_left (fun z => by omega))
    have hga : Nat.gcd x d = aa := by rw [hq, hb0, Nat.gcd_zero_right]
    have hgp := Nat.gcd_pos_of_pos_right x h3
    refine lv_lconst (v := lN 1) hx hb dX5_commonDivisor_45 rfl ?_
    refine lv_lload hx hb dX5_commonDivisor_46 (lv_at hl 2 rfl) ?_
    refine va_mmax_long hx hb (by rw [hml]; exact hl.1.symm) hown (hts _ qm_X5_263) (hts _ qt_Lib_MathLoose_max_long_x) (hts _ qz_java_lang_Math) (hts _ qc_Lib_MathLoose_max_long_x) (Nat.le_of_ble_eq_true rfl) (Nat.le_of_ble_eq_true rfl) (Nat.zero_le _) (Nat.zero_le _) dX5_commonDivisor_48 ?_
    refine rl_topn (n := max 1 aa) (lmax_n (by omega) (by omega)) ?_
    exact krl (v := lN (max 1 aa)) Y hr hlocks (congrArg lN (by rw [hga] at hgp ⊢; exact Nat.max_eq_right hgp)) dX5_commonDivisor_51
  · refine lv_lload hx hb dX5_commonDivisor_17 (lv_at hl 3 rfl) ?_
    refine lv_lconst (v := lN 0) hx hb dX5_commonDivisor_19 rfl ?_
    refine rl_eqn (tgt := 45) hx hb dX5_commonDivisor_20 dX5_commonDivisor_21 (by decide) (by omega) (by omega) (fun c20 => ?_) (fun c20 => ?_)
    · have hb0 : bb = 0 := by omega
      have hga : Nat.gcd x d = aa := by rw [hq, hb0, Nat.gcd_zero_right]
      have hgp := Nat.gcd_pos_of_pos_right x h3
      refine lv_lconst (v := lN 1) hx hb dX5_commonDivisor_45 rfl ?_
      refine lv_lload hx hb dX5_commonDivisor_46 (lv_at hl 2 rfl) ?_
      refine va_mmax_long hx hb (by rw [hml]; exact hl.1.symm) hown (hts _ qm_X5_263) (hts _ qt_Lib_MathLoose_max_long_x) (hts _ qz_java_lang_Math) (hts _ qc_Lib_MathLoose_max_long_x) (Nat.le_of_ble_eq_true rfl) (Nat.le_of_ble_eq_true rfl) (Nat.zero_le _) (Nat.zero_le _) dX5_commonDivisor_48 ?_
      refine rl_topn (n := max 1 aa) (lmax_n (by omega) (by omega)) ?_
      exact krl (v := lN (max 1 aa)) Y hr hlocks (congrArg lN (by rw [hga] at hgp ⊢; exact Nat.max_eq_right hgp)) dX5_commonDivisor_51
    · have hbz : bb ≠ 0 := by omega
      refine lv_lload hx hb dX5_commonDivisor_24 (lv_at hl 2 rfl) ?_
      refine lv_lload hx hb dX5_commonDivisor_26 (lv_at hl 3 rfl) ?_
      refine rl_remn hx hb dX5_commonDivisor_28 (by omega) (by omega) (by omega) ?_
      refine lv_lstore (lv' := [(9, .long (lN (aa % bb))), (0, .long (lN x)), (2, .long (lN d)), (4, .long (lN aa)), (6, .long (lN bb)), (8, .int (nI t))]) hx hb dX5_commonDivisor_29 hl (by decide) rfl (fun ls hl => ?_)
      refine lv_lload hx hb dX5_commonDivisor_31 (lv_at hl 4 rfl) ?_
      refine lv_lstore (lv' := [(4, .long (lN bb)), (9, .long (lN (aa % bb))), (0, .long (lN x)), (2, .long (lN d)), (6, .long (lN bb)), (8, .int (nI t))]) hx hb dX5_commonDivisor_33 hl (by decide) rfl (fun ls hl => ?_)
      refine lv_lload hx hb dX5_commonDivisor_35 (lv_at hl 1 rfl) ?_
      refine lv_lstore (lv' := [(6, .long (lN (aa % bb))), (4, .long (lN bb)), (9, .long (lN (aa % bb))), (0, .long (lN x)), (2, .long (lN d)), (8, .int (nI t))]) hx hb dX5_commonDivisor_37 hl (by decide) rfl (fun ls hl => ?_)
      refine lv_iinc (v := nI (t + 1)) (lv' := [(8, .int (nI (t + 1))), (6, .long (lN (aa % bb))), (4, .long (lN bb)), (9, .long (lN (aa % bb))), (0, .long (lN x)), (2, .long (lN d))]) hx hb dX5_commonDivisor_39 hl (k := 5) rfl (inc1 _) (by decide) rfl (fun ls hl => ?_)
      refine lv_goto (tgt := 9) hx hb dX5_commonDivisor_42 (by decide) ?_
      exact ih9 (t + 1) bb (aa % bb) _ (by show _ < _; omega) (by exact ⟨lv_sub hl [4, 5, 2, 1, 0] rfl, ⟨by omega, by omega, by have := Nat.mod_lt aa (show 0 < bb by omega); omega, eu_s hpr hbz hor, Or.inr (Nat.mod_lt aa (show 0 < bb by omega)), hq.trans (gcd_s aa bb)⟩⟩)
set_option maxHeartbeats 4000000 in
set_option maxRecDepth 100000 in
theorem c_X5_fraction (l : Launch) (dC : Nat → ClassId) (dI : Nat → Nat → Nat) (sz : Nat) (cI cL : ClassId) (x0 pa t0 y0 r0 a0 b0 s0 : Nat) (fa : Nat) (un : Int64) (x : Int) (d : Nat) (h1 : -4611686018427387904 ≤ x) (h2 : x < 4611686018427387904) (h3 : 0 < d) (h4 : d < 4611686018427387904) : Met l yX5_fraction (kw yX5_fraction cX5_fraction 7 (some .long)) (kR 2 53) (kPq (dC, dI) [.ref x0, .long (iN x), .long (lN d)] sz [(x0, .inr (5, [.ref pa, .ref t0, .ref y0, .ref r0, .ref a0, .ref b0, .ref s0, .int (nI fa), .long un]))] []) (va_Ql (fun (res : Int64) (u : Unit) => res = iN (FRn x d)) (fun u : Unit => kB (dC, dI) [] (va_A [(x0, .inr (5, [.ref pa, .ref t0, .ref y0, .ref r0, .ref a0, .ref b0, .ref s0, .int (nI fa), .long un]))] sz) ([(x0, .inr (5, [.ref pa, .ref t0, .ref y0, .ref r0, .ref a0, .ref b0, .ref s0, .int (nI fa), .long (lN (FRd x d))]))])) (va_A [(x0, .inr (5, [.ref pa, .ref t0, .ref y0, .ref r0, .ref a0, .ref b0, .ref s0, .int (nI fa), .long un]))] sz)) 0 0 (va_A [(x0, .inr (5, [.ref pa, .ref t0, .ref y0, .ref r0, .ref a0, .ref b0, .ref s0, .int (nI fa), .long un]))] sz) := by
  refine kmet (by decide) ?_
  intro p e s m args below meth c Y hr hlocks hin hv
  obtain ⟨rfl, A, hAe, hsz, hP, hK, hD, hZ, hA⟩ := kinQ hv
  rw [hAe]
  have hS : va_S A s.heap s.heap [] := va_S.rf
  have hx := Y.1
  have hb := Y.2.1
  have hml := Y.2.2.1
  have hown := Y.2.2.2.1
  have hts := Y.2.2.2.2
  have hl := lv_entry ([.ref x0, .long (iN x), .long (lN d)]) (n := 7) (Nat.le_of_ble_eq_true rfl)
  rw [lg_entry_eq]
  generalize (lg_sl ([.ref x0, .long (iN x), .long (lN d)]) ++ List.replicate (7 - (lg_sl ([.ref x0, .long (iN x), .long (lN d)])).length) Slot.unset).toArray = ls at hl ⊢
  have hl : lv_has ls 7 [(0, .ref x0), (1, .long (iN x)), (3, .long (lN d))] := hl
  refine lv_lload_n hx hb dX5_fraction_0 rfl (lv_at hl 1 rfl) ?_
  refine va_mabs_long hx hb (by rw [hml]; exact hl.1.symm) hown (hts _ qm_X5_255) (hts _ qt_Lib_MathLoose_abs_long_x) (hts _ qz_java_lang_Math) (hts _ qc_Lib_MathLoose_abs_long_x) (Nat.le_of_ble_eq_true rfl) (Nat.le_of_ble_eq_true rfl) (Nat.zero_le _) (Nat.zero_le _) dX5_fraction_1 ?_
  refine rl_set (x' := lN x.natAbs) (abs_e h1 h2) ?_
  refine lv_lload_n hx hb dX5_fraction_4 rfl (lv_at hl 2 rfl) ?_
  refine kSl (As := [.long (lN x.natAbs), .long (lN d)]) (rest := []) Y m_X5_commonDivisor (c_X5_commonDivisor l dC dI x.natAbs d (by omega) (by omega) (by omega)) qm_X5_260 (kpS hK hP hZ hS [] [] rfl rfl) rfl hl.1 rfl (Nat.le_of_ble_eq_true rfl) dX5_fraction_5 ⟨Nat.le_of_ble_eq_true rfl, Nat.le_of_ble_eq_true rfl⟩ ⟨Nat.zero_le _, Nat.zero_le _⟩ (fun r5 hr5 => ?_)
  obtain rfl : r5 = lN (Nat.gcd x.natAbs d) := hr5
  have hg1 := FRg_p (x := x) h3
  have hg2 := FRg_le (x := x) h3
  refine lv_lstore (lv' := [(5, .long (lN (FRg x d))), (0, .ref x0), (1, .long (iN x)), (3, .long (lN d))]) hx hb dX5_fraction_8 hl (by decide) rfl (fun ls hl => ?_)
  refine lv_aload_n hx hb dX5_fraction_10 rfl (lv_at hl 1 rfl) ?_
  refine lv_lload_n hx hb dX5_fraction_11 rfl (lv_at hl 3 rfl) ?_
  refine lv_lload hx hb dX5_fraction_12 (lv_at hl 0 rfl) ?_
  refine rl_divn hx hb dX5_fraction_14 (by omega) (by omega) (by omega) ?_
  refine va_put (D := (dC, dI)) (ci := 5) (v := .long (lN (d / (FRg x d)))) (ty := .long) (C := RX5) (T := TX5) (N := 9) hx hb hts inlX5 tyX5 tyX5_ok nmX5 hown hK hP hD hS 0 rfl rfl 8 (by decide) (hts _ qf_X5_62) (fun _ h9 => h9) rfl (by decide +kernel) rfl rfl (Nat.le_of_ble_eq_true rfl) dX5_fraction_15 (fun H locs hP hD hS => ?_)
  have hP : va_P (dC, dI) vwCl [(x0, .inr (5, [.ref pa, .ref t0, .ref y0, .ref r0, .ref a0, .ref b0, .ref s0, .int (nI fa), .long (lN (d / (FRg x d)))]))] H := hP
  have hD : va_D A [(x0, .inr (5, [.ref pa, .ref t0, .ref y0, .ref r0, .ref a0, .ref b0, .ref s0, .int (nI fa), .long (lN (d / (FRg x d)))]))] := hD
  refine lv_lload_n hx hb dX5_fraction_18 rfl (lv_at hl 2 rfl) ?_
  refine lv_lload hx hb dX5_fraction_19 (lv_at hl 0 rfl) ?_
  refine lv_ldiv hx hb dX5_fraction_21 (lN_z9 (by omega) (by omega)) ?_
  refine rl_set (x' := iN (FRn x d)) (FR_div h1 h2 h3 h4) ?_
  exact kql (w1 := (fun u : Unit => [(x0, .inr (5, [.ref pa, .ref t0, .ref y0, .ref r0, .ref a0, .ref b0, .ref s0, .int (nI fa), .long (lN (FRd x d))]))])) (v := iN (FRn x d)) Y hr hlocks hK hP hD hS [0] (by decide) () rfl rfl dX5_fraction_22
