set_option maxHeartbeats 4000000 in
set_option maxRecDepth 100000 in
theorem c_X4_bestRecall (l : Launch) (dC : Nat → ClassId) (dI : Nat → Nat → Nat) (cL cI : ClassId) (h0 v1 v2 v3 v4 v5 : Nat) (wr sv n co ch1 ch2 : Nat) (bf af lv wt : Nat → Nat) (fl : Nat → Int64) (i j a b : Nat) (h1 : 1 ≤ i) (h2 : i ≤ 8) (h3 : j ≤ 3) (h4 : a ≤ 5) (h5 : b ≤ 5) (hVl : ∀ k, k < 5 → lv k ≤ 99000000000000000) (hVa : ∀ k, af k ≤ 297000000000000000) (hVc1 : ch1 ≤ 10) (hVc2 : ch2 ≤ 10) : Met l yX4_bestRecall (kw yX4_bestRecall cX4_bestRecall 8 (some .int)) (kR 2 50) (kPr (dC, dI) [.ref h0, .int (nI i), .int (nI j), .int (nI a), .int (nI b)] [(h0, .inr (4, [.int (nI wr), .ref v1, .ref v2, .ref v3, .ref v4, .ref v5, .int (nI sv), .int (nI n), .long (lN co), .int (nI ch1), .int (nI ch2)])), (v1, .inl (cL, 1152, .inr (.inl (fun zz => lN (bf zz))))), (v2, .inl (cL, 192, .inr (.inl (fun zz => lN (af zz))))), (v3, .inl (cL, 32, .inr (.inl fl))), (v4, .inl (cL, 5, .inr (.inl (fun zz => lN (lv zz))))), (v5, .inl (cI, 5, .inl (fun zz => nI (wt zz))))] [(cL, .long), (cI, .int)]) (vp_Si (fun res : Int32 => res = nI (brF lv af ch1 ch2 i j a b))) 0 0 kNo := by
  refine kmet (by decide) ?_
  intro p e s m args below meth c Y hr hlocks hin hv
  obtain ⟨rfl, hP, hK, hZ⟩ := kinR hv
  have hS : va_S kNo s.heap s.heap [] := va_S.rf
  have hx := Y.1
  have hb := Y.2.1
  have hml := Y.2.2.1
  have hown := Y.2.2.2.1
  have hts := Y.2.2.2.2
  have hl := lv_entry ([.ref h0, .int (nI i), .int (nI j), .int (nI a), .int (nI b)]) (n := 8) (Nat.le_of_ble_eq_true rfl)
  rw [lg_entry_eq]
  generalize (lg_sl ([.ref h0, .int (nI i), .int (nI j), .int (nI a), .int (nI b)]) ++ List.replicate (8 - (lg_sl ([.ref h0, .int (nI i), .int (nI j), .int (nI a), .int (nI b)])).length) Slot.unset).toArray = ls at hl ⊢
  have hl : lv_has ls 8 [(0, .ref h0), (1, .int (nI i)), (2, .int (nI j)), (3, .int (nI a)), (4, .int (nI b))] := hl
  refine lv_iload_n hx hb dX4_bestRecall_0 rfl (lv_at hl 2 rfl) ?_
  refine ri_zne (tgt := 6) hx hb dX4_bestRecall_1 (by decide) (by omega) (fun c1 => ?_) (fun c1 => ?_)
  · refine lv_iconst (v := nI 0) hx hb dX4_bestRecall_6 (by decide) ?_
    refine lv_istore (lv' := [(5, .int (nI 0)), (0, .ref h0), (1, .int (nI i)), (2, .int (nI j)), (3, .int (nI a)), (4, .int (nI b))]) hx hb dX4_bestRecall_7 hl (by decide) rfl (fun ls hl => ?_)
    refine lv_aload_n hx hb dX4_bestRecall_9 rfl (lv_at hl 1 rfl) ?_
    refine lv_iload_n hx hb dX4_bestRecall_10 rfl (lv_at hl 2 rfl) ?_
    refine lv_iload_n hx hb dX4_bestRecall_11 rfl (lv_at hl 3 rfl) ?_
    refine lv_iload_n hx hb dX4_bestRecall_12 rfl (lv_at hl 4 rfl) ?_
    refine kVl (As := [.int (nI i), .int (nI j), .int (nI a)]) (rest := []) Y m_X4_valueAfterRecall (c_X4_valueAfterRecall l dC dI cL cI h0 v1 v2 v3 v4 v5 wr sv n co ch1 ch2 bf af lv wt fl i j a (by omega) (by omega) (by omega) (by omega)) qm_X4_40 (kpV (ci := 4) hK hP hZ hS [0, 1, 2, 3, 4, 5] [0, 1] rfl rfl 0 rfl rfl rfl) rfl hl.1 rfl (Nat.le_of_ble_eq_true rfl) dX4_bestRecall_13 ⟨Nat.le_of_ble_eq_true rfl, Nat.le_of_ble_eq_true rfl⟩ ⟨Nat.zero_le _, Nat.zero_le _⟩ (fun r13 hr13 => ?_)
    obtain rfl : r13 = lN (af (pA i j a)) := hr13
    refine lv_lstore (lv' := [(6, .long (lN (af (pA i j a)))), (5, .int (nI 0)), (0, .ref h0), (1, .int (nI i)), (2, .int (nI j)), (3, .int (nI a)), (4, .int (nI b))]) hx hb dX4_bestRecall_16 hl (by decide) rfl (fun ls hl => ?_)
    have haf := hVa (pA i j a)
    refine lv_iload_n hx hb dX4_bestRecall_18 rfl (lv_at hl 5 rfl) ?_
    refine lv_iconst (v := nI 5) hx hb dX4_bestRecall_19 (by decide) ?_
    refine ri_ceq (tgt := 48) hx hb dX4_bestRecall_20 (by decide) (by omega) (by omega) (fun c20 => ?_) (fun c20 => ?_)
    · refine lv_iload hx hb dX4_bestRecall_48 (lv_at hl 6 rfl) ?_
      refine lv_iconst (v := nI 5) hx hb dX4_bestRecall_50 (by decide) ?_
      refine ri_ceq (tgt := 72) hx hb dX4_bestRecall_51 (by decide) (by omega) (by omega) (fun c51 => ?_) (fun c51 => ?_)
      · refine lv_iload hx hb dX4_bestRecall_72 (lv_at hl 1 rfl) ?_
        exact kri (v := nI 0) Y hr hlocks (congrArg nI (brF_00 (by omega) (by omega) (by omega))) dX4_bestRecall_74
      · refine lv_aload_n hx hb dX4_bestRecall_54 rfl (lv_at hl 2 rfl) ?_
        refine lv_iload_n hx hb dX4_bestRecall_55 rfl (lv_at hl 3 rfl) ?_
        refine lv_iload_n hx hb dX4_bestRecall_56 rfl (lv_at hl 4 rfl) ?_
        refine lv_iload_n hx hb dX4_bestRecall_57 rfl (lv_at hl 5 rfl) ?_
        refine lv_iload hx hb dX4_bestRecall_58 (lv_at hl 6 rfl) ?_
        refine kVl (As := [.int (nI i), .int (nI j), .int (nI a), .int (nI b)]) (rest := []) Y m_X4_recallOfAge2 (c_X4_recallOfAge2 l dC dI cL cI h0 v1 v2 v3 v4 v5 wr sv n co ch1 ch2 bf af lv wt fl i j a b (by omega) (by omega) (by omega) (by omega) (by omega) (by omega) hVl hVa hVc2) qm_X4_47 (kpV (ci := 4) hK hP hZ hS [0, 1, 2, 3, 4, 5] [0, 1] rfl rfl 0 rfl rfl rfl) rfl hl.1 rfl (Nat.le_of_ble_eq_true rfl) dX4_bestRecall_60 ⟨Nat.le_of_ble_eq_true rfl, Nat.le_of_ble_eq_true rfl⟩ ⟨Nat.zero_le _, Nat.zero_le _⟩ (fun r60 hr60 => ?_)
        obtain rfl : r60 = lN (r2F lv af ch2 i j a b) := hr60
        have hr2 := (r2_b (i := i) (j := j) (a := a) (hVl b (by omega)) hVa hVc2).2
        refine lv_lload hx hb dX4_bestRecall_63 (lv_at hl 0 rfl) ?_
        refine rl_len (tgt := 72) hx hb dX4_bestRecall_65 dX4_bestRecall_66 (by decide) (by omega) (by omega) (fun c65 => ?_) (fun c65 => ?_)
        · refine lv_iload hx hb dX4_bestRecall_72 (lv_at hl 1 rfl) ?_
          exact kri (v := nI 0) Y hr hlocks (congrArg nI (brF_00 (by omega) (by omega) (by omega))) dX4_bestRecall_74
        · refine lv_iconst (v := nI 2) hx hb dX4_bestRecall_69 (by decide) ?_
          refine lv_istore (lv' := [(5, .int (nI 2)), (6, .long (lN (af (pA i j a)))), (0, .ref h0), (1, .int (nI i)), (2, .int (nI j)), (3, .int (nI a)), (4, .int (nI b))]) hx hb dX4_bestRecall_70 hl (by decide) rfl (fun ls hl => ?_)
          refine lv_iload hx hb dX4_bestRecall_72 (lv_at hl 0 rfl) ?_
          exact kri (v := nI 2) Y hr hlocks (congrArg nI (brF_02 (by omega) (by omega) ⟨by omega, by omega⟩)) dX4_bestRecall_74
    · refine lv_aload_n hx hb dX4_bestRecall_23 rfl (lv_at hl 2 rfl) ?_
      refine lv_iload_n hx hb dX4_bestRecall_24 rfl (lv_at hl 3 rfl) ?_
      refine lv_iload_n hx hb dX4_bestRecall_25 rfl (lv_at hl 4 rfl) ?_
      refine lv_iload_n hx hb dX4_bestRecall_26 rfl (lv_at hl 5 rfl) ?_
      refine kVl (As := [.int (nI i), .int (nI j), .int (nI a)]) (rest := []) Y m_X4_recallOfAge1 (c_X4_recallOfAge1 l dC dI cL cI h0 v1 v2 v3 v4 v5 wr sv n co ch1 ch2 bf af lv wt fl i j a (by omega) (by omega) (by omega) (by omega) (by omega) hVl hVa hVc1) qm_X4_44 (kpV (ci := 4) hK hP hZ hS [0, 1, 2, 3, 4, 5] [0, 1] rfl rfl 0 rfl rfl rfl) rfl hl.1 rfl (Nat.le_of_ble_eq_true rfl) dX4_bestRecall_27 ⟨Nat.le_of_ble_eq_true rfl, Nat.le_of_ble_eq_true rfl⟩ ⟨Nat.zero_le _, Nat.zero_le _⟩ (fun r27 hr27 => ?_)
      obtain rfl : r27 = lN (r1F lv af ch1 i j a) := hr27
      have hr1 := (r1_b (i := i) (j := j) (hVl a (by omega)) hVa hVc1).2
      refine lv_lload hx hb dX4_bestRecall_30 (lv_at hl 0 rfl) ?_
      refine rl_len (tgt := 48) hx hb dX4_bestRecall_32 dX4_bestRecall_33 (by decide) (by omega) (by omega) (fun c32 => ?_) (fun c32 => ?_)
      · refine lv_iload hx hb dX4_bestRecall_48 (lv_at hl 6 rfl) ?_
        refine lv_iconst (v := nI 5) hx hb dX4_bestRecall_50 (by decide) ?_
        refine ri_ceq (tgt := 72) hx hb dX4_bestRecall_51 (by decide) (by omega) (by omega) (fun c51 => ?_) (fun c51 => ?_)
        · refine lv_iload hx hb dX4_bestRecall_72 (lv_at hl 1 rfl) ?_
          exact kri (v := nI 0) Y hr hlocks (congrArg nI (brF_00 (by omega) (by omega) (by omega))) dX4_bestRecall_74
        · refine lv_aload_n hx hb dX4_bestRecall_54 rfl (lv_at hl 2 rfl) ?_
          refine lv_iload_n hx hb dX4_bestRecall_55 rfl (lv_at hl 3 rfl) ?_
          refine lv_iload_n hx hb dX4_bestRecall_56 rfl (lv_at hl 4 rfl) ?_
          refine lv_iload_n hx hb dX4_bestRecall_57 rfl (lv_at hl 5 rfl) ?_
          refine lv_iload hx hb dX4_bestRecall_58 (lv_at hl 6 rfl) ?_
          refine kVl (As := [.int (nI i), .int (nI j), .int (nI a), .int (nI b)]) (rest := []) Y m_X4_recallOfAge2 (c_X4_recallOfAge2 l dC dI cL cI h0 v1 v2 v3 v4 v5 wr sv n co ch1 ch2 bf af lv wt fl i j a b (by omega) (by omega) (by omega) (by omega) (by omega) (by omega) hVl hVa hVc2) qm_X4_47 (kpV (ci := 4) hK hP hZ hS [0, 1, 2, 3, 4, 5] [0, 1] rfl rfl 0 rfl rfl rfl) rfl hl.1 rfl (Nat.le_of_ble_eq_true rfl) dX4_bestRecall_60 ⟨Nat.le_of_ble_eq_true rfl, Nat.le_of_ble_eq_true rfl⟩ ⟨Nat.zero_le _, Nat.zero_le _⟩ (fun r60 hr60 => ?_)
          obtain rfl : r60 = lN (r2F lv af ch2 i j a b) := hr60
          have hr2 := (r2_b (i := i) (j := j) (a := a) (hVl b (by omega)) hVa hVc2).2
          refine lv_lload hx hb dX4_bestRecall_63 (lv_at hl 0 rfl) ?_
          refine rl_len (tgt := 72) hx hb dX4_bestRecall_65 dX4_bestRecall_66 (by decide) (by omega) (by omega) (fun c65 => ?_) (fun c65 => ?_)
          · refine lv_iload hx hb dX4_bestRecall_72 (lv_at hl 1 rfl) ?_
            exact kri (v := nI 0) Y hr hlocks (congrArg nI (brF_00 (by omega) (by omega) (by omega))) dX4_bestRecall_74
          · refine lv_iconst (v := nI 2) hx hb dX4_bestRecall_69 (by decide) ?_
            refine lv_istore (lv' := [(5, .int (nI 2)), (6, .long (lN (af (pA i j a)))), (0, .ref h0), (1, .int (nI i)), (2, .int (nI j)), (3, .int (nI a)), (4, .int (nI b))]) hx hb dX4_bestRecall_70 hl (by decide) rfl (fun ls hl => ?_)
            refine lv_iload hx hb dX4_bestRecall_72 (lv_at hl 0 rfl) ?_
            exact kri (v := nI 2) Y hr hlocks (congrArg nI (brF_02 (by omega) (by omega) ⟨by omega, by omega⟩)) dX4_bestRecall_74
      · refine lv_iconst (v := nI 1) hx hb dX4_bestRecall_36 (by decide) ?_
        refine lv_istore (lv' := [(5, .int (nI 1)), (6, .long (lN (af (pA i j a)))), (0, .ref h0), (1, .int (nI i)), (2, .int (nI j)), (3, .int (nI a)), (4, .int (nI b))]) hx hb dX4_bestRecall_37 hl (by decide) rfl (fun ls hl => ?_)
        refine lv_aload_n hx hb dX4_bestRecall_39 rfl (lv_at hl 2 rfl) ?_
        refine lv_iload_n hx hb dX4_bestRecall_40 rfl (lv_at hl 3 rfl) ?_
        refine lv_iload_n hx hb dX4_bestRecall_41 rfl (lv_at hl 4 rfl) ?_
        refine lv_iload_n hx hb dX4_bestRecall_42 rfl (lv_at hl 5 rfl) ?_
        refine kVl (As := [.int (nI i), .int (nI j), .int (nI a)]) (rest := []) Y m_X4_recallOfAge1 (c_X4_recallOfAge1 l dC dI cL cI h0 v1 v2 v3 v4 v5 wr sv n co ch1 ch2 bf af lv wt fl i j a (by omega) (by omega) (by omega) (by omega) (by omega) hVl hVa hVc1) qm_X4_44 (kpV (ci := 4) hK hP hZ hS [0, 1, 2, 3, 4, 5] [0, 1] rfl rfl 0 rfl rfl rfl) rfl hl.1 rfl (Nat.le_of_ble_eq_true rfl) dX4_bestRecall_43 ⟨Nat.le_of_ble_eq_true rfl, Nat.le_of_ble_eq_true rfl⟩ ⟨Nat.zero_le _, Nat.zero_le _⟩ (fun r43 hr43 => ?_)
        obtain rfl : r43 = lN (r1F lv af ch1 i j a) := hr43
        refine lv_lstore (lv' := [(6, .long (lN (r1F lv af ch1 i j a))), (5, .int (nI 1)), (0, .ref h0), (1, .int (nI i)), (2, .int (nI j)), (3, .int (nI a)), (4, .int (nI b))]) hx hb dX4_bestRecall_46 hl (by decide) rfl (fun ls hl => ?_)
        refine lv_iload hx hb dX4_bestRecall_48 (lv_at hl 6 rfl) ?_
        refine lv_iconst (v := nI 5) hx hb dX4_bestRecall_50 (by decide) ?_
        refine ri_ceq (tgt := 72) hx hb dX4_bestRecall_51 (by decide) (by omega) (by omega) (fun c51 => ?_) (fun c51 => ?_)
        · refine lv_iload hx hb dX4_bestRecall_72 (lv_at hl 1 rfl) ?_
          exact kri (v := nI 1) Y hr hlocks (congrArg nI (brF_10 (by omega) ⟨by omega, by omega⟩ (by omega))) dX4_bestRecall_74
        · refine lv_aload_n hx hb dX4_bestRecall_54 rfl (lv_at hl 2 rfl) ?_
          refine lv_iload_n hx hb dX4_bestRecall_55 rfl (lv_at hl 3 rfl) ?_
          refine lv_iload_n hx hb dX4_bestRecall_56 rfl (lv_at hl 4 rfl) ?_
          refine lv_iload_n hx hb dX4_bestRecall_57 rfl (lv_at hl 5 rfl) ?_
          refine lv_iload hx hb dX4_bestRecall_58 (lv_at hl 6 rfl) ?_
          refine kVl (As := [.int (nI i), .int (nI j), .int (nI a), .int (nI b)]) (rest := []) Y m_X4_recallOfAge2 (c_X4_recallOfAge2 l dC dI cL cI h0 v1 v2 v3 v4 v5 wr sv n co ch1 ch2 bf af lv wt fl i j a b (by omega) (by omega) (by omega) (by omega) (by omega) (by omega) hVl hVa hVc2) qm_X4_47 (kpV (ci := 4) hK hP hZ hS [0, 1, 2, 3, 4, 5] [0, 1] rfl rfl 0 rfl rfl rfl) rfl hl.1 rfl (Nat.le_of_ble_eq_true rfl) dX4_bestRecall_60 ⟨Nat.le_of_ble_eq_true rfl, Nat.le_of_ble_eq_true rfl⟩ ⟨Nat.zero_le _, Nat.zero_le _⟩ (fun r60 hr60 => ?_)
          obtain rfl : r60 = lN (r2F lv af ch2 i j a b) := hr60
          have hr2 := (r2_b (i := i) (j := j) (a := a) (hVl b (by omega)) hVa hVc2).2
          refine lv_lload hx hb dX4_bestRecall_63 (lv_at hl 0 rfl) ?_
          refine rl_len (tgt := 72) hx hb dX4_bestRecall_65 dX4_bestRecall_66 (by decide) (by omega) (by omega) (fun c65 => ?_) (fun c65 => ?_)
          · refine lv_iload hx hb dX4_bestRecall_72 (lv_at hl 1 rfl) ?_
            exact kri (v := nI 1) Y hr hlocks (congrArg nI (brF_10 (by omega) ⟨by omega, by omega⟩ (by omega))) dX4_bestRecall_74
          · refine lv_iconst (v := nI 2) hx hb dX4_bestRecall_69 (by decide) ?_
            refine lv_istore (lv' := [(5, .int (nI 2)), (6, .long (lN (r1F lv af ch1 i j a))), (0, .ref h0), (1, .int (nI i)), (2, .int (nI j)), (3, .int (nI a)), (4, .int (nI b))]) hx hb dX4_bestRecall_70 hl (by decide) rfl (fun ls hl => ?_)
            refine lv_iload hx hb dX4_bestRecall_72 (lv_at hl 0 rfl) ?_
            exact kri (v := nI 2) Y hr hlocks (congrArg nI (brF_12 (by omega) ⟨by omega, by omega⟩ ⟨by omega, by omega⟩)) dX4_bestRecall_74
  · refine lv_iconst (v := nI 0) hx hb dX4_bestRecall_4 (by decide) ?_
    exact kri (v := nI 0) Y hr hlocks (congrArg nI (show 0 = brF lv af ch1 ch2 i j a b from (if_pos c1).symm)) dX4_bestRecall_5
set_option maxHeartbeats 4000000 in
set_option maxRecDepth 100000 in
theorem c_X4_meanOfFixed (l : Launch) (dC : Nat → ClassId) (dI : Nat → Nat → Nat) (cL cI : ClassId) (h0 v1 v2 v3 v4 v5 : Nat) (wr sv n co ch1 ch2 : Nat) (bf af lv wt : Nat → Nat) (fl : Nat → Int64) (h i j : Nat) (h1 : 1 ≤ i) (h2 : i ≤ 7) (h3 : 1 ≤ j) (h4 : j ≤ 3) (h5 : h ≤ 99) (hVl : ∀ k, k < 5 → lv k ≤ 99000000000000000) (hVw : sgN wt 5 = 10) : Met l yX4_meanOfFixed (kw yX4_meanOfFixed cX4_meanOfFixed 12 (some .long)) (kR 1 21) (kPr (dC, dI) [.ref h0, .int (nI h), .int (nI i), .int (nI j)] [(h0, .inr (4, [.int (nI wr), .ref v1, .ref v2, .ref v3, .ref v4, .ref v5, .int (nI sv), .int (nI n), .long (lN co), .int (nI ch1), .int (nI ch2)])), (v1, .inl (cL, 1152, .inr (.inl (fun zz => lN (bf zz))))), (v2, .inl (cL, 192, .inr (.inl (fun zz => lN (af zz))))), (v3, .inl (cL, 32, .inr (.inl fl))), (v4, .inl (cL, 5, .inr (.inl (fun zz => lN (lv zz))))), (v5, .inl (cI, 5, .inl (fun zz => nI (wt zz))))] [(cL, .long), (cI, .int)]) (vp_Sl (fun res : Int64 => res = sgL (mxF lv wt fl h i j) 5 / lN 10)) 0 0 kNo := by
  refine kmet (by decide) ?_
  intro p e s m args below meth c Y hr hlocks hin hv
  obtain ⟨rfl, hP, hK, hZ⟩ := kinR hv
  have hS : va_S kNo s.heap s.heap [] := va_S.rf
  have hx := Y.1
  have hb := Y.2.1
  have hml := Y.2.2.1
  have hown := Y.2.2.2.1
  have hts := Y.2.2.2.2
  have hl := lv_entry ([.ref h0, .int (nI h), .int (nI i), .int (nI j)]) (n := 12) (Nat.le_of_ble_eq_true rfl)
  rw [lg_entry_eq]
  generalize (lg_sl ([.ref h0, .int (nI h), .int (nI i), .int (nI j)]) ++ List.replicate (12 - (lg_sl ([.ref h0, .int (nI h), .int (nI i), .int (nI j)])).length) Slot.unset).toArray = ls at hl ⊢
  have hl : lv_has ls 12 [(0, .ref h0), (1, .int (nI h)), (2, .int (nI i)), (3, .int (nI j))] := hl
  refine lv_aload_n hx hb dX4_meanOfFixed_0 rfl (lv_at hl 0 rfl) ?_
  refine va_get (D := (dC, dI)) (ci := 4) (v := .ref v3) (C := RX4) (T := TX4) (N := 11) hx hb hts inlX4 hown hK hP 0 rfl rfl 3 (by decide) (hts _ qf_X4_22) (fun _ h9 => h9) rfl dX4_meanOfFixed_1 ?_
  refine lv_iload_n hx hb dX4_meanOfFixed_4 rfl (lv_at hl 2 rfl) ?_
  refine lv_iconst (v := nI 1) hx hb dX4_meanOfFixed_5 (by decide) ?_
  refine ri_add hx hb dX4_meanOfFixed_6 ?_
  refine lv_iload_n hx hb dX4_meanOfFixed_7 rfl (lv_at hl 3 rfl) ?_
  refine kSi (As := [.int (nI (i + 1)), .int (nI j)]) (rest := [.ref v3]) Y m_X4_place (c_X4_place l dC dI (i + 1) j (by omega)) qm_X4_69 (kpS hK hP hZ hS [] [] rfl rfl) rfl hl.1 rfl (Nat.le_of_ble_eq_true rfl) dX4_meanOfFixed_8 ⟨Nat.le_of_ble_eq_true rfl, Nat.le_of_ble_eq_true rfl⟩ ⟨Nat.zero_le _, Nat.zero_le _⟩ (fun r8 hr8 => ?_)
  obtain rfl : r8 = nI ((((i + 1) - 1) * 4) + j) := hr8
  refine rl_ald hx hb hK hP 3 0 (F := fl) rfl rfl dX4_meanOfFixed_11 (by decide) (by omega) ?_
  refine lv_lstore (lv' := [(4, .long (fl ((((i + 1) - 1) * 4) + j))), (0, .ref h0), (1, .int (nI h)), (2, .int (nI i)), (3, .int (nI j))]) hx hb dX4_meanOfFixed_12 hl (by decide) rfl (fun ls hl => ?_)
  refine lv_aload_n hx hb dX4_meanOfFixed_14 rfl (lv_at hl 1 rfl) ?_
  refine va_get (D := (dC, dI)) (ci := 4) (v := .ref v3) (C := RX4) (T := TX4) (N := 11) hx hb hts inlX4 hown hK hP 0 rfl rfl 3 (by decide) (hts _ qf_X4_22) (fun _ h9 => h9) rfl dX4_meanOfFixed_15 ?_
  refine lv_iload_n hx hb dX4_meanOfFixed_18 rfl (lv_at hl 3 rfl) ?_
  refine lv_iconst (v := nI 1) hx hb dX4_meanOfFixed_19 (by decide) ?_
  refine ri_add hx hb dX4_meanOfFixed_20 ?_
  refine lv_iload_n hx hb dX4_meanOfFixed_21 rfl (lv_at hl 4 rfl) ?_
  refine lv_iconst (v := nI 1) hx hb dX4_meanOfFixed_22 (by decide) ?_
  refine ri_sub hx hb dX4_meanOfFixed_23 (by omega) ?_
  refine kSi (As := [.int (nI (i + 1)), .int (nI (j - 1))]) (rest := [.ref v3]) Y m_X4_place (c_X4_place l dC dI (i + 1) (j - 1) (by omega)) qm_X4_69 (kpS hK hP hZ hS [] [] rfl rfl) rfl hl.1 rfl (Nat.le_of_ble_eq_true rfl) dX4_meanOfFixed_24 ⟨Nat.le_of_ble_eq_true rfl, Nat.le_of_ble_eq_true rfl⟩ ⟨Nat.zero_le _, Nat.zero_le _⟩ (fun r24 hr24 => ?_)
  obtain rfl : r24 = nI ((((i + 1) - 1) * 4) + (j - 1)) := hr24
  refine rl_ald hx hb hK hP 3 0 (F := fl) rfl rfl dX4_meanOfFixed_27 (by decide) (by omega) ?_
  refine lv_lstore (lv' := [(6, .long (fl ((((i + 1) - 1) * 4) + (j - 1)))), (4, .long (fl ((((i + 1) - 1) * 4) + j))), (0, .ref h0), (1, .int (nI h)), (2, .int (nI i)), (3, .int (nI j))]) hx hb dX4_meanOfFixed_28 hl (by decide) rfl (fun ls hl => ?_)
  refine lv_lconst (v := lN 0) hx hb dX4_meanOfFixed_30 rfl ?_
  refine lv_lstore (lv' := [(8, .long (lN 0)), (6, .long (fl ((((i + 1) - 1) * 4) + (j - 1)))), (4, .long (fl ((((i + 1) - 1) * 4) + j))), (0, .ref h0), (1, .int (nI h)), (2, .int (nI i)), (3, .int (nI j))]) hx hb dX4_meanOfFixed_31 hl (by decide) rfl (fun ls hl => ?_)
  refine lv_iconst (v := nI 0) hx hb dX4_meanOfFixed_33 (by decide) ?_
  refine lv_istore (lv' := [(10, .int (nI 0)), (8, .long (lN 0)), (6, .long (fl ((((i + 1) - 1) * 4) + (j - 1)))), (4, .long (fl ((((i + 1) - 1) * 4) + j))), (0, .ref h0), (1, .int (nI h)), (2, .int (nI i)), (3, .int (nI j))]) hx hb dX4_meanOfFixed_34 hl (by decide) rfl (fun ls hl => ?_)
  refine wr2 (fun (t : Nat) (sm : Int64) => 5 - t) (fun (t : Nat) (sm : Int64) (ls : Array Slot) => lv_has ls 12 [(0, .ref h0), (1, .int (nI h)), (2, .int (nI i)), (3, .int (nI j)), (4, .long (fl ((((i + 1) - 1) * 4) + j))), (6, .long (fl ((((i + 1) - 1) * 4) + (j - 1)))), (8, .long sm), (10, .int (nI t))] ∧ (t ≤ 5 ∧ sm = sgL (mxF lv wt fl h i j) t)) 0 (lN 0) (by exact ⟨lv_sub hl [4, 5, 6, 7, 3, 2, 1, 0] rfl, ⟨by omega, rfl⟩⟩) (fun t sm ls hI ih => ?_)
  obtain ⟨hl, ht, hsm⟩ := hI
  have ih36 := ih
  refine lv_iload hx hb dX4_meanOfFixed_36 (lv_at hl 7 rfl) ?_
  refine lv_iconst (v := nI 5) hx hb dX4_meanOfFixed_38 (by decide) ?_
  refine ri_cge (tgt := 106) hx hb dX4_meanOfFixed_39 (by decide) (by omega) (by omega) (fun c39 => ?_) (fun c39 => ?_)
  · have e5 : t = 5 := by omega
    subst e5
    refine lv_lload hx hb dX4_meanOfFixed_106 (lv_at hl 6 rfl) ?_
    refine lv_ldc2 (v := lN 10) hx hb hown (hts _ ql_X4_97) dX4_meanOfFixed_108 ?_
    refine lv_ldiv hx hb dX4_meanOfFixed_111 (by decide) ?_
    exact krl (v := sm / (lN 10)) Y hr hlocks (by rw [hsm]) dX4_meanOfFixed_112
  · have hwl := wt_le hVw (k := t) (by omega)
    have hll := hVl t (by omega)
    refine lv_aload_n hx hb dX4_meanOfFixed_42 rfl (lv_at hl 0 rfl) ?_
    refine va_get (D := (dC, dI)) (ci := 4) (v := .ref v4) (C := RX4) (T := TX4) (N := 11) hx hb hts inlX4 hown hK hP 0 rfl rfl 4 (by decide) (hts _ qf_X4_25) (fun _ h9 => h9) rfl dX4_meanOfFixed_43 ?_
    refine lv_iload hx hb dX4_meanOfFixed_46 (lv_at hl 7 rfl) ?_
    refine rm_ald hx hb hK hP 4 0 (F := lv) rfl rfl dX4_meanOfFixed_48 (by decide) (by omega) ?_
    refine lv_iload_n hx hb dX4_meanOfFixed_49 rfl (lv_at hl 1 rfl) ?_
    refine ri_i2l hx hb dX4_meanOfFixed_50 (by omega) ?_
    refine lv_ldc2 (v := lN 1000000000000000) hx hb hown (hts _ ql_X4_80) dX4_meanOfFixed_51 ?_
    refine rl_muln hx hb dX4_meanOfFixed_54 ?_
    refine rl_ltn (tgt := 63) hx hb dX4_meanOfFixed_55 dX4_meanOfFixed_56 (by decide) (by omega) (by omega) (fun c55 => ?_) (fun c55 => ?_)
    · refine lv_iconst (v := nI 0) hx hb dX4_meanOfFixed_63 (by decide) ?_
      refine lv_istore (lv' := [(11, .int (nI 0)), (0, .ref h0), (1, .int (nI h)), (2, .int (nI i)), (3, .int (nI j)), (4, .long (fl ((((i + 1) - 1) * 4) + j))), (6, .long (fl ((((i + 1) - 1) * 4) + (j - 1)))), (8, .long sm), (10, .int (nI t))]) hx hb dX4_meanOfFixed_64 hl (by decide) rfl (fun ls hl => ?_)
      refine lv_lload hx hb dX4_meanOfFixed_66 (lv_at hl 7 rfl) ?_
      refine lv_aload_n hx hb dX4_meanOfFixed_68 rfl (lv_at hl 1 rfl) ?_
      refine va_get (D := (dC, dI)) (ci := 4) (v := .ref v5) (C := RX4) (T := TX4) (N := 11) hx hb hts inlX4 hown hK hP 0 rfl rfl 5 (by decide) (hts _ qf_X4_28) (fun _ h9 => h9) rfl dX4_meanOfFixed_69 ?_
      refine lv_iload hx hb dX4_meanOfFixed_72 (lv_at hl 8 rfl) ?_
      refine ri_ald hx hb hK hP 5 1 (F := wt) rfl rfl dX4_meanOfFixed_74 (by decide) (by omega) ?_
      refine ri_i2l hx hb dX4_meanOfFixed_75 (by omega) ?_
      refine lv_iload hx hb dX4_meanOfFixed_76 (lv_at hl 0 rfl) ?_
      refine ri_zeq (tgt := 94) hx hb dX4_meanOfFixed_78 (by decide) (by omega) (fun c78 => ?_) (fun c78 => ?_)
      · refine lv_lload hx hb dX4_meanOfFixed_94 (lv_at hl 5 rfl) ?_
        refine lv_lmul hx hb dX4_meanOfFixed_96 ?_
        refine lv_ladd hx hb dX4_meanOfFixed_97 ?_
        refine lv_lstore (lv' := [(8, .long (sm + ((lN (wt t)) * (fl ((((i + 1) - 1) * 4) + j))))), (11, .int (nI 0)), (0, .ref h0), (1, .int (nI h)), (2, .int (nI i)), (3, .int (nI j)), (4, .long (fl ((((i + 1) - 1) * 4) + j))), (6, .long (fl ((((i + 1) - 1) * 4) + (j - 1)))), (10, .int (nI t))]) hx hb dX4_meanOfFixed_98 hl (by decide) rfl (fun ls hl => ?_)
        refine lv_iinc (v := nI (t + 1)) (lv' := [(10, .int (nI (t + 1))), (8, .long (sm + ((lN (wt t)) * (fl ((((i + 1) - 1) * 4) + j))))), (11, .int (nI 0)), (0, .ref h0), (1, .int (nI h)), (2, .int (nI i)), (3, .int (nI j)), (4, .long (fl ((((i + 1) - 1) * 4) + j))), (6, .long (fl ((((i + 1) - 1) * 4) + (j - 1))))]) hx hb dX4_meanOfFixed_100 hl (k := 8) rfl (inc1 _) (by decide) rfl (fun ls hl => ?_)
        refine lv_goto (tgt := 36) hx hb dX4_meanOfFixed_103 (by decide) ?_
        exact ih36 (t + 1) (sm + ((lN (wt t)) * (fl ((((i + 1) - 1) * 4) + j)))) _ (by show _ < _; omega) (by exact ⟨lv_sub hl [3, 4, 5, 6, 7, 8, 1, 0] rfl, ⟨by omega, by rw [hsm]; show _ = sgL _ _ + mxF lv wt fl h i j t; unfold mxF; rw [if_neg (by omega)]⟩⟩)
      · exact absurd c78 (by decide)
    · refine lv_iconst (v := nI 1) hx hb dX4_meanOfFixed_59 (by decide) ?_
      refine lv_goto (tgt := 64) hx hb dX4_meanOfFixed_60 (by decide) ?_
      refine lv_istore (lv' := [(11, .int (nI 1)), (0, .ref h0), (1, .int (nI h)), (2, .int (nI i)), (3, .int (nI j)), (4, .long (fl ((((i + 1) - 1) * 4) + j))), (6, .long (fl ((((i + 1) - 1) * 4) + (j - 1)))), (8, .long sm), (10, .int (nI t))]) hx hb dX4_meanOfFixed_64 hl (by decide) rfl (fun ls hl => ?_)
      refine lv_lload hx hb dX4_meanOfFixed_66 (lv_at hl 7 rfl) ?_
      refine lv_aload_n hx hb dX4_meanOfFixed_68 rfl (lv_at hl 1 rfl) ?_
      refine va_get (D := (dC, dI)) (ci := 4) (v := .ref v5) (C := RX4) (T := TX4) (N := 11) hx hb hts inlX4 hown hK hP 0 rfl rfl 5 (by decide) (hts _ qf_X4_28) (fun _ h9 => h9) rfl dX4_meanOfFixed_69 ?_
      refine lv_iload hx hb dX4_meanOfFixed_72 (lv_at hl 8 rfl) ?_
      refine ri_ald hx hb hK hP 5 1 (F := wt) rfl rfl dX4_meanOfFixed_74 (by decide) (by omega) ?_
      refine ri_i2l hx hb dX4_meanOfFixed_75 (by omega) ?_
      refine lv_iload hx hb dX4_meanOfFixed_76 (lv_at hl 0 rfl) ?_
      refine ri_zeq (tgt := 94) hx hb dX4_meanOfFixed_78 (by decide) (by omega) (fun c78 => ?_) (fun c78 => ?_)
      · exact absurd c78 (by decide)
      · refine lv_aload_n hx hb dX4_meanOfFixed_81 rfl (lv_at hl 1 rfl) ?_
        refine va_get (D := (dC, dI)) (ci := 4) (v := .ref v4) (C := RX4) (T := TX4) (N := 11) hx hb hts inlX4 hown hK hP 0 rfl rfl 4 (by decide) (hts _ qf_X4_25) (fun _ h9 => h9) rfl dX4_meanOfFixed_82 ?_
        refine lv_iload hx hb dX4_meanOfFixed_85 (lv_at hl 8 rfl) ?_
        refine rm_ald hx hb hK hP 4 0 (F := lv) rfl rfl dX4_meanOfFixed_87 (by decide) (by omega) ?_
        refine lv_lload hx hb dX4_meanOfFixed_88 (lv_at hl 6 rfl) ?_
        refine lv_ladd hx hb dX4_meanOfFixed_90 ?_
        refine lv_goto (tgt := 96) hx hb dX4_meanOfFixed_91 (by decide) ?_
        refine lv_lmul hx hb dX4_meanOfFixed_96 ?_
        refine lv_ladd hx hb dX4_meanOfFixed_97 ?_
        refine lv_lstore (lv' := [(8, .long (sm + ((lN (wt t)) * ((lN (lv t)) + (fl ((((i + 1) - 1) * 4) + (j - 1))))))), (11, .int (nI 1)), (0, .ref h0), (1, .int (nI h)), (2, .int (nI i)), (3, .int (nI j)), (4, .long (fl ((((i + 1) - 1) * 4) + j))), (6, .long (fl ((((i + 1) - 1) * 4) + (j - 1)))), (10, .int (nI t))]) hx hb dX4_meanOfFixed_98 hl (by decide) rfl (fun ls hl => ?_)
        refine lv_iinc (v := nI (t + 1)) (lv' := [(10, .int (nI (t + 1))), (8, .long (sm + ((lN (wt t)) * ((lN (lv t)) + (fl ((((i + 1) - 1) * 4) + (j - 1))))))), (11, .int (nI 1)), (0, .ref h0), (1, .int (nI h)), (2, .int (nI i)), (3, .int (nI j)), (4, .long (fl ((((i + 1) - 1) * 4) + j))), (6, .long (fl ((((i + 1) - 1) * 4) + (j - 1))))]) hx hb dX4_meanOfFixed_100 hl (k := 8) rfl (inc1 _) (by decide) rfl (fun ls hl => ?_)
        refine lv_goto (tgt := 36) hx hb dX4_meanOfFixed_103 (by decide) ?_
        exact ih36 (t + 1) (sm + ((lN (wt t)) * ((lN (lv t)) + (fl ((((i + 1) - 1) * 4) + (j - 1)))))) _ (by show _ < _; omega) (by exact ⟨lv_sub hl [3, 4, 5, 6, 7, 8, 1, 0] rfl, ⟨by omega, by rw [hsm]; show _ = sgL _ _ + mxF lv wt fl h i j t; unfold mxF; rw [if_pos (by omega)]⟩⟩)
set_option maxHeartbeats 4000000 in
set_option maxRecDepth 100000 in
theorem c_X4_valueOfFixed (l : Launch) (dC : Nat → ClassId) (dI : Nat → Nat → Nat) (sz : Nat) (cL cI : ClassId) (h0 v1 v2 v3 v4 v5 : Nat) (wr sv n co ch1 ch2 : Nat) (bf af lv wt : Nat → Nat) (fl : Nat → Int64) (P : Nat → Nat) (h k : Nat) (h1 : h ≤ 99) (h2 : 1 ≤ k) (h3 : k ≤ 3) (hPI : PI P) (hVS : VS P wr n co ch1 ch2 lv wt bf af) (hfl0 : ∀ i, 1 ≤ i → i ≤ 8 → fl (((i - 1) * 4) + 0) = lN 0) : Met l yX4_valueOfFixed (kw yX4_valueOfFixed cX4_valueOfFixed 5 (some .long)) (kR 2 52) (kPq (dC, dI) [.ref h0, .int (nI h), .int (nI k)] sz [(h0, .inr (4, [.int (nI wr), .ref v1, .ref v2, .ref v3, .ref v4, .ref v5, .int (nI sv), .int (nI n), .long (lN co), .int (nI ch1), .int (nI ch2)])), (v1, .inl (cL, 1152, .inr (.inl (fun zz => lN (bf zz))))), (v2, .inl (cL, 192, .inr (.inl (fun zz => lN (af zz))))), (v3, .inl (cL, 32, .inr (.inl fl))), (v4, .inl (cL, 5, .inr (.inl (fun zz => lN (lv zz))))), (v5, .inl (cI, 5, .inl (fun zz => nI (wt zz))))] [(cL, .long), (cI, .int)]) (va_Ql (fun (res : Int64) (u : Nat → Int64) => res = iN (FX P h (P 0) k) ∧ (∀ i, 1 ≤ i → i ≤ 8 → u (((i - 1) * 4) + 0) = lN 0)) (fun u : Nat → Int64 => kB (dC, dI) [(cL, .long), (cI, .int)] (va_A [(h0, .inr (4, [.int (nI wr), .ref v1, .ref v2, .ref v3, .ref v4, .ref v5, .int (nI sv), .int (nI n), .long (lN co), .int (nI ch1), .int (nI ch2)])), (v1, .inl (cL, 1152, .inr (.inl (fun zz => lN (bf zz))))), (v2, .inl (cL, 192, .inr (.inl (fun zz => lN (af zz))))), (v3, .inl (cL, 32, .inr (.inl fl))), (v4, .inl (cL, 5, .inr (.inl (fun zz => lN (lv zz))))), (v5, .inl (cI, 5, .inl (fun zz => nI (wt zz))))] sz) ([(h0, .inr (4, [.int (nI wr), .ref v1, .ref v2, .ref v3, .ref v4, .ref v5, .int (nI sv), .int (nI n), .long (lN co), .int (nI ch1), .int (nI ch2)])), (v1, .inl (cL, 1152, .inr (.inl (fun zz => lN (bf zz))))), (v2, .inl (cL, 192, .inr (.inl (fun zz => lN (af zz))))), (v3, .inl (cL, 32, .inr (.inl u))), (v4, .inl (cL, 5, .inr (.inl (fun zz => lN (lv zz))))), (v5, .inl (cI, 5, .inl (fun zz => nI (wt zz))))])) (va_A [(h0, .inr (4, [.int (nI wr), .ref v1, .ref v2, .ref v3, .ref v4, .ref v5, .int (nI sv), .int (nI n), .long (lN co), .int (nI ch1), .int (nI ch2)])), (v1, .inl (cL, 1152, .inr (.inl (fun zz => lN (bf zz))))), (v2, .inl (cL, 192, .inr (.inl (fun zz => lN (af zz))))), (v3, .inl (cL, 32, .inr (.inl fl))), (v4, .inl (cL, 5, .inr (.inl (fun zz => lN (lv zz))))), (v5, .inl (cI, 5, .inl (fun zz => nI (wt zz))))] sz)) 0 0 (va_A [(h0, .inr (4, [.int (nI wr), .ref v1, .ref v2, .ref v3, .ref v4, .ref v5, .int (nI sv), .int (nI n), .long (lN co), .int (nI ch1), .int (nI ch2)])), (v1, .inl (cL, 1152, .inr (.inl (fun zz => lN (bf zz))))), (v2, .inl (cL, 192, .inr (.inl (fun zz => lN (af zz))))), (v3, .inl (cL, 32, .inr (.inl fl))), (v4, .inl (cL, 5, .inr (.inl (fun zz => lN (lv zz))))), (v5, .inl (cI, 5, .inl (fun zz => nI (wt zz))))] sz) := by
  refine kmet (by decide) ?_
  intro p e s m args below meth c Y hr hlocks hin hv
  obtain ⟨rfl, A, hAe, hsz, hP, hK, hD, hZ, hA⟩ := kinQ hv
  rw [hAe]
  have hS : va_S A s.heap s.heap [] := va_S.rf
  have hx := Y.1
  have hb := Y.2.1
  have hml := Y.2.2.1
  have hown := Y.2.2.2.1
  have hts := Y.2.2.2.2
  have hl := lv_entry ([.ref h0, .int (nI h), .int (nI k)]) (n := 5) (Nat.le_of_ble_eq_true rfl)
  rw [lg_entry_eq]
  generalize (lg_sl ([.ref h0, .int (nI h), .int (nI k)]) ++ List.replicate (5 - (lg_sl ([.ref h0, .int (nI h), .int (nI k)])).length) Slot.unset).toArray = ls at hl ⊢
  have hl : lv_has ls 5 [(0, .ref h0), (1, .int (nI h)), (2, .int (nI k))] := hl
  obtain ⟨hn0, hco0, -, -, hL, -, -⟩ := hVS
  subst hn0
  subst hco0
  have hp0 := hPI.1
  have hVl := VL_l hPI hL
  have hVw := VL_w hPI hL
  refine lv_iconst (v := nI 1) hx hb dX4_valueOfFixed_0 (by decide) ?_
  refine lv_istore_n (lv' := [(3, .int (nI 1)), (0, .ref h0), (1, .int (nI h)), (2, .int (nI k))]) hx hb dX4_valueOfFixed_1 rfl hl (by decide) rfl (fun ls hl => ?_)
  refine wl2 (fun (j9 : Nat) (fl9 : Nat → Int64) => k + 1 - j9) (fun (j9 : Nat) (fl9 : Nat → Int64) (ls : Array Slot) (H : Heap) (locs : List Loc) => lv_has ls 5 [(0, .ref h0), (1, .int (nI h)), (2, .int (nI k)), (3, .int (nI j9))] ∧ va_P (dC, dI) vwCl [(h0, .inr (4, [.int (nI wr), .ref v1, .ref v2, .ref v3, .ref v4, .ref v5, .int (nI sv), .int (nI (P 0)), .long (lN (P 2 * 1000000000000000)), .int (nI ch1), .int (nI ch2)])), (v1, .inl (cL, 1152, .inr (.inl (fun zz => lN (bf zz))))), (v2, .inl (cL, 192, .inr (.inl (fun zz => lN (af zz))))), (v3, .inl (cL, 32, .inr (.inl fl9))), (v4, .inl (cL, 5, .inr (.inl (fun zz => lN (lv zz))))), (v5, .inl (cI, 5, .inl (fun zz => nI (wt zz))))] H ∧ va_D A [(h0, .inr (4, [.int (nI wr), .ref v1, .ref v2, .ref v3, .ref v4, .ref v5, .int (nI sv), .int (nI (P 0)), .long (lN (P 2 * 1000000000000000)), .int (nI ch1), .int (nI ch2)])), (v1, .inl (cL, 1152, .inr (.inl (fun zz => lN (bf zz))))), (v2, .inl (cL, 192, .inr (.inl (fun zz => lN (af zz))))), (v3, .inl (cL, 32, .inr (.inl fl9))), (v4, .inl (cL, 5, .inr (.inl (fun zz => lN (lv zz))))), (v5, .inl (cI, 5, .inl (fun zz => nI (wt zz))))] ∧ va_S A s.heap H locs ∧ (1 ≤ j9 ∧ j9 ≤ k + 1 ∧ (∀ i, 1 ≤ i → i ≤ 8 → fl9 (((i - 1) * 4) + 0) = lN 0) ∧ (∀ j, 1 ≤ j → j < j9 → fl9 ((((P 0 + 1) - 1) * 4) + j) = lN 0))) 1 fl (by exact ⟨lv_sub hl [1, 2, 3, 0] rfl, hP.sub [0, 1, 2, 3, 4, 5] rfl, hD.sub [0, 1, 2, 3, 4, 5] (by decide) rfl, hS, by omega, by omega, hfl0, fun x h1 h2 => by omega⟩) (fun j9 fl9 ls H locs hI ih => ?_)
  obtain ⟨hl, hP, hD, hS, hj91, hj92, hz1, hz2⟩ := hI
  have ih2 := ih
  refine lv_iload_n hx hb dX4_valueOfFixed_2 rfl (lv_at hl 3 rfl) ?_
  refine lv_iload_n hx hb dX4_valueOfFixed_3 rfl (lv_at hl 2 rfl) ?_
  refine ri_cgt (tgt := 29) hx hb dX4_valueOfFixed_4 (by decide) (by omega) (by omega) (fun c4 => ?_) (fun c4 => ?_)
  · refine lv_aload_n hx hb dX4_valueOfFixed_29 rfl (lv_at hl 0 rfl) ?_
    refine va_get (D := (dC, dI)) (ci := 4) (v := .int (nI (P 0))) (C := RX4) (T := TX4) (N := 11) hx hb hts inlX4 hown hK hP 0 rfl rfl 7 (by decide) (hts _ qf_X4_58) (fun _ h9 => h9) rfl dX4_valueOfFixed_30 ?_
    refine lv_istore_n (lv' := [(3, .int (nI (P 0))), (0, .ref h0), (1, .int (nI h)), (2, .int (nI k))]) hx hb dX4_valueOfFixed_33 rfl hl (by decide) rfl (fun ls hl => ?_)
    refine wl2 (fun (i : Nat) (fl1 : Nat → Int64) => i) (fun (i : Nat) (fl1 : Nat → Int64) (ls : Array Slot) (H : Heap) (locs : List Loc) => lv_has ls 5 [(0, .ref h0), (1, .int (nI h)), (2, .int (nI k)), (3, .int (nI i))] ∧ va_P (dC, dI) vwCl [(h0, .inr (4, [.int (nI wr), .ref v1, .ref v2, .ref v3, .ref v4, .ref v5, .int (nI sv), .int (nI (P 0)), .long (lN (P 2 * 1000000000000000)), .int (nI ch1), .int (nI ch2)])), (v1, .inl (cL, 1152, .inr (.inl (fun zz => lN (bf zz))))), (v2, .inl (cL, 192, .inr (.inl (fun zz => lN (af zz))))), (v3, .inl (cL, 32, .inr (.inl fl1))), (v4, .inl (cL, 5, .inr (.inl (fun zz => lN (lv zz))))), (v5, .inl (cI, 5, .inl (fun zz => nI (wt zz))))] H ∧ va_D A [(h0, .inr (4, [.int (nI wr), .ref v1, .ref v2, .ref v3, .ref v4, .ref v5, .int (nI sv), .int (nI (P 0)), .long (lN (P 2 * 1000000000000000)), .int (nI ch1), .int (nI ch2)])), (v1, .inl (cL, 1152, .inr (.inl (fun zz => lN (bf zz))))), (v2, .inl (cL, 192, .inr (.inl (fun zz => lN (af zz))))), (v3, .inl (cL, 32, .inr (.inl fl1))), (v4, .inl (cL, 5, .inr (.inl (fun zz => lN (lv zz))))), (v5, .inl (cI, 5, .inl (fun zz => nI (wt zz))))] ∧ va_S A s.heap H locs ∧ (i ≤ P 0 ∧ FD (P 0) k (FT P h) fl1 i 1 ∧ (∀ i, 1 ≤ i → i ≤ 8 → fl1 (((i - 1) * 4) + 0) = lN 0))) (P 0) fl9 (by exact ⟨lv_sub hl [1, 2, 3, 0] rfl, hP.sub [0, 1, 2, 3, 4, 5] rfl, hD.sub [0, 1, 2, 3, 4, 5] (by decide) rfl, hS, by omega, FD_last (fun x h1 h2 => (hz1 x h1 (by omega)).trans (FT_0.1 _).symm) (fun x h1 h2 => (hz2 x h1 (by omega)).trans (FT_0.2 _).symm), hz1⟩) (fun i fl1 ls H locs hI ih => ?_)
    obtain ⟨hl, hP, hD, hS, hi2, hF0, hz3⟩ := hI
    have ih34 := ih
    refine lv_iload_n hx hb dX4_valueOfFixed_34 rfl (lv_at hl 3 rfl) ?_
    refine lv_iconst (v := nI 1) hx hb dX4_valueOfFixed_35 (by decide) ?_
    refine ri_clt (tgt := 84) hx hb dX4_valueOfFixed_36 (by decide) (by omega) (by omega) (fun c36 => ?_) (fun c36 => ?_)
    · obtain rfl : i = 0 := by omega
      refine lv_aload_n hx hb dX4_valueOfFixed_84 rfl (lv_at hl 0 rfl) ?_
      refine va_get (D := (dC, dI)) (ci := 4) (v := .ref v3) (C := RX4) (T := TX4) (N := 11) hx hb hts inlX4 hown hK hP 0 rfl rfl 3 (by decide) (hts _ qf_X4_22) (fun _ h9 => h9) rfl dX4_valueOfFixed_85 ?_
      refine lv_iconst (v := nI 1) hx hb dX4_valueOfFixed_88 (by decide) ?_
      refine lv_iload_n hx hb dX4_valueOfFixed_89 rfl (lv_at hl 2 rfl) ?_
      refine kSi (As := [.int (nI 1), .int (nI k)]) (rest := [.ref v3]) Y m_X4_place (c_X4_place l dC dI 1 k (by omega)) qm_X4_69 (kpS hK hP hZ hS [] [] rfl rfl) rfl hl.1 rfl (Nat.le_of_ble_eq_true rfl) dX4_valueOfFixed_90 ⟨Nat.le_of_ble_eq_true rfl, Nat.le_of_ble_eq_true rfl⟩ ⟨Nat.zero_le _, Nat.zero_le _⟩ (fun r90 hr90 => ?_)
      obtain rfl : r90 = nI (((1 - 1) * 4) + k) := hr90
      refine rl_ald hx hb hK hP 3 0 (F := fl1) rfl rfl dX4_valueOfFixed_93 (by decide) (by omega) ?_
      refine rl_set (x' := iN (FX P h (P 0) k)) (FD_all hF0 (by decide) (by omega) (by omega)) ?_
      exact kql (w1 := (fun u : Nat → Int64 => [(h0, .inr (4, [.int (nI wr), .ref v1, .ref v2, .ref v3, .ref v4, .ref v5, .int (nI sv), .int (nI (P 0)), .long (lN (P 2 * 1000000000000000)), .int (nI ch1), .int (nI ch2)])), (v1, .inl (cL, 1152, .inr (.inl (fun zz => lN (bf zz))))), (v2, .inl (cL, 192, .inr (.inl (fun zz => lN (af zz))))), (v3, .inl (cL, 32, .inr (.inl u))), (v4, .inl (cL, 5, .inr (.inl (fun zz => lN (lv zz))))), (v5, .inl (cI, 5, .inl (fun zz => nI (wt zz))))])) (v := iN (FX P h (P 0) k)) Y hr hlocks hK hP hD hS [0, 1, 2, 3, 4, 5] (by decide) (fl1) rfl ⟨rfl, hz3⟩ dX4_valueOfFixed_94
    · refine lv_iconst (v := nI 1) hx hb dX4_valueOfFixed_39 (by decide) ?_
      refine lv_istore (lv' := [(4, .int (nI 1)), (0, .ref h0), (1, .int (nI h)), (2, .int (nI k)), (3, .int (nI i))]) hx hb dX4_valueOfFixed_40 hl (by decide) rfl (fun ls hl => ?_)
      refine wl2 (fun (j : Nat) (fl3 : Nat → Int64) => k + 1 - j) (fun (j : Nat) (fl3 : Nat → Int64) (ls : Array Slot) (H : Heap) (locs : List Loc) => lv_has ls 5 [(0, .ref h0), (1, .int (nI h)), (2, .int (nI k)), (3, .int (nI i)), (4, .int (nI j))] ∧ va_P (dC, dI) vwCl [(h0, .inr (4, [.int (nI wr), .ref v1, .ref v2, .ref v3, .ref v4, .ref v5, .int (nI sv), .int (nI (P 0)), .long (lN (P 2 * 1000000000000000)), .int (nI ch1), .int (nI ch2)])), (v1, .inl (cL, 1152, .inr (.inl (fun zz => lN (bf zz))))), (v2, .inl (cL, 192, .inr (.inl (fun zz => lN (af zz))))), (v3, .inl (cL, 32, .inr (.inl fl3))), (v4, .inl (cL, 5, .inr (.inl (fun zz => lN (lv zz))))), (v5, .inl (cI, 5, .inl (fun zz => nI (wt zz))))] H ∧ va_D A [(h0, .inr (4, [.int (nI wr), .ref v1, .ref v2, .ref v3, .ref v4, .ref v5, .int (nI sv), .int (nI (P 0)), .long (lN (P 2 * 1000000000000000)), .int (nI ch1), .int (nI ch2)])), (v1, .inl (cL, 1152, .inr (.inl (fun zz => lN (bf zz))))), (v2, .inl (cL, 192, .inr (.inl (fun zz => lN (af zz))))), (v3, .inl (cL, 32, .inr (.inl fl3))), (v4, .inl (cL, 5, .inr (.inl (fun zz => lN (lv zz))))), (v5, .inl (cI, 5, .inl (fun zz => nI (wt zz))))] ∧ va_S A s.heap H locs ∧ (1 ≤ j ∧ j ≤ k + 1 ∧ FD (P 0) k (FT P h) fl3 i j ∧ (∀ i, 1 ≤ i → i ≤ 8 → fl3 (((i - 1) * 4) + 0) = lN 0))) 1 fl1 (by exact ⟨lv_sub hl [1, 2, 3, 4, 0] rfl, hP.sub [0, 1, 2, 3, 4, 5] rfl, hD.sub [0, 1, 2, 3, 4, 5] (by decide) rfl, hS, by omega, by omega, hF0, hz3⟩) (fun j fl3 ls H locs hI ih => ?_)
      obtain ⟨hl, hP, hD, hS, hj1, hj2, hF, hz4⟩ := hI
      have ih42 := ih
      refine lv_iload hx hb dX4_valueOfFixed_42 (lv_at hl 4 rfl) ?_
      refine lv_iload_n hx hb dX4_valueOfFixed_44 rfl (lv_at hl 2 rfl) ?_
      refine ri_cgt (tgt := 78) hx hb dX4_valueOfFixed_45 (by decide) (by omega) (by omega) (fun c45 => ?_) (fun c45 => ?_)
      · refine lv_iinc (v := nI (i - 1)) (lv' := [(3, .int (nI (i - 1))), (0, .ref h0), (1, .int (nI h)), (2, .int (nI k)), (4, .int (nI j))]) hx hb dX4_valueOfFixed_78 hl (k := 3) rfl (dec1 (by omega)) (by decide) rfl (fun ls hl => ?_)
        refine lv_goto (tgt := 34) hx hb dX4_valueOfFixed_81 (by decide) ?_
        exact ih34 (i - 1) fl3 _ _ _ (by show _ < _; omega) (by exact ⟨lv_sub hl [1, 2, 3, 0] rfl, hP.sub [0, 1, 2, 3, 4, 5] rfl, hD.sub [0, 1, 2, 3, 4, 5] (by decide) rfl, hS, by omega, FD_next hF (by omega), hz4⟩)
      · refine lv_aload_n hx hb dX4_valueOfFixed_48 rfl (lv_at hl 0 rfl) ?_
        refine va_get (D := (dC, dI)) (ci := 4) (v := .ref v3) (C := RX4) (T := TX4) (N := 11) hx hb hts inlX4 hown hK hP 0 rfl rfl 3 (by decide) (hts _ qf_X4_22) (fun _ h9 => h9) rfl dX4_valueOfFixed_49 ?_
        refine lv_iload_n hx hb dX4_valueOfFixed_52 rfl (lv_at hl 3 rfl) ?_
        refine lv_iload hx hb dX4_valueOfFixed_53 (lv_at hl 4 rfl) ?_
        refine kSi (As := [.int (nI i), .int (nI j)]) (rest := [.ref v3]) Y m_X4_place (c_X4_place l dC dI i j (by omega)) qm_X4_69 (kpS hK hP hZ hS [] [] rfl rfl) rfl hl.1 rfl (Nat.le_of_ble_eq_true rfl) dX4_valueOfFixed_55 ⟨Nat.le_of_ble_eq_true rfl, Nat.le_of_ble_eq_true rfl⟩ ⟨Nat.zero_le _, Nat.zero_le _⟩ (fun r55 hr55 => ?_)
        obtain rfl : r55 = nI (((i - 1) * 4) + j) := hr55
        refine lv_aload_n hx hb dX4_valueOfFixed_58 rfl (lv_at hl 0 rfl) ?_
        refine lv_iload_n hx hb dX4_valueOfFixed_59 rfl (lv_at hl 1 rfl) ?_
        refine lv_iload_n hx hb dX4_valueOfFixed_60 rfl (lv_at hl 3 rfl) ?_
        refine lv_iload hx hb dX4_valueOfFixed_61 (lv_at hl 4 rfl) ?_
        refine kVl (As := [.int (nI h), .int (nI i), .int (nI j)]) (rest := [.int (nI (((i - 1) * 4) + j)), .ref v3]) Y m_X4_meanOfFixed (c_X4_meanOfFixed l dC dI cL cI h0 v1 v2 v3 v4 v5 wr sv (P 0) (P 2 * 1000000000000000) ch1 ch2 bf af lv wt fl3 h i j (by omega) (by omega) (by omega) (by omega) (by omega) hVl hVw) qm_X4_73 (kpV (ci := 4) hK hP hZ hS [0, 1, 2, 3, 4, 5] [0, 1] rfl rfl 0 rfl rfl rfl) rfl hl.1 rfl (Nat.le_of_ble_eq_true rfl) dX4_valueOfFixed_63 ⟨Nat.le_of_ble_eq_true rfl, Nat.le_of_ble_eq_true rfl⟩ ⟨Nat.zero_le _, Nat.zero_le _⟩ (fun r63 hr63 => ?_)
        obtain rfl : r63 = sgL (mxF lv wt fl3 h i j) 5 / lN 10 := hr63
        refine lv_aload_n hx hb dX4_valueOfFixed_66 rfl (lv_at hl 0 rfl) ?_
        refine va_get (D := (dC, dI)) (ci := 4) (v := .long (lN (P 2 * 1000000000000000))) (C := RX4) (T := TX4) (N := 11) hx hb hts inlX4 hown hK hP 0 rfl rfl 8 (by decide) (hts _ qf_X4_76) (fun _ h9 => h9) rfl dX4_valueOfFixed_67 ?_
        refine lv_lsub hx hb dX4_valueOfFixed_70 ?_
        refine rl_set (x' := iN (FX P h (P 0 + 1 - i) j)) (fix_c hPI (by omega) (by omega) (by omega) (by omega) (by omega) hL (FD_wk hF)) ?_
        refine rl_ast hx hb hK hP hD hS 3 0 (F := fl3) rfl rfl dX4_valueOfFixed_71 (by decide) (by omega) (fun H locs hP hD hS => ?_)
        have hP : va_P (dC, dI) vwCl [(h0, .inr (4, [.int (nI wr), .ref v1, .ref v2, .ref v3, .ref v4, .ref v5, .int (nI sv), .int (nI (P 0)), .long (lN (P 2 * 1000000000000000)), .int (nI ch1), .int (nI ch2)])), (v1, .inl (cL, 1152, .inr (.inl (fun zz => lN (bf zz))))), (v2, .inl (cL, 192, .inr (.inl (fun zz => lN (af zz))))), (v3, .inl (cL, 32, .inr (.inl (updL fl3 (((i - 1) * 4) + j) (iN (FX P h (P 0 + 1 - i) j)))))), (v4, .inl (cL, 5, .inr (.inl (fun zz => lN (lv zz))))), (v5, .inl (cI, 5, .inl (fun zz => nI (wt zz))))] H := hP
        have hD : va_D A [(h0, .inr (4, [.int (nI wr), .ref v1, .ref v2, .ref v3, .ref v4, .ref v5, .int (nI sv), .int (nI (P 0)), .long (lN (P 2 * 1000000000000000)), .int (nI ch1), .int (nI ch2)])), (v1, .inl (cL, 1152, .inr (.inl (fun zz => lN (bf zz))))), (v2, .inl (cL, 192, .inr (.inl (fun zz => lN (af zz))))), (v3, .inl (cL, 32, .inr (.inl (updL fl3 (((i - 1) * 4) + j) (iN (FX P h (P 0 + 1 - i) j)))))), (v4, .inl (cL, 5, .inr (.inl (fun zz => lN (lv zz))))), (v5, .inl (cI, 5, .inl (fun zz => nI (wt zz))))] := hD
        refine lv_iinc (v := nI (j + 1)) (lv' := [(4, .int (nI (j + 1))), (0, .ref h0), (1, .int (nI h)), (2, .int (nI k)), (3, .int (nI i))]) hx hb dX4_valueOfFixed_72 hl (k := 4) rfl (inc1 _) (by decide) rfl (fun ls hl => ?_)
        refine lv_goto (tgt := 42) hx hb dX4_valueOfFixed_75 (by decide) ?_
        exact ih42 (j + 1) (updL fl3 (((i - 1) * 4) + j) (iN (FX P h (P 0 + 1 - i) j))) _ _ _ (by show _ < _; omega) (by exact ⟨lv_sub hl [1, 2, 3, 4, 0] rfl, hP.sub [0, 1, 2, 3, 4, 5] rfl, hD.sub [0, 1, 2, 3, 4, 5] (by decide) rfl, hS, by omega, by omega, FD_put hF (by omega) (by omega) (by omega) rfl, fun x h1 h2 => by rw [updL_n _ _ (by omega)]; exact hz4 x h1 h2⟩)
  · refine lv_aload_n hx hb dX4_valueOfFixed_7 rfl (lv_at hl 0 rfl) ?_
    refine va_get (D := (dC, dI)) (ci := 4) (v := .ref v3) (C := RX4) (T := TX4) (N := 11) hx hb hts inlX4 hown hK hP 0 rfl rfl 3 (by decide) (hts _ qf_X4_22) (fun _ h9 => h9) rfl dX4_valueOfFixed_8 ?_
    refine lv_aload_n hx hb dX4_valueOfFixed_11 rfl (lv_at hl 0 rfl) ?_
    refine va_get (D := (dC, dI)) (ci := 4) (v := .int (nI (P 0))) (C := RX4) (T := TX4) (N := 11) hx hb hts inlX4 hown hK hP 0 rfl rfl 7 (by decide) (hts _ qf_X4_58) (fun _ h9 => h9) rfl dX4_valueOfFixed_12 ?_
    refine lv_iconst (v := nI 1) hx hb dX4_valueOfFixed_15 (by decide) ?_
    refine ri_add hx hb dX4_valueOfFixed_16 ?_
    refine lv_iload_n hx hb dX4_valueOfFixed_17 rfl (lv_at hl 3 rfl) ?_
    refine kSi (As := [.int (nI ((P 0) + 1)), .int (nI j9)]) (rest := [.ref v3]) Y m_X4_place (c_X4_place l dC dI ((P 0) + 1) j9 (by omega)) qm_X4_69 (kpS hK hP hZ hS [] [] rfl rfl) rfl hl.1 rfl (Nat.le_of_ble_eq_true rfl) dX4_valueOfFixed_18 ⟨Nat.le_of_ble_eq_true rfl, Nat.le_of_ble_eq_true rfl⟩ ⟨Nat.zero_le _, Nat.zero_le _⟩ (fun r18 hr18 => ?_)
    obtain rfl : r18 = nI (((((P 0) + 1) - 1) * 4) + j9) := hr18
    refine lv_lconst (v := lN 0) hx hb dX4_valueOfFixed_21 rfl ?_
    refine rl_ast hx hb hK hP hD hS 3 0 (F := fl9) rfl rfl dX4_valueOfFixed_22 (by decide) (by omega) (fun H locs hP hD hS => ?_)
    have hP : va_P (dC, dI) vwCl [(h0, .inr (4, [.int (nI wr), .ref v1, .ref v2, .ref v3, .ref v4, .ref v5, .int (nI sv), .int (nI (P 0)), .long (lN (P 2 * 1000000000000000)), .int (nI ch1), .int (nI ch2)])), (v1, .inl (cL, 1152, .inr (.inl (fun zz => lN (bf zz))))), (v2, .inl (cL, 192, .inr (.inl (fun zz => lN (af zz))))), (v3, .inl (cL, 32, .inr (.inl (updL fl9 (((((P 0) + 1) - 1) * 4) + j9) (lN 0))))), (v4, .inl (cL, 5, .inr (.inl (fun zz => lN (lv zz))))), (v5, .inl (cI, 5, .inl (fun zz => nI (wt zz))))] H := hP
    have hD : va_D A [(h0, .inr (4, [.int (nI wr), .ref v1, .ref v2, .ref v3, .ref v4, .ref v5, .int (nI sv), .int (nI (P 0)), .long (lN (P 2 * 1000000000000000)), .int (nI ch1), .int (nI ch2)])), (v1, .inl (cL, 1152, .inr (.inl (fun zz => lN (bf zz))))), (v2, .inl (cL, 192, .inr (.inl (fun zz => lN (af zz))))), (v3, .inl (cL, 32, .inr (.inl (updL fl9 (((((P 0) + 1) - 1) * 4) + j9) (lN 0))))), (v4, .inl (cL, 5, .inr (.inl (fun zz => lN (lv zz))))), (v5, .inl (cI, 5, .inl (fun zz => nI (wt zz))))] := hD
    refine lv_iinc (v := nI (j9 + 1)) (lv' := [(3, .int (nI (j9 + 1))), (0, .ref h0), (1, .int (nI h)), (2, .int (nI k))]) hx hb dX4_valueOfFixed_23 hl (k := 3) rfl (inc1 _) (by decide) rfl (fun ls hl => ?_)
    refine lv_goto (tgt := 2) hx hb dX4_valueOfFixed_26 (by decide) ?_
    exact ih2 (j9 + 1) (updL fl9 (((((P 0) + 1) - 1) * 4) + j9) (lN 0)) _ _ _ (by show _ < _; omega) (by exact ⟨lv_sub hl [1, 2, 3, 0] rfl, hP.sub [0, 1, 2, 3, 4, 5] rfl, hD.sub [0, 1, 2, 3, 4, 5] (by decide) rfl, hS, by omega, by omega, fun x h1 h2 => by rw [updL_n _ _ (by omega)]; exact hz1 x h1 h2, fun x h1 h2 => by unfold updL; split <;> first | rfl | exact hz2 x h1 (by omega)⟩)
