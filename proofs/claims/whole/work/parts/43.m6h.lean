set_option maxHeartbeats 4000000 in
set_option maxRecDepth 100000 in
theorem c_X6_bestAt (l : Launch) (dC : Nat → ClassId) (dI : Nat → Nat → Nat) (cI cL : ClassId) (m0 m1 m2 m3 m4 m5 m6 m7 m8 m9 m10 m11 m12 : Nat) (bm ty sp fa fp kn lf yo ol : Nat) (un hh : Int64) (dr : Int32) (P gz : Nat → Nat) (d i j a b : Nat) (h1 : 1 ≤ i) (h2 : i ≤ 8) (h3 : 1 ≤ j) (h4 : j ≤ 3) (h5 : a ≤ 5) (h6 : b ≤ 5) (hPI : PI P) (hG : ∀ x y z : Nat, x ≤ j → j ≤ x + 1 → y ≤ 5 → z ≤ 5 → gz (pB i x y z) = QV P (P 20) (P 21) d x y) : Met l yX6_bestAt (kw yX6_bestAt cX6_bestAt 10 (some .long)) (kR 2 53) (kPr (dC, dI) [.ref m0, .int (nI i), .int (nI j), .int (nI a), .int (nI b)] [(m0, .inr (6, [.ref m1, .ref m2, .int (nI bm), .long un, .ref m3, .int (nI ty), .ref m4, .int (nI sp), .int (nI fa), .int (nI fp), .int (nI kn), .ref m5, .ref m6, .ref m7, .ref m8, .ref m9, .int dr, .ref m10, .ref m11, .int (nI lf), .int (nI yo), .int (nI ol), .ref m12, .long hh])), (m1, .inl (cI, 22, .inl (fun zz => nI (P zz)))), (m8, .inl (cL, 1152, .inr (.inl (fun zz => lN (gz zz)))))] [(cI, .int), (cL, .long)]) (vp_Sl (fun res : Int64 => res = lN (SV P (P 20) (P 21) d j a b))) 0 0 kNo := by
  refine kmet (by decide) ?_
  intro p e s m args below meth c Y hr hlocks hin hv
  obtain ⟨rfl, hP, hK, hZ⟩ := kinR hv
  have hS : va_S kNo s.heap s.heap [] := va_S.rf
  have hx := Y.1
  have hb := Y.2.1
  have hml := Y.2.2.1
  have hown := Y.2.2.2.1
  have hts := Y.2.2.2.2
  have hl := lv_entry ([.ref m0, .int (nI i), .int (nI j), .int (nI a), .int (nI b)]) (n := 10) (Nat.le_of_ble_eq_true rfl)
  rw [lg_entry_eq]
  generalize (lg_sl ([.ref m0, .int (nI i), .int (nI j), .int (nI a), .int (nI b)]) ++ List.replicate (10 - (lg_sl ([.ref m0, .int (nI i), .int (nI j), .int (nI a), .int (nI b)])).length) Slot.unset).toArray = ls at hl ⊢
  have hl : lv_has ls 10 [(0, .ref m0), (1, .int (nI i)), (2, .int (nI j)), (3, .int (nI a)), (4, .int (nI b))] := hl
  have hp0 := hPI.1
  have hp1 := hPI.2.1
  have hp2 := hPI.2.2.1
  have hc1 := hPI.2.2.2.2.2.2.1
  have hc2 := hPI.2.2.2.2.2.2.2
  refine lv_aload_n hx hb dX6_bestAt_0 rfl (lv_at hl 0 rfl) ?_
  refine va_get (D := (dC, dI)) (ci := 6) (v := .ref m8) (C := RX6) (T := TX6) (N := 24) hx hb hts inlX6 hown hK hP 0 rfl rfl 14 (by decide) (hts _ qf_X6_36) (fun _ h9 => h9) rfl dX6_bestAt_1 ?_
  refine lv_iload_n hx hb dX6_bestAt_4 rfl (lv_at hl 1 rfl) ?_
  refine lv_iload_n hx hb dX6_bestAt_5 rfl (lv_at hl 2 rfl) ?_
  refine lv_iload_n hx hb dX6_bestAt_6 rfl (lv_at hl 3 rfl) ?_
  refine lv_iload hx hb dX6_bestAt_7 (lv_at hl 4 rfl) ?_
  refine kSi (As := [.int (nI i), .int (nI j), .int (nI a), .int (nI b)]) (rest := [.ref m8]) Y m_X6_spotOf (c_X6_spotOf l dC dI i j a b (by omega)) qm_X6_148 (kpS hK hP hZ hS [] [] rfl rfl) rfl hl.1 rfl (Nat.le_of_ble_eq_true rfl) dX6_bestAt_9 ⟨Nat.le_of_ble_eq_true rfl, Nat.le_of_ble_eq_true rfl⟩ ⟨Nat.zero_le _, Nat.zero_le _⟩ (fun r9 hr9 => ?_)
  obtain rfl : r9 = nI (pB i j a b) := hr9
  refine rm_ald hx hb hK hP 2 1 (F := gz) rfl rfl dX6_bestAt_12 (by decide) (pB_lt (by omega) (by omega) (by omega) (by omega)) ?_
  refine rl_set (x' := lN (QV P (P 20) (P 21) d j a)) (congrArg lN (hG j a b (by omega) (by omega) h5 h6)) ?_
  have hqb := Nat.le_trans (QS_le hPI hc1 hc2 d j a h5) (B3 h4)
  refine lv_lstore (lv' := [(5, .long (lN (QV P (P 20) (P 21) d j a))), (0, .ref m0), (1, .int (nI i)), (2, .int (nI j)), (3, .int (nI a)), (4, .int (nI b))]) hx hb dX6_bestAt_13 hl (by decide) rfl (fun ls hl => ?_)
  refine lv_iconst (v := nI 1) hx hb dX6_bestAt_15 (by decide) ?_
  refine lv_istore (lv' := [(7, .int (nI 1)), (5, .long (lN (QV P (P 20) (P 21) d j a))), (0, .ref m0), (1, .int (nI i)), (2, .int (nI j)), (3, .int (nI a)), (4, .int (nI b))]) hx hb dX6_bestAt_16 hl (by decide) rfl (fun ls hl => ?_)
  refine lv_iload hx hb dX6_bestAt_18 (lv_at hl 0 rfl) ?_
  refine lv_iconst (v := nI 3) hx hb dX6_bestAt_20 (by decide) ?_
  refine ri_cge (tgt := 60) hx hb dX6_bestAt_21 (by decide) (by omega) (by omega) (fun c21 => ?_) (fun c21 => ?_)
  · exact absurd c21 (by decide)
  · refine lv_aload_n hx hb dX6_bestAt_24 rfl (lv_at hl 2 rfl) ?_
    refine lv_iload_n hx hb dX6_bestAt_25 rfl (lv_at hl 3 rfl) ?_
    refine lv_iload_n hx hb dX6_bestAt_26 rfl (lv_at hl 4 rfl) ?_
    refine lv_iload_n hx hb dX6_bestAt_27 rfl (lv_at hl 5 rfl) ?_
    refine lv_iload hx hb dX6_bestAt_28 (lv_at hl 6 rfl) ?_
    refine lv_iload hx hb dX6_bestAt_30 (lv_at hl 0 rfl) ?_
    refine kVl (As := [.int (nI i), .int (nI j), .int (nI a), .int (nI b), .int (nI 1)]) (rest := []) Y m_X6_recallAt (c_X6_recallAt l dC dI cI cL m0 m1 m2 m3 m4 m5 m6 m7 m8 m9 m10 m11 m12 bm ty sp fa fp kn lf yo ol un hh dr P gz d i j a b 1 (by omega) (by omega) (by omega) (by omega) (by omega) (by omega) (by omega) hPI hG) qm_X6_162 (kpV (ci := 6) hK hP hZ hS [0, 1, 2] [0, 1] rfl rfl 0 rfl rfl rfl) rfl hl.1 rfl (Nat.le_of_ble_eq_true rfl) dX6_bestAt_32 ⟨Nat.le_of_ble_eq_true rfl, Nat.le_of_ble_eq_true rfl⟩ ⟨Nat.zero_le _, Nat.zero_le _⟩ (fun r32 hr32 => ?_)
    obtain rfl : r32 = rcW P (QV P (P 20) (P 21) d) 1 j a b := hr32
    by_cases ha5 : a = 5
    · refine rl_set (x' := (-1)) (by unfold rcW; rw [if_pos rfl, if_pos ha5]) ?_
      refine lv_lstore (lv' := [(8, .long (-1)), (7, .int (nI 1)), (5, .long (lN (QV P (P 20) (P 21) d j a))), (0, .ref m0), (1, .int (nI i)), (2, .int (nI j)), (3, .int (nI a)), (4, .int (nI b))]) hx hb dX6_bestAt_35 hl (by decide) rfl (fun ls hl => ?_)
      refine lv_lload hx hb dX6_bestAt_37 (lv_at hl 0 rfl) ?_
      refine lv_lload hx hb dX6_bestAt_39 (lv_at hl 2 rfl) ?_
      refine rl_le (tgt := 50) hx hb dX6_bestAt_41 dX6_bestAt_42 (by decide) (fun c41 => ?_) (fun c41 => ?_)
      · refine lv_lload hx hb dX6_bestAt_50 (lv_at hl 2 rfl) ?_
        refine lv_lstore (lv' := [(5, .long (lN (QV P (P 20) (P 21) d j a))), (8, .long (-1)), (7, .int (nI 1)), (0, .ref m0), (1, .int (nI i)), (2, .int (nI j)), (3, .int (nI a)), (4, .int (nI b))]) hx hb dX6_bestAt_52 hl (by decide) rfl (fun ls hl => ?_)
        have hm1 : QV P (P 20) (P 21) d j a = (if a ≠ 5 then max (QV P (P 20) (P 21) d j a) (rcN P (QV P (P 20) (P 21) d) (P 20) j a 5) else QV P (P 20) (P 21) d j a) := by rw [if_neg (fun q => q ha5)]
        refine lv_iinc (v := nI 2) (lv' := [(7, .int (nI 2)), (5, .long (lN (QV P (P 20) (P 21) d j a))), (8, .long (-1)), (0, .ref m0), (1, .int (nI i)), (2, .int (nI j)), (3, .int (nI a)), (4, .int (nI b))]) hx hb dX6_bestAt_54 hl (k := 2) rfl (by decide) (by decide) rfl (fun ls hl => ?_)
        refine lv_goto (tgt := 18) hx hb dX6_bestAt_57 (by decide) ?_
        refine lv_iload hx hb dX6_bestAt_18 (lv_at hl 0 rfl) ?_
        refine lv_iconst (v := nI 3) hx hb dX6_bestAt_20 (by decide) ?_
        refine ri_cge (tgt := 60) hx hb dX6_bestAt_21 (by decide) (by omega) (by omega) (fun c21_1 => ?_) (fun c21_1 => ?_)
        · exact absurd c21_1 (by decide)
        · refine lv_aload_n hx hb dX6_bestAt_24 rfl (lv_at hl 3 rfl) ?_
          refine lv_iload_n hx hb dX6_bestAt_25 rfl (lv_at hl 4 rfl) ?_
          refine lv_iload_n hx hb dX6_bestAt_26 rfl (lv_at hl 5 rfl) ?_
          refine lv_iload_n hx hb dX6_bestAt_27 rfl (lv_at hl 6 rfl) ?_
          refine lv_iload hx hb dX6_bestAt_28 (lv_at hl 7 rfl) ?_
          refine lv_iload hx hb dX6_bestAt_30 (lv_at hl 0 rfl) ?_
          refine kVl (As := [.int (nI i), .int (nI j), .int (nI a), .int (nI b), .int (nI 2)]) (rest := []) Y m_X6_recallAt (c_X6_recallAt l dC dI cI cL m0 m1 m2 m3 m4 m5 m6 m7 m8 m9 m10 m11 m12 bm ty sp fa fp kn lf yo ol un hh dr P gz d i j a b 2 (by omega) (by omega) (by omega) (by omega) (by omega) (by omega) (by omega) hPI hG) qm_X6_162 (kpV (ci := 6) hK hP hZ hS [0, 1, 2] [0, 1] rfl rfl 0 rfl rfl rfl) rfl hl.1 rfl (Nat.le_of_ble_eq_true rfl) dX6_bestAt_32 ⟨Nat.le_of_ble_eq_true rfl, Nat.le_of_ble_eq_true rfl⟩ ⟨Nat.zero_le _, Nat.zero_le _⟩ (fun r32_1 hr32_1 => ?_)
          obtain rfl : r32_1 = rcW P (QV P (P 20) (P 21) d) 2 j a b := hr32_1
          by_cases hb5 : b = 5
          · refine rl_set (x' := (-1)) (by unfold rcW; rw [if_neg (by decide), if_pos hb5]) ?_
            refine lv_lstore (lv' := [(8, .long (-1)), (7, .int (nI 2)), (5, .long (lN (QV P (P 20) (P 21) d j a))), (0, .ref m0), (1, .int (nI i)), (2, .int (nI j)), (3, .int (nI a)), (4, .int (nI b))]) hx hb dX6_bestAt_35 hl (by decide) rfl (fun ls hl => ?_)
            refine lv_lload hx hb dX6_bestAt_37 (lv_at hl 0 rfl) ?_
            refine lv_lload hx hb dX6_bestAt_39 (lv_at hl 2 rfl) ?_
            refine rl_le (tgt := 50) hx hb dX6_bestAt_41 dX6_bestAt_42 (by decide) (fun c41_1 => ?_) (fun c41_1 => ?_)
            · refine lv_lload hx hb dX6_bestAt_50 (lv_at hl 2 rfl) ?_
              refine lv_lstore (lv' := [(5, .long (lN (QV P (P 20) (P 21) d j a))), (8, .long (-1)), (7, .int (nI 2)), (0, .ref m0), (1, .int (nI i)), (2, .int (nI j)), (3, .int (nI a)), (4, .int (nI b))]) hx hb dX6_bestAt_52 hl (by decide) rfl (fun ls hl => ?_)
              have hm2 : QV P (P 20) (P 21) d j a = max (QV P (P 20) (P 21) d j a) (if b ≠ 5 then rcN P (QV P (P 20) (P 21) d) (P 21) j b a else 0) := by rw [if_neg (fun q => q hb5)]; exact (Nat.max_eq_left (Nat.zero_le _)).symm
              refine lv_iinc (v := nI 3) (lv' := [(7, .int (nI 3)), (5, .long (lN (QV P (P 20) (P 21) d j a))), (8, .long (-1)), (0, .ref m0), (1, .int (nI i)), (2, .int (nI j)), (3, .int (nI a)), (4, .int (nI b))]) hx hb dX6_bestAt_54 hl (k := 2) rfl (by decide) (by decide) rfl (fun ls hl => ?_)
              refine lv_goto (tgt := 18) hx hb dX6_bestAt_57 (by decide) ?_
              refine lv_iload hx hb dX6_bestAt_18 (lv_at hl 0 rfl) ?_
              refine lv_iconst (v := nI 3) hx hb dX6_bestAt_20 (by decide) ?_
              refine ri_cge (tgt := 60) hx hb dX6_bestAt_21 (by decide) (by omega) (by omega) (fun c21_2 => ?_) (fun c21_2 => ?_)
              · refine lv_lload hx hb dX6_bestAt_60 (lv_at hl 1 rfl) ?_
                exact krl (v := lN (QV P (P 20) (P 21) d j a)) Y hr hlocks (congrArg lN (SV_fin h3 hm1 hm2)) dX6_bestAt_62
              · exact absurd c21_2 (by decide)
            · exact absurd (m1_le (by omega)) c41_1
          · refine rl_set (x' := lN (rcN P (QV P (P 20) (P 21) d) (P 21) j b a)) (by unfold rcW; rw [if_neg (by decide), if_neg hb5]) ?_
            have hrbb := rcN_b hPI (c1 := P 20) (c2 := P 21) (d := d) (c := P 21) (j := j) (x := b) (y := a) hc1 hc2 (by omega) h3 h4 (by omega) (by omega)
            refine lv_lstore (lv' := [(8, .long (lN (rcN P (QV P (P 20) (P 21) d) (P 21) j b a))), (7, .int (nI 2)), (5, .long (lN (QV P (P 20) (P 21) d j a))), (0, .ref m0), (1, .int (nI i)), (2, .int (nI j)), (3, .int (nI a)), (4, .int (nI b))]) hx hb dX6_bestAt_35 hl (by decide) rfl (fun ls hl => ?_)
            refine lv_lload hx hb dX6_bestAt_37 (lv_at hl 0 rfl) ?_
            refine lv_lload hx hb dX6_bestAt_39 (lv_at hl 2 rfl) ?_
            refine rl_len (tgt := 50) hx hb dX6_bestAt_41 dX6_bestAt_42 (by decide) (by omega) (by omega) (fun c41_1 => ?_) (fun c41_1 => ?_)
            · refine lv_lload hx hb dX6_bestAt_50 (lv_at hl 2 rfl) ?_
              refine lv_lstore (lv' := [(5, .long (lN (QV P (P 20) (P 21) d j a))), (8, .long (lN (rcN P (QV P (P 20) (P 21) d) (P 21) j b a))), (7, .int (nI 2)), (0, .ref m0), (1, .int (nI i)), (2, .int (nI j)), (3, .int (nI a)), (4, .int (nI b))]) hx hb dX6_bestAt_52 hl (by decide) rfl (fun ls hl => ?_)
              have hm2 : QV P (P 20) (P 21) d j a = max (QV P (P 20) (P 21) d j a) (if b ≠ 5 then rcN P (QV P (P 20) (P 21) d) (P 21) j b a else 0) := by rw [if_pos hb5]; exact (Nat.max_eq_left c41_1).symm
              refine lv_iinc (v := nI 3) (lv' := [(7, .int (nI 3)), (5, .long (lN (QV P (P 20) (P 21) d j a))), (8, .long (lN (rcN P (QV P (P 20) (P 21) d) (P 21) j b a))), (0, .ref m0), (1, .int (nI i)), (2, .int (nI j)), (3, .int (nI a)), (4, .int (nI b))]) hx hb dX6_bestAt_54 hl (k := 2) rfl (by decide) (by decide) rfl (fun ls hl => ?_)
              refine lv_goto (tgt := 18) hx hb dX6_bestAt_57 (by decide) ?_
              refine lv_iload hx hb dX6_bestAt_18 (lv_at hl 0 rfl) ?_
              refine lv_iconst (v := nI 3) hx hb dX6_bestAt_20 (by decide) ?_
              refine ri_cge (tgt := 60) hx hb dX6_bestAt_21 (by decide) (by omega) (by omega) (fun c21_2 => ?_) (fun c21_2 => ?_)
              · refine lv_lload hx hb dX6_bestAt_60 (lv_at hl 1 rfl) ?_
                exact krl (v := lN (QV P (P 20) (P 21) d j a)) Y hr hlocks (congrArg lN (SV_fin h3 hm1 hm2)) dX6_bestAt_62
              · exact absurd c21_2 (by decide)
            · refine lv_lload hx hb dX6_bestAt_45 (lv_at hl 0 rfl) ?_
              refine lv_goto (tgt := 52) hx hb dX6_bestAt_47 (by decide) ?_
              refine lv_lstore (lv' := [(5, .long (lN (rcN P (QV P (P 20) (P 21) d) (P 21) j b a))), (8, .long (lN (rcN P (QV P (P 20) (P 21) d) (P 21) j b a))), (7, .int (nI 2)), (0, .ref m0), (1, .int (nI i)), (2, .int (nI j)), (3, .int (nI a)), (4, .int (nI b))]) hx hb dX6_bestAt_52 hl (by decide) rfl (fun ls hl => ?_)
              have hm2 : rcN P (QV P (P 20) (P 21) d) (P 21) j b a = max (QV P (P 20) (P 21) d j a) (if b ≠ 5 then rcN P (QV P (P 20) (P 21) d) (P 21) j b a else 0) := by rw [if_pos hb5]; exact (Nat.max_eq_right (Nat.le_of_lt c41_1)).symm
              refine lv_iinc (v := nI 3) (lv' := [(7, .int (nI 3)), (5, .long (lN (rcN P (QV P (P 20) (P 21) d) (P 21) j b a))), (8, .long (lN (rcN P (QV P (P 20) (P 21) d) (P 21) j b a))), (0, .ref m0), (1, .int (nI i)), (2, .int (nI j)), (3, .int (nI a)), (4, .int (nI b))]) hx hb dX6_bestAt_54 hl (k := 2) rfl (by decide) (by decide) rfl (fun ls hl => ?_)
              refine lv_goto (tgt := 18) hx hb dX6_bestAt_57 (by decide) ?_
              refine lv_iload hx hb dX6_bestAt_18 (lv_at hl 0 rfl) ?_
              refine lv_iconst (v := nI 3) hx hb dX6_bestAt_20 (by decide) ?_
              refine ri_cge (tgt := 60) hx hb dX6_bestAt_21 (by decide) (by omega) (by omega) (fun c21_2 => ?_) (fun c21_2 => ?_)
              · refine lv_lload hx hb dX6_bestAt_60 (lv_at hl 1 rfl) ?_
                exact krl (v := lN (rcN P (QV P (P 20) (P 21) d) (P 21) j b a)) Y hr hlocks (congrArg lN (SV_fin h3 hm1 hm2)) dX6_bestAt_62
              · exact absurd c21_2 (by decide)
      · exact absurd (m1_le (by omega)) c41
    · refine rl_set (x' := lN (rcN P (QV P (P 20) (P 21) d) (P 20) j a 5)) (by unfold rcW; rw [if_pos rfl, if_neg ha5]) ?_
      have hrba := rcN_b hPI (c1 := P 20) (c2 := P 21) (d := d) (c := P 20) (j := j) (x := a) (y := 5) hc1 hc2 (by omega) h3 h4 (by omega) (by omega)
      refine lv_lstore (lv' := [(8, .long (lN (rcN P (QV P (P 20) (P 21) d) (P 20) j a 5))), (7, .int (nI 1)), (5, .long (lN (QV P (P 20) (P 21) d j a))), (0, .ref m0), (1, .int (nI i)), (2, .int (nI j)), (3, .int (nI a)), (4, .int (nI b))]) hx hb dX6_bestAt_35 hl (by decide) rfl (fun ls hl => ?_)
      refine lv_lload hx hb dX6_bestAt_37 (lv_at hl 0 rfl) ?_
      refine lv_lload hx hb dX6_bestAt_39 (lv_at hl 2 rfl) ?_
      refine rl_len (tgt := 50) hx hb dX6_bestAt_41 dX6_bestAt_42 (by decide) (by omega) (by omega) (fun c41 => ?_) (fun c41 => ?_)
      · refine lv_lload hx hb dX6_bestAt_50 (lv_at hl 2 rfl) ?_
        refine lv_lstore (lv' := [(5, .long (lN (QV P (P 20) (P 21) d j a))), (8, .long (lN (rcN P (QV P (P 20) (P 21) d) (P 20) j a 5))), (7, .int (nI 1)), (0, .ref m0), (1, .int (nI i)), (2, .int (nI j)), (3, .int (nI a)), (4, .int (nI b))]) hx hb dX6_bestAt_52 hl (by decide) rfl (fun ls hl => ?_)
        have hm1 : QV P (P 20) (P 21) d j a = (if a ≠ 5 then max (QV P (P 20) (P 21) d j a) (rcN P (QV P (P 20) (P 21) d) (P 20) j a 5) else QV P (P 20) (P 21) d j a) := by rw [if_pos ha5]; exact (Nat.max_eq_left c41).symm
        refine lv_iinc (v := nI 2) (lv' := [(7, .int (nI 2)), (5, .long (lN (QV P (P 20) (P 21) d j a))), (8, .long (lN (rcN P (QV P (P 20) (P 21) d) (P 20) j a 5))), (0, .ref m0), (1, .int (nI i)), (2, .int (nI j)), (3, .int (nI a)), (4, .int (nI b))]) hx hb dX6_bestAt_54 hl (k := 2) rfl (by decide) (by decide) rfl (fun ls hl => ?_)
        refine lv_goto (tgt := 18) hx hb dX6_bestAt_57 (by decide) ?_
        refine lv_iload hx hb dX6_bestAt_18 (lv_at hl 0 rfl) ?_
        refine lv_iconst (v := nI 3) hx hb dX6_bestAt_20 (by decide) ?_
        refine ri_cge (tgt := 60) hx hb dX6_bestAt_21 (by decide) (by omega) (by omega) (fun c21_1 => ?_) (fun c21_1 => ?_)
        · exact absurd c21_1 (by decide)
        · refine lv_aload_n hx hb dX6_bestAt_24 rfl (lv_at hl 3 rfl) ?_
          refine lv_iload_n hx hb dX6_bestAt_25 rfl (lv_at hl 4 rfl) ?_
          refine lv_iload_n hx hb dX6_bestAt_26 rfl (lv_at hl 5 rfl) ?_
          refine lv_iload_n hx hb dX6_bestAt_27 rfl (lv_at hl 6 rfl) ?_
          refine lv_iload hx hb dX6_bestAt_28 (lv_at hl 7 rfl) ?_
          refine lv_iload hx hb dX6_bestAt_30 (lv_at hl 0 rfl) ?_
          refine kVl (As := [.int (nI i), .int (nI j), .int (nI a), .int (nI b), .int (nI 2)]) (rest := []) Y m_X6_recallAt (c_X6_recallAt l dC dI cI cL m0 m1 m2 m3 m4 m5 m6 m7 m8 m9 m10 m11 m12 bm ty sp fa fp kn lf yo ol un hh dr P gz d i j a b 2 (by omega) (by omega) (by omega) (by omega) (by omega) (by omega) (by omega) hPI hG) qm_X6_162 (kpV (ci := 6) hK hP hZ hS [0, 1, 2] [0, 1] rfl rfl 0 rfl rfl rfl) rfl hl.1 rfl (Nat.le_of_ble_eq_true rfl) dX6_bestAt_32 ⟨Nat.le_of_ble_eq_true rfl, Nat.le_of_ble_eq_true rfl⟩ ⟨Nat.zero_le _, Nat.zero_le _⟩ (fun r32_1 hr32_1 => ?_)
          obtain rfl : r32_1 = rcW P (QV P (P 20) (P 21) d) 2 j a b := hr32_1
          by_cases hb5 : b = 5
          · refine rl_set (x' := (-1)) (by unfold rcW; rw [if_neg (by decide), if_pos hb5]) ?_
            refine lv_lstore (lv' := [(8, .long (-1)), (7, .int (nI 2)), (5, .long (lN (QV P (P 20) (P 21) d j a))), (0, .ref m0), (1, .int (nI i)), (2, .int (nI j)), (3, .int (nI a)), (4, .int (nI b))]) hx hb dX6_bestAt_35 hl (by decide) rfl (fun ls hl => ?_)
            refine lv_lload hx hb dX6_bestAt_37 (lv_at hl 0 rfl) ?_
            refine lv_lload hx hb dX6_bestAt_39 (lv_at hl 2 rfl) ?_
            refine rl_le (tgt := 50) hx hb dX6_bestAt_41 dX6_bestAt_42 (by decide) (fun c41_1 => ?_) (fun c41_1 => ?_)
            · refine lv_lload hx hb dX6_bestAt_50 (lv_at hl 2 rfl) ?_
              refine lv_lstore (lv' := [(5, .long (lN (QV P (P 20) (P 21) d j a))), (8, .long (-1)), (7, .int (nI 2)), (0, .ref m0), (1, .int (nI i)), (2, .int (nI j)), (3, .int (nI a)), (4, .int (nI b))]) hx hb dX6_bestAt_52 hl (by decide) rfl (fun ls hl => ?_)
              have hm2 : QV P (P 20) (P 21) d j a = max (QV P (P 20) (P 21) d j a) (if b ≠ 5 then rcN P (QV P (P 20) (P 21) d) (P 21) j b a else 0) := by rw [if_neg (fun q => q hb5)]; exact (Nat.max_eq_left (Nat.zero_le _)).symm
              refine lv_iinc (v := nI 3) (lv' := [(7, .int (nI 3)), (5, .long (lN (QV P (P 20) (P 21) d j a))), (8, .long (-1)), (0, .ref m0), (1, .int (nI i)), (2, .int (nI j)), (3, .int (nI a)), (4, .int (nI b))]) hx hb dX6_bestAt_54 hl (k := 2) rfl (by decide) (by decide) rfl (fun ls hl => ?_)
              refine lv_goto (tgt := 18) hx hb dX6_bestAt_57 (by decide) ?_
              refine lv_iload hx hb dX6_bestAt_18 (lv_at hl 0 rfl) ?_
              refine lv_iconst (v := nI 3) hx hb dX6_bestAt_20 (by decide) ?_
              refine ri_cge (tgt := 60) hx hb dX6_bestAt_21 (by decide) (by omega) (by omega) (fun c21_2 => ?_) (fun c21_2 => ?_)
              · refine lv_lload hx hb dX6_bestAt_60 (lv_at hl 1 rfl) ?_
                exact krl (v := lN (QV P (P 20) (P 21) d j a)) Y hr hlocks (congrArg lN (SV_fin h3 hm1 hm2)) dX6_bestAt_62
              · exact absurd c21_2 (by decide)
            · exact absurd (m1_le (by omega)) c41_1
          · refine rl_set (x' := lN (rcN P (QV P (P 20) (P 21) d) (P 21) j b a)) (by unfold rcW; rw [if_neg (by decide), if_neg hb5]) ?_
            have hrbb := rcN_b hPI (c1 := P 20) (c2 := P 21) (d := d) (c := P 21) (j := j) (x := b) (y := a) hc1 hc2 (by omega) h3 h4 (by omega) (by omega)
            refine lv_lstore (lv' := [(8, .long (lN (rcN P (QV P (P 20) (P 21) d) (P 21) j b a))), (7, .int (nI 2)), (5, .long (lN (QV P (P 20) (P 21) d j a))), (0, .ref m0), (1, .int (nI i)), (2, .int (nI j)), (3, .int (nI a)), (4, .int (nI b))]) hx hb dX6_bestAt_35 hl (by decide) rfl (fun ls hl => ?_)
            refine lv_lload hx hb dX6_bestAt_37 (lv_at hl 0 rfl) ?_
            refine lv_lload hx hb dX6_bestAt_39 (lv_at hl 2 rfl) ?_
            refine rl_len (tgt := 50) hx hb dX6_bestAt_41 dX6_bestAt_42 (by decide) (by omega) (by omega) (fun c41_1 => ?_) (fun c41_1 => ?_)
            · refine lv_lload hx hb dX6_bestAt_50 (lv_at hl 2 rfl) ?_
              refine lv_lstore (lv' := [(5, .long (lN (QV P (P 20) (P 21) d j a))), (8, .long (lN (rcN P (QV P (P 20) (P 21) d) (P 21) j b a))), (7, .int (nI 2)), (0, .ref m0), (1, .int (nI i)), (2, .int (nI j)), (3, .int (nI a)), (4, .int (nI b))]) hx hb dX6_bestAt_52 hl (by decide) rfl (fun ls hl => ?_)
              have hm2 : QV P (P 20) (P 21) d j a = max (QV P (P 20) (P 21) d j a) (if b ≠ 5 then rcN P (QV P (P 20) (P 21) d) (P 21) j b a else 0) := by rw [if_pos hb5]; exact (Nat.max_eq_left c41_1).symm
              refine lv_iinc (v := nI 3) (lv' := [(7, .int (nI 3)), (5, .long (lN (QV P (P 20) (P 21) d j a))), (8, .long (lN (rcN P (QV P (P 20) (P 21) d) (P 21) j b a))), (0, .ref m0), (1, .int (nI i)), (2, .int (nI j)), (3, .int (nI a)), (4, .int (nI b))]) hx hb dX6_bestAt_54 hl (k := 2) rfl (by decide) (by decide) rfl (fun ls hl => ?_)
              refine lv_goto (tgt := 18) hx hb dX6_bestAt_57 (by decide) ?_
              refine lv_iload hx hb dX6_bestAt_18 (lv_at hl 0 rfl) ?_
              refine lv_iconst (v := nI 3) hx hb dX6_bestAt_20 (by decide) ?_
              refine ri_cge (tgt := 60) hx hb dX6_bestAt_21 (by decide) (by omega) (by omega) (fun c21_2 => ?_) (fun c21_2 => ?_)
              · refine lv_lload hx hb dX6_bestAt_60 (lv_at hl 1 rfl) ?_
                exact krl (v := lN (QV P (P 20) (P 21) d j a)) Y hr hlocks (congrArg lN (SV_fin h3 hm1 hm2)) dX6_bestAt_62
              · exact absurd c21_2 (by decide)
            · refine lv_lload hx hb dX6_bestAt_45 (lv_at hl 0 rfl) ?_
              refine lv_goto (tgt := 52) hx hb dX6_bestAt_47 (by decide) ?_
              refine lv_lstore (lv' := [(5, .long (lN (rcN P (QV P (P 20) (P 21) d) (P 21) j b a))), (8, .long (lN (rcN P (QV P (P 20) (P 21) d) (P 21) j b a))), (7, .int (nI 2)), (0, .ref m0), (1, .int (nI i)), (2, .int (nI j)), (3, .int (nI a)), (4, .int (nI b))]) hx hb dX6_bestAt_52 hl (by decide) rfl (fun ls hl => ?_)
              have hm2 : rcN P (QV P (P 20) (P 21) d) (P 21) j b a = max (QV P (P 20) (P 21) d j a) (if b ≠ 5 then rcN P (QV P (P 20) (P 21) d) (P 21) j b a else 0) := by rw [if_pos hb5]; exact (Nat.max_eq_right (Nat.le_of_lt c41_1)).symm
              refine lv_iinc (v := nI 3) (lv' := [(7, .int (nI 3)), (5, .long (lN (rcN P (QV P (P 20) (P 21) d) (P 21) j b a))), (8, .long (lN (rcN P (QV P (P 20) (P 21) d) (P 21) j b a))), (0, .ref m0), (1, .int (nI i)), (2, .int (nI j)), (3, .int (nI a)), (4, .int (nI b))]) hx hb dX6_bestAt_54 hl (k := 2) rfl (by decide) (by decide) rfl (fun ls hl => ?_)
              refine lv_goto (tgt := 18) hx hb dX6_bestAt_57 (by decide) ?_
              refine lv_iload hx hb dX6_bestAt_18 (lv_at hl 0 rfl) ?_
              refine lv_iconst (v := nI 3) hx hb dX6_bestAt_20 (by decide) ?_
              refine ri_cge (tgt := 60) hx hb dX6_bestAt_21 (by decide) (by omega) (by omega) (fun c21_2 => ?_) (fun c21_2 => ?_)
              · refine lv_lload hx hb dX6_bestAt_60 (lv_at hl 1 rfl) ?_
                exact krl (v := lN (rcN P (QV P (P 20) (P 21) d) (P 21) j b a)) Y hr hlocks (congrArg lN (SV_fin h3 hm1 hm2)) dX6_bestAt_62
              · exact absurd c21_2 (by decide)
      · refine lv_lload hx hb dX6_bestAt_45 (lv_at hl 0 rfl) ?_
        refine lv_goto (tgt := 52) hx hb dX6_bestAt_47 (by decide) ?_
        refine lv_lstore (lv' := [(5, .long (lN (rcN P (QV P (P 20) (P 21) d) (P 20) j a 5))), (8, .long (lN (rcN P (QV P (P 20) (P 21) d) (P 20) j a 5))), (7, .int (nI 1)), (0, .ref m0), (1, .int (nI i)), (2, .int (nI j)), (3, .int (nI a)), (4, .int (nI b))]) hx hb dX6_bestAt_52 hl (by decide) rfl (fun ls hl => ?_)
        have hm1 : rcN P (QV P (P 20) (P 21) d) (P 20) j a 5 = (if a ≠ 5 then max (QV P (P 20) (P 21) d j a) (rcN P (QV P (P 20) (P 21) d) (P 20) j a 5) else QV P (P 20) (P 21) d j a) := by rw [if_pos ha5]; exact (Nat.max_eq_right (Nat.le_of_lt c41)).symm
        refine lv_iinc (v := nI 2) (lv' := [(7, .int (nI 2)), (5, .long (lN (rcN P (QV P (P 20) (P 21) d) (P 20) j a 5))), (8, .long (lN (rcN P (QV P (P 20) (P 21) d) (P 20) j a 5))), (0, .ref m0), (1, .int (nI i)), (2, .int (nI j)), (3, .int (nI a)), (4, .int (nI b))]) hx hb dX6_bestAt_54 hl (k := 2) rfl (by decide) (by decide) rfl (fun ls hl => ?_)
        refine lv_goto (tgt := 18) hx hb dX6_bestAt_57 (by decide) ?_
        refine lv_iload hx hb dX6_bestAt_18 (lv_at hl 0 rfl) ?_
        refine lv_iconst (v := nI 3) hx hb dX6_bestAt_20 (by decide) ?_
        refine ri_cge (tgt := 60) hx hb dX6_bestAt_21 (by decide) (by omega) (by omega) (fun c21_1 => ?_) (fun c21_1 => ?_)
        · exact absurd c21_1 (by decide)
        · refine lv_aload_n hx hb dX6_bestAt_24 rfl (lv_at hl 3 rfl) ?_
          refine lv_iload_n hx hb dX6_bestAt_25 rfl (lv_at hl 4 rfl) ?_
          refine lv_iload_n hx hb dX6_bestAt_26 rfl (lv_at hl 5 rfl) ?_
          refine lv_iload_n hx hb dX6_bestAt_27 rfl (lv_at hl 6 rfl) ?_
          refine lv_iload hx hb dX6_bestAt_28 (lv_at hl 7 rfl) ?_
          refine lv_iload hx hb dX6_bestAt_30 (lv_at hl 0 rfl) ?_
          refine kVl (As := [.int (nI i), .int (nI j), .int (nI a), .int (nI b), .int (nI 2)]) (rest := []) Y m_X6_recallAt (c_X6_recallAt l dC dI cI cL m0 m1 m2 m3 m4 m5 m6 m7 m8 m9 m10 m11 m12 bm ty sp fa fp kn lf yo ol un hh dr P gz d i j a b 2 (by omega) (by omega) (by omega) (by omega) (by omega) (by omega) (by omega) hPI hG) qm_X6_162 (kpV (ci := 6) hK hP hZ hS [0, 1, 2] [0, 1] rfl rfl 0 rfl rfl rfl) rfl hl.1 rfl (Nat.le_of_ble_eq_true rfl) dX6_bestAt_32 ⟨Nat.le_of_ble_eq_true rfl, Nat.le_of_ble_eq_true rfl⟩ ⟨Nat.zero_le _, Nat.zero_le _⟩ (fun r32_1 hr32_1 => ?_)
          obtain rfl : r32_1 = rcW P (QV P (P 20) (P 21) d) 2 j a b := hr32_1
          by_cases hb5 : b = 5
          · refine rl_set (x' := (-1)) (by unfold rcW; rw [if_neg (by decide), if_pos hb5]) ?_
            refine lv_lstore (lv' := [(8, .long (-1)), (7, .int (nI 2)), (5, .long (lN (rcN P (QV P (P 20) (P 21) d) (P 20) j a 5))), (0, .ref m0), (1, .int (nI i)), (2, .int (nI j)), (3, .int (nI a)), (4, .int (nI b))]) hx hb dX6_bestAt_35 hl (by decide) rfl (fun ls hl => ?_)
            refine lv_lload hx hb dX6_bestAt_37 (lv_at hl 0 rfl) ?_
            refine lv_lload hx hb dX6_bestAt_39 (lv_at hl 2 rfl) ?_
            refine rl_le (tgt := 50) hx hb dX6_bestAt_41 dX6_bestAt_42 (by decide) (fun c41_1 => ?_) (fun c41_1 => ?_)
            · refine lv_lload hx hb dX6_bestAt_50 (lv_at hl 2 rfl) ?_
              refine lv_lstore (lv' := [(5, .long (lN (rcN P (QV P (P 20) (P 21) d) (P 20) j a 5))), (8, .long (-1)), (7, .int (nI 2)), (0, .ref m0), (1, .int (nI i)), (2, .int (nI j)), (3, .int (nI a)), (4, .int (nI b))]) hx hb dX6_bestAt_52 hl (by decide) rfl (fun ls hl => ?_)
              have hm2 : rcN P (QV P (P 20) (P 21) d) (P 20) j a 5 = max (rcN P (QV P (P 20) (P 21) d) (P 20) j a 5) (if b ≠ 5 then rcN P (QV P (P 20) (P 21) d) (P 21) j b a else 0) := by rw [if_neg (fun q => q hb5)]; exact (Nat.max_eq_left (Nat.zero_le _)).symm
              refine lv_iinc (v := nI 3) (lv' := [(7, .int (nI 3)), (5, .long (lN (rcN P (QV P (P 20) (P 21) d) (P 20) j a 5))), (8, .long (-1)), (0, .ref m0), (1, .int (nI i)), (2, .int (nI j)), (3, .int (nI a)), (4, .int (nI b))]) hx hb dX6_bestAt_54 hl (k := 2) rfl (by decide) (by decide) rfl (fun ls hl => ?_)
              refine lv_goto (tgt := 18) hx hb dX6_bestAt_57 (by decide) ?_
              refine lv_iload hx hb dX6_bestAt_18 (lv_at hl 0 rfl) ?_
              refine lv_iconst (v := nI 3) hx hb dX6_bestAt_20 (by decide) ?_
              refine ri_cge (tgt := 60) hx hb dX6_bestAt_21 (by decide) (by omega) (by omega) (fun c21_2 => ?_) (fun c21_2 => ?_)
              · refine lv_lload hx hb dX6_bestAt_60 (lv_at hl 1 rfl) ?_
                exact krl (v := lN (rcN P (QV P (P 20) (P 21) d) (P 20) j a 5)) Y hr hlocks (congrArg lN (SV_fin h3 hm1 hm2)) dX6_bestAt_62
              · exact absurd c21_2 (by decide)
            · exact absurd (m1_le (by omega)) c41_1
          · refine rl_set (x' := lN (rcN P (QV P (P 20) (P 21) d) (P 21) j b a)) (by unfold rcW; rw [if_neg (by decide), if_neg hb5]) ?_
            have hrbb := rcN_b hPI (c1 := P 20) (c2 := P 21) (d := d) (c := P 21) (j := j) (x := b) (y := a) hc1 hc2 (by omega) h3 h4 (by omega) (by omega)
            refine lv_lstore (lv' := [(8, .long (lN (rcN P (QV P (P 20) (P 21) d) (P 21) j b a))), (7, .int (nI 2)), (5, .long (lN (rcN P (QV P (P 20) (P 21) d) (P 20) j a 5))), (0, .ref m0), (1, .int (nI i)), (2, .int (nI j)), (3, .int (nI a)), (4, .int (nI b))]) hx hb dX6_bestAt_35 hl (by decide) rfl (fun ls hl => ?_)
            refine lv_lload hx hb dX6_bestAt_37 (lv_at hl 0 rfl) ?_
            refine lv_lload hx hb dX6_bestAt_39 (lv_at hl 2 rfl) ?_
            refine rl_len (tgt := 50) hx hb dX6_bestAt_41 dX6_bestAt_42 (by decide) (by omega) (by omega) (fun c41_1 => ?_) (fun c41_1 => ?_)
            · refine lv_lload hx hb dX6_bestAt_50 (lv_at hl 2 rfl) ?_
              refine lv_lstore (lv' := [(5, .long (lN (rcN P (QV P (P 20) (P 21) d) (P 20) j a 5))), (8, .long (lN (rcN P (QV P (P 20) (P 21) d) (P 21) j b a))), (7, .int (nI 2)), (0, .ref m0), (1, .int (nI i)), (2, .int (nI j)), (3, .int (nI a)), (4, .int (nI b))]) hx hb dX6_bestAt_52 hl (by decide) rfl (fun ls hl => ?_)
              have hm2 : rcN P (QV P (P 20) (P 21) d) (P 20) j a 5 = max (rcN P (QV P (P 20) (P 21) d) (P 20) j a 5) (if b ≠ 5 then rcN P (QV P (P 20) (P 21) d) (P 21) j b a else 0) := by rw [if_pos hb5]; exact (Nat.max_eq_left c41_1).symm
              refine lv_iinc (v := nI 3) (lv' := [(7, .int (nI 3)), (5, .long (lN (rcN P (QV P (P 20) (P 21) d) (P 20) j a 5))), (8, .long (lN (rcN P (QV P (P 20) (P 21) d) (P 21) j b a))), (0, .ref m0), (1, .int (nI i)), (2, .int (nI j)), (3, .int (nI a)), (4, .int (nI b))]) hx hb dX6_bestAt_54 hl (k := 2) rfl (by decide) (by decide) rfl (fun ls hl => ?_)
              refine lv_goto (tgt := 18) hx hb dX6_bestAt_57 (by decide) ?_
              refine lv_iload hx hb dX6_bestAt_18 (lv_at hl 0 rfl) ?_
              refine lv_iconst (v := nI 3) hx hb dX6_bestAt_20 (by decide) ?_
              refine ri_cge (tgt := 60) hx hb dX6_bestAt_21 (by decide) (by omega) (by omega) (fun c21_2 => ?_) (fun c21_2 => ?_)
              · refine lv_lload hx hb dX6_bestAt_60 (lv_at hl 1 rfl) ?_
                exact krl (v := lN (rcN P (QV P (P 20) (P 21) d) (P 20) j a 5)) Y hr hlocks (congrArg lN (SV_fin h3 hm1 hm2)) dX6_bestAt_62
              · exact absurd c21_2 (by decide)
            · refine lv_lload hx hb dX6_bestAt_45 (lv_at hl 0 rfl) ?_
              refine lv_goto (tgt := 52) hx hb dX6_bestAt_47 (by decide) ?_
              refine lv_lstore (lv' := [(5, .long (lN (rcN P (QV P (P 20) (P 21) d) (P 21) j b a))), (8, .long (lN (rcN P (QV P (P 20) (P 21) d) (P 21) j b a))), (7, .int (nI 2)), (0, .ref m0), (1, .int (nI i)), (2, .int (nI j)), (3, .int (nI a)), (4, .int (nI b))]) hx hb dX6_bestAt_52 hl (by decide) rfl (fun ls hl => ?_)
              have hm2 : rcN P (QV P (P 20) (P 21) d) (P 21) j b a = max (rcN P (QV P (P 20) (P 21) d) (P 20) j a 5) (if b ≠ 5 then rcN P (QV P (P 20) (P 21) d) (P 21) j b a else 0) := by rw [if_pos hb5]; exact (Nat.max_eq_right (Nat.le_of_lt c41_1)).symm
              refine lv_iinc (v := nI 3) (lv' := [(7, .int (nI 3)), (5, .long (lN (rcN P (QV P (P 20) (P 21) d) (P 21) j b a))), (8, .long (lN (rcN P (QV P (P 20) (P 21) d) (P 21) j b a))), (0, .ref m0), (1, .int (nI i)), (2, .int (nI j)), (3, .int (nI a)), (4, .int (nI b))]) hx hb dX6_bestAt_54 hl (k := 2) rfl (by decide) (by decide) rfl (fun ls hl => ?_)
              refine lv_goto (tgt := 18) hx hb dX6_bestAt_57 (by decide) ?_
              refine lv_iload hx hb dX6_bestAt_18 (lv_at hl 0 rfl) ?_
              refine lv_iconst (v := nI 3) hx hb dX6_bestAt_20 (by decide) ?_
              refine ri_cge (tgt := 60) hx hb dX6_bestAt_21 (by decide) (by omega) (by omega) (fun c21_2 => ?_) (fun c21_2 => ?_)
              · refine lv_lload hx hb dX6_bestAt_60 (lv_at hl 1 rfl) ?_
                exact krl (v := lN (rcN P (QV P (P 20) (P 21) d) (P 21) j b a)) Y hr hlocks (congrArg lN (SV_fin h3 hm1 hm2)) dX6_bestAt_62
              · exact absurd c21_2 (by decide)
