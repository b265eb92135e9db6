set_option maxHeartbeats 4000000 in
set_option maxRecDepth 100000 in
theorem c_X6_drawnAt (l : Launch) (dC : Nat → ClassId) (dI : Nat → Nat → Nat) (cI cL : ClassId) (m0 m1 m2 m3 m4 m5 m6 m7 m8 m9 m10 m11 m12 : Nat) (bm ty sp fa fp kn lf yo ol : Nat) (un hh : Int64) (dr : Int32) (P sy : Nat → Nat) (d i j a : Nat) (h1 : 1 ≤ i) (h2 : i ≤ 7) (h3 : 1 ≤ j) (h4 : j ≤ 3) (h5 : a ≤ 5) (hPI : PI P) (hSv : ∀ x y z : Nat, x ≤ j → j ≤ x + 1 → y ≤ 5 → z ≤ 5 → sy (pB (i + 1) x y z) = SV P (P 20) (P 21) d x y z) : Met l yX6_drawnAt (kw yX6_drawnAt cX6_drawnAt 11 (some .long)) (kR 1 23) (kPr (dC, dI) [.ref m0, .int (nI i), .int (nI j), .int (nI a)] [(m0, .inr (6, [.ref m1, .ref m2, .int (nI bm), .long un, .ref m3, .int (nI ty), .ref m4, .int (nI sp), .int (nI fa), .int (nI fp), .int (nI kn), .ref m5, .ref m6, .ref m7, .ref m8, .ref m9, .int dr, .ref m10, .ref m11, .int (nI lf), .int (nI yo), .int (nI ol), .ref m12, .long hh])), (m1, .inl (cI, 22, .inl (fun zz => nI (P zz)))), (m7, .inl (cL, 1152, .inr (.inl (fun zz => lN (sy zz)))))] [(cI, .int), (cL, .long)]) (vp_Sl (fun res : Int64 => res = lN (DMs P (SV P (P 20) (P 21) d) j a 5 / 10))) 0 0 kNo := by
  refine kmet (by decide) ?_
  intro p e s m args below meth c Y hr hlocks hin hv
  obtain ⟨rfl, hP, hK, hZ⟩ := kinR hv
  have hS : va_S kNo s.heap s.heap [] := va_S.rf
  have hx := Y.1
  have hb := Y.2.1
  have hml := Y.2.2.1
  have hown := Y.2.2.2.1
  have hts := Y.2.2.2.2
  have hl := lv_entry ([.ref m0, .int (nI i), .int (nI j), .int (nI a)]) (n := 11) (Nat.le_of_ble_eq_true rfl)
  rw [lg_entry_eq]
  generalize (lg_sl ([.ref m0, .int (nI i), .int (nI j), .int (nI a)]) ++ List.replicate (11 - (lg_sl ([.ref m0, .int (nI i), .int (nI j), .int (nI a)])).length) Slot.unset).toArray = ls at hl ⊢
  have hl : lv_has ls 11 [(0, .ref m0), (1, .int (nI i)), (2, .int (nI j)), (3, .int (nI a))] := hl
  have hp0 := hPI.1
  have hp1 := hPI.2.1
  have hp2 := hPI.2.2.1
  have hc1 := hPI.2.2.2.2.2.2.1
  have hc2 := hPI.2.2.2.2.2.2.2
  refine lv_lconst (v := lN 0) hx hb dX6_drawnAt_0 rfl ?_
  refine lv_lstore (lv' := [(4, .long (lN 0)), (0, .ref m0), (1, .int (nI i)), (2, .int (nI j)), (3, .int (nI a))]) hx hb dX6_drawnAt_1 hl (by decide) rfl (fun ls hl => ?_)
  refine lv_iconst (v := nI 0) hx hb dX6_drawnAt_3 (by decide) ?_
  refine lv_istore (lv' := [(6, .int (nI 0)), (4, .long (lN 0)), (0, .ref m0), (1, .int (nI i)), (2, .int (nI j)), (3, .int (nI a))]) hx hb dX6_drawnAt_4 hl (by decide) rfl (fun ls hl => ?_)
  refine wr2 (fun (t : Nat) (sm : Nat) => 5 - t) (fun (t : Nat) (sm : Nat) (ls : Array Slot) => lv_has ls 11 [(0, .ref m0), (1, .int (nI i)), (2, .int (nI j)), (3, .int (nI a)), (4, .long (lN sm)), (6, .int (nI t))] ∧ (t ≤ 5 ∧ sm = DMs P (SV P (P 20) (P 21) d) j a t)) 0 0 (by exact ⟨lv_sub hl [2, 3, 4, 5, 1, 0] rfl, ⟨by omega, rfl⟩⟩) (fun t sm ls hI ih => ?_)
  obtain ⟨hl, ht, hsm⟩ := hI
  have ih6 := ih
  refine lv_iload hx hb dX6_drawnAt_6 (lv_at hl 5 rfl) ?_
  refine lv_iconst (v := nI 5) hx hb dX6_drawnAt_8 (by decide) ?_
  refine ri_cge (tgt := 97) hx hb dX6_drawnAt_9 (by decide) (by omega) (by omega) (fun c9 => ?_) (fun c9 => ?_)
  · refine lv_lload hx hb dX6_drawnAt_97 (lv_at hl 4 rfl) ?_
    refine lv_ldc2 (v := lN 10) hx hb hown (hts _ ql_X6_152) dX6_drawnAt_99 ?_
    refine rl_divn hx hb dX6_drawnAt_102 (by rw [hsm, show t = 5 by omega]; exact Nat.lt_of_le_of_lt (DMs_b hPI hc1 hc2 h3 h4 h5) (Nat.le_of_ble_eq_true rfl)) (by decide) (by decide) ?_
    exact krl (v := lN (sm / 10)) Y hr hlocks (congrArg lN (by rw [hsm, show t = 5 by omega])) dX6_drawnAt_103
  · have ht1 := hSv (j - 1) 5 a (by omega) (by omega) (by omega) h5
    have ht2 := hSv j t a (by omega) (by omega) (by omega) h5
    have hpa := hPI.le (k := 10 + t) (by omega)
    have hpb := hPI.le (k := 15 + t) (by omega)
    have hb1 := Nat.le_trans (scB hPI (j := j) (l := 10 + t) (by omega) (by omega) (SV_le hPI hc1 hc2 d (j := j - 1) (a := 5) (b := a) (by omega) h5)) (B3 h4)
    rw [← ht1] at hb1
    have hb2 := Nat.le_trans (SV_le hPI hc1 hc2 d (j := j) (a := t) (b := a) (by omega) h5) (B3 h4)
    rw [← ht2] at hb2
    refine lv_aload_n hx hb dX6_drawnAt_12 rfl (lv_at hl 0 rfl) ?_
    refine lv_iload hx hb dX6_drawnAt_13 (lv_at hl 5 rfl) ?_
    refine kVi (As := [.int (nI t)]) (rest := []) Y m_X6_valueOf (c_X6_valueOf l dC dI cI cL m0 m1 m2 m3 m4 m5 m6 m7 m8 m9 m10 m11 m12 bm ty sp fa fp kn lf yo ol un hh dr P t (by omega)) qm_X6_143 (kpV (ci := 6) hK hP hZ hS [0, 1] [0] rfl rfl 0 rfl rfl rfl) rfl hl.1 rfl (Nat.le_of_ble_eq_true rfl) dX6_drawnAt_15 ⟨Nat.le_of_ble_eq_true rfl, Nat.le_of_ble_eq_true rfl⟩ ⟨Nat.zero_le _, Nat.zero_le _⟩ (fun r15 hr15 => ?_)
    obtain rfl : r15 = nI (P (10 + t)) := hr15
    refine ri_i2l hx hb dX6_drawnAt_18 (by omega) ?_
    refine lv_ldc2 (v := lN 1000000000000000) hx hb hown (hts _ ql_X6_146) dX6_drawnAt_19 ?_
    refine rl_muln hx hb dX6_drawnAt_22 ?_
    refine lv_aload_n hx hb dX6_drawnAt_23 rfl (lv_at hl 0 rfl) ?_
    refine va_get (D := (dC, dI)) (ci := 6) (v := .ref m7) (C := RX6) (T := TX6) (N := 24) hx hb hts inlX6 hown hK hP 0 rfl rfl 13 (by decide) (hts _ qf_X6_33) (fun _ h9 => h9) rfl dX6_drawnAt_24 ?_
    refine lv_iload_n hx hb dX6_drawnAt_27 rfl (lv_at hl 1 rfl) ?_
    refine lv_iconst (v := nI 1) hx hb dX6_drawnAt_28 (by decide) ?_
    refine ri_add hx hb dX6_drawnAt_29 ?_
    refine lv_iload_n hx hb dX6_drawnAt_30 rfl (lv_at hl 2 rfl) ?_
    refine lv_iconst (v := nI 1) hx hb dX6_drawnAt_31 (by decide) ?_
    refine ri_sub hx hb dX6_drawnAt_32 (by omega) ?_
    refine lv_iconst (v := nI 5) hx hb dX6_drawnAt_33 (by decide) ?_
    refine lv_iload_n hx hb dX6_drawnAt_34 rfl (lv_at hl 3 rfl) ?_
    refine kSi (As := [.int (nI (i + 1)), .int (nI (j - 1)), .int (nI 5), .int (nI a)]) (rest := [.ref m7, .long (lN ((P (10 + t)) * 1000000000000000))]) Y m_X6_spotOf (c_X6_spotOf l dC dI (i + 1) (j - 1) 5 a (by omega)) qm_X6_148 (kpS hK hP hZ hS [] [] rfl rfl) rfl hl.1 rfl (Nat.le_of_ble_eq_true rfl) dX6_drawnAt_35 ⟨Nat.le_of_ble_eq_true rfl, Nat.le_of_ble_eq_true rfl⟩ ⟨Nat.zero_le _, Nat.zero_le _⟩ (fun r35 hr35 => ?_)
    obtain rfl : r35 = nI (pB (i + 1) (j - 1) 5 a) := hr35
    refine rm_ald hx hb hK hP 2 1 (F := sy) rfl rfl dX6_drawnAt_38 (by decide) (pB_lt (by omega) (by omega) (by omega) (by omega)) ?_
    refine rl_addn hx hb dX6_drawnAt_39 ?_
    refine lv_lstore (lv' := [(7, .long (lN (((P (10 + t)) * 1000000000000000) + (sy (pB (i + 1) (j - 1) 5 a))))), (0, .ref m0), (1, .int (nI i)), (2, .int (nI j)), (3, .int (nI a)), (4, .long (lN sm)), (6, .int (nI t))]) hx hb dX6_drawnAt_40 hl (by decide) rfl (fun ls hl => ?_)
    refine lv_aload_n hx hb dX6_drawnAt_42 rfl (lv_at hl 1 rfl) ?_
    refine va_get (D := (dC, dI)) (ci := 6) (v := .ref m7) (C := RX6) (T := TX6) (N := 24) hx hb hts inlX6 hown hK hP 0 rfl rfl 13 (by decide) (hts _ qf_X6_33) (fun _ h9 => h9) rfl dX6_drawnAt_43 ?_
    refine lv_iload_n hx hb dX6_drawnAt_46 rfl (lv_at hl 2 rfl) ?_
    refine lv_iconst (v := nI 1) hx hb dX6_drawnAt_47 (by decide) ?_
    refine ri_add hx hb dX6_drawnAt_48 ?_
    refine lv_iload_n hx hb dX6_drawnAt_49 rfl (lv_at hl 3 rfl) ?_
    refine lv_iload hx hb dX6_drawnAt_50 (lv_at hl 6 rfl) ?_
    refine lv_iload_n hx hb dX6_drawnAt_52 rfl (lv_at hl 4 rfl) ?_
    refine kSi (As := [.int (nI (i + 1)), .int (nI j), .int (nI t), .int (nI a)]) (rest := [.ref m7]) Y m_X6_spotOf (c_X6_spotOf l dC dI (i + 1) j t a (by omega)) qm_X6_148 (kpS hK hP hZ hS [] [] rfl rfl) rfl hl.1 rfl (Nat.le_of_ble_eq_true rfl) dX6_drawnAt_53 ⟨Nat.le_of_ble_eq_true rfl, Nat.le_of_ble_eq_true rfl⟩ ⟨Nat.zero_le _, Nat.zero_le _⟩ (fun r53 hr53 => ?_)
    obtain rfl : r53 = nI (pB (i + 1) j t a) := hr53
    refine rm_ald hx hb hK hP 2 1 (F := sy) rfl rfl dX6_drawnAt_56 (by decide) (pB_lt (by omega) (by omega) (by omega) (by omega)) ?_
    refine lv_lstore (lv' := [(9, .long (lN (sy (pB (i + 1) j t a)))), (7, .long (lN (((P (10 + t)) * 1000000000000000) + (sy (pB (i + 1) (j - 1) 5 a))))), (0, .ref m0), (1, .int (nI i)), (2, .int (nI j)), (3, .int (nI a)), (4, .long (lN sm)), (6, .int (nI t))]) hx hb dX6_drawnAt_57 hl (by decide) rfl (fun ls hl => ?_)
    refine lv_lload hx hb dX6_drawnAt_59 (lv_at hl 6 rfl) ?_
    refine lv_aload_n hx hb dX6_drawnAt_61 rfl (lv_at hl 2 rfl) ?_
    refine va_get (D := (dC, dI)) (ci := 6) (v := .ref m1) (C := RX6) (T := TX6) (N := 24) hx hb hts inlX6 hown hK hP 0 rfl rfl 0 (by decide) (hts _ qf_X6_7) (fun _ h9 => h9) rfl dX6_drawnAt_62 ?_
    refine lv_bipush (v := nI 15) hx hb dX6_drawnAt_65 (by decide) ?_
    refine lv_iload hx hb dX6_drawnAt_67 (lv_at hl 7 rfl) ?_
    refine ri_add hx hb dX6_drawnAt_69 ?_
    refine ri_ald hx hb hK hP 1 0 (F := P) rfl rfl dX6_drawnAt_70 (by decide) (by omega) ?_
    refine ri_i2l hx hb dX6_drawnAt_71 (by omega) ?_
    refine lv_lload hx hb dX6_drawnAt_72 (lv_at hl 1 rfl) ?_
    refine lv_lload hx hb dX6_drawnAt_74 (lv_at hl 0 rfl) ?_
    refine rl_len (tgt := 85) hx hb dX6_drawnAt_76 dX6_drawnAt_77 (by decide) (Nat.lt_of_le_of_lt hb1 (Nat.le_of_ble_eq_true rfl)) (Nat.lt_of_le_of_lt hb2 (Nat.le_of_ble_eq_true rfl)) (fun c76 => ?_) (fun c76 => ?_)
    · refine lv_lload hx hb dX6_drawnAt_85 (lv_at hl 0 rfl) ?_
      refine rl_muln hx hb dX6_drawnAt_87 ?_
      refine rl_addn hx hb dX6_drawnAt_88 ?_
      refine lv_lstore (lv' := [(4, .long (lN (sm + ((P (15 + t)) * (sy (pB (i + 1) j t a)))))), (9, .long (lN (sy (pB (i + 1) j t a)))), (7, .long (lN (((P (10 + t)) * 1000000000000000) + (sy (pB (i + 1) (j - 1) 5 a))))), (0, .ref m0), (1, .int (nI i)), (2, .int (nI j)), (3, .int (nI a)), (6, .int (nI t))]) hx hb dX6_drawnAt_89 hl (by decide) rfl (fun ls hl => ?_)
      refine lv_iinc (v := nI (t + 1)) (lv' := [(6, .int (nI (t + 1))), (4, .long (lN (sm + ((P (15 + t)) * (sy (pB (i + 1) j t a)))))), (9, .long (lN (sy (pB (i + 1) j t a)))), (7, .long (lN (((P (10 + t)) * 1000000000000000) + (sy (pB (i + 1) (j - 1) 5 a))))), (0, .ref m0), (1, .int (nI i)), (2, .int (nI j)), (3, .int (nI a))]) hx hb dX6_drawnAt_91 hl (k := 7) rfl (inc1 _) (by decide) rfl (fun ls hl => ?_)
      refine lv_goto (tgt := 6) hx hb dX6_drawnAt_94 (by decide) ?_
      exact ih6 (t + 1) (sm + ((P (15 + t)) * (sy (pB (i + 1) j t a)))) _ (by show _ < _; omega) (by exact ⟨lv_sub hl [4, 5, 6, 7, 1, 0] rfl, ⟨by omega, DMs_s hsm (by rw [← ht1, ← ht2]; exact (Nat.max_eq_left c76).symm)⟩⟩)
    · refine lv_lload hx hb dX6_drawnAt_80 (lv_at hl 1 rfl) ?_
      refine lv_goto (tgt := 87) hx hb dX6_drawnAt_82 (by decide) ?_
      refine rl_muln hx hb dX6_drawnAt_87 ?_
      refine rl_addn hx hb dX6_drawnAt_88 ?_
      refine lv_lstore (lv' := [(4, .long (lN (sm + ((P (15 + t)) * (((P (10 + t)) * 1000000000000000) + (sy (pB (i + 1) (j - 1) 5 a))))))), (9, .long (lN (sy (pB (i + 1) j t a)))), (7, .long (lN (((P (10 + t)) * 1000000000000000) + (sy (pB (i + 1) (j - 1) 5 a))))), (0, .ref m0), (1, .int (nI i)), (2, .int (nI j)), (3, .int (nI a)), (6, .int (nI t))]) hx hb dX6_drawnAt_89 hl (by decide) rfl (fun ls hl => ?_)
      refine lv_iinc (v := nI (t + 1)) (lv' := [(6, .int (nI (t + 1))), (4, .long (lN (sm + ((P (15 + t)) * (((P (10 + t)) * 1000000000000000) + (sy (pB (i + 1) (j - 1) 5 a))))))), (9, .long (lN (sy (pB (i + 1) j t a)))), (7, .long (lN (((P (10 + t)) * 1000000000000000) + (sy (pB (i + 1) (j - 1) 5 a))))), (0, .ref m0), (1, .int (nI i)), (2, .int (nI j)), (3, .int (nI a))]) hx hb dX6_drawnAt_91 hl (k := 7) rfl (inc1 _) (by decide) rfl (fun ls hl => ?_)
      refine lv_goto (tgt := 6) hx hb dX6_drawnAt_94 (by decide) ?_
      exact ih6 (t + 1) (sm + ((P (15 + t)) * (((P (10 + t)) * 1000000000000000) + (sy (pB (i + 1) (j - 1) 5 a))))) _ (by show _ < _; omega) (by exact ⟨lv_sub hl [4, 5, 6, 7, 1, 0] rfl, ⟨by omega, DMs_s hsm (by rw [← ht1, ← ht2]; exact (Nat.max_eq_right (Nat.le_of_lt c76)).symm)⟩⟩)
