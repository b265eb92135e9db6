/-- the model's tables of the value problem -/
def rcN (P : Nat → Nat) (q : Nat → Nat → Nat) (c j x y : Nat) : Nat := ((c * (P (10 + x) * 1000000000000000 + q (j - 1) y)) + ((10 - c) * q j y)) / 10
def rcW (P : Nat → Nat) (q : Nat → Nat → Nat) (w j a b : Nat) : Int64 := if w = 1 then (if a = 5 then -1 else lN (rcN P q (P 20) j a 5)) else (if b = 5 then -1 else lN (rcN P q (P 21) j b a))
theorem rc_bb {P : Nat → Nat} (h : PI P) {c1 c2 d c j x y : Nat} (h1 : c1 ≤ 10) (h2 : c2 ≤ 10) (hc : c ≤ 10) (hj : 1 ≤ j) (hj3 : j ≤ 3) (hx : x < 5) (hy : y ≤ 5) : (c * (P (10 + x) * 1000000000000000 + QV P c1 c2 d (j - 1) y)) + ((10 - c) * QV P c1 c2 d j y) ≤ 2970000000000000000 := by
  have a := QS_le h h1 h2 d j y hy
  have b := QS_le h h1 h2 d (j - 1) y hy
  have e := scB h (j := j) (l := 10 + x) (by omega) (by omega) b
  have r := rec_b hc e a
  have z := B3 hj3
  exact Nat.le_trans r (Nat.le_trans (Nat.mul_le_mul_left 10 z) (Nat.le_of_ble_eq_true rfl))
theorem m1_le {n : Nat} (h : n < 4611686018427387904) : (-1 : Int64) ≤ lN n := by
  rw [lN_iN, show (-1 : Int64) = iN (-1) from rfl, iN_le (by omega) (by omega) (by omega) (by omega)]
  omega
theorem rcN_b {P : Nat → Nat} (h : PI P) {c1 c2 d c j x y : Nat} (h1 : c1 ≤ 10) (h2 : c2 ≤ 10) (hc : c ≤ 10) (hj : 1 ≤ j) (hj3 : j ≤ 3) (hx : x < 5) (hy : y ≤ 5) : rcN P (QV P c1 c2 d) c j x y ≤ 297000000000000000 :=
  Nat.div_le_of_le_mul (Nat.le_trans (rc_bb h h1 h2 hc hj hj3 hx hy) (Nat.le_of_ble_eq_true rfl))
theorem SV_fin {P : Nat → Nat} {c1 c2 d j a b m v : Nat} (hj : 1 ≤ j) (hm : m = if a ≠ 5 then max (QV P c1 c2 d j a) (rcN P (QV P c1 c2 d) c1 j a 5) else QV P c1 c2 d j a) (hv : v = max m (if b ≠ 5 then rcN P (QV P c1 c2 d) c2 j b a else 0)) : v = SV P c1 c2 d j a b := by
  rw [hv, hm]
  exact (if_neg (show ¬ j = 0 by omega)).symm
def DMs (P : Nat → Nat) (sv : Nat → Nat → Nat → Nat) (j a k : Nat) : Nat := sgN (fun l => P (15 + l) * max (sv j l a) (P (10 + l) * 1000000000000000 + sv (j - 1) 5 a)) k
theorem DMs_s {P : Nat → Nat} {sv : Nat → Nat → Nat → Nat} {j a l sm x : Nat} (hs : sm = DMs P sv j a l) (hx : x = max (sv j l a) (P (10 + l) * 1000000000000000 + sv (j - 1) 5 a)) : sm + P (15 + l) * x = DMs P sv j a (l + 1) := by rw [hs, hx]; rfl
theorem DMs_b {P : Nat → Nat} (h : PI P) {c1 c2 d j a : Nat} (h1 : c1 ≤ 10) (h2 : c2 ≤ 10) (hj : 1 ≤ j) (hj3 : j ≤ 3) (ha : a ≤ 5) : DMs P (SV P c1 c2 d) j a 5 ≤ 2970000000000000000 := by
  have z := B3 hj3
  have e : ∀ t, t < 5 → P (15 + t) * max (SV P c1 c2 d j t a) (P (10 + t) * 1000000000000000 + SV P c1 c2 d (j - 1) 5 a) ≤ 297000000000000000 * P (15 + t) := fun t ht => by
    rw [Nat.mul_comm]
    refine Nat.mul_le_mul_right _ (Nat.max_le.mpr ⟨?_, ?_⟩)
    · exact Nat.le_trans (SV_le h h1 h2 d (by omega) ha) z
    · exact Nat.le_trans (scB h (j := j) (l := 10 + t) (by omega) (by omega) (SV_le h h1 h2 d (j := j - 1) (a := 5) (b := a) (by omega) ha)) z
  have r := sgN_le (M := 297000000000000000) (g := fun t => P (15 + t)) (N := 5) e
  rw [PI.w5 h] at r
  exact Nat.le_trans r (Nat.le_of_ble_eq_true rfl)
def QG (P : Nat → Nat) (c1 c2 : Nat) (d j a _b : Nat) : Nat := QV P c1 c2 d j a
def MZ (P sy gz : Nat → Nat) : Prop := TB (P 0) (SV P (P 20) (P 21)) sy 0 0 ∧ TB (P 0) (QG P (P 20) (P 21)) gz 0 0

set_option maxHeartbeats 4000000 in
set_option maxRecDepth 100000 in
theorem c_X6_recallAt (l : Launch) (dC : Nat → ClassId) (dI : Nat → Nat → Nat) (cI cL : ClassId) (m0 m1 m2 m3 m4 m5 m6 m7 m8 m9 m10 m11 m12 : Nat) (bm ty sp fa fp kn lf yo ol : Nat) (un hh : Int64) (dr : Int32) (P gz : Nat → Nat) (d i j a b w : Nat) (h1 : 1 ≤ i) (h2 : i ≤ 8) (h3 : 1 ≤ j) (h4 : j ≤ 3) (h5 : a ≤ 5) (h6 : b ≤ 5) (hw : w = 1 ∨ w = 2) (hPI : PI P) (hG : ∀ x y z : Nat, x ≤ j → j ≤ x + 1 → y ≤ 5 → z ≤ 5 → gz (pB i x y z) = QV P (P 20) (P 21) d x y) : Met l yX6_recallAt (kw yX6_recallAt cX6_recallAt 11 (some .long)) (kR 1 23) (kPr (dC, dI) [.ref m0, .int (nI i), .int (nI j), .int (nI a), .int (nI b), .int (nI w)] [(m0, .inr (6, [.ref m1, .ref m2, .int (nI bm), .long un, .ref m3, .int (nI ty), .ref m4, .int (nI sp), .int (nI fa), .int (nI fp), .int (nI kn), .ref m5, .ref m6, .ref m7, .ref m8, .ref m9, .int dr, .ref m10, .ref m11, .int (nI lf), .int (nI yo), .int (nI ol), .ref m12, .long hh])), (m1, .inl (cI, 22, .inl (fun zz => nI (P zz)))), (m8, .inl (cL, 1152, .inr (.inl (fun zz => lN (gz zz)))))] [(cI, .int), (cL, .long)]) (vp_Sl (fun res : Int64 => res = rcW P (QV P (P 20) (P 21) d) w j a b)) 0 0 kNo := by
  refine kmet (by decide) ?_
  intro p e s m args below meth c Y hr hlocks hin hv
  obtain ⟨rfl, hP, hK, hZ⟩ := kinR hv
  have hS : va_S kNo s.heap s.heap [] := va_S.rf
  have hx := Y.1
  have hb := Y.2.1
  have hml := Y.2.2.1
  have hown := Y.2.2.2.1
  have hts := Y.2.2.2.2
  have hl := lv_entry ([.ref m0, .int (nI i), .int (nI j), .int (nI a), .int (nI b), .int (nI w)]) (n := 11) (Nat.le_of_ble_eq_true rfl)
  rw [lg_entry_eq]
  generalize (lg_sl ([.ref m0, .int (nI i), .int (nI j), .int (nI a), .int (nI b), .int (nI w)]) ++ List.replicate (11 - (lg_sl ([.ref m0, .int (nI i), .int (nI j), .int (nI a), .int (nI b), .int (nI w)])).length) Slot.unset).toArray = ls at hl ⊢
  have hl : lv_has ls 11 [(0, .ref m0), (1, .int (nI i)), (2, .int (nI j)), (3, .int (nI a)), (4, .int (nI b)), (5, .int (nI w))] := hl
  have hp0 := hPI.1
  have hp1 := hPI.2.1
  have hp2 := hPI.2.2.1
  have hc1 := hPI.2.2.2.2.2.2.1
  have hc2 := hPI.2.2.2.2.2.2.2
  have hc1' : P (20 + 1 - 1) ≤ 10 := hc1
  have hc2' : P (20 + 2 - 1) ≤ 10 := hc2
  rcases hw with rfl | rfl
  · refine lv_iload hx hb dX6_recallAt_0 (lv_at hl 5 rfl) ?_
    refine lv_iconst (v := nI 1) hx hb dX6_recallAt_2 (by decide) ?_
    refine ri_cne (tgt := 10) hx hb dX6_recallAt_3 (by decide) (by omega) (by omega) (fun c3 => ?_) (fun c3 => ?_)
    · exact absurd c3 (by decide)
    · refine lv_iload_n hx hb dX6_recallAt_6 rfl (lv_at hl 3 rfl) ?_
      refine lv_goto (tgt := 12) hx hb dX6_recallAt_7 (by decide) ?_
      refine lv_istore (lv' := [(6, .int (nI a)), (0, .ref m0), (1, .int (nI i)), (2, .int (nI j)), (3, .int (nI a)), (4, .int (nI b)), (5, .int (nI 1))]) hx hb dX6_recallAt_12 hl (by decide) rfl (fun ls hl => ?_)
      refine lv_iload hx hb dX6_recallAt_14 (lv_at hl 0 rfl) ?_
      refine lv_iconst (v := nI 5) hx hb dX6_recallAt_16 (by decide) ?_
      refine ri_cne (tgt := 24) hx hb dX6_recallAt_17 (by decide) (by omega) (by omega) (fun c17 => ?_) (fun c17 => ?_)
      · refine lv_iload hx hb dX6_recallAt_24 (lv_at hl 6 rfl) ?_
        refine lv_iconst (v := nI 1) hx hb dX6_recallAt_26 (by decide) ?_
        refine ri_cne (tgt := 34) hx hb dX6_recallAt_27 (by decide) (by omega) (by omega) (fun c27 => ?_) (fun c27 => ?_)
        · exact absurd c27 (by decide)
        · refine lv_iconst (v := nI 5) hx hb dX6_recallAt_30 (by decide) ?_
          refine lv_goto (tgt := 35) hx hb dX6_recallAt_31 (by decide) ?_
          refine lv_istore (lv' := [(7, .int (nI 5)), (6, .int (nI a)), (0, .ref m0), (1, .int (nI i)), (2, .int (nI j)), (3, .int (nI a)), (4, .int (nI b)), (5, .int (nI 1))]) hx hb dX6_recallAt_35 hl (by decide) rfl (fun ls hl => ?_)
          refine lv_iload hx hb dX6_recallAt_37 (lv_at hl 7 rfl) ?_
          refine lv_iconst (v := nI 2) hx hb dX6_recallAt_39 (by decide) ?_
          refine ri_cne (tgt := 47) hx hb dX6_recallAt_40 (by decide) (by omega) (by omega) (fun c40 => ?_) (fun c40 => ?_)
          · refine lv_iload hx hb dX6_recallAt_47 (lv_at hl 6 rfl) ?_
            refine lv_istore (lv' := [(8, .int (nI b)), (7, .int (nI 5)), (6, .int (nI a)), (0, .ref m0), (1, .int (nI i)), (2, .int (nI j)), (3, .int (nI a)), (4, .int (nI b)), (5, .int (nI 1))]) hx hb dX6_recallAt_49 hl (by decide) rfl (fun ls hl => ?_)
            refine lv_aload_n hx hb dX6_recallAt_51 rfl (lv_at hl 3 rfl) ?_
            refine va_get (D := (dC, dI)) (ci := 6) (v := .ref m1) (C := RX6) (T := TX6) (N := 24) hx hb hts inlX6 hown hK hP 0 rfl rfl 0 (by decide) (hts _ qf_X6_7) (fun _ h9 => h9) rfl dX6_recallAt_52 ?_
            refine lv_bipush (v := nI 20) hx hb dX6_recallAt_55 (by decide) ?_
            refine lv_iload hx hb dX6_recallAt_57 (lv_at hl 8 rfl) ?_
            refine ri_add hx hb dX6_recallAt_59 ?_
            refine lv_iconst (v := nI 1) hx hb dX6_recallAt_60 (by decide) ?_
            refine ri_sub hx hb dX6_recallAt_61 (by omega) ?_
            refine ri_ald hx hb hK hP 1 0 (F := P) rfl rfl dX6_recallAt_62 (by decide) (by omega) ?_
            refine ri_i2l hx hb dX6_recallAt_63 (by omega) ?_
            refine lv_lstore (lv' := [(9, .long (lN (P 20))), (8, .int (nI b)), (7, .int (nI 5)), (6, .int (nI a)), (0, .ref m0), (1, .int (nI i)), (2, .int (nI j)), (3, .int (nI a)), (4, .int (nI b)), (5, .int (nI 1))]) hx hb dX6_recallAt_64 hl (by decide) rfl (fun ls hl => ?_)
            refine lv_lload hx hb dX6_recallAt_66 (lv_at hl 0 rfl) ?_
            refine lv_aload_n hx hb dX6_recallAt_68 rfl (lv_at hl 4 rfl) ?_
            refine lv_iload hx hb dX6_recallAt_69 (lv_at hl 3 rfl) ?_
            refine kVi (As := [.int (nI a)]) (rest := [.long (lN (P 20))]) Y m_X6_valueOf (c_X6_valueOf l dC dI cI cL m0 m1 m2 m3 m4 m5 m6 m7 m8 m9 m10 m11 m12 bm ty sp fa fp kn lf yo ol un hh dr P a (by omega)) qm_X6_143 (kpV (ci := 6) hK hP hZ hS [0, 1] [0] rfl rfl 0 rfl rfl rfl) rfl hl.1 rfl (Nat.le_of_ble_eq_true rfl) dX6_recallAt_71 ⟨Nat.le_of_ble_eq_true rfl, Nat.le_of_ble_eq_true rfl⟩ ⟨Nat.zero_le _, Nat.zero_le _⟩ (fun r71 hr71 => ?_)
            obtain rfl : r71 = nI (P (10 + a)) := hr71
            have hpa := hPI.le (k := 10 + a) (by omega)
            refine ri_i2l hx hb dX6_recallAt_74 (by omega) ?_
            refine lv_ldc2 (v := lN 1000000000000000) hx hb hown (hts _ ql_X6_146) dX6_recallAt_75 ?_
            refine rl_muln hx hb dX6_recallAt_78 ?_
            refine lv_aload_n hx hb dX6_recallAt_79 rfl (lv_at hl 4 rfl) ?_
            refine va_get (D := (dC, dI)) (ci := 6) (v := .ref m8) (C := RX6) (T := TX6) (N := 24) hx hb hts inlX6 hown hK hP 0 rfl rfl 14 (by decide) (hts _ qf_X6_36) (fun _ h9 => h9) rfl dX6_recallAt_80 ?_
            refine lv_iload_n hx hb dX6_recallAt_83 rfl (lv_at hl 5 rfl) ?_
            refine lv_iload_n hx hb dX6_recallAt_84 rfl (lv_at hl 6 rfl) ?_
            refine lv_iconst (v := nI 1) hx hb dX6_recallAt_85 (by decide) ?_
            refine ri_sub hx hb dX6_recallAt_86 (by omega) ?_
            refine lv_iload hx hb dX6_recallAt_87 (lv_at hl 2 rfl) ?_
            refine lv_iload hx hb dX6_recallAt_89 (lv_at hl 1 rfl) ?_
            refine kSi (As := [.int (nI i), .int (nI (j - 1)), .int (nI 5), .int (nI b)]) (rest := [.ref m8, .long (lN ((P (10 + a)) * 1000000000000000)), .long (lN (P 20))]) Y m_X6_spotOf (c_X6_spotOf l dC dI i (j - 1) 5 b (by omega)) qm_X6_148 (kpS hK hP hZ hS [] [] rfl rfl) rfl hl.1 rfl (Nat.le_of_ble_eq_true rfl) dX6_recallAt_91 ⟨Nat.le_of_ble_eq_true rfl, Nat.le_of_ble_eq_true rfl⟩ ⟨Nat.zero_le _, Nat.zero_le _⟩ (fun r91 hr91 => ?_)
            obtain rfl : r91 = nI (pB i (j - 1) 5 b) := hr91
            refine rm_ald hx hb hK hP 2 1 (F := gz) rfl rfl dX6_recallAt_94 (by decide) (pB_lt (by omega) (by omega) (by omega) (by omega)) ?_
            refine rl_addn hx hb dX6_recallAt_95 ?_
            refine rl_muln hx hb dX6_recallAt_96 ?_
            refine lv_ldc2 (v := lN 10) hx hb hown (hts _ ql_X6_152) dX6_recallAt_97 ?_
            refine lv_lload hx hb dX6_recallAt_100 (lv_at hl 0 rfl) ?_
            refine rl_subn hx hb dX6_recallAt_102 (by omega) ?_
            refine lv_aload_n hx hb dX6_recallAt_103 rfl (lv_at hl 4 rfl) ?_
            refine va_get (D := (dC, dI)) (ci := 6) (v := .ref m8) (C := RX6) (T := TX6) (N := 24) hx hb hts inlX6 hown hK hP 0 rfl rfl 14 (by decide) (hts _ qf_X6_36) (fun _ h9 => h9) rfl dX6_recallAt_104 ?_
            refine lv_iload_n hx hb dX6_recallAt_107 rfl (lv_at hl 5 rfl) ?_
            refine lv_iload_n hx hb dX6_recallAt_108 rfl (lv_at hl 6 rfl) ?_
            refine lv_iload hx hb dX6_recallAt_109 (lv_at hl 2 rfl) ?_
            refine lv_iload hx hb dX6_recallAt_111 (lv_at hl 1 rfl) ?_
            refine kSi (As := [.int (nI i), .int (nI j), .int (nI 5), .int (nI b)]) (rest := [.ref m8, .long (lN (10 - (P 20))), .long (lN ((P 20) * (((P (10 + a)) * 1000000000000000) + (gz (pB i (j - 1) 5 b)))))]) Y m_X6_spotOf (c_X6_spotOf l dC dI i j 5 b (by omega)) qm_X6_148 (kpS hK hP hZ hS [] [] rfl rfl) rfl hl.1 rfl (Nat.le_of_ble_eq_true rfl) dX6_recallAt_113 ⟨Nat.le_of_ble_eq_true rfl, Nat.le_of_ble_eq_true rfl⟩ ⟨Nat.zero_le _, Nat.zero_le _⟩ (fun r113 hr113 => ?_)
            obtain rfl : r113 = nI (pB i j 5 b) := hr113
            refine rm_ald hx hb hK hP 2 1 (F := gz) rfl rfl dX6_recallAt_116 (by decide) (pB_lt (by omega) (by omega) (by omega) (by omega)) ?_
            refine rl_muln hx hb dX6_recallAt_117 ?_
            refine rl_addn hx hb dX6_recallAt_118 ?_
            have hbb := rc_bb hPI (d := d) (c := P 20) (j := j) (x := a) (y := 5) hc1 hc2 (by omega) h3 h4 (by omega) (by omega)
            rw [← hG (j - 1) 5 b (by omega) (by omega) (by omega) (by omega), ← hG j 5 b (by omega) (by omega) (by omega) (by omega)] at hbb
            refine lv_ldc2 (v := lN 10) hx hb hown (hts _ ql_X6_152) dX6_recallAt_119 ?_
            refine rl_divn hx hb dX6_recallAt_122 (Nat.lt_of_le_of_lt hbb (Nat.le_of_ble_eq_true rfl)) (by decide) (by decide) ?_
            exact krl (v := lN ((((P 20) * (((P (10 + a)) * 1000000000000000) + (gz (pB i (j - 1) 5 b)))) + ((10 - (P 20)) * (gz (pB i j 5 b)))) / 10)) Y hr hlocks (by unfold rcW; rw [if_pos rfl, if_neg (by omega), hG (j - 1) 5 b (by omega) (by omega) (by omega) (by omega), hG j 5 b (by omega) (by omega) (by omega) (by omega)]; rfl) dX6_recallAt_123
          · exact absurd c40 (by decide)
      · refine lv_ldc2 (v := (-1)) hx hb hown (hts _ ql_X6_141) dX6_recallAt_20 ?_
        exact krl (v := (-1)) Y hr hlocks (by unfold rcW; rw [if_pos rfl, if_pos (by omega)]) dX6_recallAt_23
  · refine lv_iload hx hb dX6_recallAt_0 (lv_at hl 5 rfl) ?_
    refine lv_iconst (v := nI 1) hx hb dX6_recallAt_2 (by decide) ?_
    refine ri_cne (tgt := 10) hx hb dX6_recallAt_3 (by decide) (by omega) (by omega) (fun c3 => ?_) (fun c3 => ?_)
    · refine lv_iload hx hb dX6_recallAt_10 (lv_at hl 4 rfl) ?_
      refine lv_istore (lv' := [(6, .int (nI b)), (0, .ref m0), (1, .int (nI i)), (2, .int (nI j)), (3, .int (nI a)), (4, .int (nI b)), (5, .int (nI 2))]) hx hb dX6_recallAt_12 hl (by decide) rfl (fun ls hl => ?_)
      refine lv_iload hx hb dX6_recallAt_14 (lv_at hl 0 rfl) ?_
      refine lv_iconst (v := nI 5) hx hb dX6_recallAt_16 (by decide) ?_
      refine ri_cne (tgt := 24) hx hb dX6_recallAt_17 (by decide) (by omega) (by omega) (fun c17 => ?_) (fun c17 => ?_)
      · refine lv_iload hx hb dX6_recallAt_24 (lv_at hl 6 rfl) ?_
        refine lv_iconst (v := nI 1) hx hb dX6_recallAt_26 (by decide) ?_
        refine ri_cne (tgt := 34) hx hb dX6_recallAt_27 (by decide) (by omega) (by omega) (fun c27 => ?_) (fun c27 => ?_)
        · refine lv_iload_n hx hb dX6_recallAt_34 rfl (lv_at hl 4 rfl) ?_
          refine lv_istore (lv' := [(7, .int (nI a)), (6, .int (nI b)), (0, .ref m0), (1, .int (nI i)), (2, .int (nI j)), (3, .int (nI a)), (4, .int (nI b)), (5, .int (nI 2))]) hx hb dX6_recallAt_35 hl (by decide) rfl (fun ls hl => ?_)
          refine lv_iload hx hb dX6_recallAt_37 (lv_at hl 7 rfl) ?_
          refine lv_iconst (v := nI 2) hx hb dX6_recallAt_39 (by decide) ?_
          refine ri_cne (tgt := 47) hx hb dX6_recallAt_40 (by decide) (by omega) (by omega) (fun c40 => ?_) (fun c40 => ?_)
          · exact absurd c40 (by decide)
          · refine lv_iconst (v := nI 5) hx hb dX6_recallAt_43 (by decide) ?_
            refine lv_goto (tgt := 49) hx hb dX6_recallAt_44 (by decide) ?_
            refine lv_istore (lv' := [(8, .int (nI 5)), (7, .int (nI a)), (6, .int (nI b)), (0, .ref m0), (1, .int (nI i)), (2, .int (nI j)), (3, .int (nI a)), (4, .int (nI b)), (5, .int (nI 2))]) hx hb dX6_recallAt_49 hl (by decide) rfl (fun ls hl => ?_)
            refine lv_aload_n hx hb dX6_recallAt_51 rfl (lv_at hl 3 rfl) ?_
            refine va_get (D := (dC, dI)) (ci := 6) (v := .ref m1) (C := RX6) (T := TX6) (N := 24) hx hb hts inlX6 hown hK hP 0 rfl rfl 0 (by decide) (hts _ qf_X6_7) (fun _ h9 => h9) rfl dX6_recallAt_52 ?_
            refine lv_bipush (v := nI 20) hx hb dX6_recallAt_55 (by decide) ?_
            refine lv_iload hx hb dX6_recallAt_57 (lv_at hl 8 rfl) ?_
            refine ri_add hx hb dX6_recallAt_59 ?_
            refine lv_iconst (v := nI 1) hx hb dX6_recallAt_60 (by decide) ?_
            refine ri_sub hx hb dX6_recallAt_61 (by omega) ?_
            refine ri_ald hx hb hK hP 1 0 (F := P) rfl rfl dX6_recallAt_62 (by decide) (by omega) ?_
            refine ri_i2l hx hb dX6_recallAt_63 (by omega) ?_
            refine lv_lstore (lv' := [(9, .long (lN (P 21))), (8, .int (nI 5)), (7, .int (nI a)), (6, .int (nI b)), (0, .ref m0), (1, .int (nI i)), (2, .int (nI j)), (3, .int (nI a)), (4, .int (nI b)), (5, .int (nI 2))]) hx hb dX6_recallAt_64 hl (by decide) rfl (fun ls hl => ?_)
            refine lv_lload hx hb dX6_recallAt_66 (lv_at hl 0 rfl) ?_
            refine lv_aload_n hx hb dX6_recallAt_68 rfl (lv_at hl 4 rfl) ?_
            refine lv_iload hx hb dX6_recallAt_69 (lv_at hl 3 rfl) ?_
            refine kVi (As := [.int (nI b)]) (rest := [.long (lN (P 21))]) Y m_X6_valueOf (c_X6_valueOf l dC dI cI cL m0 m1 m2 m3 m4 m5 m6 m7 m8 m9 m10 m11 m12 bm ty sp fa fp kn lf yo ol un hh dr P b (by omega)) qm_X6_143 (kpV (ci := 6) hK hP hZ hS [0, 1] [0] rfl rfl 0 rfl rfl rfl) rfl hl.1 rfl (Nat.le_of_ble_eq_true rfl) dX6_recallAt_71 ⟨Nat.le_of_ble_eq_true rfl, Nat.le_of_ble_eq_true rfl⟩ ⟨Nat.zero_le _, Nat.zero_le _⟩ (fun r71 hr71 => ?_)
            obtain rfl : r71 = nI (P (10 + b)) := hr71
            have hpa := hPI.le (k := 10 + b) (by omega)
            refine ri_i2l hx hb dX6_recallAt_74 (by omega) ?_
            refine lv_ldc2 (v := lN 1000000000000000) hx hb hown (hts _ ql_X6_146) dX6_recallAt_75 ?_
            refine rl_muln hx hb dX6_recallAt_78 ?_
            refine lv_aload_n hx hb dX6_recallAt_79 rfl (lv_at hl 4 rfl) ?_
            refine va_get (D := (dC, dI)) (ci := 6) (v := .ref m8) (C := RX6) (T := TX6) (N := 24) hx hb hts inlX6 hown hK hP 0 rfl rfl 14 (by decide) (hts _ qf_X6_36) (fun _ h9 => h9) rfl dX6_recallAt_80 ?_
            refine lv_iload_n hx hb dX6_recallAt_83 rfl (lv_at hl 5 rfl) ?_
            refine lv_iload_n hx hb dX6_recallAt_84 rfl (lv_at hl 6 rfl) ?_
            refine lv_iconst (v := nI 1) hx hb dX6_recallAt_85 (by decide) ?_
            refine ri_sub hx hb dX6_recallAt_86 (by omega) ?_
            refine lv_iload hx hb dX6_recallAt_87 (lv_at hl 2 rfl) ?_
            refine lv_iload hx hb dX6_recallAt_89 (lv_at hl 1 rfl) ?_
            refine kSi (As := [.int (nI i), .int (nI (j - 1)), .int (nI a), .int (nI 5)]) (rest := [.ref m8, .long (lN ((P (10 + b)) * 1000000000000000)), .long (lN (P 21))]) Y m_X6_spotOf (c_X6_spotOf l dC dI i (j - 1) a 5 (by omega)) qm_X6_148 (kpS hK hP hZ hS [] [] rfl rfl) rfl hl.1 rfl (Nat.le_of_ble_eq_true rfl) dX6_recallAt_91 ⟨Nat.le_of_ble_eq_true rfl, Nat.le_of_ble_eq_true rfl⟩ ⟨Nat.zero_le _, Nat.zero_le _⟩ (fun r91 hr91 => ?_)
            obtain rfl : r91 = nI (pB i (j - 1) a 5) := hr91
            refine rm_ald hx hb hK hP 2 1 (F := gz) rfl rfl dX6_recallAt_94 (by decide) (pB_lt (by omega) (by omega) (by omega) (by omega)) ?_
            refine rl_addn hx hb dX6_recallAt_95 ?_
            refine rl_muln hx hb dX6_recallAt_96 ?_
            refine lv_ldc2 (v := lN 10) hx hb hown (hts _ ql_X6_152) dX6_recallAt_97 ?_
            refine lv_lload hx hb dX6_recallAt_100 (lv_at hl 0 rfl) ?_
            refine rl_subn hx hb dX6_recallAt_102 (by omega) ?_
            refine lv_aload_n hx hb dX6_recallAt_103 rfl (lv_at hl 4 rfl) ?_
            refine va_get (D := (dC, dI)) (ci := 6) (v := .ref m8) (C := RX6) (T := TX6) (N := 24) hx hb hts inlX6 hown hK hP 0 rfl rfl 14 (by decide) (hts _ qf_X6_36) (fun _ h9 => h9) rfl dX6_recallAt_104 ?_
            refine lv_iload_n hx hb dX6_recallAt_107 rfl (lv_at hl 5 rfl) ?_
            refine lv_iload_n hx hb dX6_recallAt_108 rfl (lv_at hl 6 rfl) ?_
            refine lv_iload hx hb dX6_recallAt_109 (lv_at hl 2 rfl) ?_
            refine lv_iload hx hb dX6_recallAt_111 (lv_at hl 1 rfl) ?_
            refine kSi (As := [.int (nI i), .int (nI j), .int (nI a), .int (nI 5)]) (rest := [.ref m8, .long (lN (10 - (P 21))), .long (lN ((P 21) * (((P (10 + b)) * 1000000000000000) + (gz (pB i (j - 1) a 5)))))]) Y m_X6_spotOf (c_X6_spotOf l dC dI i j a 5 (by omega)) qm_X6_148 (kpS hK hP hZ hS [] [] rfl rfl) rfl hl.1 rfl (Nat.le_of_ble_eq_true rfl) dX6_recallAt_113 ⟨Nat.le_of_ble_eq_true rfl, Nat.le_of_ble_eq_true rfl⟩ ⟨Nat.zero_le _, Nat.zero_le _⟩ (fun r113 hr113 => ?_)
            obtain rfl : r113 = nI (pB i j a 5) := hr113
            refine rm_ald hx hb hK hP 2 1 (F := gz) rfl rfl dX6_recallAt_116 (by decide) (pB_lt (by omega) (by omega) (by omega) (by omega)) ?_
            refine rl_muln hx hb dX6_recallAt_117 ?_
            refine rl_addn hx hb dX6_recallAt_118 ?_
            have hbb := rc_bb hPI (d := d) (c := P 21) (j := j) (x := b) (y := a) hc1 hc2 (by omega) h3 h4 (by omega) (by omega)
            rw [← hG (j - 1) a 5 (by omega) (by omega) (by omega) (by omega), ← hG j a 5 (by omega) (by omega) (by omega) (by omega)] at hbb
            refine lv_ldc2 (v := lN 10) hx hb hown (hts _ ql_X6_152) dX6_recallAt_119 ?_
            refine rl_divn hx hb dX6_recallAt_122 (Nat.lt_of_le_of_lt hbb (Nat.le_of_ble_eq_true rfl)) (by decide) (by decide) ?_
            exact krl (v := lN ((((P 21) * (((P (10 + b)) * 1000000000000000) + (gz (pB i (j - 1) a 5)))) + ((10 - (P 21)) * (gz (pB i j a 5)))) / 10)) Y hr hlocks (by unfold rcW; rw [if_neg (by decide), if_neg (by omega), hG (j - 1) a 5 (by omega) (by omega) (by omega) (by omega), hG j a 5 (by omega) (by omega) (by omega) (by omega)]; rfl) dX6_recallAt_123
        · exact absurd c27 (by decide)
      · refine lv_ldc2 (v := (-1)) hx hb hown (hts _ ql_X6_141) dX6_recallAt_20 ?_
        exact krl (v := (-1)) Y hr hlocks (by unfold rcW; rw [if_neg (by decide), if_pos (by omega)]) dX6_recallAt_23
    · exact absurd c3 (by decide)
