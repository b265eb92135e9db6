set_option maxHeartbeats 4000000 in
set_option maxRecDepth 100000 in
theorem c_X6_recallOf (l : Launch) (dC : Nat → ClassId) (dI : Nat → Nat → Nat) (cI cL : ClassId) (m0 m1 m2 m3 m4 m5 m6 m7 m8 m9 m10 m11 m12 : Nat) (bm ty sp fa fp kn lf yo ol : Nat) (un hh : Int64) (dr : Int32) (P sy gz : Nat → Nat) (i j a b : Nat) (h1 : 1 ≤ i) (h2 : i ≤ P 0 + 1) (h3 : j ≤ 3) (h4 : a ≤ 5) (h5 : b ≤ 5) (hPI : PI P) (hMZ : MZ P sy gz) : Met l yX6_recallOf (kw yX6_recallOf cX6_recallOf 7 (some .int)) (kR 2 53) (kPr (dC, dI) [.ref m0, .int (nI i), .int (nI j), .int (nI a), .int (nI b)] [(m0, .inr (6, [.ref m1, .ref m2, .int (nI bm), .long un, .ref m3, .int (nI ty), .ref m4, .int (nI sp), .int (nI fa), .int (nI fp), .int (nI kn), .ref m5, .ref m6, .ref m7, .ref m8, .ref m9, .int dr, .ref m10, .ref m11, .int (nI lf), .int (nI yo), .int (nI ol), .ref m12, .long hh])), (m1, .inl (cI, 22, .inl (fun zz => nI (P zz)))), (m7, .inl (cL, 1152, .inr (.inl (fun zz => lN (sy zz))))), (m8, .inl (cL, 1152, .inr (.inl (fun zz => lN (gz zz)))))] [(cI, .int), (cL, .long)]) (vp_Si (fun res : Int32 => res = nI (brS P (P 20) (P 21) (P 0 + 1 - i) j a b))) 0 0 kNo := by
  refine kmet (by decide) ?_
  intro p e s m args below meth c Y hr hlocks hin hv
  obtain ⟨rfl, hP, hK, hZ⟩ := kinR hv
  have hS : va_S kNo s.heap s.heap [] := va_S.rf
  have hx := Y.1
  have hb := Y.2.1
  have hml := Y.2.2.1
  have hown := Y.2.2.2.1
  have hts := Y.2.2.2.2
  have hl := lv_entry ([.ref m0, .int (nI i), .int (nI j), .int (nI a), .int (nI b)]) (n := 7) (Nat.le_of_ble_eq_true rfl)
  rw [lg_entry_eq]
  generalize (lg_sl ([.ref m0, .int (nI i), .int (nI j), .int (nI a), .int (nI b)]) ++ List.replicate (7 - (lg_sl ([.ref m0, .int (nI i), .int (nI j), .int (nI a), .int (nI b)])).length) Slot.unset).toArray = ls at hl ⊢
  have hl : lv_has ls 7 [(0, .ref m0), (1, .int (nI i)), (2, .int (nI j)), (3, .int (nI a)), (4, .int (nI b))] := hl
  have hp0 := hPI.1
  have hp1 := hPI.2.1
  have hp2 := hPI.2.2.1
  have hc1 := hPI.2.2.2.2.2.2.1
  have hc2 := hPI.2.2.2.2.2.2.2
  refine lv_aload_n hx hb dX6_recallOf_0 rfl (lv_at hl 0 rfl) ?_
  refine va_get (D := (dC, dI)) (ci := 6) (v := .ref m7) (C := RX6) (T := TX6) (N := 24) hx hb hts inlX6 hown hK hP 0 rfl rfl 13 (by decide) (hts _ qf_X6_33) (fun _ h9 => h9) rfl dX6_recallOf_1 ?_
  refine lv_iload_n hx hb dX6_recallOf_4 rfl (lv_at hl 1 rfl) ?_
  refine lv_iload_n hx hb dX6_recallOf_5 rfl (lv_at hl 2 rfl) ?_
  refine lv_iload_n hx hb dX6_recallOf_6 rfl (lv_at hl 3 rfl) ?_
  refine lv_iload hx hb dX6_recallOf_7 (lv_at hl 4 rfl) ?_
  refine kSi (As := [.int (nI i), .int (nI j), .int (nI a), .int (nI b)]) (rest := [.ref m7]) Y m_X6_spotOf (c_X6_spotOf l dC dI i j a b (by omega)) qm_X6_148 (kpS hK hP hZ hS [] [] rfl rfl) rfl hl.1 rfl (Nat.le_of_ble_eq_true rfl) dX6_recallOf_9 ⟨Nat.le_of_ble_eq_true rfl, Nat.le_of_ble_eq_true rfl⟩ ⟨Nat.zero_le _, Nat.zero_le _⟩ (fun r9 hr9 => ?_)
  obtain rfl : r9 = nI (pB i j a b) := hr9
  refine rm_ald hx hb hK hP 2 1 (F := sy) rfl rfl dX6_recallOf_12 (by decide) (pB_lt (by omega) (by omega) (by omega) (by omega)) ?_
  refine rl_set (x' := lN (SV P (P 20) (P 21) (P 0 + 1 - i) j a b)) (congrArg lN (hMZ.1 i j a b (by omega) (by omega) (by omega) (by omega) (by omega) (by omega))) ?_
  have hsb := SVBx hPI hc1 hc2 (P 0 + 1 - i) j a b (by omega) (by omega) (by omega)
  refine lv_lstore (lv' := [(5, .long (lN (SV P (P 20) (P 21) (P 0 + 1 - i) j a b))), (0, .ref m0), (1, .int (nI i)), (2, .int (nI j)), (3, .int (nI a)), (4, .int (nI b))]) hx hb dX6_recallOf_13 hl (by decide) rfl (fun ls hl => ?_)
  refine lv_iload_n hx hb dX6_recallOf_15 rfl (lv_at hl 3 rfl) ?_
  refine ri_zeq (tgt := 38) hx hb dX6_recallOf_16 (by decide) (by omega) (fun c16 => ?_) (fun c16 => ?_)
  · refine lv_iconst (v := nI 0) hx hb dX6_recallOf_38 (by decide) ?_
    refine lv_goto (tgt := 63) hx hb dX6_recallOf_39 (by decide) ?_
    exact kri (v := nI 0) Y hr hlocks (congrArg nI (brS_0 (Or.inl (by omega)))) dX6_recallOf_63
  · refine lv_aload_n hx hb dX6_recallOf_19 rfl (lv_at hl 1 rfl) ?_
    refine va_get (D := (dC, dI)) (ci := 6) (v := .ref m8) (C := RX6) (T := TX6) (N := 24) hx hb hts inlX6 hown hK hP 0 rfl rfl 14 (by decide) (hts _ qf_X6_36) (fun _ h9 => h9) rfl dX6_recallOf_20 ?_
    refine lv_iload_n hx hb dX6_recallOf_23 rfl (lv_at hl 2 rfl) ?_
    refine lv_iload_n hx hb dX6_recallOf_24 rfl (lv_at hl 3 rfl) ?_
    refine lv_iload_n hx hb dX6_recallOf_25 rfl (lv_at hl 4 rfl) ?_
    refine lv_iload hx hb dX6_recallOf_26 (lv_at hl 5 rfl) ?_
    refine kSi (As := [.int (nI i), .int (nI j), .int (nI a), .int (nI b)]) (rest := [.ref m8]) Y m_X6_spotOf (c_X6_spotOf l dC dI i j a b (by omega)) qm_X6_148 (kpS hK hP hZ hS [] [] rfl rfl) rfl hl.1 rfl (Nat.le_of_ble_eq_true rfl) dX6_recallOf_28 ⟨Nat.le_of_ble_eq_true rfl, Nat.le_of_ble_eq_true rfl⟩ ⟨Nat.zero_le _, Nat.zero_le _⟩ (fun r28 hr28 => ?_)
    obtain rfl : r28 = nI (pB i j a b) := hr28
    refine rm_ald hx hb hK hP 3 1 (F := gz) rfl rfl dX6_recallOf_31 (by decide) (pB_lt (by omega) (by omega) (by omega) (by omega)) ?_
    refine rl_set (x' := lN (QV P (P 20) (P 21) (P 0 + 1 - i) j a)) (congrArg lN (hMZ.2 i j a b (by omega) (by omega) (by omega) (by omega) (by omega) (by omega))) ?_
    have hqb := QVBx hPI hc1 hc2 (P 0 + 1 - i) j a (by omega) (by omega)
    refine lv_lload hx hb dX6_recallOf_32 (lv_at hl 0 rfl) ?_
    refine rl_nen (tgt := 42) hx hb dX6_recallOf_34 dX6_recallOf_35 (by decide) (Nat.lt_of_le_of_lt hqb (Nat.le_of_ble_eq_true rfl)) (Nat.lt_of_le_of_lt hsb (Nat.le_of_ble_eq_true rfl)) (fun c34 => ?_) (fun c34 => ?_)
    · refine lv_aload_n hx hb dX6_recallOf_42 rfl (lv_at hl 1 rfl) ?_
      refine lv_iload_n hx hb dX6_recallOf_43 rfl (lv_at hl 2 rfl) ?_
      refine lv_iload_n hx hb dX6_recallOf_44 rfl (lv_at hl 3 rfl) ?_
      refine lv_iload_n hx hb dX6_recallOf_45 rfl (lv_at hl 4 rfl) ?_
      refine lv_iload hx hb dX6_recallOf_46 (lv_at hl 5 rfl) ?_
      refine lv_iconst (v := nI 1) hx hb dX6_recallOf_48 (by decide) ?_
      refine kVl (As := [.int (nI i), .int (nI j), .int (nI a), .int (nI b), .int (nI 1)]) (rest := []) Y m_X6_recallAt (c_X6_recallAt l dC dI cI cL m0 m1 m2 m3 m4 m5 m6 m7 m8 m9 m10 m11 m12 bm ty sp fa fp kn lf yo ol un hh dr P gz (P 0 + 1 - i) i j a b 1 (by omega) (by omega) (by omega) (by omega) (by omega) (by omega) (by omega) hPI (fun x y z q1 q2 q3 q4 => hMZ.2 i x y z (by omega) (by omega) (by omega) q3 q4 (by omega))) qm_X6_162 (kpV (ci := 6) hK hP hZ hS [0, 1, 3] [0, 1] rfl rfl 0 rfl rfl rfl) rfl hl.1 rfl (Nat.le_of_ble_eq_true rfl) dX6_recallOf_49 ⟨Nat.le_of_ble_eq_true rfl, Nat.le_of_ble_eq_true rfl⟩ ⟨Nat.zero_le _, Nat.zero_le _⟩ (fun r49 hr49 => ?_)
      obtain rfl : r49 = rcW P (QV P (P 20) (P 21) (P 0 + 1 - i)) 1 j a b := hr49
      refine lv_lload hx hb dX6_recallOf_52 (lv_at hl 0 rfl) ?_
      refine rl_ne (tgt := 62) hx hb dX6_recallOf_54 dX6_recallOf_55 (by decide) (fun c54 => ?_) (fun c54 => ?_)
      · refine lv_iconst (v := nI 2) hx hb dX6_recallOf_62 (by decide) ?_
        exact kri (v := nI 2) Y hr hlocks (congrArg nI (brS_2 hPI hc2 (by omega) h3 h4 h5 c34 c54)) dX6_recallOf_63
      · refine lv_iconst (v := nI 1) hx hb dX6_recallOf_58 (by decide) ?_
        refine lv_goto (tgt := 63) hx hb dX6_recallOf_59 (by decide) ?_
        exact kri (v := nI 1) Y hr hlocks (congrArg nI (brS_1 hPI hc2 (by omega) h3 h4 h5 c34 (Decidable.not_not.mp c54))) dX6_recallOf_63
    · refine lv_iconst (v := nI 0) hx hb dX6_recallOf_38 (by decide) ?_
      refine lv_goto (tgt := 63) hx hb dX6_recallOf_39 (by decide) ?_
      exact kri (v := nI 0) Y hr hlocks (congrArg nI (brS_0 (Or.inr c34))) dX6_recallOf_63
set_option maxHeartbeats 4000000 in
set_option maxRecDepth 100000 in
theorem c_X6_recalls (l : Launch) (dC : Nat → ClassId) (dI : Nat → Nat → Nat) (sz : Nat) (cI cL : ClassId) (m0 m1 m2 m3 m4 m5 m6 m7 m8 m9 m10 m11 m12 : Nat) (bm ty sp fa fp kn lf yo ol : Nat) (un hh : Int64) (dr : Int32) (P ww rv sy gz : Nat → Nat) (a b v w : Int32) (hPI : PI P) (hKI : KI P kn ww rv sy gz) : Met l yX6_recalls (kw yX6_recalls cX6_recalls 5 (some .int)) (kR 5 127) (kPq (dC, dI) [.ref m0, .int a, .int b, .int v, .int w] sz [(m0, .inr (6, [.ref m1, .ref m2, .int (nI bm), .long un, .ref m3, .int (nI ty), .ref m4, .int (nI sp), .int (nI fa), .int (nI fp), .int (nI kn), .ref m5, .ref m6, .ref m7, .ref m8, .ref m9, .int dr, .ref m10, .ref m11, .int (nI lf), .int (nI yo), .int (nI ol), .ref m12, .long hh])), (m1, .inl (cI, 22, .inl (fun zz => nI (P zz)))), (m5, .inl (cL, 72, .inr (.inl (fun zz => lN (ww zz))))), (m6, .inl (cL, 40, .inr (.inl (fun zz => lN (rv zz))))), (m7, .inl (cL, 1152, .inr (.inl (fun zz => lN (sy zz))))), (m8, .inl (cL, 1152, .inr (.inl (fun zz => lN (gz zz)))))] [(cI, .int), (cL, .long)]) (va_Qi (fun (res : Int32) (u : Nat × (Nat → Nat) × (Nat → Nat) × (Nat → Nat) × (Nat → Nat)) => res = rcO P a b v w ∧ KI P u.1 u.2.1 u.2.2.1 u.2.2.2.1 u.2.2.2.2) (fun u : Nat × (Nat → Nat) × (Nat → Nat) × (Nat → Nat) × (Nat → Nat) => kB (dC, dI) [(cI, .int), (cL, .long)] (va_A [(m0, .inr (6, [.ref m1, .ref m2, .int (nI bm), .long un, .ref m3, .int (nI ty), .ref m4, .int (nI sp), .int (nI fa), .int (nI fp), .int (nI kn), .ref m5, .ref m6, .ref m7, .ref m8, .ref m9, .int dr, .ref m10, .ref m11, .int (nI lf), .int (nI yo), .int (nI ol), .ref m12, .long hh])), (m1, .inl (cI, 22, .inl (fun zz => nI (P zz)))), (m5, .inl (cL, 72, .inr (.inl (fun zz => lN (ww zz))))), (m6, .inl (cL, 40, .inr (.inl (fun zz => lN (rv zz))))), (m7, .inl (cL, 1152, .inr (.inl (fun zz => lN (sy zz))))), (m8, .inl (cL, 1152, .inr (.inl (fun zz => lN (gz zz)))))] sz) ([(m0, .inr (6, [.ref m1, .ref m2, .int (nI bm), .long un, .ref m3, .int (nI ty), .ref m4, .int (nI sp), .int (nI fa), .int (nI fp), .int (nI u.1), .ref m5, .ref m6, .ref m7, .ref m8, .ref m9, .int dr, .ref m10, .ref m11, .int (nI lf), .int (nI yo), .int (nI ol), .ref m12, .long hh])), (m1, .inl (cI, 22, .inl (fun zz => nI (P zz)))), (m5, .inl (cL, 72, .inr (.inl (fun zz => lN (u.2.1 zz))))), (m6, .inl (cL, 40, .inr (.inl (fun zz => lN (u.2.2.1 zz))))), (m7, .inl (cL, 1152, .inr (.inl (fun zz => lN (u.2.2.2.1 zz))))), (m8, .inl (cL, 1152, .inr (.inl (fun zz => lN (u.2.2.2.2 zz)))))])) (va_A [(m0, .inr (6, [.ref m1, .ref m2, .int (nI bm), .long un, .ref m3, .int (nI ty), .ref m4, .int (nI sp), .int (nI fa), .int (nI fp), .int (nI kn), .ref m5, .ref m6, .ref m7, .ref m8, .ref m9, .int dr, .ref m10, .ref m11, .int (nI lf), .int (nI yo), .int (nI ol), .ref m12, .long hh])), (m1, .inl (cI, 22, .inl (fun zz => nI (P zz)))), (m5, .inl (cL, 72, .inr (.inl (fun zz => lN (ww zz))))), (m6, .inl (cL, 40, .inr (.inl (fun zz => lN (rv zz))))), (m7, .inl (cL, 1152, .inr (.inl (fun zz => lN (sy zz))))), (m8, .inl (cL, 1152, .inr (.inl (fun zz => lN (gz zz)))))] sz)) 0 0 (va_A [(m0, .inr (6, [.ref m1, .ref m2, .int (nI bm), .long un, .ref m3, .int (nI ty), .ref m4, .int (nI sp), .int (nI fa), .int (nI fp), .int (nI kn), .ref m5, .ref m6, .ref m7, .ref m8, .ref m9, .int dr, .ref m10, .ref m11, .int (nI lf), .int (nI yo), .int (nI ol), .ref m12, .long hh])), (m1, .inl (cI, 22, .inl (fun zz => nI (P zz)))), (m5, .inl (cL, 72, .inr (.inl (fun zz => lN (ww zz))))), (m6, .inl (cL, 40, .inr (.inl (fun zz => lN (rv zz))))), (m7, .inl (cL, 1152, .inr (.inl (fun zz => lN (sy zz))))), (m8, .inl (cL, 1152, .inr (.inl (fun zz => lN (gz zz)))))] sz) := by
  refine kmet (by decide) ?_
  intro p e s m args below meth c Y hr hlocks hin hv
  obtain ⟨rfl, A, hAe, hsz, hP, hK, hD, hZ, hA⟩ := kinQ hv
  rw [hAe]
  have hS : va_S A s.heap s.heap [] := va_S.rf
  have hx := Y.1
  have hb := Y.2.1
  have hml := Y.2.2.1
  have hown := Y.2.2.2.1
  have hts := Y.2.2.2.2
  have hl := lv_entry ([.ref m0, .int a, .int b, .int v, .int w]) (n := 5) (Nat.le_of_ble_eq_true rfl)
  rw [lg_entry_eq]
  generalize (lg_sl ([.ref m0, .int a, .int b, .int v, .int w]) ++ List.replicate (5 - (lg_sl ([.ref m0, .int a, .int b, .int v, .int w])).length) Slot.unset).toArray = ls at hl ⊢
  have hl : lv_has ls 5 [(0, .ref m0), (1, .int a), (2, .int b), (3, .int v), (4, .int w)] := hl
  have hp0 := hPI.1
  have hp1 := hPI.2.1
  have hp2 := hPI.2.2.1
  have hc1 := hPI.2.2.2.2.2.2.1
  have hc2 := hPI.2.2.2.2.2.2.2
  refine lv_aload_n hx hb dX6_recalls_0 rfl (lv_at hl 0 rfl) ?_
  refine lv_iload_n hx hb dX6_recalls_1 rfl (lv_at hl 1 rfl) ?_
  refine lv_iload_n hx hb dX6_recalls_2 rfl (lv_at hl 2 rfl) ?_
  refine lv_iload_n hx hb dX6_recalls_3 rfl (lv_at hl 3 rfl) ?_
  refine lv_iload hx hb dX6_recalls_4 (lv_at hl 4 rfl) ?_
  refine kVi (As := [.int a, .int b, .int v, .int w]) (rest := []) Y m_X6_isSituation (c_X6_isSituation l dC dI cI cL m0 m1 m2 m3 m4 m5 m6 m7 m8 m9 m10 m11 m12 bm ty sp fa fp kn lf yo ol un hh dr P a b v w ) qm_X6_199 (kpV (ci := 6) hK hP hZ hS [0, 1] [0] rfl rfl 0 rfl rfl rfl) rfl hl.1 rfl (Nat.le_of_ble_eq_true rfl) dX6_recalls_6 ⟨Nat.le_of_ble_eq_true rfl, Nat.le_of_ble_eq_true rfl⟩ ⟨Nat.zero_le _, Nat.zero_le _⟩ (fun r6 hr6 => ?_)
  obtain rfl : r6 = b2i (siO P a b v w) := hr6
  refine ri_bne (tgt := 14) hx hb dX6_recalls_9 (by decide) (fun c9 => ?_) (fun c9 => ?_)
  · obtain ⟨xa, rfl, hxa1, hxa2⟩ := in_n (by decide) (by omega) c9.1.1
    obtain ⟨xb, rfl, hxb1, hxb2⟩ := in_n (by decide) (by omega) c9.1.2
    obtain ⟨xv, rfl, hxv1, hxv2⟩ := in_n (by decide) (by decide) c9.2.1
    obtain ⟨xw, rfl, hxw1, hxw2⟩ := in_n (by decide) (by decide) c9.2.2
    refine lv_aload_n hx hb dX6_recalls_14 rfl (lv_at hl 0 rfl) ?_
    refine kQv (As := []) (rest := []) (wr := []) Y m_X6_knows (c_X6_knows l dC dI _ cI cL m0 m1 m2 m3 m4 m5 m6 m7 m8 m9 m10 m11 m12 bm ty sp fa fp kn lf yo ol un hh dr P ww rv sy gz hPI hKI) qm_X6_178 hP hD hS hA [0, 1, 2, 3, 4, 5] [] rfl rfl (by decide) (by decide) (kqV (ci := 6) hK hP hD hZ hS hA [0, 1, 2, 3, 4, 5] [0, 1] rfl (by decide) rfl 0 rfl rfl rfl) rfl hl.1 rfl (Nat.le_of_ble_eq_true rfl) dX6_recalls_15 ⟨Nat.le_of_ble_eq_true rfl, Nat.le_of_ble_eq_true rfl⟩ ⟨Nat.zero_le _, Nat.zero_le _⟩ (fun u15 H locs hr15 hP hD hS => ?_)
    obtain ⟨ww2_15, rv2_15, sy2_15, gz2_15⟩ := u15
    have hP : va_P (dC, dI) vwCl [(m0, .inr (6, [.ref m1, .ref m2, .int (nI bm), .long un, .ref m3, .int (nI ty), .ref m4, .int (nI sp), .int (nI fa), .int (nI fp), .int (nI 1), .ref m5, .ref m6, .ref m7, .ref m8, .ref m9, .int dr, .ref m10, .ref m11, .int (nI lf), .int (nI yo), .int (nI ol), .ref m12, .long hh])), (m1, .inl (cI, 22, .inl (fun zz => nI (P zz)))), (m5, .inl (cL, 72, .inr (.inl (fun zz => lN (ww2_15 zz))))), (m6, .inl (cL, 40, .inr (.inl (fun zz => lN (rv2_15 zz))))), (m7, .inl (cL, 1152, .inr (.inl (fun zz => lN (sy2_15 zz))))), (m8, .inl (cL, 1152, .inr (.inl (fun zz => lN (gz2_15 zz)))))] H := hP
    have hD : va_D A [(m0, .inr (6, [.ref m1, .ref m2, .int (nI bm), .long un, .ref m3, .int (nI ty), .ref m4, .int (nI sp), .int (nI fa), .int (nI fp), .int (nI 1), .ref m5, .ref m6, .ref m7, .ref m8, .ref m9, .int dr, .ref m10, .ref m11, .int (nI lf), .int (nI yo), .int (nI ol), .ref m12, .long hh])), (m1, .inl (cI, 22, .inl (fun zz => nI (P zz)))), (m5, .inl (cL, 72, .inr (.inl (fun zz => lN (ww2_15 zz))))), (m6, .inl (cL, 40, .inr (.inl (fun zz => lN (rv2_15 zz))))), (m7, .inl (cL, 1152, .inr (.inl (fun zz => lN (sy2_15 zz))))), (m8, .inl (cL, 1152, .inr (.inl (fun zz => lN (gz2_15 zz)))))] := hD
    have hr15 : MR P ww2_15 rv2_15 ∧ MZ P sy2_15 gz2_15 := hr15
    refine lv_aload_n hx hb dX6_recalls_18 rfl (lv_at hl 0 rfl) ?_
    refine lv_iload_n hx hb dX6_recalls_19 rfl (lv_at hl 1 rfl) ?_
    refine lv_iload_n hx hb dX6_recalls_20 rfl (lv_at hl 2 rfl) ?_
    refine lv_iload_n hx hb dX6_recalls_21 rfl (lv_at hl 3 rfl) ?_
    refine lv_iload hx hb dX6_recalls_22 (lv_at hl 4 rfl) ?_
    refine kVi (As := [.int (nI xa), .int (nI xb), .int (nI xv), .int (nI xw)]) (rest := []) Y m_X6_recallOf (c_X6_recallOf l dC dI cI cL m0 m1 m2 m3 m4 m5 m6 m7 m8 m9 m10 m11 m12 bm ty sp fa fp 1 lf yo ol un hh dr P sy2_15 gz2_15 xa xb xv xw (by omega) (by omega) (by omega) (by omega) (by omega) hPI hr15.2) qm_X6_203 (kpV (ci := 6) hK hP hZ hS [0, 1, 4, 5] [0, 1] rfl rfl 0 rfl rfl rfl) rfl hl.1 rfl (Nat.le_of_ble_eq_true rfl) dX6_recalls_24 ⟨Nat.le_of_ble_eq_true rfl, Nat.le_of_ble_eq_true rfl⟩ ⟨Nat.zero_le _, Nat.zero_le _⟩ (fun r24 hr24 => ?_)
    obtain rfl : r24 = nI (brS P (P 20) (P 21) (P 0 + 1 - xa) xb xv xw) := hr24
    exact kqi (w1 := (fun u : Nat × (Nat → Nat) × (Nat → Nat) × (Nat → Nat) × (Nat → Nat) => [(m0, .inr (6, [.ref m1, .ref m2, .int (nI bm), .long un, .ref m3, .int (nI ty), .ref m4, .int (nI sp), .int (nI fa), .int (nI fp), .int (nI u.1), .ref m5, .ref m6, .ref m7, .ref m8, .ref m9, .int dr, .ref m10, .ref m11, .int (nI lf), .int (nI yo), .int (nI ol), .ref m12, .long hh])), (m1, .inl (cI, 22, .inl (fun zz => nI (P zz)))), (m5, .inl (cL, 72, .inr (.inl (fun zz => lN (u.2.1 zz))))), (m6, .inl (cL, 40, .inr (.inl (fun zz => lN (u.2.2.1 zz))))), (m7, .inl (cL, 1152, .inr (.inl (fun zz => lN (u.2.2.2.1 zz))))), (m8, .inl (cL, 1152, .inr (.inl (fun zz => lN (u.2.2.2.2 zz)))))])) (v := nI (brS P (P 20) (P 21) (P 0 + 1 - xa) xb xv xw)) Y hr hlocks hK hP hD hS [0, 1, 2, 3, 4, 5] (by decide) (1, ww2_15, rv2_15, sy2_15, gz2_15) rfl ⟨by unfold rcO; rw [if_pos c9, nO_n (n := xa) (by omega), nO_n (n := xb) (by omega), nO_n (n := xv) (by omega), nO_n (n := xw) (by omega)], KI_1 hr15.1 hr15.2⟩ dX6_recalls_27
  · refine lv_iconst (v := -1) hx hb dX6_recalls_12 (by decide) ?_
    exact kqi (w1 := (fun u : Nat × (Nat → Nat) × (Nat → Nat) × (Nat → Nat) × (Nat → Nat) => [(m0, .inr (6, [.ref m1, .ref m2, .int (nI bm), .long un, .ref m3, .int (nI ty), .ref m4, .int (nI sp), .int (nI fa), .int (nI fp), .int (nI u.1), .ref m5, .ref m6, .ref m7, .ref m8, .ref m9, .int dr, .ref m10, .ref m11, .int (nI lf), .int (nI yo), .int (nI ol), .ref m12, .long hh])), (m1, .inl (cI, 22, .inl (fun zz => nI (P zz)))), (m5, .inl (cL, 72, .inr (.inl (fun zz => lN (u.2.1 zz))))), (m6, .inl (cL, 40, .inr (.inl (fun zz => lN (u.2.2.1 zz))))), (m7, .inl (cL, 1152, .inr (.inl (fun zz => lN (u.2.2.2.1 zz))))), (m8, .inl (cL, 1152, .inr (.inl (fun zz => lN (u.2.2.2.2 zz)))))])) (v := (-1)) Y hr hlocks hK hP hD hS [0, 1, 2, 3, 4, 5] (by decide) (kn, ww, rv, sy, gz) rfl ⟨(if_neg c9).symm, hKI⟩ dX6_recalls_13
set_option maxHeartbeats 4000000 in
set_option maxRecDepth 100000 in
theorem c_X6_observes (l : Launch) (dC : Nat → ClassId) (dI : Nat → Nat → Nat) (sz : Nat) (cI cL : ClassId) (m0 m1 m2 m3 m4 m5 m6 m7 m8 m9 m10 m11 m12 : Nat) (bm ty sp fa fp kn lf yo ol : Nat) (un hh : Int64) (dr : Int32) (P ww rv sy gz : Nat → Nat) (a b v w : Int32) (hPI : PI P) (hKI : KI P kn ww rv sy gz) : Met l yX6_observes (kw yX6_observes cX6_observes 5 (some .int)) (kR 5 127) (kPq (dC, dI) [.ref m0, .int a, .int b, .int v, .int w] sz [(m0, .inr (6, [.ref m1, .ref m2, .int (nI bm), .long un, .ref m3, .int (nI ty), .ref m4, .int (nI sp), .int (nI fa), .int (nI fp), .int (nI kn), .ref m5, .ref m6, .ref m7, .ref m8, .ref m9, .int dr, .ref m10, .ref m11, .int (nI lf), .int (nI yo), .int (nI ol), .ref m12, .long hh])), (m1, .inl (cI, 22, .inl (fun zz => nI (P zz)))), (m5, .inl (cL, 72, .inr (.inl (fun zz => lN (ww zz))))), (m6, .inl (cL, 40, .inr (.inl (fun zz => lN (rv zz))))), (m7, .inl (cL, 1152, .inr (.inl (fun zz => lN (sy zz))))), (m8, .inl (cL, 1152, .inr (.inl (fun zz => lN (gz zz)))))] [(cI, .int), (cL, .long)]) (va_Qi (fun (res : Int32) (u : Nat × (Nat → Nat) × (Nat → Nat) × (Nat → Nat) × (Nat → Nat)) => res = obO P a b v w ∧ KI P u.1 u.2.1 u.2.2.1 u.2.2.2.1 u.2.2.2.2) (fun u : Nat × (Nat → Nat) × (Nat → Nat) × (Nat → Nat) × (Nat → Nat) => kB (dC, dI) [(cI, .int), (cL, .long)] (va_A [(m0, .inr (6, [.ref m1, .ref m2, .int (nI bm), .long un, .ref m3, .int (nI ty), .ref m4, .int (nI sp), .int (nI fa), .int (nI fp), .int (nI kn), .ref m5, .ref m6, .ref m7, .ref m8, .ref m9, .int dr, .ref m10, .ref m11, .int (nI lf), .int (nI yo), .int (nI ol), .ref m12, .long hh])), (m1, .inl (cI, 22, .inl (fun zz => nI (P zz)))), (m5, .inl (cL, 72, .inr (.inl (fun zz => lN (ww zz))))), (m6, .inl (cL, 40, .inr (.inl (fun zz => lN (rv zz))))), (m7, .inl (cL, 1152, .inr (.inl (fun zz => lN (sy zz))))), (m8, .inl (cL, 1152, .inr (.inl (fun zz => lN (gz zz)))))] sz) ([(m0, .inr (6, [.ref m1, .ref m2, .int (nI bm), .long un, .ref m3, .int (nI ty), .ref m4, .int (nI sp), .int (nI fa), .int (nI fp), .int (nI u.1), .ref m5, .ref m6, .ref m7, .ref m8, .ref m9, .int dr, .ref m10, .ref m11, .int (nI lf), .int (nI yo), .int (nI ol), .ref m12, .long hh])), (m1, .inl (cI, 22, .inl (fun zz => nI (P zz)))), (m5, .inl (cL, 72, .inr (.inl (fun zz => lN (u.2.1 zz))))), (m6, .inl (cL, 40, .inr (.inl (fun zz => lN (u.2.2.1 zz))))), (m7, .inl (cL, 1152, .inr (.inl (fun zz => lN (u.2.2.2.1 zz))))), (m8, .inl (cL, 1152, .inr (.inl (fun zz => lN (u.2.2.2.2 zz)))))])) (va_A [(m0, .inr (6, [.ref m1, .ref m2, .int (nI bm), .long un, .ref m3, .int (nI ty), .ref m4, .int (nI sp), .int (nI fa), .int (nI fp), .int (nI kn), .ref m5, .ref m6, .ref m7, .ref m8, .ref m9, .int dr, .ref m10, .ref m11, .int (nI lf), .int (nI yo), .int (nI ol), .ref m12, .long hh])), (m1, .inl (cI, 22, .inl (fun zz => nI (P zz)))), (m5, .inl (cL, 72, .inr (.inl (fun zz => lN (ww zz))))), (m6, .inl (cL, 40, .inr (.inl (fun zz => lN (rv zz))))), (m7, .inl (cL, 1152, .inr (.inl (fun zz => lN (sy zz))))), (m8, .inl (cL, 1152, .inr (.inl (fun zz => lN (gz zz)))))] sz)) 0 0 (va_A [(m0, .inr (6, [.ref m1, .ref m2, .int (nI bm), .long un, .ref m3, .int (nI ty), .ref m4, .int (nI sp), .int (nI fa), .int (nI fp), .int (nI kn), .ref m5, .ref m6, .ref m7, .ref m8, .ref m9, .int dr, .ref m10, .ref m11, .int (nI lf), .int (nI yo), .int (nI ol), .ref m12, .long hh])), (m1, .inl (cI, 22, .inl (fun zz => nI (P zz)))), (m5, .inl (cL, 72, .inr (.inl (fun zz => lN (ww zz))))), (m6, .inl (cL, 40, .inr (.inl (fun zz => lN (rv zz))))), (m7, .inl (cL, 1152, .inr (.inl (fun zz => lN (sy zz))))), (m8, .inl (cL, 1152, .inr (.inl (fun zz => lN (gz zz)))))] sz) := by
  refine kmet (by decide) ?_
  intro p e s m args below meth c Y hr hlocks hin hv
  obtain ⟨rfl, A, hAe, hsz, hP, hK, hD, hZ, hA⟩ := kinQ hv
  rw [hAe]
  have hS : va_S A s.heap s.heap [] := va_S.rf
  have hx := Y.1
  have hb := Y.2.1
  have hml := Y.2.2.1
  have hown := Y.2.2.2.1
  have hts := Y.2.2.2.2
  have hl := lv_entry ([.ref m0, .int a, .int b, .int v, .int w]) (n := 5) (Nat.le_of_ble_eq_true rfl)
  rw [lg_entry_eq]
  generalize (lg_sl ([.ref m0, .int a, .int b, .int v, .int w]) ++ List.replicate (5 - (lg_sl ([.ref m0, .int a, .int b, .int v, .int w])).length) Slot.unset).toArray = ls at hl ⊢
  have hl : lv_has ls 5 [(0, .ref m0), (1, .int a), (2, .int b), (3, .int v), (4, .int w)] := hl
  have hp0 := hPI.1
  have hp1 := hPI.2.1
  have hp2 := hPI.2.2.1
  have hc1 := hPI.2.2.2.2.2.2.1
  have hc2 := hPI.2.2.2.2.2.2.2
  refine lv_aload_n hx hb dX6_observes_0 rfl (lv_at hl 0 rfl) ?_
  refine lv_iload_n hx hb dX6_observes_1 rfl (lv_at hl 1 rfl) ?_
  refine lv_iload_n hx hb dX6_observes_2 rfl (lv_at hl 2 rfl) ?_
  refine lv_iload_n hx hb dX6_observes_3 rfl (lv_at hl 3 rfl) ?_
  refine lv_iload hx hb dX6_observes_4 (lv_at hl 4 rfl) ?_
  refine kVi (As := [.int a, .int b, .int v, .int w]) (rest := []) Y m_X6_isSituation (c_X6_isSituation l dC dI cI cL m0 m1 m2 m3 m4 m5 m6 m7 m8 m9 m10 m11 m12 bm ty sp fa fp kn lf yo ol un hh dr P a b v w ) qm_X6_199 (kpV (ci := 6) hK hP hZ hS [0, 1] [0] rfl rfl 0 rfl rfl rfl) rfl hl.1 rfl (Nat.le_of_ble_eq_true rfl) dX6_observes_6 ⟨Nat.le_of_ble_eq_true rfl, Nat.le_of_ble_eq_true rfl⟩ ⟨Nat.zero_le _, Nat.zero_le _⟩ (fun r6 hr6 => ?_)
  obtain rfl : r6 = b2i (siO P a b v w) := hr6
  refine ri_bne (tgt := 14) hx hb dX6_observes_9 (by decide) (fun c9 => ?_) (fun c9 => ?_)
  · obtain ⟨xa, rfl, hxa1, hxa2⟩ := in_n (by decide) (by omega) c9.1.1
    obtain ⟨xb, rfl, hxb1, hxb2⟩ := in_n (by decide) (by omega) c9.1.2
    obtain ⟨xv, rfl, hxv1, hxv2⟩ := in_n (by decide) (by decide) c9.2.1
    obtain ⟨xw, rfl, hxw1, hxw2⟩ := in_n (by decide) (by decide) c9.2.2
    refine lv_aload_n hx hb dX6_observes_14 rfl (lv_at hl 0 rfl) ?_
    refine kQv (As := []) (rest := []) (wr := []) Y m_X6_knows (c_X6_knows l dC dI _ cI cL m0 m1 m2 m3 m4 m5 m6 m7 m8 m9 m10 m11 m12 bm ty sp fa fp kn lf yo ol un hh dr P ww rv sy gz hPI hKI) qm_X6_178 hP hD hS hA [0, 1, 2, 3, 4, 5] [] rfl rfl (by decide) (by decide) (kqV (ci := 6) hK hP hD hZ hS hA [0, 1, 2, 3, 4, 5] [0, 1] rfl (by decide) rfl 0 rfl rfl rfl) rfl hl.1 rfl (Nat.le_of_ble_eq_true rfl) dX6_observes_15 ⟨Nat.le_of_ble_eq_true rfl, Nat.le_of_ble_eq_true rfl⟩ ⟨Nat.zero_le _, Nat.zero_le _⟩ (fun u15 H locs hr15 hP hD hS => ?_)
    obtain ⟨ww2_15, rv2_15, sy2_15, gz2_15⟩ := u15
    have hP : va_P (dC, dI) vwCl [(m0, .inr (6, [.ref m1, .ref m2, .int (nI bm), .long un, .ref m3, .int (nI ty), .ref m4, .int (nI sp), .int (nI fa), .int (nI fp), .int (nI 1), .ref m5, .ref m6, .ref m7, .ref m8, .ref m9, .int dr, .ref m10, .ref m11, .int (nI lf), .int (nI yo), .int (nI ol), .ref m12, .long hh])), (m1, .inl (cI, 22, .inl (fun zz => nI (P zz)))), (m5, .inl (cL, 72, .inr (.inl (fun zz => lN (ww2_15 zz))))), (m6, .inl (cL, 40, .inr (.inl (fun zz => lN (rv2_15 zz))))), (m7, .inl (cL, 1152, .inr (.inl (fun zz => lN (sy2_15 zz))))), (m8, .inl (cL, 1152, .inr (.inl (fun zz => lN (gz2_15 zz)))))] H := hP
    have hD : va_D A [(m0, .inr (6, [.ref m1, .ref m2, .int (nI bm), .long un, .ref m3, .int (nI ty), .ref m4, .int (nI sp), .int (nI fa), .int (nI fp), .int (nI 1), .ref m5, .ref m6, .ref m7, .ref m8, .ref m9, .int dr, .ref m10, .ref m11, .int (nI lf), .int (nI yo), .int (nI ol), .ref m12, .long hh])), (m1, .inl (cI, 22, .inl (fun zz => nI (P zz)))), (m5, .inl (cL, 72, .inr (.inl (fun zz => lN (ww2_15 zz))))), (m6, .inl (cL, 40, .inr (.inl (fun zz => lN (rv2_15 zz))))), (m7, .inl (cL, 1152, .inr (.inl (fun zz => lN (sy2_15 zz))))), (m8, .inl (cL, 1152, .inr (.inl (fun zz => lN (gz2_15 zz)))))] := hD
    have hr15 : MR P ww2_15 rv2_15 ∧ MZ P sy2_15 gz2_15 := hr15
    refine lv_aload_n hx hb dX6_observes_18 rfl (lv_at hl 0 rfl) ?_
    refine va_get (D := (dC, dI)) (ci := 6) (v := .ref m8) (C := RX6) (T := TX6) (N := 24) hx hb hts inlX6 hown hK hP 0 rfl rfl 14 (by decide) (hts _ qf_X6_36) (fun _ h9 => h9) rfl dX6_observes_19 ?_
    refine lv_iload_n hx hb dX6_observes_22 rfl (lv_at hl 1 rfl) ?_
    refine lv_iload_n hx hb dX6_observes_23 rfl (lv_at hl 2 rfl) ?_
    refine lv_iload_n hx hb dX6_observes_24 rfl (lv_at hl 3 rfl) ?_
    refine lv_iload hx hb dX6_observes_25 (lv_at hl 4 rfl) ?_
    refine kSi (As := [.int (nI xa), .int (nI xb), .int (nI xv), .int (nI xw)]) (rest := [.ref m8]) Y m_X6_spotOf (c_X6_spotOf l dC dI xa xb xv xw (by omega)) qm_X6_148 (kpS hK hP hZ hS [] [] rfl rfl) rfl hl.1 rfl (Nat.le_of_ble_eq_true rfl) dX6_observes_27 ⟨Nat.le_of_ble_eq_true rfl, Nat.le_of_ble_eq_true rfl⟩ ⟨Nat.zero_le _, Nat.zero_le _⟩ (fun r27 hr27 => ?_)
    obtain rfl : r27 = nI (pB xa xb xv xw) := hr27
    refine rm_ald hx hb hK hP 5 1 (F := gz2_15) rfl rfl dX6_observes_30 (by decide) (pB_lt (by omega) (by omega) (by omega) (by omega)) ?_
    refine rl_set (x' := lN (QV P (P 20) (P 21) (P 0 + 1 - xa) xb xv)) (congrArg lN (hr15.2.2 xa xb xv xw (by omega) (by omega) (by omega) (by omega) (by omega) (by omega))) ?_
    have hqb := QVBx hPI hc1 hc2 (P 0 + 1 - xa) xb xv (by omega) (by omega)
    refine lv_lconst (v := lN 0) hx hb dX6_observes_31 rfl ?_
    refine rl_len (tgt := 40) hx hb dX6_observes_32 dX6_observes_33 (by decide) (Nat.lt_of_le_of_lt hqb (Nat.le_of_ble_eq_true rfl)) (by decide) (fun c32 => ?_) (fun c32 => ?_)
    · refine lv_iconst (v := nI 0) hx hb dX6_observes_40 (by decide) ?_
      exact kqi (w1 := (fun u : Nat × (Nat → Nat) × (Nat → Nat) × (Nat → Nat) × (Nat → Nat) => [(m0, .inr (6, [.ref m1, .ref m2, .int (nI bm), .long un, .ref m3, .int (nI ty), .ref m4, .int (nI sp), .int (nI fa), .int (nI fp), .int (nI u.1), .ref m5, .ref m6, .ref m7, .ref m8, .ref m9, .int dr, .ref m10, .ref m11, .int (nI lf), .int (nI yo), .int (nI ol), .ref m12, .long hh])), (m1, .inl (cI, 22, .inl (fun zz => nI (P zz)))), (m5, .inl (cL, 72, .inr (.inl (fun zz => lN (u.2.1 zz))))), (m6, .inl (cL, 40, .inr (.inl (fun zz => lN (u.2.2.1 zz))))), (m7, .inl (cL, 1152, .inr (.inl (fun zz => lN (u.2.2.2.1 zz))))), (m8, .inl (cL, 1152, .inr (.inl (fun zz => lN (u.2.2.2.2 zz)))))])) (v := nI 0) Y hr hlocks hK hP hD hS [0, 1, 2, 3, 4, 5] (by decide) (1, ww2_15, rv2_15, sy2_15, gz2_15) rfl ⟨by unfold obO; rw [if_pos c9, nO_n (n := xa) (by omega), nO_n (n := xb) (by omega), nO_n (n := xv) (by omega)]; exact (b2i_f (Nat.not_lt.mpr c32)).symm, KI_1 hr15.1 hr15.2⟩ dX6_observes_41
    · refine lv_iconst (v := nI 1) hx hb dX6_observes_36 (by decide) ?_
      refine lv_goto (tgt := 41) hx hb dX6_observes_37 (by decide) ?_
      exact kqi (w1 := (fun u : Nat × (Nat → Nat) × (Nat → Nat) × (Nat → Nat) × (Nat → Nat) => [(m0, .inr (6, [.ref m1, .ref m2, .int (nI bm), .long un, .ref m3, .int (nI ty), .ref m4, .int (nI sp), .int (nI fa), .int (nI fp), .int (nI u.1), .ref m5, .ref m6, .ref m7, .ref m8, .ref m9, .int dr, .ref m10, .ref m11, .int (nI lf), .int (nI yo), .int (nI ol), .ref m12, .long hh])), (m1, .inl (cI, 22, .inl (fun zz => nI (P zz)))), (m5, .inl (cL, 72, .inr (.inl (fun zz => lN (u.2.1 zz))))), (m6, .inl (cL, 40, .inr (.inl (fun zz => lN (u.2.2.1 zz))))), (m7, .inl (cL, 1152, .inr (.inl (fun zz => lN (u.2.2.2.1 zz))))), (m8, .inl (cL, 1152, .inr (.inl (fun zz => lN (u.2.2.2.2 zz)))))])) (v := nI 1) Y hr hlocks hK hP hD hS [0, 1, 2, 3, 4, 5] (by decide) (1, ww2_15, rv2_15, sy2_15, gz2_15) rfl ⟨by unfold obO; rw [if_pos c9, nO_n (n := xa) (by omega), nO_n (n := xb) (by omega), nO_n (n := xv) (by omega)]; exact (b2i_t c32).symm, KI_1 hr15.1 hr15.2⟩ dX6_observes_41
  · refine lv_iconst (v := -1) hx hb dX6_observes_12 (by decide) ?_
    exact kqi (w1 := (fun u : Nat × (Nat → Nat) × (Nat → Nat) × (Nat → Nat) × (Nat → Nat) => [(m0, .inr (6, [.ref m1, .ref m2, .int (nI bm), .long un, .ref m3, .int (nI ty), .ref m4, .int (nI sp), .int (nI fa), .int (nI fp), .int (nI u.1), .ref m5, .ref m6, .ref m7, .ref m8, .ref m9, .int dr, .ref m10, .ref m11, .int (nI lf), .int (nI yo), .int (nI ol), .ref m12, .long hh])), (m1, .inl (cI, 22, .inl (fun zz => nI (P zz)))), (m5, .inl (cL, 72, .inr (.inl (fun zz => lN (u.2.1 zz))))), (m6, .inl (cL, 40, .inr (.inl (fun zz => lN (u.2.2.1 zz))))), (m7, .inl (cL, 1152, .inr (.inl (fun zz => lN (u.2.2.2.1 zz))))), (m8, .inl (cL, 1152, .inr (.inl (fun zz => lN (u.2.2.2.2 zz)))))])) (v := (-1)) Y hr hlocks hK hP hD hS [0, 1, 2, 3, 4, 5] (by decide) (kn, ww, rv, sy, gz) rfl ⟨(if_neg c9).symm, hKI⟩ dX6_observes_13
