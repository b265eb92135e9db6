set_option maxHeartbeats 4000000 in
set_option maxRecDepth 100000 in
theorem c_X3_endItem (l : Launch) (dC : Nat → ClassId) (dI : Nat → Nat → Nat) (sz : Nat) (cI : ClassId) (h0 s1 s2 : Nat) (tn fl fp its it nu di nb np : Nat) (tx S : Nat → Nat) (pos : Nat) (h1 : pos ≤ 60) (hT : TIv it nu di nb np S) (h2 : its ≤ 60) : Met l yX3_endItem (kw yX3_endItem cX3_endItem 2 none) (kR 1 22) (kPq (dC, dI) [.ref h0, .int (nI pos)] sz [(h0, .inr (3, [.ref s1, .ref s2, .int (nI tn), .int (nI fl), .int (nI fp), .int (nI its), .int (itV it), .int (nI nu), .int (nI di), .int (nI nb), .int (nI np)])), (s1, .inl (cI, 60, .inl (fun zz => nI (tx zz)))), (s2, .inl (cI, 22, .inl (fun zz => nI (S zz))))] [(cI, .int)]) (va_Qv (fun u : Nat × Nat × Nat × Nat × (Nat → Nat) => (u.1, u.2.1, u.2.2.1, u.2.2.2.1, nu, di, nb, np, u.2.2.2.2) = enI (fl, fp, its, it, nu, di, nb, np, S) pos) (fun u : Nat × Nat × Nat × Nat × (Nat → Nat) => kB (dC, dI) [(cI, .int)] (va_A [(h0, .inr (3, [.ref s1, .ref s2, .int (nI tn), .int (nI fl), .int (nI fp), .int (nI its), .int (itV it), .int (nI nu), .int (nI di), .int (nI nb), .int (nI np)])), (s1, .inl (cI, 60, .inl (fun zz => nI (tx zz)))), (s2, .inl (cI, 22, .inl (fun zz => nI (S zz))))] sz) ([(h0, .inr (3, [.ref s1, .ref s2, .int (nI tn), .int (nI u.1), .int (nI u.2.1), .int (nI u.2.2.1), .int (itV u.2.2.2.1), .int (nI nu), .int (nI di), .int (nI nb), .int (nI np)])), (s1, .inl (cI, 60, .inl (fun zz => nI (tx zz)))), (s2, .inl (cI, 22, .inl (fun zz => nI (u.2.2.2.2 zz))))])) (va_A [(h0, .inr (3, [.ref s1, .ref s2, .int (nI tn), .int (nI fl), .int (nI fp), .int (nI its), .int (itV it), .int (nI nu), .int (nI di), .int (nI nb), .int (nI np)])), (s1, .inl (cI, 60, .inl (fun zz => nI (tx zz)))), (s2, .inl (cI, 22, .inl (fun zz => nI (S zz))))] sz)) 0 0 (va_A [(h0, .inr (3, [.ref s1, .ref s2, .int (nI tn), .int (nI fl), .int (nI fp), .int (nI its), .int (itV it), .int (nI nu), .int (nI di), .int (nI nb), .int (nI np)])), (s1, .inl (cI, 60, .inl (fun zz => nI (tx zz)))), (s2, .inl (cI, 22, .inl (fun zz => nI (S zz))))] sz) := by
  refine kmet (by decide) ?_
  intro p e s m args below meth c Y hr hlocks hin hv
  obtain ⟨rfl, A, hAe, hsz, hP, hK, hD, hZ, hA⟩ := kinQ hv
  rw [hAe]
  have hS : va_S A s.heap s.heap [] := va_S.rf
  have hx := Y.1
  have hb := Y.2.1
  have hml := Y.2.2.1
  have hown := Y.2.2.2.1
  have hts := Y.2.2.2.2
  have hl := lv_entry ([.ref h0, .int (nI pos)]) (n := 2) (Nat.le_of_ble_eq_true rfl)
  rw [lg_entry_eq]
  generalize (lg_sl ([.ref h0, .int (nI pos)]) ++ List.replicate (2 - (lg_sl ([.ref h0, .int (nI pos)])).length) Slot.unset).toArray = ls at hl ⊢
  have hl : lv_has ls 2 [(0, .ref h0), (1, .int (nI pos))] := hl
  obtain ⟨hT1, hT2, hT3, hT4, hT5, hT6, hT7, hT8⟩ := id hT
  rcases (show it = 7 ∨ it < 7 by omega) with rfl | hit
  · refine lv_aload_n hx hb dX3_endItem_0 rfl (lv_at hl 0 rfl) ?_
    refine va_get (D := (dC, dI)) (ci := 3) (v := .int (itV 7)) (C := RX3) (T := TX3) (N := 11) hx hb hts inlX3 hown hK hP 0 rfl rfl 6 (by decide) (hts _ qf_X3_18) (fun _ h9 => h9) rfl dX3_endItem_1 ?_
    refine ri_set hx hb (x' := -1) itV_7 ?_
    refine lv_iconst (v := -1) hx hb dX3_endItem_4 (by decide) ?_
    refine lv_icmp_ne (tgt := 17) hx hb dX3_endItem_5 (by decide) (fun c5 => ?_) (fun c5 => ?_)
    · exact absurd rfl c5
    · refine lv_aload_n hx hb dX3_endItem_8 rfl (lv_at hl 0 rfl) ?_
      refine lv_iconst (v := nI 1) hx hb dX3_endItem_9 (by decide) ?_
      refine lv_iload_n hx hb dX3_endItem_10 rfl (lv_at hl 1 rfl) ?_
      refine kQv (As := [.int (nI 1), .int (nI pos)]) (rest := []) (wr := [(s1, .inl (cI, 60, .inl (fun zz => nI (tx zz)))), (s2, .inl (cI, 22, .inl (fun zz => nI (S zz))))]) Y m_X3_setFault (c_X3_setFault l dC dI _ h0 s1 s2 tn fl fp its 7 nu di nb np 1 pos ) qm_X3_50 hP hD hS hA [0] [1, 2] rfl rfl (by decide) (by decide) (kqV (ci := 3) hK hP hD hZ hS hA [0] [] rfl (by decide) rfl 0 rfl rfl rfl) rfl hl.1 rfl (Nat.le_of_ble_eq_true rfl) dX3_endItem_11 ⟨Nat.le_of_ble_eq_true rfl, Nat.le_of_ble_eq_true rfl⟩ ⟨Nat.zero_le _, Nat.zero_le _⟩ (fun u11 H locs hr11 hP hD hS => ?_)
      have hP : va_P (dC, dI) vwCl [(s1, .inl (cI, 60, .inl (fun zz => nI (tx zz)))), (s2, .inl (cI, 22, .inl (fun zz => nI (S zz)))), (h0, .inr (3, [.ref s1, .ref s2, .int (nI tn), .int (nI 1), .int (nI pos), .int (nI its), .int (itV 7), .int (nI nu), .int (nI di), .int (nI nb), .int (nI np)]))] H := hP
      have hD : va_D A [(s1, .inl (cI, 60, .inl (fun zz => nI (tx zz)))), (s2, .inl (cI, 22, .inl (fun zz => nI (S zz)))), (h0, .inr (3, [.ref s1, .ref s2, .int (nI tn), .int (nI 1), .int (nI pos), .int (nI its), .int (itV 7), .int (nI nu), .int (nI di), .int (nI nb), .int (nI np)]))] := hD
      refine lv_goto (tgt := 67) hx hb dX3_endItem_14 (by decide) ?_
      exact kqv (w1 := (fun u : Nat × Nat × Nat × Nat × (Nat → Nat) => [(h0, .inr (3, [.ref s1, .ref s2, .int (nI tn), .int (nI u.1), .int (nI u.2.1), .int (nI u.2.2.1), .int (itV u.2.2.2.1), .int (nI nu), .int (nI di), .int (nI nb), .int (nI np)])), (s1, .inl (cI, 60, .inl (fun zz => nI (tx zz)))), (s2, .inl (cI, 22, .inl (fun zz => nI (u.2.2.2.2 zz))))])) Y hr hlocks hK hP hD hS [2, 0, 1] (by decide) (1, pos, its, 7, S) rfl (by simp only [enI]; rw [if_pos trivial]) dX3_endItem_67
  · refine lv_aload_n hx hb dX3_endItem_0 rfl (lv_at hl 0 rfl) ?_
    refine va_get (D := (dC, dI)) (ci := 3) (v := .int (itV it)) (C := RX3) (T := TX3) (N := 11) hx hb hts inlX3 hown hK hP 0 rfl rfl 6 (by decide) (hts _ qf_X3_18) (fun _ h9 => h9) rfl dX3_endItem_1 ?_
    refine ri_set hx hb (x' := nI it) (itV_n hit) ?_
    refine lv_iconst (v := -1) hx hb dX3_endItem_4 (by decide) ?_
    refine lv_icmp_ne (tgt := 17) hx hb dX3_endItem_5 (by decide) (fun c5 => ?_) (fun c5 => ?_)
    · have hm := mor_le it hit
      have hn := hT2 hit
      refine lv_aload_n hx hb dX3_endItem_17 rfl (lv_at hl 0 rfl) ?_
      refine va_get (D := (dC, dI)) (ci := 3) (v := .int (nI nu)) (C := RX3) (T := TX3) (N := 11) hx hb hts inlX3 hown hK hP 0 rfl rfl 7 (by decide) (hts _ qf_X3_72) (fun _ h9 => h9) rfl dX3_endItem_18 ?_
      refine r_gets Y hZ.2.2.2.2.2.2.1 hS qf_X3_88 (fun _ h9 => h9) dX3_endItem_21 (fun t21 ht21 => ?_)
      refine lv_aload_n hx hb dX3_endItem_24 rfl (lv_at hl 0 rfl) ?_
      refine va_get (D := (dC, dI)) (ci := 3) (v := .int (itV it)) (C := RX3) (T := TX3) (N := 11) hx hb hts inlX3 hown hK hP 0 rfl rfl 6 (by decide) (hts _ qf_X3_18) (fun _ h9 => h9) rfl dX3_endItem_25 ?_
      refine ri_set hx hb (x' := nI it) (itV_n hit) ?_
      refine r_ti hx hb ht21 hS dX3_endItem_28 (by decide) (by omega) ?_
      refine ri_clt (tgt := 39) hx hb dX3_endItem_29 (by decide) (by omega) (by omega) (fun c29 => ?_) (fun c29 => ?_)
      · refine lv_aload_n hx hb dX3_endItem_39 rfl (lv_at hl 0 rfl) ?_
        refine lv_iconst (v := nI 3) hx hb dX3_endItem_40 (by decide) ?_
        refine lv_iload_n hx hb dX3_endItem_41 rfl (lv_at hl 1 rfl) ?_
        refine kQv (As := [.int (nI 3), .int (nI pos)]) (rest := []) (wr := [(s1, .inl (cI, 60, .inl (fun zz => nI (tx zz)))), (s2, .inl (cI, 22, .inl (fun zz => nI (S zz))))]) Y m_X3_setFault (c_X3_setFault l dC dI _ h0 s1 s2 tn fl fp its it nu di nb np 3 pos ) qm_X3_50 hP hD hS hA [0] [1, 2] rfl rfl (by decide) (by decide) (kqV (ci := 3) hK hP hD hZ hS hA [0] [] rfl (by decide) rfl 0 rfl rfl rfl) rfl hl.1 rfl (Nat.le_of_ble_eq_true rfl) dX3_endItem_42 ⟨Nat.le_of_ble_eq_true rfl, Nat.le_of_ble_eq_true rfl⟩ ⟨Nat.zero_le _, Nat.zero_le _⟩ (fun u42 H locs hr42 hP hD hS => ?_)
        have hP : va_P (dC, dI) vwCl [(s1, .inl (cI, 60, .inl (fun zz => nI (tx zz)))), (s2, .inl (cI, 22, .inl (fun zz => nI (S zz)))), (h0, .inr (3, [.ref s1, .ref s2, .int (nI tn), .int (nI 3), .int (nI pos), .int (nI its), .int (itV it), .int (nI nu), .int (nI di), .int (nI nb), .int (nI np)]))] H := hP
        have hD : va_D A [(s1, .inl (cI, 60, .inl (fun zz => nI (tx zz)))), (s2, .inl (cI, 22, .inl (fun zz => nI (S zz)))), (h0, .inr (3, [.ref s1, .ref s2, .int (nI tn), .int (nI 3), .int (nI pos), .int (nI its), .int (itV it), .int (nI nu), .int (nI di), .int (nI nb), .int (nI np)]))] := hD
        refine lv_goto (tgt := 67) hx hb dX3_endItem_45 (by decide) ?_
        exact kqv (w1 := (fun u : Nat × Nat × Nat × Nat × (Nat → Nat) => [(h0, .inr (3, [.ref s1, .ref s2, .int (nI tn), .int (nI u.1), .int (nI u.2.1), .int (nI u.2.2.1), .int (itV u.2.2.2.1), .int (nI nu), .int (nI di), .int (nI nb), .int (nI np)])), (s1, .inl (cI, 60, .inl (fun zz => nI (tx zz)))), (s2, .inl (cI, 22, .inl (fun zz => nI (u.2.2.2.2 zz))))])) Y hr hlocks hK hP hD hS [2, 0, 1] (by decide) (3, pos, its, it, S) rfl (by simp only [enI]; rw [if_neg (by omega), if_pos (Or.inl c29)]) dX3_endItem_67
      · refine lv_aload_n hx hb dX3_endItem_32 rfl (lv_at hl 0 rfl) ?_
        refine kVi (As := []) (rest := []) Y m_X3_endsWrongWeights (c_X3_endsWrongWeights l dC dI cI h0 s1 s2 tn fl fp its it nu di nb np tx S hT hit) qm_X3_91 (kpV (ci := 3) hK hP hZ hS [0, 1, 2] [0] rfl rfl 0 rfl rfl rfl) rfl hl.1 rfl (Nat.le_of_ble_eq_true rfl) dX3_endItem_33 ⟨Nat.le_of_ble_eq_true rfl, Nat.le_of_ble_eq_true rfl⟩ ⟨Nat.zero_le _, Nat.zero_le _⟩ (fun r33 hr33 => ?_)
        obtain rfl : r33 = b2i (it = 5 ∧ wsum S ≠ 10) := hr33
        refine ri_beq (tgt := 48) hx hb dX3_endItem_36 (by decide) (fun c36 => ?_) (fun c36 => ?_)
        · refine lv_aload_n hx hb dX3_endItem_48 rfl (lv_at hl 0 rfl) ?_
          refine kQv (As := []) (rest := []) (wr := []) Y m_X3_clearOtherPayoffs (c_X3_clearOtherPayoffs l dC dI _ cI h0 s1 s2 tn fl fp its it nu di nb np tx S hT hit) qm_X3_95 hP hD hS hA [0, 1, 2] [] rfl rfl (by decide) (by decide) (kqV (ci := 3) hK hP hD hZ hS hA [0, 1, 2] [0] rfl (by decide) rfl 0 rfl rfl rfl) rfl hl.1 rfl (Nat.le_of_ble_eq_true rfl) dX3_endItem_49 ⟨Nat.le_of_ble_eq_true rfl, Nat.le_of_ble_eq_true rfl⟩ ⟨Nat.zero_le _, Nat.zero_le _⟩ (fun u49 H locs hr49 hP hD hS => ?_)
          obtain ⟨S2_49, rfl⟩ : ∃ z, z = u49 := ⟨_, rfl⟩
          have hP : va_P (dC, dI) vwCl [(h0, .inr (3, [.ref s1, .ref s2, .int (nI tn), .int (nI fl), .int (nI fp), .int (nI its), .int (itV it), .int (nI nu), .int (nI di), .int (nI nb), .int (nI np)])), (s1, .inl (cI, 60, .inl (fun zz => nI (tx zz)))), (s2, .inl (cI, 22, .inl (fun zz => nI (S2_49 zz))))] H := hP
          have hD : va_D A [(h0, .inr (3, [.ref s1, .ref s2, .int (nI tn), .int (nI fl), .int (nI fp), .int (nI its), .int (itV it), .int (nI nu), .int (nI di), .int (nI nb), .int (nI np)])), (s1, .inl (cI, 60, .inl (fun zz => nI (tx zz)))), (s2, .inl (cI, 22, .inl (fun zz => nI (S2_49 zz))))] := hD
          have hr49 : S2_49 = if it = 3 then clP S nu else S := hr49
          refine lv_aload_n hx hb dX3_endItem_52 rfl (lv_at hl 0 rfl) ?_
          refine lv_dup hx hb dX3_endItem_53 rfl ?_
          refine va_get (D := (dC, dI)) (ci := 3) (v := .int (nI its)) (C := RX3) (T := TX3) (N := 11) hx hb hts inlX3 hown hK hP 0 rfl rfl 5 (by decide) (hts _ qf_X3_31) (fun _ h9 => h9) rfl dX3_endItem_54 ?_
          refine lv_iconst (v := nI 1) hx hb dX3_endItem_57 (by decide) ?_
          refine ri_add hx hb dX3_endItem_58 ?_
          refine va_put (D := (dC, dI)) (ci := 3) (v := .int (nI (its + 1))) (ty := .int) (C := RX3) (T := TX3) (N := 11) hx hb hts inlX3 tyX3 tyX3_ok nmX3 hown hK hP hD hS 0 rfl rfl 5 (by decide) (hts _ qf_X3_31) (fun _ h9 => h9) rfl (by decide +kernel) rfl rfl (Nat.le_of_ble_eq_true rfl) dX3_endItem_59 (fun H locs hP hD hS => ?_)
          have hP : va_P (dC, dI) vwCl [(h0, .inr (3, [.ref s1, .ref s2, .int (nI tn), .int (nI fl), .int (nI fp), .int (nI (its + 1)), .int (itV it), .int (nI nu), .int (nI di), .int (nI nb), .int (nI np)])), (s1, .inl (cI, 60, .inl (fun zz => nI (tx zz)))), (s2, .inl (cI, 22, .inl (fun zz => nI (S2_49 zz))))] H := hP
          have hD : va_D A [(h0, .inr (3, [.ref s1, .ref s2, .int (nI tn), .int (nI fl), .int (nI fp), .int (nI (its + 1)), .int (itV it), .int (nI nu), .int (nI di), .int (nI nb), .int (nI np)])), (s1, .inl (cI, 60, .inl (fun zz => nI (tx zz)))), (s2, .inl (cI, 22, .inl (fun zz => nI (S2_49 zz))))] := hD
          refine lv_aload_n hx hb dX3_endItem_62 rfl (lv_at hl 0 rfl) ?_
          refine lv_iconst (v := -1) hx hb dX3_endItem_63 (by decide) ?_
          refine ri_set hx hb (x' := itV 7) rfl ?_
          refine va_put (D := (dC, dI)) (ci := 3) (v := .int (itV 7)) (ty := .int) (C := RX3) (T := TX3) (N := 11) hx hb hts inlX3 tyX3 tyX3_ok nmX3 hown hK hP hD hS 0 rfl rfl 6 (by decide) (hts _ qf_X3_18) (fun _ h9 => h9) rfl (by decide +kernel) rfl rfl (Nat.le_of_ble_eq_true rfl) dX3_endItem_64 (fun H locs hP hD hS => ?_)
          have hP : va_P (dC, dI) vwCl [(h0, .inr (3, [.ref s1, .ref s2, .int (nI tn), .int (nI fl), .int (nI fp), .int (nI (its + 1)), .int (itV 7), .int (nI nu), .int (nI di), .int (nI nb), .int (nI np)])), (s1, .inl (cI, 60, .inl (fun zz => nI (tx zz)))), (s2, .inl (cI, 22, .inl (fun zz => nI (S2_49 zz))))] H := hP
          have hD : va_D A [(h0, .inr (3, [.ref s1, .ref s2, .int (nI tn), .int (nI fl), .int (nI fp), .int (nI (its + 1)), .int (itV 7), .int (nI nu), .int (nI di), .int (nI nb), .int (nI np)])), (s1, .inl (cI, 60, .inl (fun zz => nI (tx zz)))), (s2, .inl (cI, 22, .inl (fun zz => nI (S2_49 zz))))] := hD
          exact kqv (w1 := (fun u : Nat × Nat × Nat × Nat × (Nat → Nat) => [(h0, .inr (3, [.ref s1, .ref s2, .int (nI tn), .int (nI u.1), .int (nI u.2.1), .int (nI u.2.2.1), .int (itV u.2.2.2.1), .int (nI nu), .int (nI di), .int (nI nb), .int (nI np)])), (s1, .inl (cI, 60, .inl (fun zz => nI (tx zz)))), (s2, .inl (cI, 22, .inl (fun zz => nI (u.2.2.2.2 zz))))])) Y hr hlocks hK hP hD hS [0, 1, 2] (by decide) (fl, fp, its + 1, 7, S2_49) rfl (by simp only [enI]; rw [if_neg (by omega), if_neg (fun q => q.elim (fun z => by omega) c36), hr49]) dX3_endItem_67
        · refine lv_aload_n hx hb dX3_endItem_39 rfl (lv_at hl 0 rfl) ?_
          refine lv_iconst (v := nI 3) hx hb dX3_endItem_40 (by decide) ?_
          refine lv_iload_n hx hb dX3_endItem_41 rfl (lv_at hl 1 rfl) ?_
          refine kQv (As := [.int (nI 3), .int (nI pos)]) (rest := []) (wr := [(s1, .inl (cI, 60, .inl (fun zz => nI (tx zz)))), (s2, .inl (cI, 22, .inl (fun zz => nI (S zz))))]) Y m_X3_setFault (c_X3_setFault l dC dI _ h0 s1 s2 tn fl fp its it nu di nb np 3 pos ) qm_X3_50 hP hD hS hA [0] [1, 2] rfl rfl (by decide) (by decide) (kqV (ci := 3) hK hP hD hZ hS hA [0] [] rfl (by decide) rfl 0 rfl rfl rfl) rfl hl.1 rfl (Nat.le_of_ble_eq_true rfl) dX3_endItem_42 ⟨Nat.le_of_ble_eq_true rfl, Nat.le_of_ble_eq_true rfl⟩ ⟨Nat.zero_le _, Nat.zero_le _⟩ (fun u42 H locs hr42 hP hD hS => ?_)
          have hP : va_P (dC, dI) vwCl [(s1, .inl (cI, 60, .inl (fun zz => nI (tx zz)))), (s2, .inl (cI, 22, .inl (fun zz => nI (S zz)))), (h0, .inr (3, [.ref s1, .ref s2, .int (nI tn), .int (nI 3), .int (nI pos), .int (nI its), .int (itV it), .int (nI nu), .int (nI di), .int (nI nb), .int (nI np)]))] H := hP
          have hD : va_D A [(s1, .inl (cI, 60, .inl (fun zz => nI (tx zz)))), (s2, .inl (cI, 22, .inl (fun zz => nI (S zz)))), (h0, .inr (3, [.ref s1, .ref s2, .int (nI tn), .int (nI 3), .int (nI pos), .int (nI its), .int (itV it), .int (nI nu), .int (nI di), .int (nI nb), .int (nI np)]))] := hD
          refine lv_goto (tgt := 67) hx hb dX3_endItem_45 (by decide) ?_
          exact kqv (w1 := (fun u : Nat × Nat × Nat × Nat × (Nat → Nat) => [(h0, .inr (3, [.ref s1, .ref s2, .int (nI tn), .int (nI u.1), .int (nI u.2.1), .int (nI u.2.2.1), .int (itV u.2.2.2.1), .int (nI nu), .int (nI di), .int (nI nb), .int (nI np)])), (s1, .inl (cI, 60, .inl (fun zz => nI (tx zz)))), (s2, .inl (cI, 22, .inl (fun zz => nI (u.2.2.2.2 zz))))])) Y hr hlocks hK hP hD hS [2, 0, 1] (by decide) (3, pos, its, it, S) rfl (by simp only [enI]; rw [if_neg (by omega), if_pos (Or.inr c36)]) dX3_endItem_67
    · exact absurd c5 (nI_m1 (by omega))
set_option maxHeartbeats 4000000 in
set_option maxRecDepth 100000 in
theorem c_X3_beginItem (l : Launch) (dC : Nat → ClassId) (dI : Nat → Nat → Nat) (sz : Nat) (cI : ClassId) (h0 s1 s2 : Nat) (tn fl fp its it nu di nb np : Nat) (tx S : Nat → Nat) (ch pos : Nat) (h1 : pos ≤ 60) (h2 : ch ≤ 126) (hT : TIv it nu di nb np S) : Met l yX3_beginItem (kw yX3_beginItem cX3_beginItem 4 none) (kR 1 22) (kPq (dC, dI) [.ref h0, .int (nI ch), .int (nI pos)] sz [(h0, .inr (3, [.ref s1, .ref s2, .int (nI tn), .int (nI fl), .int (nI fp), .int (nI its), .int (itV it), .int (nI nu), .int (nI di), .int (nI nb), .int (nI np)])), (s1, .inl (cI, 60, .inl (fun zz => nI (tx zz)))), (s2, .inl (cI, 22, .inl (fun zz => nI (S zz))))] [(cI, .int)]) (va_Qv (fun u : Nat × Nat × Nat × Nat => (u.1, u.2.1, its, u.2.2.1, u.2.2.2, di, nb, np, S) = bgI (fl, fp, its, it, nu, di, nb, np, S) ch pos) (fun u : Nat × Nat × Nat × Nat => kB (dC, dI) [(cI, .int)] (va_A [(h0, .inr (3, [.ref s1, .ref s2, .int (nI tn), .int (nI fl), .int (nI fp), .int (nI its), .int (itV it), .int (nI nu), .int (nI di), .int (nI nb), .int (nI np)])), (s1, .inl (cI, 60, .inl (fun zz => nI (tx zz)))), (s2, .inl (cI, 22, .inl (fun zz => nI (S zz))))] sz) ([(h0, .inr (3, [.ref s1, .ref s2, .int (nI tn), .int (nI u.1), .int (nI u.2.1), .int (nI its), .int (itV u.2.2.1), .int (nI u.2.2.2), .int (nI di), .int (nI nb), .int (nI np)])), (s1, .inl (cI, 60, .inl (fun zz => nI (tx zz)))), (s2, .inl (cI, 22, .inl (fun zz => nI (S zz))))])) (va_A [(h0, .inr (3, [.ref s1, .ref s2, .int (nI tn), .int (nI fl), .int (nI fp), .int (nI its), .int (itV it), .int (nI nu), .int (nI di), .int (nI nb), .int (nI np)])), (s1, .inl (cI, 60, .inl (fun zz => nI (tx zz)))), (s2, .inl (cI, 22, .inl (fun zz => nI (S zz))))] sz)) 0 0 (va_A [(h0, .inr (3, [.ref s1, .ref s2, .int (nI tn), .int (nI fl), .int (nI fp), .int (nI its), .int (itV it), .int (nI nu), .int (nI di), .int (nI nb), .int (nI np)])), (s1, .inl (cI, 60, .inl (fun zz => nI (tx zz)))), (s2, .inl (cI, 22, .inl (fun zz => nI (S zz))))] sz) := by
  refine kmet (by decide) ?_
  intro p e s m args below meth c Y hr hlocks hin hv
  obtain ⟨rfl, A, hAe, hsz, hP, hK, hD, hZ, hA⟩ := kinQ hv
  rw [hAe]
  have hS : va_S A s.heap s.heap [] := va_S.rf
  have hx := Y.1
  have hb := Y.2.1
  have hml := Y.2.2.1
  have hown := Y.2.2.2.1
  have hts := Y.2.2.2.2
  have hl := lv_entry ([.ref h0, .int (nI ch), .int (nI pos)]) (n := 4) (Nat.le_of_ble_eq_true rfl)
  rw [lg_entry_eq]
  generalize (lg_sl ([.ref h0, .int (nI ch), .int (nI pos)]) ++ List.replicate (4 - (lg_sl ([.ref h0, .int (nI ch), .int (nI pos)])).length) Slot.unset).toArray = ls at hl ⊢
  have hl : lv_has ls 4 [(0, .ref h0), (1, .int (nI ch)), (2, .int (nI pos))] := hl
  obtain ⟨hT1, hT2, hT3, hT4, hT5, hT6, hT7, hT8⟩ := id hT
  rcases (show it = 7 ∨ it < 7 by omega) with rfl | hit
  · refine lv_iload_n hx hb dX3_beginItem_0 rfl (lv_at hl 1 rfl) ?_
    refine kSi (As := [.int (nI ch)]) (rest := []) Y m_X3_indexOfLetter (c_X3_indexOfLetter l dC dI ch (by omega)) qm_X3_84 (kpS hK hP hZ hS [] [] rfl rfl) rfl hl.1 rfl (Nat.le_of_ble_eq_true rfl) dX3_beginItem_1 ⟨Nat.le_of_ble_eq_true rfl, Nat.le_of_ble_eq_true rfl⟩ ⟨Nat.zero_le _, Nat.zero_le _⟩ (fun r1 hr1 => ?_)
    obtain rfl : r1 = itV (letc ch) := hr1
    rcases (show letc ch = 7 ∨ letc ch < 7 by have := letc_le ch; omega) with hlt | hlt
    · refine ri_set hx hb (x' := -1) (by rw [hlt]; rfl) ?_
      refine lv_istore_n (lv' := [(3, .int (-1)), (0, .ref h0), (1, .int (nI ch)), (2, .int (nI pos))]) hx hb dX3_beginItem_4 rfl hl (by decide) rfl (fun ls hl => ?_)
      refine lv_aload_n hx hb dX3_beginItem_5 rfl (lv_at hl 1 rfl) ?_
      refine va_get (D := (dC, dI)) (ci := 3) (v := .int (itV 7)) (C := RX3) (T := TX3) (N := 11) hx hb hts inlX3 hown hK hP 0 rfl rfl 6 (by decide) (hts _ qf_X3_18) (fun _ h9 => h9) rfl dX3_beginItem_6 ?_
      refine ri_set hx hb (x' := -1) itV_7 ?_
      refine lv_iconst (v := -1) hx hb dX3_beginItem_9 (by decide) ?_
      refine lv_icmp_ne (tgt := 18) hx hb dX3_beginItem_10 (by decide) (fun c10 => ?_) (fun c10 => ?_)
      · exact absurd rfl c10
      · refine lv_iload_n hx hb dX3_beginItem_13 rfl (lv_at hl 0 rfl) ?_
        refine lv_iconst (v := -1) hx hb dX3_beginItem_14 (by decide) ?_
        refine lv_icmp_ne (tgt := 25) hx hb dX3_beginItem_15 (by decide) (fun c15 => ?_) (fun c15 => ?_)
        · exact absurd rfl c15
        · refine lv_aload_n hx hb dX3_beginItem_18 rfl (lv_at hl 1 rfl) ?_
          refine lv_iconst (v := nI 1) hx hb dX3_beginItem_19 (by decide) ?_
          refine lv_iload_n hx hb dX3_beginItem_20 rfl (lv_at hl 3 rfl) ?_
          refine kQv (As := [.int (nI 1), .int (nI pos)]) (rest := []) (wr := [(s1, .inl (cI, 60, .inl (fun zz => nI (tx zz)))), (s2, .inl (cI, 22, .inl (fun zz => nI (S zz))))]) Y m_X3_setFault (c_X3_setFault l dC dI _ h0 s1 s2 tn fl fp its 7 nu di nb np 1 pos ) qm_X3_50 hP hD hS hA [0] [1, 2] rfl rfl (by decide) (by decide) (kqV (ci := 3) hK hP hD hZ hS hA [0] [] rfl (by decide) rfl 0 rfl rfl rfl) rfl hl.1 rfl (Nat.le_of_ble_eq_true rfl) dX3_beginItem_21 ⟨Nat.le_of_ble_eq_true rfl, Nat.le_of_ble_eq_true rfl⟩ ⟨Nat.zero_le _, Nat.zero_le _⟩ (fun u21 H locs hr21 hP hD hS => ?_)
          have hP : va_P (dC, dI) vwCl [(s1, .inl (cI, 60, .inl (fun zz => nI (tx zz)))), (s2, .inl (cI, 22, .inl (fun zz => nI (S zz)))), (h0, .inr (3, [.ref s1, .ref s2, .int (nI tn), .int (nI 1), .int (nI pos), .int (nI its), .int (itV 7), .int (nI nu), .int (nI di), .int (nI nb), .int (nI np)]))] H := hP
          have hD : va_D A [(s1, .inl (cI, 60, .inl (fun zz => nI (tx zz)))), (s2, .inl (cI, 22, .inl (fun zz => nI (S zz)))), (h0, .inr (3, [.ref s1, .ref s2, .int (nI tn), .int (nI 1), .int (nI pos), .int (nI its), .int (itV 7), .int (nI nu), .int (nI di), .int (nI nb), .int (nI np)]))] := hD
          exact kqv (w1 := (fun u : Nat × Nat × Nat × Nat => [(h0, .inr (3, [.ref s1, .ref s2, .int (nI tn), .int (nI u.1), .int (nI u.2.1), .int (nI its), .int (itV u.2.2.1), .int (nI u.2.2.2), .int (nI di), .int (nI nb), .int (nI np)])), (s1, .inl (cI, 60, .inl (fun zz => nI (tx zz)))), (s2, .inl (cI, 22, .inl (fun zz => nI (S zz))))])) Y hr hlocks hK hP hD hS [2, 0, 1] (by decide) (1, pos, 7, nu) rfl (by simp only [bgI]; rw [if_pos (Or.inr hlt)]) dX3_beginItem_24
    · refine ri_set hx hb (x' := nI (letc ch)) (itV_n hlt) ?_
      refine lv_istore_n (lv' := [(3, .int (nI (letc ch))), (0, .ref h0), (1, .int (nI ch)), (2, .int (nI pos))]) hx hb dX3_beginItem_4 rfl hl (by decide) rfl (fun ls hl => ?_)
      refine lv_aload_n hx hb dX3_beginItem_5 rfl (lv_at hl 1 rfl) ?_
      refine va_get (D := (dC, dI)) (ci := 3) (v := .int (itV 7)) (C := RX3) (T := TX3) (N := 11) hx hb hts inlX3 hown hK hP 0 rfl rfl 6 (by decide) (hts _ qf_X3_18) (fun _ h9 => h9) rfl dX3_beginItem_6 ?_
      refine ri_set hx hb (x' := -1) itV_7 ?_
      refine lv_iconst (v := -1) hx hb dX3_beginItem_9 (by decide) ?_
      refine lv_icmp_ne (tgt := 18) hx hb dX3_beginItem_10 (by decide) (fun c10 => ?_) (fun c10 => ?_)
      · exact absurd rfl c10
      · refine lv_iload_n hx hb dX3_beginItem_13 rfl (lv_at hl 0 rfl) ?_
        refine lv_iconst (v := -1) hx hb dX3_beginItem_14 (by decide) ?_
        refine lv_icmp_ne (tgt := 25) hx hb dX3_beginItem_15 (by decide) (fun c15 => ?_) (fun c15 => ?_)
        · refine lv_aload_n hx hb dX3_beginItem_25 rfl (lv_at hl 1 rfl) ?_
          refine lv_iload_n hx hb dX3_beginItem_26 rfl (lv_at hl 0 rfl) ?_
          refine ri_set hx hb (x' := itV (letc ch)) (itV_n hlt).symm ?_
          refine va_put (D := (dC, dI)) (ci := 3) (v := .int (itV (letc ch))) (ty := .int) (C := RX3) (T := TX3) (N := 11) hx hb hts inlX3 tyX3 tyX3_ok nmX3 hown hK hP hD hS 0 rfl rfl 6 (by decide) (hts _ qf_X3_18) (fun _ h9 => h9) rfl (by decide +kernel) rfl rfl (Nat.le_of_ble_eq_true rfl) dX3_beginItem_27 (fun H locs hP hD hS => ?_)
          have hP : va_P (dC, dI) vwCl [(h0, .inr (3, [.ref s1, .ref s2, .int (nI tn), .int (nI fl), .int (nI fp), .int (nI its), .int (itV (letc ch)), .int (nI nu), .int (nI di), .int (nI nb), .int (nI np)])), (s1, .inl (cI, 60, .inl (fun zz => nI (tx zz)))), (s2, .inl (cI, 22, .inl (fun zz => nI (S zz))))] H := hP
          have hD : va_D A [(h0, .inr (3, [.ref s1, .ref s2, .int (nI tn), .int (nI fl), .int (nI fp), .int (nI its), .int (itV (letc ch)), .int (nI nu), .int (nI di), .int (nI nb), .int (nI np)])), (s1, .inl (cI, 60, .inl (fun zz => nI (tx zz)))), (s2, .inl (cI, 22, .inl (fun zz => nI (S zz))))] := hD
          refine lv_aload_n hx hb dX3_beginItem_30 rfl (lv_at hl 1 rfl) ?_
          refine lv_iconst (v := nI 0) hx hb dX3_beginItem_31 (by decide) ?_
          refine va_put (D := (dC, dI)) (ci := 3) (v := .int (nI 0)) (ty := .int) (C := RX3) (T := TX3) (N := 11) hx hb hts inlX3 tyX3 tyX3_ok nmX3 hown hK hP hD hS 0 rfl rfl 7 (by decide) (hts _ qf_X3_72) (fun _ h9 => h9) rfl (by decide +kernel) rfl rfl (Nat.le_of_ble_eq_true rfl) dX3_beginItem_32 (fun H locs hP hD hS => ?_)
          have hP : va_P (dC, dI) vwCl [(h0, .inr (3, [.ref s1, .ref s2, .int (nI tn), .int (nI fl), .int (nI fp), .int (nI its), .int (itV (letc ch)), .int (nI 0), .int (nI di), .int (nI nb), .int (nI np)])), (s1, .inl (cI, 60, .inl (fun zz => nI (tx zz)))), (s2, .inl (cI, 22, .inl (fun zz => nI (S zz))))] H := hP
          have hD : va_D A [(h0, .inr (3, [.ref s1, .ref s2, .int (nI tn), .int (nI fl), .int (nI fp), .int (nI its), .int (itV (letc ch)), .int (nI 0), .int (nI di), .int (nI nb), .int (nI np)])), (s1, .inl (cI, 60, .inl (fun zz => nI (tx zz)))), (s2, .inl (cI, 22, .inl (fun zz => nI (S zz))))] := hD
          exact kqv (w1 := (fun u : Nat × Nat × Nat × Nat => [(h0, .inr (3, [.ref s1, .ref s2, .int (nI tn), .int (nI u.1), .int (nI u.2.1), .int (nI its), .int (itV u.2.2.1), .int (nI u.2.2.2), .int (nI di), .int (nI nb), .int (nI np)])), (s1, .inl (cI, 60, .inl (fun zz => nI (tx zz)))), (s2, .inl (cI, 22, .inl (fun zz => nI (S zz))))])) Y hr hlocks hK hP hD hS [0, 1, 2] (by decide) (fl, fp, (letc ch), 0) rfl (by simp only [bgI]; rw [if_neg (fun q => q.elim (fun z => absurd rfl z) (fun z => by omega))]) dX3_beginItem_35
        · exact absurd c15 (nI_m1 (by omega))
  · refine lv_iload_n hx hb dX3_beginItem_0 rfl (lv_at hl 1 rfl) ?_
    refine kSi (As := [.int (nI ch)]) (rest := []) Y m_X3_indexOfLetter (c_X3_indexOfLetter l dC dI ch (by omega)) qm_X3_84 (kpS hK hP hZ hS [] [] rfl rfl) rfl hl.1 rfl (Nat.le_of_ble_eq_true rfl) dX3_beginItem_1 ⟨Nat.le_of_ble_eq_true rfl, Nat.le_of_ble_eq_true rfl⟩ ⟨Nat.zero_le _, Nat.zero_le _⟩ (fun r1 hr1 => ?_)
    obtain rfl : r1 = itV (letc ch) := hr1
    rcases (show letc ch = 7 ∨ letc ch < 7 by have := letc_le ch; omega) with hlt | hlt
    · refine ri_set hx hb (x' := -1) (by rw [hlt]; rfl) ?_
      refine lv_istore_n (lv' := [(3, .int (-1)), (0, .ref h0), (1, .int (nI ch)), (2, .int (nI pos))]) hx hb dX3_beginItem_4 rfl hl (by decide) rfl (fun ls hl => ?_)
      refine lv_aload_n hx hb dX3_beginItem_5 rfl (lv_at hl 1 rfl) ?_
      refine va_get (D := (dC, dI)) (ci := 3) (v := .int (itV it)) (C := RX3) (T := TX3) (N := 11) hx hb hts inlX3 hown hK hP 0 rfl rfl 6 (by decide) (hts _ qf_X3_18) (fun _ h9 => h9) rfl dX3_beginItem_6 ?_
      refine ri_set hx hb (x' := nI it) (itV_n hit) ?_
      refine lv_iconst (v := -1) hx hb dX3_beginItem_9 (by decide) ?_
      refine lv_icmp_ne (tgt := 18) hx hb dX3_beginItem_10 (by decide) (fun c10 => ?_) (fun c10 => ?_)
      · refine lv_aload_n hx hb dX3_beginItem_18 rfl (lv_at hl 1 rfl) ?_
        refine lv_iconst (v := nI 1) hx hb dX3_beginItem_19 (by decide) ?_
        refine lv_iload_n hx hb dX3_beginItem_20 rfl (lv_at hl 3 rfl) ?_
        refine kQv (As := [.int (nI 1), .int (nI pos)]) (rest := []) (wr := [(s1, .inl (cI, 60, .inl (fun zz => nI (tx zz)))), (s2, .inl (cI, 22, .inl (fun zz => nI (S zz))))]) Y m_X3_setFault (c_X3_setFault l dC dI _ h0 s1 s2 tn fl fp its it nu di nb np 1 pos ) qm_X3_50 hP hD hS hA [0] [1, 2] rfl rfl (by decide) (by decide) (kqV (ci := 3) hK hP hD hZ hS hA [0] [] rfl (by decide) rfl 0 rfl rfl rfl) rfl hl.1 rfl (Nat.le_of_ble_eq_true rfl) dX3_beginItem_21 ⟨Nat.le_of_ble_eq_true rfl, Nat.le_of_ble_eq_true rfl⟩ ⟨Nat.zero_le _, Nat.zero_le _⟩ (fun u21 H locs hr21 hP hD hS => ?_)
        have hP : va_P (dC, dI) vwCl [(s1, .inl (cI, 60, .inl (fun zz => nI (tx zz)))), (s2, .inl (cI, 22, .inl (fun zz => nI (S zz)))), (h0, .inr (3, [.ref s1, .ref s2, .int (nI tn), .int (nI 1), .int (nI pos), .int (nI its), .int (itV it), .int (nI nu), .int (nI di), .int (nI nb), .int (nI np)]))] H := hP
        have hD : va_D A [(s1, .inl (cI, 60, .inl (fun zz => nI (tx zz)))), (s2, .inl (cI, 22, .inl (fun zz => nI (S zz)))), (h0, .inr (3, [.ref s1, .ref s2, .int (nI tn), .int (nI 1), .int (nI pos), .int (nI its), .int (itV it), .int (nI nu), .int (nI di), .int (nI nb), .int (nI np)]))] := hD
        exact kqv (w1 := (fun u : Nat × Nat × Nat × Nat => [(h0, .inr (3, [.ref s1, .ref s2, .int (nI tn), .int (nI u.1), .int (nI u.2.1), .int (nI its), .int (itV u.2.2.1), .int (nI u.2.2.2), .int (nI di), .int (nI nb), .int (nI np)])), (s1, .inl (cI, 60, .inl (fun zz => nI (tx zz)))), (s2, .inl (cI, 22, .inl (fun zz => nI (S zz))))])) Y hr hlocks hK hP hD hS [2, 0, 1] (by decide) (1, pos, it, nu) rfl (by simp only [bgI]; rw [if_pos (Or.inl (by omega))]) dX3_beginItem_24
      · exact absurd c10 (nI_m1 (by omega))
    · refine ri_set hx hb (x' := nI (letc ch)) (itV_n hlt) ?_
      refine lv_istore_n (lv' := [(3, .int (nI (letc ch))), (0, .ref h0), (1, .int (nI ch)), (2, .int (nI pos))]) hx hb dX3_beginItem_4 rfl hl (by decide) rfl (fun ls hl => ?_)
      refine lv_aload_n hx hb dX3_beginItem_5 rfl (lv_at hl 1 rfl) ?_
      refine va_get (D := (dC, dI)) (ci := 3) (v := .int (itV it)) (C := RX3) (T := TX3) (N := 11) hx hb hts inlX3 hown hK hP 0 rfl rfl 6 (by decide) (hts _ qf_X3_18) (fun _ h9 => h9) rfl dX3_beginItem_6 ?_
      refine ri_set hx hb (x' := nI it) (itV_n hit) ?_
      refine lv_iconst (v := -1) hx hb dX3_beginItem_9 (by decide) ?_
      refine lv_icmp_ne (tgt := 18) hx hb dX3_beginItem_10 (by decide) (fun c10 => ?_) (fun c10 => ?_)
      · refine lv_aload_n hx hb dX3_beginItem_18 rfl (lv_at hl 1 rfl) ?_
        refine lv_iconst (v := nI 1) hx hb dX3_beginItem_19 (by decide) ?_
        refine lv_iload_n hx hb dX3_beginItem_20 rfl (lv_at hl 3 rfl) ?_
        refine kQv (As := [.int (nI 1), .int (nI pos)]) (rest := []) (wr := [(s1, .inl (cI, 60, .inl (fun zz => nI (tx zz)))), (s2, .inl (cI, 22, .inl (fun zz => nI (S zz))))]) Y m_X3_setFault (c_X3_setFault l dC dI _ h0 s1 s2 tn fl fp its it nu di nb np 1 pos ) qm_X3_50 hP hD hS hA [0] [1, 2] rfl rfl (by decide) (by decide) (kqV (ci := 3) hK hP hD hZ hS hA [0] [] rfl (by decide) rfl 0 rfl rfl rfl) rfl hl.1 rfl (Nat.le_of_ble_eq_true rfl) dX3_beginItem_21 ⟨Nat.le_of_ble_eq_true rfl, Nat.le_of_ble_eq_true rfl⟩ ⟨Nat.zero_le _, Nat.zero_le _⟩ (fun u21 H locs hr21 hP hD hS => ?_)
        have hP : va_P (dC, dI) vwCl [(s1, .inl (cI, 60, .inl (fun zz => nI (tx zz)))), (s2, .inl (cI, 22, .inl (fun zz => nI (S zz)))), (h0, .inr (3, [.ref s1, .ref s2, .int (nI tn), .int (nI 1), .int (nI pos), .int (nI its), .int (itV it), .int (nI nu), .int (nI di), .int (nI nb), .int (nI np)]))] H := hP
        have hD : va_D A [(s1, .inl (cI, 60, .inl (fun zz => nI (tx zz)))), (s2, .inl (cI, 22, .inl (fun zz => nI (S zz)))), (h0, .inr (3, [.ref s1, .ref s2, .int (nI tn), .int (nI 1), .int (nI pos), .int (nI its), .int (itV it), .int (nI nu), .int (nI di), .int (nI nb), .int (nI np)]))] := hD
        exact kqv (w1 := (fun u : Nat × Nat × Nat × Nat => [(h0, .inr (3, [.ref s1, .ref s2, .int (nI tn), .int (nI u.1), .int (nI u.2.1), .int (nI its), .int (itV u.2.2.1), .int (nI u.2.2.2), .int (nI di), .int (nI nb), .int (nI np)])), (s1, .inl (cI, 60, .inl (fun zz => nI (tx zz)))), (s2, .inl (cI, 22, .inl (fun zz => nI (S zz))))])) Y hr hlocks hK hP hD hS [2, 0, 1] (by decide) (1, pos, it, nu) rfl (by simp only [bgI]; rw [if_pos (Or.inl (by omega))]) dX3_beginItem_24
      · exact absurd c10 (nI_m1 (by omega))
set_option maxHeartbeats 4000000 in
set_option maxRecDepth 100000 in
theorem c_X3_readCharacter (l : Launch) (dC : Nat → ClassId) (dI : Nat → Nat → Nat) (sz : Nat) (cI : ClassId) (h0 s1 s2 : Nat) (tn fp its it nu di nb np : Nat) (tx S : Nat → Nat) (ch pos : Nat) (h1 : pos ≤ 60) (h2 : ch ≤ 126) (h3 : its ≤ 60) (hT : TIv it nu di nb np S) : Met l yX3_readCharacter (kw yX3_readCharacter cX3_readCharacter 3 none) (kR 2 45) (kPq (dC, dI) [.ref h0, .int (nI ch), .int (nI pos)] sz [(h0, .inr (3, [.ref s1, .ref s2, .int (nI tn), .int (nI 0), .int (nI fp), .int (nI its), .int (itV it), .int (nI nu), .int (nI di), .int (nI nb), .int (nI np)])), (s1, .inl (cI, 60, .inl (fun zz => nI (tx zz)))), (s2, .inl (cI, 22, .inl (fun zz => nI (S zz))))] [(cI, .int)]) (va_Qv (fun u : Nat × Nat × Nat × Nat × Nat × Nat × Nat × Nat × (Nat → Nat) => (u.1, u.2.1, u.2.2.1, u.2.2.2.1, u.2.2.2.2.1, u.2.2.2.2.2.1, u.2.2.2.2.2.2.1, u.2.2.2.2.2.2.2.1, u.2.2.2.2.2.2.2.2) = stepc (0, fp, its, it, nu, di, nb, np, S) ch pos) (fun u : Nat × Nat × Nat × Nat × Nat × Nat × Nat × Nat × (Nat → Nat) => kB (dC, dI) [(cI, .int)] (va_A [(h0, .inr (3, [.ref s1, .ref s2, .int (nI tn), .int (nI 0), .int (nI fp), .int (nI its), .int (itV it), .int (nI nu), .int (nI di), .int (nI nb), .int (nI np)])), (s1, .inl (cI, 60, .inl (fun zz => nI (tx zz)))), (s2, .inl (cI, 22, .inl (fun zz => nI (S zz))))] sz) ([(h0, .inr (3, [.ref s1, .ref s2, .int (nI tn), .int (nI u.1), .int (nI u.2.1), .int (nI u.2.2.1), .int (itV u.2.2.2.1), .int (nI u.2.2.2.2.1), .int (nI u.2.2.2.2.2.1), .int (nI u.2.2.2.2.2.2.1), .int (nI u.2.2.2.2.2.2.2.1)])), (s1, .inl (cI, 60, .inl (fun zz => nI (tx zz)))), (s2, .inl (cI, 22, .inl (fun zz => nI (u.2.2.2.2.2.2.2.2 zz))))])) (va_A [(h0, .inr (3, [.ref s1, .ref s2, .int (nI tn), .int (nI 0), .int (nI fp), .int (nI its), .int (itV it), .int (nI nu), .int (nI di), .int (nI nb), .int (nI np)])), (s1, .inl (cI, 60, .inl (fun zz => nI (tx zz)))), (s2, .inl (cI, 22, .inl (fun zz => nI (S zz))))] sz)) 0 0 (va_A [(h0, .inr (3, [.ref s1, .ref s2, .int (nI tn), .int (nI 0), .int (nI fp), .int (nI its), .int (itV it), .int (nI nu), .int (nI di), .int (nI nb), .int (nI np)])), (s1, .inl (cI, 60, .inl (fun zz => nI (tx zz)))), (s2, .inl (cI, 22, .inl (fun zz => nI (S zz))))] sz) := by
  refine kmet (by decide) ?_
  intro p e s m args below meth c Y hr hlocks hin hv
  obtain ⟨rfl, A, hAe, hsz, hP, hK, hD, hZ, hA⟩ := kinQ hv
  rw [hAe]
  have hS : va_S A s.heap s.heap [] := va_S.rf
  have hx := Y.1
  have hb := Y.2.1
  have hml := Y.2.2.1
  have hown := Y.2.2.2.1
  have hts := Y.2.2.2.2
  have hl := lv_entry ([.ref h0, .int (nI ch), .int (nI pos)]) (n := 3) (Nat.le_of_ble_eq_true rfl)
  rw [lg_entry_eq]
  generalize (lg_sl ([.ref h0, .int (nI ch), .int (nI pos)]) ++ List.replicate (3 - (lg_sl ([.ref h0, .int (nI ch), .int (nI pos)])).length) Slot.unset).toArray = ls at hl ⊢
  have hl : lv_has ls 3 [(0, .ref h0), (1, .int (nI ch)), (2, .int (nI pos))] := hl
  refine lv_iload_n hx hb dX3_readCharacter_0 rfl (lv_at hl 1 rfl) ?_
  refine lv_bipush (v := nI 48) hx hb dX3_readCharacter_1 (by decide) ?_
  refine ri_clt (tgt := 22) hx hb dX3_readCharacter_3 (by decide) (by omega) (by omega) (fun c3 => ?_) (fun c3 => ?_)
  · refine lv_aload_n hx hb dX3_readCharacter_22 rfl (lv_at hl 0 rfl) ?_
    refine kQv (As := []) (rest := []) (wr := []) Y m_X3_endNumber (c_X3_endNumber l dC dI _ cI h0 s1 s2 tn 0 fp its it nu di nb np tx S hT) qm_X3_47 hP hD hS hA [0, 1, 2] [] rfl rfl (by decide) (by decide) (kqV (ci := 3) hK hP hD hZ hS hA [0, 1, 2] [0] rfl (by decide) rfl 0 rfl rfl rfl) rfl hl.1 rfl (Nat.le_of_ble_eq_true rfl) dX3_readCharacter_23 ⟨Nat.le_of_ble_eq_true rfl, Nat.le_of_ble_eq_true rfl⟩ ⟨Nat.zero_le _, Nat.zero_le _⟩ (fun u23 H locs hr23 hP hD hS => ?_)
    obtain ⟨fl2_23, fp2_23, nu2_23, di2_23, S2_23⟩ := u23
    have hP : va_P (dC, dI) vwCl [(h0, .inr (3, [.ref s1, .ref s2, .int (nI tn), .int (nI fl2_23), .int (nI fp2_23), .int (nI its), .int (itV it), .int (nI nu2_23), .int (nI di2_23), .int (nI nb), .int (nI np)])), (s1, .inl (cI, 60, .inl (fun zz => nI (tx zz)))), (s2, .inl (cI, 22, .inl (fun zz => nI (S2_23 zz))))] H := hP
    have hD : va_D A [(h0, .inr (3, [.ref s1, .ref s2, .int (nI tn), .int (nI fl2_23), .int (nI fp2_23), .int (nI its), .int (itV it), .int (nI nu2_23), .int (nI di2_23), .int (nI nb), .int (nI np)])), (s1, .inl (cI, 60, .inl (fun zz => nI (tx zz)))), (s2, .inl (cI, 22, .inl (fun zz => nI (S2_23 zz))))] := hD
    have hr23 : (fl2_23, fp2_23, its, it, nu2_23, di2_23, nb, np, S2_23) = endN (0, fp, its, it, nu, di, nb, np, S) := hr23
    have hfl9 := endN_fl (s := (0, fp, its, it, nu, di, nb, np, S)) (show 0 ≤ 3 by omega)
    rw [← hr23] at hfl9
    have hfl9 : fl2_23 ≤ 3 := hfl9
    have hT9 := TIs_endN (fl := 0) (fp := fp) (its := its) hT
    rw [← hr23] at hT9
    have hT9 : TIv it nu2_23 di2_23 nb np S2_23 := hT9
    refine lv_aload_n hx hb dX3_readCharacter_26 rfl (lv_at hl 0 rfl) ?_
    refine va_get (D := (dC, dI)) (ci := 3) (v := .int (nI fl2_23)) (C := RX3) (T := TX3) (N := 11) hx hb hts inlX3 hown hK hP 0 rfl rfl 3 (by decide) (hts _ qf_X3_25) (fun _ h9 => h9) rfl dX3_readCharacter_27 ?_
    refine ri_zne (tgt := 39) hx hb dX3_readCharacter_30 (by decide) (by omega) (fun c30 => ?_) (fun c30 => ?_)
    · exact kqv (w1 := (fun u : Nat × Nat × Nat × Nat × Nat × Nat × Nat × Nat × (Nat → Nat) => [(h0, .inr (3, [.ref s1, .ref s2, .int (nI tn), .int (nI u.1), .int (nI u.2.1), .int (nI u.2.2.1), .int (itV u.2.2.2.1), .int (nI u.2.2.2.2.1), .int (nI u.2.2.2.2.2.1), .int (nI u.2.2.2.2.2.2.1), .int (nI u.2.2.2.2.2.2.2.1)])), (s1, .inl (cI, 60, .inl (fun zz => nI (tx zz)))), (s2, .inl (cI, 22, .inl (fun zz => nI (u.2.2.2.2.2.2.2.2 zz))))])) Y hr hlocks hK hP hD hS [0, 1, 2] (by decide) (fl2_23, fp2_23, its, it, nu2_23, di2_23, nb, np, S2_23) rfl (stepc_end (by omega) hr23 (Or.inl c30)).symm dX3_readCharacter_39
    · refine lv_iload_n hx hb dX3_readCharacter_33 rfl (lv_at hl 1 rfl) ?_
      refine lv_bipush (v := nI 32) hx hb dX3_readCharacter_34 (by decide) ?_
      refine ri_cne (tgt := 40) hx hb dX3_readCharacter_36 (by decide) (by omega) (by omega) (fun c36 => ?_) (fun c36 => ?_)
      · refine lv_iload_n hx hb dX3_readCharacter_40 rfl (lv_at hl 1 rfl) ?_
        refine lv_bipush (v := nI 59) hx hb dX3_readCharacter_41 (by decide) ?_
        refine ri_cne (tgt := 54) hx hb dX3_readCharacter_43 (by decide) (by omega) (by omega) (fun c43 => ?_) (fun c43 => ?_)
        · refine lv_aload_n hx hb dX3_readCharacter_54 rfl (lv_at hl 0 rfl) ?_
          refine lv_iload_n hx hb dX3_readCharacter_55 rfl (lv_at hl 1 rfl) ?_
          refine lv_iload_n hx hb dX3_readCharacter_56 rfl (lv_at hl 2 rfl) ?_
          refine kQv (As := [.int (nI ch), .int (nI pos)]) (rest := []) (wr := []) Y m_X3_beginItem (c_X3_beginItem l dC dI H.size cI h0 s1 s2 tn fl2_23 fp2_23 its it nu2_23 di2_23 nb np tx S2_23 ch pos (by omega) (by omega) hT9) qm_X3_60 hP hD hS hA [0, 1, 2] [] rfl rfl (by decide) (by decide) (kqV (ci := 3) hK hP hD hZ hS hA [0, 1, 2] [0] rfl (by decide) rfl 0 rfl rfl rfl) rfl hl.1 rfl (Nat.le_of_ble_eq_true rfl) dX3_readCharacter_57 ⟨Nat.le_of_ble_eq_true rfl, Nat.le_of_ble_eq_true rfl⟩ ⟨Nat.zero_le _, Nat.zero_le _⟩ (fun u57 H locs hr57 hP hD hS => ?_)
          obtain ⟨fl2_57, fp2_57, it2_57, nu2_57⟩ := u57
          have hP : va_P (dC, dI) vwCl [(h0, .inr (3, [.ref s1, .ref s2, .int (nI tn), .int (nI fl2_57), .int (nI fp2_57), .int (nI its), .int (itV it2_57), .int (nI nu2_57), .int (nI di2_23), .int (nI nb), .int (nI np)])), (s1, .inl (cI, 60, .inl (fun zz => nI (tx zz)))), (s2, .inl (cI, 22, .inl (fun zz => nI (S2_23 zz))))] H := hP
          have hD : va_D A [(h0, .inr (3, [.ref s1, .ref s2, .int (nI tn), .int (nI fl2_57), .int (nI fp2_57), .int (nI its), .int (itV it2_57), .int (nI nu2_57), .int (nI di2_23), .int (nI nb), .int (nI np)])), (s1, .inl (cI, 60, .inl (fun zz => nI (tx zz)))), (s2, .inl (cI, 22, .inl (fun zz => nI (S2_23 zz))))] := hD
          have hr57 : (fl2_57, fp2_57, its, it2_57, nu2_57, di2_23, nb, np, S2_23) = bgI (fl2_23, fp2_23, its, it, nu2_23, di2_23, nb, np, S2_23) ch pos := hr57
          exact kqv (w1 := (fun u : Nat × Nat × Nat × Nat × Nat × Nat × Nat × Nat × (Nat → Nat) => [(h0, .inr (3, [.ref s1, .ref s2, .int (nI tn), .int (nI u.1), .int (nI u.2.1), .int (nI u.2.2.1), .int (itV u.2.2.2.1), .int (nI u.2.2.2.2.1), .int (nI u.2.2.2.2.2.1), .int (nI u.2.2.2.2.2.2.1), .int (nI u.2.2.2.2.2.2.2.1)])), (s1, .inl (cI, 60, .inl (fun zz => nI (tx zz)))), (s2, .inl (cI, 22, .inl (fun zz => nI (u.2.2.2.2.2.2.2.2 zz))))])) Y hr hlocks hK hP hD hS [0, 1, 2] (by decide) (fl2_57, fp2_57, its, it2_57, nu2_57, di2_23, nb, np, S2_23) rfl (hr57.trans (stepc_beg (by omega) hr23 (fun q => q.elim (fun z => absurd c30 z) (fun z => by omega)) (by omega)).symm) dX3_readCharacter_60
        · refine lv_aload_n hx hb dX3_readCharacter_46 rfl (lv_at hl 0 rfl) ?_
          refine lv_iload_n hx hb dX3_readCharacter_47 rfl (lv_at hl 2 rfl) ?_
          refine kQv (As := [.int (nI pos)]) (rest := []) (wr := []) Y m_X3_endItem (c_X3_endItem l dC dI H.size cI h0 s1 s2 tn fl2_23 fp2_23 its it nu2_23 di2_23 nb np tx S2_23 pos (by omega) hT9 (by omega)) qm_X3_56 hP hD hS hA [0, 1, 2] [] rfl rfl (by decide) (by decide) (kqV (ci := 3) hK hP hD hZ hS hA [0, 1, 2] [0] rfl (by decide) rfl 0 rfl rfl rfl) rfl hl.1 rfl (Nat.le_of_ble_eq_true rfl) dX3_readCharacter_48 ⟨Nat.le_of_ble_eq_true rfl, Nat.le_of_ble_eq_true rfl⟩ ⟨Nat.zero_le _, Nat.zero_le _⟩ (fun u48 H locs hr48 hP hD hS => ?_)
          obtain ⟨fl2_48, fp2_48, its2_48, it2_48, S2_48⟩ := u48
          have hP : va_P (dC, dI) vwCl [(h0, .inr (3, [.ref s1, .ref s2, .int (nI tn), .int (nI fl2_48), .int (nI fp2_48), .int (nI its2_48), .int (itV it2_48), .int (nI nu2_23), .int (nI di2_23), .int (nI nb), .int (nI np)])), (s1, .inl (cI, 60, .inl (fun zz => nI (tx zz)))), (s2, .inl (cI, 22, .inl (fun zz => nI (S2_48 zz))))] H := hP
          have hD : va_D A [(h0, .inr (3, [.ref s1, .ref s2, .int (nI tn), .int (nI fl2_48), .int (nI fp2_48), .int (nI its2_48), .int (itV it2_48), .int (nI nu2_23), .int (nI di2_23), .int (nI nb), .int (nI np)])), (s1, .inl (cI, 60, .inl (fun zz => nI (tx zz)))), (s2, .inl (cI, 22, .inl (fun zz => nI (S2_48 zz))))] := hD
          have hr48 : (fl2_48, fp2_48, its2_48, it2_48, nu2_23, di2_23, nb, np, S2_48) = enI (fl2_23, fp2_23, its, it, nu2_23, di2_23, nb, np, S2_23) pos := hr48
          refine lv_goto (tgt := 60) hx hb dX3_readCharacter_51 (by decide) ?_
          exact kqv (w1 := (fun u : Nat × Nat × Nat × Nat × Nat × Nat × Nat × Nat × (Nat → Nat) => [(h0, .inr (3, [.ref s1, .ref s2, .int (nI tn), .int (nI u.1), .int (nI u.2.1), .int (nI u.2.2.1), .int (itV u.2.2.2.1), .int (nI u.2.2.2.2.1), .int (nI u.2.2.2.2.2.1), .int (nI u.2.2.2.2.2.2.1), .int (nI u.2.2.2.2.2.2.2.1)])), (s1, .inl (cI, 60, .inl (fun zz => nI (tx zz)))), (s2, .inl (cI, 22, .inl (fun zz => nI (u.2.2.2.2.2.2.2.2 zz))))])) Y hr hlocks hK hP hD hS [0, 1, 2] (by decide) (fl2_48, fp2_48, its2_48, it2_48, nu2_23, di2_23, nb, np, S2_48) rfl (hr48.trans (stepc_semi (by omega) hr23 (fun q => q.elim (fun z => absurd c30 z) (fun z => by omega)) c43).symm) dX3_readCharacter_60
      · exact kqv (w1 := (fun u : Nat × Nat × Nat × Nat × Nat × Nat × Nat × Nat × (Nat → Nat) => [(h0, .inr (3, [.ref s1, .ref s2, .int (nI tn), .int (nI u.1), .int (nI u.2.1), .int (nI u.2.2.1), .int (itV u.2.2.2.1), .int (nI u.2.2.2.2.1), .int (nI u.2.2.2.2.2.1), .int (nI u.2.2.2.2.2.2.1), .int (nI u.2.2.2.2.2.2.2.1)])), (s1, .inl (cI, 60, .inl (fun zz => nI (tx zz)))), (s2, .inl (cI, 22, .inl (fun zz => nI (u.2.2.2.2.2.2.2.2 zz))))])) Y hr hlocks hK hP hD hS [0, 1, 2] (by decide) (fl2_23, fp2_23, its, it, nu2_23, di2_23, nb, np, S2_23) rfl (stepc_end (by omega) hr23 (Or.inr c36)).symm dX3_readCharacter_39
  · refine lv_iload_n hx hb dX3_readCharacter_6 rfl (lv_at hl 1 rfl) ?_
    refine lv_bipush (v := nI 57) hx hb dX3_readCharacter_7 (by decide) ?_
    refine ri_cgt (tgt := 22) hx hb dX3_readCharacter_9 (by decide) (by omega) (by omega) (fun c9 => ?_) (fun c9 => ?_)
    · refine lv_aload_n hx hb dX3_readCharacter_22 rfl (lv_at hl 0 rfl) ?_
      refine kQv (As := []) (rest := []) (wr := []) Y m_X3_endNumber (c_X3_endNumber l dC dI _ cI h0 s1 s2 tn 0 fp its it nu di nb np tx S hT) qm_X3_47 hP hD hS hA [0, 1, 2] [] rfl rfl (by decide) (by decide) (kqV (ci := 3) hK hP hD hZ hS hA [0, 1, 2] [0] rfl (by decide) rfl 0 rfl rfl rfl) rfl hl.1 rfl (Nat.le_of_ble_eq_true rfl) dX3_readCharacter_23 ⟨Nat.le_of_ble_eq_true rfl, Nat.le_of_ble_eq_true rfl⟩ ⟨Nat.zero_le _, Nat.zero_le _⟩ (fun u23 H locs hr23 hP hD hS => ?_)
      obtain ⟨fl2_23, fp2_23, nu2_23, di2_23, S2_23⟩ := u23
      have hP : va_P (dC, dI) vwCl [(h0, .inr (3, [.ref s1, .ref s2, .int (nI tn), .int (nI fl2_23), .int (nI fp2_23), .int (nI its), .int (itV it), .int (nI nu2_23), .int (nI di2_23), .int (nI nb), .int (nI np)])), (s1, .inl (cI, 60, .inl (fun zz => nI (tx zz)))), (s2, .inl (cI, 22, .inl (fun zz => nI (S2_23 zz))))] H := hP
      have hD : va_D A [(h0, .inr (3, [.ref s1, .ref s2, .int (nI tn), .int (nI fl2_23), .int (nI fp2_23), .int (nI its), .int (itV it), .int (nI nu2_23), .int (nI di2_23), .int (nI nb), .int (nI np)])), (s1, .inl (cI, 60, .inl (fun zz => nI (tx zz)))), (s2, .inl (cI, 22, .inl (fun zz => nI (S2_23 zz))))] := hD
      have hr23 : (fl2_23, fp2_23, its, it, nu2_23, di2_23, nb, np, S2_23) = endN (0, fp, its, it, nu, di, nb, np, S) := hr23
      have hfl9 := endN_fl (s := (0, fp, its, it, nu, di, nb, np, S)) (show 0 ≤ 3 by omega)
      rw [← hr23] at hfl9
      have hfl9 : fl2_23 ≤ 3 := hfl9
      have hT9 := TIs_endN (fl := 0) (fp := fp) (its := its) hT
      rw [← hr23] at hT9
      have hT9 : TIv it nu2_23 di2_23 nb np S2_23 := hT9
      refine lv_aload_n hx hb dX3_readCharacter_26 rfl (lv_at hl 0 rfl) ?_
      refine va_get (D := (dC, dI)) (ci := 3) (v := .int (nI fl2_23)) (C := RX3) (T := TX3) (N := 11) hx hb hts inlX3 hown hK hP 0 rfl rfl 3 (by decide) (hts _ qf_X3_25) (fun _ h9 => h9) rfl dX3_readCharacter_27 ?_
      refine ri_zne (tgt := 39) hx hb dX3_readCharacter_30 (by decide) (by omega) (fun c30 => ?_) (fun c30 => ?_)
      · exact kqv (w1 := (fun u : Nat × Nat × Nat × Nat × Nat × Nat × Nat × Nat × (Nat → Nat) => [(h0, .inr (3, [.ref s1, .ref s2, .int (nI tn), .int (nI u.1), .int (nI u.2.1), .int (nI u.2.2.1), .int (itV u.2.2.2.1), .int (nI u.2.2.2.2.1), .int (nI u.2.2.2.2.2.1), .int (nI u.2.2.2.2.2.2.1), .int (nI u.2.2.2.2.2.2.2.1)])), (s1, .inl (cI, 60, .inl (fun zz => nI (tx zz)))), (s2, .inl (cI, 22, .inl (fun zz => nI (u.2.2.2.2.2.2.2.2 zz))))])) Y hr hlocks hK hP hD hS [0, 1, 2] (by decide) (fl2_23, fp2_23, its, it, nu2_23, di2_23, nb, np, S2_23) rfl (stepc_end (by omega) hr23 (Or.inl c30)).symm dX3_readCharacter_39
      · refine lv_iload_n hx hb dX3_readCharacter_33 rfl (lv_at hl 1 rfl) ?_
        refine lv_bipush (v := nI 32) hx hb dX3_readCharacter_34 (by decide) ?_
        refine ri_cne (tgt := 40) hx hb dX3_readCharacter_36 (by decide) (by omega) (by omega) (fun c36 => ?_) (fun c36 => ?_)
        · refine lv_iload_n hx hb dX3_readCharacter_40 rfl (lv_at hl 1 rfl) ?_
          refine lv_bipush (v := nI 59) hx hb dX3_readCharacter_41 (by decide) ?_
          refine ri_cne (tgt := 54) hx hb dX3_readCharacter_43 (by decide) (by omega) (by omega) (fun c43 => ?_) (fun c43 => ?_)
          · refine lv_aload_n hx hb dX3_readCharacter_54 rfl (lv_at hl 0 rfl) ?_
            refine lv_iload_n hx hb dX3_readCharacter_55 rfl (lv_at hl 1 rfl) ?_
            refine lv_iload_n hx hb dX3_readCharacter_56 rfl (lv_at hl 2 rfl) ?_
            refine kQv (As := [.int (nI ch), .int (nI pos)]) (rest := []) (wr := []) Y m_X3_beginItem (c_X3_beginItem l dC dI H.size cI h0 s1 s2 tn fl2_23 fp2_23 its it nu2_23 di2_23 nb np tx S2_23 ch pos (by omega) (by omega) hT9) qm_X3_60 hP hD hS hA [0, 1, 2] [] rfl rfl (by decide) (by decide) (kqV (ci := 3) hK hP hD hZ hS hA [0, 1, 2] [0] rfl (by decide) rfl 0 rfl rfl rfl) rfl hl.1 rfl (Nat.le_of_ble_eq_true rfl) dX3_readCharacter_57 ⟨Nat.le_of_ble_eq_true rfl, Nat.le_of_ble_eq_true rfl⟩ ⟨Nat.zero_le _, Nat.zero_le _⟩ (fun u57 H locs hr57 hP hD hS => ?_)
            obtain ⟨fl2_57, fp2_57, it2_57, nu2_57⟩ := u57
            have hP : va_P (dC, dI) vwCl [(h0, .inr (3, [.ref s1, .ref s2, .int (nI tn), .int (nI fl2_57), .int (nI fp2_57), .int (nI its), .int (itV it2_57), .int (nI nu2_57), .int (nI di2_23), .int (nI nb), .int (nI np)])), (s1, .inl (cI, 60, .inl (fun zz => nI (tx zz)))), (s2, .inl (cI, 22, .inl (fun zz => nI (S2_23 zz))))] H := hP
            have hD : va_D A [(h0, .inr (3, [.ref s1, .ref s2, .int (nI tn), .int (nI fl2_57), .int (nI fp2_57), .int (nI its), .int (itV it2_57), .int (nI nu2_57), .int (nI di2_23), .int (nI nb), .int (nI np)])), (s1, .inl (cI, 60, .inl (fun zz => nI (tx zz)))), (s2, .inl (cI, 22, .inl (fun zz => nI (S2_23 zz))))] := hD
            have hr57 : (fl2_57, fp2_57, its, it2_57, nu2_57, di2_23, nb, np, S2_23) = bgI (fl2_23, fp2_23, its, it, nu2_23, di2_23, nb, np, S2_23) ch pos := hr57
            exact kqv (w1 := (fun u : Nat × Nat × Nat × Nat × Nat × Nat × Nat × Nat × (Nat → Nat) => [(h0, .inr (3, [.ref s1, .ref s2, .int (nI tn), .int (nI u.1), .int (nI u.2.1), .int (nI u.2.2.1), .int (itV u.2.2.2.1), .int (nI u.2.2.2.2.1), .int (nI u.2.2.2.2.2.1), .int (nI u.2.2.2.2.2.2.1), .int (nI u.2.2.2.2.2.2.2.1)])), (s1, .inl (cI, 60, .inl (fun zz => nI (tx zz)))), (s2, .inl (cI, 22, .inl (fun zz => nI (u.2.2.2.2.2.2.2.2 zz))))])) Y hr hlocks hK hP hD hS [0, 1, 2] (by decide) (fl2_57, fp2_57, its, it2_57, nu2_57, di2_23, nb, np, S2_23) rfl (hr57.trans (stepc_beg (by omega) hr23 (fun q => q.elim (fun z => absurd c30 z) (fun z => by omega)) (by omega)).symm) dX3_readCharacter_60
          · refine lv_aload_n hx hb dX3_readCharacter_46 rfl (lv_at hl 0 rfl) ?_
            refine lv_iload_n hx hb dX3_readCharacter_47 rfl (lv_at hl 2 rfl) ?_
            refine kQv (As := [.int (nI pos)]) (rest := []) (wr := []) Y m_X3_endItem (c_X3_endItem l dC dI H.size cI h0 s1 s2 tn fl2_23 fp2_23 its it nu2_23 di2_23 nb np tx S2_23 pos (by omega) hT9 (by omega)) qm_X3_56 hP hD hS hA [0, 1, 2] [] rfl rfl (by decide) (by decide) (kqV (ci := 3) hK hP hD hZ hS hA [0, 1, 2] [0] rfl (by decide) rfl 0 rfl rfl rfl) rfl hl.1 rfl (Nat.le_of_ble_eq_true rfl) dX3_readCharacter_48 ⟨Nat.le_of_ble_eq_true rfl, Nat.le_of_ble_eq_true rfl⟩ ⟨Nat.zero_le _, Nat.zero_le _⟩ (fun u48 H locs hr48 hP hD hS => ?_)
            obtain ⟨fl2_48, fp2_48, its2_48, it2_48, S2_48⟩ := u48
            have hP : va_P (dC, dI) vwCl [(h0, .inr (3, [.ref s1, .ref s2, .int (nI tn), .int (nI fl2_48), .int (nI fp2_48), .int (nI its2_48), .int (itV it2_48), .int (nI nu2_23), .int (nI di2_23), .int (nI nb), .int (nI np)])), (s1, .inl (cI, 60, .inl (fun zz => nI (tx zz)))), (s2, .inl (cI, 22, .inl (fun zz => nI (S2_48 zz))))] H := hP
            have hD : va_D A [(h0, .inr (3, [.ref s1, .ref s2, .int (nI tn), .int (nI fl2_48), .int (nI fp2_48), .int (nI its2_48), .int (itV it2_48), .int (nI nu2_23), .int (nI di2_23), .int (nI nb), .int (nI np)])), (s1, .inl (cI, 60, .inl (fun zz => nI (tx zz)))), (s2, .inl (cI, 22, .inl (fun zz => nI (S2_48 zz))))] := hD
            have hr48 : (fl2_48, fp2_48, its2_48, it2_48, nu2_23, di2_23, nb, np, S2_48) = enI (fl2_23, fp2_23, its, it, nu2_23, di2_23, nb, np, S2_23) pos := hr48
            refine lv_goto (tgt := 60) hx hb dX3_readCharacter_51 (by decide) ?_
            exact kqv (w1 := (fun u : Nat × Nat × Nat × Nat × Nat × Nat × Nat × Nat × (Nat → Nat) => [(h0, .inr (3, [.ref s1, .ref s2, .int (nI tn), .int (nI u.1), .int (nI u.2.1), .int (nI u.2.2.1), .int (itV u.2.2.2.1), .int (nI u.2.2.2.2.1), .int (nI u.2.2.2.2.2.1), .int (nI u.2.2.2.2.2.2.1), .int (nI u.2.2.2.2.2.2.2.1)])), (s1, .inl (cI, 60, .inl (fun zz => nI (tx zz)))), (s2, .inl (cI, 22, .inl (fun zz => nI (u.2.2.2.2.2.2.2.2 zz))))])) Y hr hlocks hK hP hD hS [0, 1, 2] (by decide) (fl2_48, fp2_48, its2_48, it2_48, nu2_23, di2_23, nb, np, S2_48) rfl (hr48.trans (stepc_semi (by omega) hr23 (fun q => q.elim (fun z => absurd c30 z) (fun z => by omega)) c43).symm) dX3_readCharacter_60
        · exact kqv (w1 := (fun u : Nat × Nat × Nat × Nat × Nat × Nat × Nat × Nat × (Nat → Nat) => [(h0, .inr (3, [.ref s1, .ref s2, .int (nI tn), .int (nI u.1), .int (nI u.2.1), .int (nI u.2.2.1), .int (itV u.2.2.2.1), .int (nI u.2.2.2.2.1), .int (nI u.2.2.2.2.2.1), .int (nI u.2.2.2.2.2.2.1), .int (nI u.2.2.2.2.2.2.2.1)])), (s1, .inl (cI, 60, .inl (fun zz => nI (tx zz)))), (s2, .inl (cI, 22, .inl (fun zz => nI (u.2.2.2.2.2.2.2.2 zz))))])) Y hr hlocks hK hP hD hS [0, 1, 2] (by decide) (fl2_23, fp2_23, its, it, nu2_23, di2_23, nb, np, S2_23) rfl (stepc_end (by omega) hr23 (Or.inr c36)).symm dX3_readCharacter_39
    · refine lv_aload_n hx hb dX3_readCharacter_12 rfl (lv_at hl 0 rfl) ?_
      refine lv_iload_n hx hb dX3_readCharacter_13 rfl (lv_at hl 1 rfl) ?_
      refine lv_bipush (v := nI 48) hx hb dX3_readCharacter_14 (by decide) ?_
      refine ri_sub hx hb dX3_readCharacter_16 (by omega) ?_
      refine lv_iload_n hx hb dX3_readCharacter_17 rfl (lv_at hl 2 rfl) ?_
      refine kQv (As := [.int (nI (ch - 48)), .int (nI pos)]) (rest := []) (wr := []) Y m_X3_readDigit (c_X3_readDigit l dC dI _ cI h0 s1 s2 tn 0 fp its it nu di nb np tx S (ch - 48) pos (by omega) (by omega) hT) qm_X3_53 hP hD hS hA [0, 1, 2] [] rfl rfl (by decide) (by decide) (kqV (ci := 3) hK hP hD hZ hS hA [0, 1, 2] [0] rfl (by decide) rfl 0 rfl rfl rfl) rfl hl.1 rfl (Nat.le_of_ble_eq_true rfl) dX3_readCharacter_18 ⟨Nat.le_of_ble_eq_true rfl, Nat.le_of_ble_eq_true rfl⟩ ⟨Nat.zero_le _, Nat.zero_le _⟩ (fun u18 H locs hr18 hP hD hS => ?_)
      obtain ⟨fl2_18, fp2_18, di2_18, nb2_18, np2_18⟩ := u18
      have hP : va_P (dC, dI) vwCl [(h0, .inr (3, [.ref s1, .ref s2, .int (nI tn), .int (nI fl2_18), .int (nI fp2_18), .int (nI its), .int (itV it), .int (nI nu), .int (nI di2_18), .int (nI nb2_18), .int (nI np2_18)])), (s1, .inl (cI, 60, .inl (fun zz => nI (tx zz)))), (s2, .inl (cI, 22, .inl (fun zz => nI (S zz))))] H := hP
      have hD : va_D A [(h0, .inr (3, [.ref s1, .ref s2, .int (nI tn), .int (nI fl2_18), .int (nI fp2_18), .int (nI its), .int (itV it), .int (nI nu), .int (nI di2_18), .int (nI nb2_18), .int (nI np2_18)])), (s1, .inl (cI, 60, .inl (fun zz => nI (tx zz)))), (s2, .inl (cI, 22, .inl (fun zz => nI (S zz))))] := hD
      have hr18 : (fl2_18, fp2_18, its, it, nu, di2_18, nb2_18, np2_18, S) = rdD (0, fp, its, it, nu, di, nb, np, S) (ch - 48) pos := hr18
      exact kqv (w1 := (fun u : Nat × Nat × Nat × Nat × Nat × Nat × Nat × Nat × (Nat → Nat) => [(h0, .inr (3, [.ref s1, .ref s2, .int (nI tn), .int (nI u.1), .int (nI u.2.1), .int (nI u.2.2.1), .int (itV u.2.2.2.1), .int (nI u.2.2.2.2.1), .int (nI u.2.2.2.2.2.1), .int (nI u.2.2.2.2.2.2.1), .int (nI u.2.2.2.2.2.2.2.1)])), (s1, .inl (cI, 60, .inl (fun zz => nI (tx zz)))), (s2, .inl (cI, 22, .inl (fun zz => nI (u.2.2.2.2.2.2.2.2 zz))))])) Y hr hlocks hK hP hD hS [0, 1, 2] (by decide) (fl2_18, fp2_18, its, it, nu, di2_18, nb2_18, np2_18, S) rfl (hr18.trans (stepc_dig ⟨by omega, by omega⟩).symm) dX3_readCharacter_21
