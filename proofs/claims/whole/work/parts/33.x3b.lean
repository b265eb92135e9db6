set_option maxHeartbeats 4000000 in
set_option maxRecDepth 100000 in
theorem c_X3_endNumber (l : Launch) (dC : Nat → ClassId) (dI : Nat → Nat → Nat) (sz : Nat) (cI : ClassId) (h0 s1 s2 : Nat) (tn fl fp its it nu di nb np : Nat) (tx S : Nat → Nat) (hT : TIv it nu di nb np S) : Met l yX3_endNumber (kw yX3_endNumber cX3_endNumber 2 none) (kR 1 22) (kPq (dC, dI) [.ref h0] sz [(h0, .inr (3, [.ref s1, .ref s2, .int (nI tn), .int (nI fl), .int (nI fp), .int (nI its), .int (itV it), .int (nI nu), .int (nI di), .int (nI nb), .int (nI np)])), (s1, .inl (cI, 60, .inl (fun zz => nI (tx zz)))), (s2, .inl (cI, 22, .inl (fun zz => nI (S zz))))] [(cI, .int)]) (va_Qv (fun u : Nat × Nat × Nat × Nat × (Nat → Nat) => (u.1, u.2.1, its, it, u.2.2.1, u.2.2.2.1, nb, np, u.2.2.2.2) = endN (fl, fp, its, it, nu, di, nb, np, S)) (fun u : Nat × Nat × Nat × Nat × (Nat → Nat) => kB (dC, dI) [(cI, .int)] (va_A [(h0, .inr (3, [.ref s1, .ref s2, .int (nI tn), .int (nI fl), .int (nI fp), .int (nI its), .int (itV it), .int (nI nu), .int (nI di), .int (nI nb), .int (nI np)])), (s1, .inl (cI, 60, .inl (fun zz => nI (tx zz)))), (s2, .inl (cI, 22, .inl (fun zz => nI (S zz))))] sz) ([(h0, .inr (3, [.ref s1, .ref s2, .int (nI tn), .int (nI u.1), .int (nI u.2.1), .int (nI its), .int (itV it), .int (nI u.2.2.1), .int (nI u.2.2.2.1), .int (nI nb), .int (nI np)])), (s1, .inl (cI, 60, .inl (fun zz => nI (tx zz)))), (s2, .inl (cI, 22, .inl (fun zz => nI (u.2.2.2.2 zz))))])) (va_A [(h0, .inr (3, [.ref s1, .ref s2, .int (nI tn), .int (nI fl), .int (nI fp), .int (nI its), .int (itV it), .int (nI nu), .int (nI di), .int (nI nb), .int (nI np)])), (s1, .inl (cI, 60, .inl (fun zz => nI (tx zz)))), (s2, .inl (cI, 22, .inl (fun zz => nI (S zz))))] sz)) 0 0 (va_A [(h0, .inr (3, [.ref s1, .ref s2, .int (nI tn), .int (nI fl), .int (nI fp), .int (nI its), .int (itV it), .int (nI nu), .int (nI di), .int (nI nb), .int (nI np)])), (s1, .inl (cI, 60, .inl (fun zz => nI (tx zz)))), (s2, .inl (cI, 22, .inl (fun zz => nI (S zz))))] sz) := by
  refine kmet (by decide) ?_
  intro p e s m args below meth c Y hr hlocks hin hv
  obtain ⟨rfl, A, hAe, hsz, hP, hK, hD, hZ, hA⟩ := kinQ hv
  rw [hAe]
  have hS : va_S A s.heap s.heap [] := va_S.rf
  have hx := Y.1
  have hb := Y.2.1
  have hml := Y.2.2.1
  have hown := Y.2.2.2.1
  have hts := Y.2.2.2.2
  have hl := lv_entry ([.ref h0]) (n := 2) (Nat.le_of_ble_eq_true rfl)
  rw [lg_entry_eq]
  generalize (lg_sl ([.ref h0]) ++ List.replicate (2 - (lg_sl ([.ref h0])).length) Slot.unset).toArray = ls at hl ⊢
  have hl : lv_has ls 2 [(0, .ref h0)] := hl
  obtain ⟨hT1, hT2, hT3, hT4, hT5, hT6, hT7, hT8⟩ := hT
  refine lv_aload_n hx hb dX3_endNumber_0 rfl (lv_at hl 0 rfl) ?_
  refine va_get (D := (dC, dI)) (ci := 3) (v := .int (nI di)) (C := RX3) (T := TX3) (N := 11) hx hb hts inlX3 hown hK hP 0 rfl rfl 8 (by decide) (hts _ qf_X3_40) (fun _ h9 => h9) rfl dX3_endNumber_1 ?_
  refine ri_zeq (tgt := 15) hx hb dX3_endNumber_4 (by decide) (by omega) (fun c4 => ?_) (fun c4 => ?_)
  · exact kqv (w1 := (fun u : Nat × Nat × Nat × Nat × (Nat → Nat) => [(h0, .inr (3, [.ref s1, .ref s2, .int (nI tn), .int (nI u.1), .int (nI u.2.1), .int (nI its), .int (itV it), .int (nI u.2.2.1), .int (nI u.2.2.2.1), .int (nI nb), .int (nI np)])), (s1, .inl (cI, 60, .inl (fun zz => nI (tx zz)))), (s2, .inl (cI, 22, .inl (fun zz => nI (u.2.2.2.2 zz))))])) Y hr hlocks hK hP hD hS [0, 1, 2] (by decide) (fl, fp, nu, di, S) rfl (by simp only [endN]; rw [if_pos c4]) dX3_endNumber_15
  · have hit : it < 7 := Nat.lt_of_le_of_ne hT1 (fun q => by have := hT4 q; omega)
    have hm := mor_le it hit
    have hn := hT2 hit
    refine lv_aload_n hx hb dX3_endNumber_7 rfl (lv_at hl 0 rfl) ?_
    refine va_get (D := (dC, dI)) (ci := 3) (v := .int (itV it)) (C := RX3) (T := TX3) (N := 11) hx hb hts inlX3 hown hK hP 0 rfl rfl 6 (by decide) (hts _ qf_X3_18) (fun _ h9 => h9) rfl dX3_endNumber_8 ?_
    refine ri_set hx hb (x' := nI it) (itV_n hit) ?_
    refine lv_iconst (v := -1) hx hb dX3_endNumber_11 (by decide) ?_
    refine lv_icmp_ne (tgt := 16) hx hb dX3_endNumber_12 (by decide) (fun c12 => ?_) (fun c12 => ?_)
    · refine lv_aload_n hx hb dX3_endNumber_16 rfl (lv_at hl 0 rfl) ?_
      refine lv_iconst (v := nI 0) hx hb dX3_endNumber_17 (by decide) ?_
      refine va_put (D := (dC, dI)) (ci := 3) (v := .int (nI 0)) (ty := .int) (C := RX3) (T := TX3) (N := 11) hx hb hts inlX3 tyX3 tyX3_ok nmX3 hown hK hP hD hS 0 rfl rfl 8 (by decide) (hts _ qf_X3_40) (fun _ h9 => h9) rfl (by decide +kernel) rfl rfl (Nat.le_of_ble_eq_true rfl) dX3_endNumber_18 (fun H locs hP hD hS => ?_)
      have hP : va_P (dC, dI) vwCl [(h0, .inr (3, [.ref s1, .ref s2, .int (nI tn), .int (nI fl), .int (nI fp), .int (nI its), .int (itV it), .int (nI nu), .int (nI 0), .int (nI nb), .int (nI np)])), (s1, .inl (cI, 60, .inl (fun zz => nI (tx zz)))), (s2, .inl (cI, 22, .inl (fun zz => nI (S zz))))] H := hP
      have hD : va_D A [(h0, .inr (3, [.ref s1, .ref s2, .int (nI tn), .int (nI fl), .int (nI fp), .int (nI its), .int (itV it), .int (nI nu), .int (nI 0), .int (nI nb), .int (nI np)])), (s1, .inl (cI, 60, .inl (fun zz => nI (tx zz)))), (s2, .inl (cI, 22, .inl (fun zz => nI (S zz))))] := hD
      refine r_gets Y hZ.2.2.2.2.2.1 hS qf_X3_69 (fun _ h9 => h9) dX3_endNumber_21 (fun t21 ht21 => ?_)
      refine lv_aload_n hx hb dX3_endNumber_24 rfl (lv_at hl 0 rfl) ?_
      refine va_get (D := (dC, dI)) (ci := 3) (v := .int (itV it)) (C := RX3) (T := TX3) (N := 11) hx hb hts inlX3 hown hK hP 0 rfl rfl 6 (by decide) (hts _ qf_X3_18) (fun _ h9 => h9) rfl dX3_endNumber_25 ?_
      refine ri_set hx hb (x' := nI it) (itV_n hit) ?_
      refine r_ti hx hb ht21 hS dX3_endNumber_28 (by decide) (by omega) ?_
      refine lv_aload_n hx hb dX3_endNumber_29 rfl (lv_at hl 0 rfl) ?_
      refine va_get (D := (dC, dI)) (ci := 3) (v := .int (nI nu)) (C := RX3) (T := TX3) (N := 11) hx hb hts inlX3 hown hK hP 0 rfl rfl 7 (by decide) (hts _ qf_X3_72) (fun _ h9 => h9) rfl dX3_endNumber_30 ?_
      refine ri_add hx hb dX3_endNumber_33 ?_
      refine lv_istore_n (lv' := [(1, .int (nI ((tbl tFIR it) + nu))), (0, .ref h0)]) hx hb dX3_endNumber_34 rfl hl (by decide) rfl (fun ls hl => ?_)
      refine lv_aload_n hx hb dX3_endNumber_35 rfl (lv_at hl 1 rfl) ?_
      refine va_get (D := (dC, dI)) (ci := 3) (v := .int (nI nu)) (C := RX3) (T := TX3) (N := 11) hx hb hts inlX3 hown hK hP 0 rfl rfl 7 (by decide) (hts _ qf_X3_72) (fun _ h9 => h9) rfl dX3_endNumber_36 ?_
      refine r_gets Y hZ.2.2.2.2.2.2.2.1 hS qf_X3_75 (fun _ h9 => h9) dX3_endNumber_39 (fun t39 ht39 => ?_)
      refine lv_aload_n hx hb dX3_endNumber_42 rfl (lv_at hl 1 rfl) ?_
      refine va_get (D := (dC, dI)) (ci := 3) (v := .int (itV it)) (C := RX3) (T := TX3) (N := 11) hx hb hts inlX3 hown hK hP 0 rfl rfl 6 (by decide) (hts _ qf_X3_18) (fun _ h9 => h9) rfl dX3_endNumber_43 ?_
      refine ri_set hx hb (x' := nI it) (itV_n hit) ?_
      refine r_ti hx hb ht39 hS dX3_endNumber_46 (by decide) (by omega) ?_
      refine ri_ceq (tgt := 74) hx hb dX3_endNumber_47 (by decide) (by omega) (by omega) (fun c47 => ?_) (fun c47 => ?_)
      · refine lv_aload_n hx hb dX3_endNumber_74 rfl (lv_at hl 1 rfl) ?_
        refine lv_iconst (v := nI 2) hx hb dX3_endNumber_75 (by decide) ?_
        refine lv_aload_n hx hb dX3_endNumber_76 rfl (lv_at hl 1 rfl) ?_
        refine va_get (D := (dC, dI)) (ci := 3) (v := .int (nI np)) (C := RX3) (T := TX3) (N := 11) hx hb hts inlX3 hown hK hP 0 rfl rfl 10 (by decide) (hts _ qf_X3_66) (fun _ h9 => h9) rfl dX3_endNumber_77 ?_
        refine kQv (As := [.int (nI 2), .int (nI np)]) (rest := []) (wr := [(s1, .inl (cI, 60, .inl (fun zz => nI (tx zz)))), (s2, .inl (cI, 22, .inl (fun zz => nI (S zz))))]) Y m_X3_setFault (c_X3_setFault l dC dI _ h0 s1 s2 tn fl fp its it nu 0 nb np 2 np ) qm_X3_50 hP hD hS hA [0] [1, 2] rfl rfl (by decide) (by decide) (kqV (ci := 3) hK hP hD hZ hS hA [0] [] rfl (by decide) rfl 0 rfl rfl rfl) rfl hl.1 rfl (Nat.le_of_ble_eq_true rfl) dX3_endNumber_80 ⟨Nat.le_of_ble_eq_true rfl, Nat.le_of_ble_eq_true rfl⟩ ⟨Nat.zero_le _, Nat.zero_le _⟩ (fun u80 H locs hr80 hP hD hS => ?_)
        have hP : va_P (dC, dI) vwCl [(s1, .inl (cI, 60, .inl (fun zz => nI (tx zz)))), (s2, .inl (cI, 22, .inl (fun zz => nI (S zz)))), (h0, .inr (3, [.ref s1, .ref s2, .int (nI tn), .int (nI 2), .int (nI np), .int (nI its), .int (itV it), .int (nI nu), .int (nI 0), .int (nI nb), .int (nI np)]))] H := hP
        have hD : va_D A [(s1, .inl (cI, 60, .inl (fun zz => nI (tx zz)))), (s2, .inl (cI, 22, .inl (fun zz => nI (S zz)))), (h0, .inr (3, [.ref s1, .ref s2, .int (nI tn), .int (nI 2), .int (nI np), .int (nI its), .int (itV it), .int (nI nu), .int (nI 0), .int (nI nb), .int (nI np)]))] := hD
        exact kqv (w1 := (fun u : Nat × Nat × Nat × Nat × (Nat → Nat) => [(h0, .inr (3, [.ref s1, .ref s2, .int (nI tn), .int (nI u.1), .int (nI u.2.1), .int (nI its), .int (itV it), .int (nI u.2.2.1), .int (nI u.2.2.2.1), .int (nI nb), .int (nI np)])), (s1, .inl (cI, 60, .inl (fun zz => nI (tx zz)))), (s2, .inl (cI, 22, .inl (fun zz => nI (u.2.2.2.2 zz))))])) Y hr hlocks hK hP hD hS [2, 0, 1] (by decide) (2, np, nu, 0, S) rfl (by simp only [endN]; rw [if_neg (by omega), if_pos (Or.inl c47)]) dX3_endNumber_83
      · have hle := lea_le (tbl tFIR it + nu) (by omega)
        refine lv_aload_n hx hb dX3_endNumber_50 rfl (lv_at hl 1 rfl) ?_
        refine va_get (D := (dC, dI)) (ci := 3) (v := .int (nI nb)) (C := RX3) (T := TX3) (N := 11) hx hb hts inlX3 hown hK hP 0 rfl rfl 9 (by decide) (hts _ qf_X3_63) (fun _ h9 => h9) rfl dX3_endNumber_51 ?_
        refine r_getsN Y hZ.2.1 hS hZ.2.2.2.2.2.2.2.2.1 (fun _ h9 => h9) dX3_endNumber_54 (fun t54 ht54 => ?_)
        refine lv_iload_n hx hb dX3_endNumber_57 rfl (lv_at hl 0 rfl) ?_
        refine r_ti hx hb ht54 hS dX3_endNumber_58 (by decide) (by omega) ?_
        refine ri_clt (tgt := 74) hx hb dX3_endNumber_59 (by decide) (by omega) (by omega) (fun c59 => ?_) (fun c59 => ?_)
        · refine lv_aload_n hx hb dX3_endNumber_74 rfl (lv_at hl 1 rfl) ?_
          refine lv_iconst (v := nI 2) hx hb dX3_endNumber_75 (by decide) ?_
          refine lv_aload_n hx hb dX3_endNumber_76 rfl (lv_at hl 1 rfl) ?_
          refine va_get (D := (dC, dI)) (ci := 3) (v := .int (nI np)) (C := RX3) (T := TX3) (N := 11) hx hb hts inlX3 hown hK hP 0 rfl rfl 10 (by decide) (hts _ qf_X3_66) (fun _ h9 => h9) rfl dX3_endNumber_77 ?_
          refine kQv (As := [.int (nI 2), .int (nI np)]) (rest := []) (wr := [(s1, .inl (cI, 60, .inl (fun zz => nI (tx zz)))), (s2, .inl (cI, 22, .inl (fun zz => nI (S zz))))]) Y m_X3_setFault (c_X3_setFault l dC dI _ h0 s1 s2 tn fl fp its it nu 0 nb np 2 np ) qm_X3_50 hP hD hS hA [0] [1, 2] rfl rfl (by decide) (by decide) (kqV (ci := 3) hK hP hD hZ hS hA [0] [] rfl (by decide) rfl 0 rfl rfl rfl) rfl hl.1 rfl (Nat.le_of_ble_eq_true rfl) dX3_endNumber_80 ⟨Nat.le_of_ble_eq_true rfl, Nat.le_of_ble_eq_true rfl⟩ ⟨Nat.zero_le _, Nat.zero_le _⟩ (fun u80 H locs hr80 hP hD hS => ?_)
          have hP : va_P (dC, dI) vwCl [(s1, .inl (cI, 60, .inl (fun zz => nI (tx zz)))), (s2, .inl (cI, 22, .inl (fun zz => nI (S zz)))), (h0, .inr (3, [.ref s1, .ref s2, .int (nI tn), .int (nI 2), .int (nI np), .int (nI its), .int (itV it), .int (nI nu), .int (nI 0), .int (nI nb), .int (nI np)]))] H := hP
          have hD : va_D A [(s1, .inl (cI, 60, .inl (fun zz => nI (tx zz)))), (s2, .inl (cI, 22, .inl (fun zz => nI (S zz)))), (h0, .inr (3, [.ref s1, .ref s2, .int (nI tn), .int (nI 2), .int (nI np), .int (nI its), .int (itV it), .int (nI nu), .int (nI 0), .int (nI nb), .int (nI np)]))] := hD
          exact kqv (w1 := (fun u : Nat × Nat × Nat × Nat × (Nat → Nat) => [(h0, .inr (3, [.ref s1, .ref s2, .int (nI tn), .int (nI u.1), .int (nI u.2.1), .int (nI its), .int (itV it), .int (nI u.2.2.1), .int (nI u.2.2.2.1), .int (nI nb), .int (nI np)])), (s1, .inl (cI, 60, .inl (fun zz => nI (tx zz)))), (s2, .inl (cI, 22, .inl (fun zz => nI (u.2.2.2.2 zz))))])) Y hr hlocks hK hP hD hS [2, 0, 1] (by decide) (2, np, nu, 0, S) rfl (by simp only [endN]; rw [if_neg (by omega), if_pos (Or.inr (Or.inl c59))]) dX3_endNumber_83
        · refine lv_aload_n hx hb dX3_endNumber_62 rfl (lv_at hl 1 rfl) ?_
          refine va_get (D := (dC, dI)) (ci := 3) (v := .int (nI nb)) (C := RX3) (T := TX3) (N := 11) hx hb hts inlX3 hown hK hP 0 rfl rfl 9 (by decide) (hts _ qf_X3_63) (fun _ h9 => h9) rfl dX3_endNumber_63 ?_
          refine r_getsN Y hZ.2.2.1 hS hZ.2.2.2.2.2.2.2.2.2 (fun _ h9 => h9) dX3_endNumber_66 (fun t66 ht66 => ?_)
          refine lv_iload_n hx hb dX3_endNumber_69 rfl (lv_at hl 0 rfl) ?_
          refine r_ti hx hb ht66 hS dX3_endNumber_70 (by decide) (by omega) ?_
          refine ri_cle (tgt := 84) hx hb dX3_endNumber_71 (by decide) (by omega) (by omega) (fun c71 => ?_) (fun c71 => ?_)
          · refine lv_aload_n hx hb dX3_endNumber_84 rfl (lv_at hl 1 rfl) ?_
            refine va_get (D := (dC, dI)) (ci := 3) (v := .ref s2) (C := RX3) (T := TX3) (N := 11) hx hb hts inlX3 hown hK hP 0 rfl rfl 1 (by decide) (hts _ qf_X3_15) (fun _ h9 => h9) rfl dX3_endNumber_85 ?_
            refine lv_iload_n hx hb dX3_endNumber_88 rfl (lv_at hl 0 rfl) ?_
            refine lv_aload_n hx hb dX3_endNumber_89 rfl (lv_at hl 1 rfl) ?_
            refine va_get (D := (dC, dI)) (ci := 3) (v := .int (nI nb)) (C := RX3) (T := TX3) (N := 11) hx hb hts inlX3 hown hK hP 0 rfl rfl 9 (by decide) (hts _ qf_X3_63) (fun _ h9 => h9) rfl dX3_endNumber_90 ?_
            refine ri_ast hx hb hK hP hD hS 2 0 (F := S) rfl rfl dX3_endNumber_93 (by decide) (by omega) (fun H locs hP hD hS => ?_)
            have hP : va_P (dC, dI) vwCl [(h0, .inr (3, [.ref s1, .ref s2, .int (nI tn), .int (nI fl), .int (nI fp), .int (nI its), .int (itV it), .int (nI nu), .int (nI 0), .int (nI nb), .int (nI np)])), (s1, .inl (cI, 60, .inl (fun zz => nI (tx zz)))), (s2, .inl (cI, 22, .inl (fun zz => nI (updN S ((tbl tFIR it) + nu) nb zz))))] H := hP
            have hD : va_D A [(h0, .inr (3, [.ref s1, .ref s2, .int (nI tn), .int (nI fl), .int (nI fp), .int (nI its), .int (itV it), .int (nI nu), .int (nI 0), .int (nI nb), .int (nI np)])), (s1, .inl (cI, 60, .inl (fun zz => nI (tx zz)))), (s2, .inl (cI, 22, .inl (fun zz => nI (updN S ((tbl tFIR it) + nu) nb zz))))] := hD
            refine lv_aload_n hx hb dX3_endNumber_94 rfl (lv_at hl 1 rfl) ?_
            refine lv_dup hx hb dX3_endNumber_95 rfl ?_
            refine va_get (D := (dC, dI)) (ci := 3) (v := .int (nI nu)) (C := RX3) (T := TX3) (N := 11) hx hb hts inlX3 hown hK hP 0 rfl rfl 7 (by decide) (hts _ qf_X3_72) (fun _ h9 => h9) rfl dX3_endNumber_96 ?_
            refine lv_iconst (v := nI 1) hx hb dX3_endNumber_99 (by decide) ?_
            refine ri_add hx hb dX3_endNumber_100 ?_
            refine va_put (D := (dC, dI)) (ci := 3) (v := .int (nI (nu + 1))) (ty := .int) (C := RX3) (T := TX3) (N := 11) hx hb hts inlX3 tyX3 tyX3_ok nmX3 hown hK hP hD hS 0 rfl rfl 7 (by decide) (hts _ qf_X3_72) (fun _ h9 => h9) rfl (by decide +kernel) rfl rfl (Nat.le_of_ble_eq_true rfl) dX3_endNumber_101 (fun H locs hP hD hS => ?_)
            have hP : va_P (dC, dI) vwCl [(h0, .inr (3, [.ref s1, .ref s2, .int (nI tn), .int (nI fl), .int (nI fp), .int (nI its), .int (itV it), .int (nI (nu + 1)), .int (nI 0), .int (nI nb), .int (nI np)])), (s1, .inl (cI, 60, .inl (fun zz => nI (tx zz)))), (s2, .inl (cI, 22, .inl (fun zz => nI (updN S ((tbl tFIR it) + nu) nb zz))))] H := hP
            have hD : va_D A [(h0, .inr (3, [.ref s1, .ref s2, .int (nI tn), .int (nI fl), .int (nI fp), .int (nI its), .int (itV it), .int (nI (nu + 1)), .int (nI 0), .int (nI nb), .int (nI np)])), (s1, .inl (cI, 60, .inl (fun zz => nI (tx zz)))), (s2, .inl (cI, 22, .inl (fun zz => nI (updN S ((tbl tFIR it) + nu) nb zz))))] := hD
            exact kqv (w1 := (fun u : Nat × Nat × Nat × Nat × (Nat → Nat) => [(h0, .inr (3, [.ref s1, .ref s2, .int (nI tn), .int (nI u.1), .int (nI u.2.1), .int (nI its), .int (itV it), .int (nI u.2.2.1), .int (nI u.2.2.2.1), .int (nI nb), .int (nI np)])), (s1, .inl (cI, 60, .inl (fun zz => nI (tx zz)))), (s2, .inl (cI, 22, .inl (fun zz => nI (u.2.2.2.2 zz))))])) Y hr hlocks hK hP hD hS [0, 1, 2] (by decide) (fl, fp, nu + 1, 0, updN S ((tbl tFIR it) + nu) nb) rfl (by simp only [endN]; rw [if_neg (by omega), if_neg (by omega)]) dX3_endNumber_104
          · refine lv_aload_n hx hb dX3_endNumber_74 rfl (lv_at hl 1 rfl) ?_
            refine lv_iconst (v := nI 2) hx hb dX3_endNumber_75 (by decide) ?_
            refine lv_aload_n hx hb dX3_endNumber_76 rfl (lv_at hl 1 rfl) ?_
            refine va_get (D := (dC, dI)) (ci := 3) (v := .int (nI np)) (C := RX3) (T := TX3) (N := 11) hx hb hts inlX3 hown hK hP 0 rfl rfl 10 (by decide) (hts _ qf_X3_66) (fun _ h9 => h9) rfl dX3_endNumber_77 ?_
            refine kQv (As := [.int (nI 2), .int (nI np)]) (rest := []) (wr := [(s1, .inl (cI, 60, .inl (fun zz => nI (tx zz)))), (s2, .inl (cI, 22, .inl (fun zz => nI (S zz))))]) Y m_X3_setFault (c_X3_setFault l dC dI _ h0 s1 s2 tn fl fp its it nu 0 nb np 2 np ) qm_X3_50 hP hD hS hA [0] [1, 2] rfl rfl (by decide) (by decide) (kqV (ci := 3) hK hP hD hZ hS hA [0] [] rfl (by decide) rfl 0 rfl rfl rfl) rfl hl.1 rfl (Nat.le_of_ble_eq_true rfl) dX3_endNumber_80 ⟨Nat.le_of_ble_eq_true rfl, Nat.le_of_ble_eq_true rfl⟩ ⟨Nat.zero_le _, Nat.zero_le _⟩ (fun u80 H locs hr80 hP hD hS => ?_)
            have hP : va_P (dC, dI) vwCl [(s1, .inl (cI, 60, .inl (fun zz => nI (tx zz)))), (s2, .inl (cI, 22, .inl (fun zz => nI (S zz)))), (h0, .inr (3, [.ref s1, .ref s2, .int (nI tn), .int (nI 2), .int (nI np), .int (nI its), .int (itV it), .int (nI nu), .int (nI 0), .int (nI nb), .int (nI np)]))] H := hP
            have hD : va_D A [(s1, .inl (cI, 60, .inl (fun zz => nI (tx zz)))), (s2, .inl (cI, 22, .inl (fun zz => nI (S zz)))), (h0, .inr (3, [.ref s1, .ref s2, .int (nI tn), .int (nI 2), .int (nI np), .int (nI its), .int (itV it), .int (nI nu), .int (nI 0), .int (nI nb), .int (nI np)]))] := hD
            exact kqv (w1 := (fun u : Nat × Nat × Nat × Nat × (Nat → Nat) => [(h0, .inr (3, [.ref s1, .ref s2, .int (nI tn), .int (nI u.1), .int (nI u.2.1), .int (nI its), .int (itV it), .int (nI u.2.2.1), .int (nI u.2.2.2.1), .int (nI nb), .int (nI np)])), (s1, .inl (cI, 60, .inl (fun zz => nI (tx zz)))), (s2, .inl (cI, 22, .inl (fun zz => nI (u.2.2.2.2 zz))))])) Y hr hlocks hK hP hD hS [2, 0, 1] (by decide) (2, np, nu, 0, S) rfl (by simp only [endN]; rw [if_neg (by omega), if_pos (Or.inr (Or.inr c71))]) dX3_endNumber_83
    · exact absurd c12 (nI_m1 (by omega))
set_option maxHeartbeats 4000000 in
set_option maxRecDepth 100000 in
theorem c_X3_readDigit (l : Launch) (dC : Nat → ClassId) (dI : Nat → Nat → Nat) (sz : Nat) (cI : ClassId) (h0 s1 s2 : Nat) (tn fl fp its it nu di nb np : Nat) (tx S : Nat → Nat) (dg pos : Nat) (h1 : dg ≤ 9) (h2 : pos ≤ 60) (hT : TIv it nu di nb np S) : Met l yX3_readDigit (kw yX3_readDigit cX3_readDigit 3 none) (kR 1 22) (kPq (dC, dI) [.ref h0, .int (nI dg), .int (nI pos)] sz [(h0, .inr (3, [.ref s1, .ref s2, .int (nI tn), .int (nI fl), .int (nI fp), .int (nI its), .int (itV it), .int (nI nu), .int (nI di), .int (nI nb), .int (nI np)])), (s1, .inl (cI, 60, .inl (fun zz => nI (tx zz)))), (s2, .inl (cI, 22, .inl (fun zz => nI (S zz))))] [(cI, .int)]) (va_Qv (fun u : Nat × Nat × Nat × Nat × Nat => (u.1, u.2.1, its, it, nu, u.2.2.1, u.2.2.2.1, u.2.2.2.2, S) = rdD (fl, fp, its, it, nu, di, nb, np, S) dg pos) (fun u : Nat × Nat × Nat × Nat × Nat => kB (dC, dI) [(cI, .int)] (va_A [(h0, .inr (3, [.ref s1, .ref s2, .int (nI tn), .int (nI fl), .int (nI fp), .int (nI its), .int (itV it), .int (nI nu), .int (nI di), .int (nI nb), .int (nI np)])), (s1, .inl (cI, 60, .inl (fun zz => nI (tx zz)))), (s2, .inl (cI, 22, .inl (fun zz => nI (S zz))))] sz) ([(h0, .inr (3, [.ref s1, .ref s2, .int (nI tn), .int (nI u.1), .int (nI u.2.1), .int (nI its), .int (itV it), .int (nI nu), .int (nI u.2.2.1), .int (nI u.2.2.2.1), .int (nI u.2.2.2.2)])), (s1, .inl (cI, 60, .inl (fun zz => nI (tx zz)))), (s2, .inl (cI, 22, .inl (fun zz => nI (S zz))))])) (va_A [(h0, .inr (3, [.ref s1, .ref s2, .int (nI tn), .int (nI fl), .int (nI fp), .int (nI its), .int (itV it), .int (nI nu), .int (nI di), .int (nI nb), .int (nI np)])), (s1, .inl (cI, 60, .inl (fun zz => nI (tx zz)))), (s2, .inl (cI, 22, .inl (fun zz => nI (S zz))))] sz)) 0 0 (va_A [(h0, .inr (3, [.ref s1, .ref s2, .int (nI tn), .int (nI fl), .int (nI fp), .int (nI its), .int (itV it), .int (nI nu), .int (nI di), .int (nI nb), .int (nI np)])), (s1, .inl (cI, 60, .inl (fun zz => nI (tx zz)))), (s2, .inl (cI, 22, .inl (fun zz => nI (S zz))))] sz) := by
  refine kmet (by decide) ?_
  intro p e s m args below meth c Y hr hlocks hin hv
  obtain ⟨rfl, A, hAe, hsz, hP, hK, hD, hZ, hA⟩ := kinQ hv
  rw [hAe]
  have hS : va_S A s.heap s.heap [] := va_S.rf
  have hx := Y.1
  have hb := Y.2.1
  have hml := Y.2.2.1
  have hown := Y.2.2.2.1
  have hts := Y.2.2.2.2
  have hl := lv_entry ([.ref h0, .int (nI dg), .int (nI pos)]) (n := 3) (Nat.le_of_ble_eq_true rfl)
  rw [lg_entry_eq]
  generalize (lg_sl ([.ref h0, .int (nI dg), .int (nI pos)]) ++ List.replicate (3 - (lg_sl ([.ref h0, .int (nI dg), .int (nI pos)])).length) Slot.unset).toArray = ls at hl ⊢
  have hl : lv_has ls 3 [(0, .ref h0), (1, .int (nI dg)), (2, .int (nI pos))] := hl
  obtain ⟨hT1, hT2, hT3, hT4, hT5, hT6, hT7, hT8⟩ := hT
  rcases (show it = 7 ∨ it < 7 by omega) with rfl | hit
  · refine lv_aload_n hx hb dX3_readDigit_0 rfl (lv_at hl 0 rfl) ?_
    refine va_get (D := (dC, dI)) (ci := 3) (v := .int (itV 7)) (C := RX3) (T := TX3) (N := 11) hx hb hts inlX3 hown hK hP 0 rfl rfl 6 (by decide) (hts _ qf_X3_18) (fun _ h9 => h9) rfl dX3_readDigit_1 ?_
    refine ri_set hx hb (x' := -1) itV_7 ?_
    refine lv_iconst (v := -1) hx hb dX3_readDigit_4 (by decide) ?_
    refine lv_icmp_eq (tgt := 16) hx hb dX3_readDigit_5 (by decide) (fun c5 => ?_) (fun c5 => ?_)
    · refine lv_aload_n hx hb dX3_readDigit_16 rfl (lv_at hl 0 rfl) ?_
      refine lv_iconst (v := nI 1) hx hb dX3_readDigit_17 (by decide) ?_
      refine lv_iload_n hx hb dX3_readDigit_18 rfl (lv_at hl 2 rfl) ?_
      refine kQv (As := [.int (nI 1), .int (nI pos)]) (rest := []) (wr := [(s1, .inl (cI, 60, .inl (fun zz => nI (tx zz)))), (s2, .inl (cI, 22, .inl (fun zz => nI (S zz))))]) Y m_X3_setFault (c_X3_setFault l dC dI _ h0 s1 s2 tn fl fp its 7 nu di nb np 1 pos ) qm_X3_50 hP hD hS hA [0] [1, 2] rfl rfl (by decide) (by decide) (kqV (ci := 3) hK hP hD hZ hS hA [0] [] rfl (by decide) rfl 0 rfl rfl rfl) rfl hl.1 rfl (Nat.le_of_ble_eq_true rfl) dX3_readDigit_19 ⟨Nat.le_of_ble_eq_true rfl, Nat.le_of_ble_eq_true rfl⟩ ⟨Nat.zero_le _, Nat.zero_le _⟩ (fun u19 H locs hr19 hP hD hS => ?_)
      have hP : va_P (dC, dI) vwCl [(s1, .inl (cI, 60, .inl (fun zz => nI (tx zz)))), (s2, .inl (cI, 22, .inl (fun zz => nI (S zz)))), (h0, .inr (3, [.ref s1, .ref s2, .int (nI tn), .int (nI 1), .int (nI pos), .int (nI its), .int (itV 7), .int (nI nu), .int (nI di), .int (nI nb), .int (nI np)]))] H := hP
      have hD : va_D A [(s1, .inl (cI, 60, .inl (fun zz => nI (tx zz)))), (s2, .inl (cI, 22, .inl (fun zz => nI (S zz)))), (h0, .inr (3, [.ref s1, .ref s2, .int (nI tn), .int (nI 1), .int (nI pos), .int (nI its), .int (itV 7), .int (nI nu), .int (nI di), .int (nI nb), .int (nI np)]))] := hD
      exact kqv (w1 := (fun u : Nat × Nat × Nat × Nat × Nat => [(h0, .inr (3, [.ref s1, .ref s2, .int (nI tn), .int (nI u.1), .int (nI u.2.1), .int (nI its), .int (itV 7), .int (nI nu), .int (nI u.2.2.1), .int (nI u.2.2.2.1), .int (nI u.2.2.2.2)])), (s1, .inl (cI, 60, .inl (fun zz => nI (tx zz)))), (s2, .inl (cI, 22, .inl (fun zz => nI (S zz))))])) Y hr hlocks hK hP hD hS [2, 0, 1] (by decide) (1, pos, di, nb, np) rfl (by simp only [rdD]; rw [if_pos (Or.inl trivial)]) dX3_readDigit_22
    · exact absurd rfl c5
  · refine lv_aload_n hx hb dX3_readDigit_0 rfl (lv_at hl 0 rfl) ?_
    refine va_get (D := (dC, dI)) (ci := 3) (v := .int (itV it)) (C := RX3) (T := TX3) (N := 11) hx hb hts inlX3 hown hK hP 0 rfl rfl 6 (by decide) (hts _ qf_X3_18) (fun _ h9 => h9) rfl dX3_readDigit_1 ?_
    refine ri_set hx hb (x' := nI it) (itV_n hit) ?_
    refine lv_iconst (v := -1) hx hb dX3_readDigit_4 (by decide) ?_
    refine lv_icmp_eq (tgt := 16) hx hb dX3_readDigit_5 (by decide) (fun c5 => ?_) (fun c5 => ?_)
    · exact absurd c5 (nI_m1 (by omega))
    · refine lv_aload_n hx hb dX3_readDigit_8 rfl (lv_at hl 0 rfl) ?_
      refine va_get (D := (dC, dI)) (ci := 3) (v := .int (nI di)) (C := RX3) (T := TX3) (N := 11) hx hb hts inlX3 hown hK hP 0 rfl rfl 8 (by decide) (hts _ qf_X3_40) (fun _ h9 => h9) rfl dX3_readDigit_9 ?_
      refine lv_iconst (v := nI 2) hx hb dX3_readDigit_12 (by decide) ?_
      refine ri_cne (tgt := 23) hx hb dX3_readDigit_13 (by decide) (by omega) (by omega) (fun c13 => ?_) (fun c13 => ?_)
      · refine lv_aload_n hx hb dX3_readDigit_23 rfl (lv_at hl 0 rfl) ?_
        refine va_get (D := (dC, dI)) (ci := 3) (v := .int (nI di)) (C := RX3) (T := TX3) (N := 11) hx hb hts inlX3 hown hK hP 0 rfl rfl 8 (by decide) (hts _ qf_X3_40) (fun _ h9 => h9) rfl dX3_readDigit_24 ?_
        refine ri_zne (tgt := 40) hx hb dX3_readDigit_27 (by decide) (by omega) (fun c27 => ?_) (fun c27 => ?_)
        · refine lv_aload_n hx hb dX3_readDigit_40 rfl (lv_at hl 0 rfl) ?_
          refine lv_aload_n hx hb dX3_readDigit_41 rfl (lv_at hl 0 rfl) ?_
          refine va_get (D := (dC, dI)) (ci := 3) (v := .int (nI nb)) (C := RX3) (T := TX3) (N := 11) hx hb hts inlX3 hown hK hP 0 rfl rfl 9 (by decide) (hts _ qf_X3_63) (fun _ h9 => h9) rfl dX3_readDigit_42 ?_
          refine lv_bipush (v := nI 10) hx hb dX3_readDigit_45 (by decide) ?_
          refine ri_mul hx hb dX3_readDigit_47 ?_
          refine lv_iload_n hx hb dX3_readDigit_48 rfl (lv_at hl 1 rfl) ?_
          refine ri_add hx hb dX3_readDigit_49 ?_
          refine va_put (D := (dC, dI)) (ci := 3) (v := .int (nI ((nb * 10) + dg))) (ty := .int) (C := RX3) (T := TX3) (N := 11) hx hb hts inlX3 tyX3 tyX3_ok nmX3 hown hK hP hD hS 0 rfl rfl 9 (by decide) (hts _ qf_X3_63) (fun _ h9 => h9) rfl (by decide +kernel) rfl rfl (Nat.le_of_ble_eq_true rfl) dX3_readDigit_50 (fun H locs hP hD hS => ?_)
          have hP : va_P (dC, dI) vwCl [(h0, .inr (3, [.ref s1, .ref s2, .int (nI tn), .int (nI fl), .int (nI fp), .int (nI its), .int (itV it), .int (nI nu), .int (nI di), .int (nI ((nb * 10) + dg)), .int (nI np)])), (s1, .inl (cI, 60, .inl (fun zz => nI (tx zz)))), (s2, .inl (cI, 22, .inl (fun zz => nI (S zz))))] H := hP
          have hD : va_D A [(h0, .inr (3, [.ref s1, .ref s2, .int (nI tn), .int (nI fl), .int (nI fp), .int (nI its), .int (itV it), .int (nI nu), .int (nI di), .int (nI ((nb * 10) + dg)), .int (nI np)])), (s1, .inl (cI, 60, .inl (fun zz => nI (tx zz)))), (s2, .inl (cI, 22, .inl (fun zz => nI (S zz))))] := hD
          refine lv_aload_n hx hb dX3_readDigit_53 rfl (lv_at hl 0 rfl) ?_
          refine lv_dup hx hb dX3_readDigit_54 rfl ?_
          refine va_get (D := (dC, dI)) (ci := 3) (v := .int (nI di)) (C := RX3) (T := TX3) (N := 11) hx hb hts inlX3 hown hK hP 0 rfl rfl 8 (by decide) (hts _ qf_X3_40) (fun _ h9 => h9) rfl dX3_readDigit_55 ?_
          refine lv_iconst (v := nI 1) hx hb dX3_readDigit_58 (by decide) ?_
          refine ri_add hx hb dX3_readDigit_59 ?_
          refine va_put (D := (dC, dI)) (ci := 3) (v := .int (nI (di + 1))) (ty := .int) (C := RX3) (T := TX3) (N := 11) hx hb hts inlX3 tyX3 tyX3_ok nmX3 hown hK hP hD hS 0 rfl rfl 8 (by decide) (hts _ qf_X3_40) (fun _ h9 => h9) rfl (by decide +kernel) rfl rfl (Nat.le_of_ble_eq_true rfl) dX3_readDigit_60 (fun H locs hP hD hS => ?_)
          have hP : va_P (dC, dI) vwCl [(h0, .inr (3, [.ref s1, .ref s2, .int (nI tn), .int (nI fl), .int (nI fp), .int (nI its), .int (itV it), .int (nI nu), .int (nI (di + 1)), .int (nI ((nb * 10) + dg)), .int (nI np)])), (s1, .inl (cI, 60, .inl (fun zz => nI (tx zz)))), (s2, .inl (cI, 22, .inl (fun zz => nI (S zz))))] H := hP
          have hD : va_D A [(h0, .inr (3, [.ref s1, .ref s2, .int (nI tn), .int (nI fl), .int (nI fp), .int (nI its), .int (itV it), .int (nI nu), .int (nI (di + 1)), .int (nI ((nb * 10) + dg)), .int (nI np)])), (s1, .inl (cI, 60, .inl (fun zz => nI (tx zz)))), (s2, .inl (cI, 22, .inl (fun zz => nI (S zz))))] := hD
          exact kqv (w1 := (fun u : Nat × Nat × Nat × Nat × Nat => [(h0, .inr (3, [.ref s1, .ref s2, .int (nI tn), .int (nI u.1), .int (nI u.2.1), .int (nI its), .int (itV it), .int (nI nu), .int (nI u.2.2.1), .int (nI u.2.2.2.1), .int (nI u.2.2.2.2)])), (s1, .inl (cI, 60, .inl (fun zz => nI (tx zz)))), (s2, .inl (cI, 22, .inl (fun zz => nI (S zz))))])) Y hr hlocks hK hP hD hS [0, 1, 2] (by decide) (fl, fp, di + 1, (nb * 10) + dg, np) rfl (by simp only [rdD]; rw [if_neg (by omega), if_neg (by omega)]) dX3_readDigit_63
        · refine lv_aload_n hx hb dX3_readDigit_30 rfl (lv_at hl 0 rfl) ?_
          refine lv_iconst (v := nI 0) hx hb dX3_readDigit_31 (by decide) ?_
          refine va_put (D := (dC, dI)) (ci := 3) (v := .int (nI 0)) (ty := .int) (C := RX3) (T := TX3) (N := 11) hx hb hts inlX3 tyX3 tyX3_ok nmX3 hown hK hP hD hS 0 rfl rfl 9 (by decide) (hts _ qf_X3_63) (fun _ h9 => h9) rfl (by decide +kernel) rfl rfl (Nat.le_of_ble_eq_true rfl) dX3_readDigit_32 (fun H locs hP hD hS => ?_)
          have hP : va_P (dC, dI) vwCl [(h0, .inr (3, [.ref s1, .ref s2, .int (nI tn), .int (nI fl), .int (nI fp), .int (nI its), .int (itV it), .int (nI nu), .int (nI di), .int (nI 0), .int (nI np)])), (s1, .inl (cI, 60, .inl (fun zz => nI (tx zz)))), (s2, .inl (cI, 22, .inl (fun zz => nI (S zz))))] H := hP
          have hD : va_D A [(h0, .inr (3, [.ref s1, .ref s2, .int (nI tn), .int (nI fl), .int (nI fp), .int (nI its), .int (itV it), .int (nI nu), .int (nI di), .int (nI 0), .int (nI np)])), (s1, .inl (cI, 60, .inl (fun zz => nI (tx zz)))), (s2, .inl (cI, 22, .inl (fun zz => nI (S zz))))] := hD
          refine lv_aload_n hx hb dX3_readDigit_35 rfl (lv_at hl 0 rfl) ?_
          refine lv_iload_n hx hb dX3_readDigit_36 rfl (lv_at hl 2 rfl) ?_
          refine va_put (D := (dC, dI)) (ci := 3) (v := .int (nI pos)) (ty := .int) (C := RX3) (T := TX3) (N := 11) hx hb hts inlX3 tyX3 tyX3_ok nmX3 hown hK hP hD hS 0 rfl rfl 10 (by decide) (hts _ qf_X3_66) (fun _ h9 => h9) rfl (by decide +kernel) rfl rfl (Nat.le_of_ble_eq_true rfl) dX3_readDigit_37 (fun H locs hP hD hS => ?_)
          have hP : va_P (dC, dI) vwCl [(h0, .inr (3, [.ref s1, .ref s2, .int (nI tn), .int (nI fl), .int (nI fp), .int (nI its), .int (itV it), .int (nI nu), .int (nI di), .int (nI 0), .int (nI pos)])), (s1, .inl (cI, 60, .inl (fun zz => nI (tx zz)))), (s2, .inl (cI, 22, .inl (fun zz => nI (S zz))))] H := hP
          have hD : va_D A [(h0, .inr (3, [.ref s1, .ref s2, .int (nI tn), .int (nI fl), .int (nI fp), .int (nI its), .int (itV it), .int (nI nu), .int (nI di), .int (nI 0), .int (nI pos)])), (s1, .inl (cI, 60, .inl (fun zz => nI (tx zz)))), (s2, .inl (cI, 22, .inl (fun zz => nI (S zz))))] := hD
          refine lv_aload_n hx hb dX3_readDigit_40 rfl (lv_at hl 0 rfl) ?_
          refine lv_aload_n hx hb dX3_readDigit_41 rfl (lv_at hl 0 rfl) ?_
          refine va_get (D := (dC, dI)) (ci := 3) (v := .int (nI 0)) (C := RX3) (T := TX3) (N := 11) hx hb hts inlX3 hown hK hP 0 rfl rfl 9 (by decide) (hts _ qf_X3_63) (fun _ h9 => h9) rfl dX3_readDigit_42 ?_
          refine lv_bipush (v := nI 10) hx hb dX3_readDigit_45 (by decide) ?_
          refine ri_mul hx hb dX3_readDigit_47 ?_
          refine lv_iload_n hx hb dX3_readDigit_48 rfl (lv_at hl 1 rfl) ?_
          refine ri_add hx hb dX3_readDigit_49 ?_
          refine va_put (D := (dC, dI)) (ci := 3) (v := .int (nI ((0 * 10) + dg))) (ty := .int) (C := RX3) (T := TX3) (N := 11) hx hb hts inlX3 tyX3 tyX3_ok nmX3 hown hK hP hD hS 0 rfl rfl 9 (by decide) (hts _ qf_X3_63) (fun _ h9 => h9) rfl (by decide +kernel) rfl rfl (Nat.le_of_ble_eq_true rfl) dX3_readDigit_50 (fun H locs hP hD hS => ?_)
          have hP : va_P (dC, dI) vwCl [(h0, .inr (3, [.ref s1, .ref s2, .int (nI tn), .int (nI fl), .int (nI fp), .int (nI its), .int (itV it), .int (nI nu), .int (nI di), .int (nI ((0 * 10) + dg)), .int (nI pos)])), (s1, .inl (cI, 60, .inl (fun zz => nI (tx zz)))), (s2, .inl (cI, 22, .inl (fun zz => nI (S zz))))] H := hP
          have hD : va_D A [(h0, .inr (3, [.ref s1, .ref s2, .int (nI tn), .int (nI fl), .int (nI fp), .int (nI its), .int (itV it), .int (nI nu), .int (nI di), .int (nI ((0 * 10) + dg)), .int (nI pos)])), (s1, .inl (cI, 60, .inl (fun zz => nI (tx zz)))), (s2, .inl (cI, 22, .inl (fun zz => nI (S zz))))] := hD
          refine lv_aload_n hx hb dX3_readDigit_53 rfl (lv_at hl 0 rfl) ?_
          refine lv_dup hx hb dX3_readDigit_54 rfl ?_
          refine va_get (D := (dC, dI)) (ci := 3) (v := .int (nI di)) (C := RX3) (T := TX3) (N := 11) hx hb hts inlX3 hown hK hP 0 rfl rfl 8 (by decide) (hts _ qf_X3_40) (fun _ h9 => h9) rfl dX3_readDigit_55 ?_
          refine lv_iconst (v := nI 1) hx hb dX3_readDigit_58 (by decide) ?_
          refine ri_add hx hb dX3_readDigit_59 ?_
          refine va_put (D := (dC, dI)) (ci := 3) (v := .int (nI (di + 1))) (ty := .int) (C := RX3) (T := TX3) (N := 11) hx hb hts inlX3 tyX3 tyX3_ok nmX3 hown hK hP hD hS 0 rfl rfl 8 (by decide) (hts _ qf_X3_40) (fun _ h9 => h9) rfl (by decide +kernel) rfl rfl (Nat.le_of_ble_eq_true rfl) dX3_readDigit_60 (fun H locs hP hD hS => ?_)
          have hP : va_P (dC, dI) vwCl [(h0, .inr (3, [.ref s1, .ref s2, .int (nI tn), .int (nI fl), .int (nI fp), .int (nI its), .int (itV it), .int (nI nu), .int (nI (di + 1)), .int (nI ((0 * 10) + dg)), .int (nI pos)])), (s1, .inl (cI, 60, .inl (fun zz => nI (tx zz)))), (s2, .inl (cI, 22, .inl (fun zz => nI (S zz))))] H := hP
          have hD : va_D A [(h0, .inr (3, [.ref s1, .ref s2, .int (nI tn), .int (nI fl), .int (nI fp), .int (nI its), .int (itV it), .int (nI nu), .int (nI (di + 1)), .int (nI ((0 * 10) + dg)), .int (nI pos)])), (s1, .inl (cI, 60, .inl (fun zz => nI (tx zz)))), (s2, .inl (cI, 22, .inl (fun zz => nI (S zz))))] := hD
          exact kqv (w1 := (fun u : Nat × Nat × Nat × Nat × Nat => [(h0, .inr (3, [.ref s1, .ref s2, .int (nI tn), .int (nI u.1), .int (nI u.2.1), .int (nI its), .int (itV it), .int (nI nu), .int (nI u.2.2.1), .int (nI u.2.2.2.1), .int (nI u.2.2.2.2)])), (s1, .inl (cI, 60, .inl (fun zz => nI (tx zz)))), (s2, .inl (cI, 22, .inl (fun zz => nI (S zz))))])) Y hr hlocks hK hP hD hS [0, 1, 2] (by decide) (fl, fp, di + 1, (0 * 10) + dg, pos) rfl (by simp only [rdD]; rw [if_neg (by omega), if_pos c27]; simp [c27]) dX3_readDigit_63
      · refine lv_aload_n hx hb dX3_readDigit_16 rfl (lv_at hl 0 rfl) ?_
        refine lv_iconst (v := nI 1) hx hb dX3_readDigit_17 (by decide) ?_
        refine lv_iload_n hx hb dX3_readDigit_18 rfl (lv_at hl 2 rfl) ?_
        refine kQv (As := [.int (nI 1), .int (nI pos)]) (rest := []) (wr := [(s1, .inl (cI, 60, .inl (fun zz => nI (tx zz)))), (s2, .inl (cI, 22, .inl (fun zz => nI (S zz))))]) Y m_X3_setFault (c_X3_setFault l dC dI _ h0 s1 s2 tn fl fp its it nu di nb np 1 pos ) qm_X3_50 hP hD hS hA [0] [1, 2] rfl rfl (by decide) (by decide) (kqV (ci := 3) hK hP hD hZ hS hA [0] [] rfl (by decide) rfl 0 rfl rfl rfl) rfl hl.1 rfl (Nat.le_of_ble_eq_true rfl) dX3_readDigit_19 ⟨Nat.le_of_ble_eq_true rfl, Nat.le_of_ble_eq_true rfl⟩ ⟨Nat.zero_le _, Nat.zero_le _⟩ (fun u19 H locs hr19 hP hD hS => ?_)
        have hP : va_P (dC, dI) vwCl [(s1, .inl (cI, 60, .inl (fun zz => nI (tx zz)))), (s2, .inl (cI, 22, .inl (fun zz => nI (S zz)))), (h0, .inr (3, [.ref s1, .ref s2, .int (nI tn), .int (nI 1), .int (nI pos), .int (nI its), .int (itV it), .int (nI nu), .int (nI di), .int (nI nb), .int (nI np)]))] H := hP
        have hD : va_D A [(s1, .inl (cI, 60, .inl (fun zz => nI (tx zz)))), (s2, .inl (cI, 22, .inl (fun zz => nI (S zz)))), (h0, .inr (3, [.ref s1, .ref s2, .int (nI tn), .int (nI 1), .int (nI pos), .int (nI its), .int (itV it), .int (nI nu), .int (nI di), .int (nI nb), .int (nI np)]))] := hD
        exact kqv (w1 := (fun u : Nat × Nat × Nat × Nat × Nat => [(h0, .inr (3, [.ref s1, .ref s2, .int (nI tn), .int (nI u.1), .int (nI u.2.1), .int (nI its), .int (itV it), .int (nI nu), .int (nI u.2.2.1), .int (nI u.2.2.2.1), .int (nI u.2.2.2.2)])), (s1, .inl (cI, 60, .inl (fun zz => nI (tx zz)))), (s2, .inl (cI, 22, .inl (fun zz => nI (S zz))))])) Y hr hlocks hK hP hD hS [2, 0, 1] (by decide) (1, pos, di, nb, np) rfl (by simp only [rdD]; rw [if_pos (Or.inr c13)]) dX3_readDigit_22
set_option maxHeartbeats 4000000 in
set_option maxRecDepth 100000 in
theorem c_X3_endsWrongWeights (l : Launch) (dC : Nat → ClassId) (dI : Nat → Nat → Nat) (cI : ClassId) (h0 s1 s2 : Nat) (tn fl fp its it nu di nb np : Nat) (tx S : Nat → Nat) (hT : TIv it nu di nb np S) (hit : it < 7) : Met l yX3_endsWrongWeights (kw yX3_endsWrongWeights cX3_endsWrongWeights 3 (some .boolean)) (kR 0 0) (kPr (dC, dI) [.ref h0] [(h0, .inr (3, [.ref s1, .ref s2, .int (nI tn), .int (nI fl), .int (nI fp), .int (nI its), .int (itV it), .int (nI nu), .int (nI di), .int (nI nb), .int (nI np)])), (s1, .inl (cI, 60, .inl (fun zz => nI (tx zz)))), (s2, .inl (cI, 22, .inl (fun zz => nI (S zz))))] [(cI, .int)]) (vp_Si (fun res : Int32 => res = b2i (it = 5 ∧ wsum S ≠ 10))) 0 0 kNo := by
  refine kmet (by decide) ?_
  intro p e s m args below meth c Y hr hlocks hin hv
  obtain ⟨rfl, hP, hK, hZ⟩ := kinR hv
  have hS : va_S kNo s.heap s.heap [] := va_S.rf
  have hx := Y.1
  have hb := Y.2.1
  have hml := Y.2.2.1
  have hown := Y.2.2.2.1
  have hts := Y.2.2.2.2
  have hl := lv_entry ([.ref h0]) (n := 3) (Nat.le_of_ble_eq_true rfl)
  rw [lg_entry_eq]
  generalize (lg_sl ([.ref h0]) ++ List.replicate (3 - (lg_sl ([.ref h0])).length) Slot.unset).toArray = ls at hl ⊢
  have hl : lv_has ls 3 [(0, .ref h0)] := hl
  obtain ⟨hT1, hT2, hT3, hT4, hT5, hT6, hT7, hT8⟩ := hT
  have hm := mor_le it hit
  have e15 := hT8 15 (by omega)
  have e16 := hT8 16 (by omega)
  have e17 := hT8 17 (by omega)
  have e18 := hT8 18 (by omega)
  have e19 := hT8 19 (by omega)
  refine lv_iconst (v := nI 0) hx hb dX3_endsWrongWeights_0 (by decide) ?_
  refine lv_istore_n (lv' := [(1, .int (nI 0)), (0, .ref h0)]) hx hb dX3_endsWrongWeights_1 rfl hl (by decide) rfl (fun ls hl => ?_)
  refine lv_iconst (v := nI 0) hx hb dX3_endsWrongWeights_2 (by decide) ?_
  refine lv_istore_n (lv' := [(2, .int (nI 0)), (1, .int (nI 0)), (0, .ref h0)]) hx hb dX3_endsWrongWeights_3 rfl hl (by decide) rfl (fun ls hl => ?_)
  refine lv_iload_n hx hb dX3_endsWrongWeights_4 rfl (lv_at hl 0 rfl) ?_
  refine lv_iconst (v := nI 5) hx hb dX3_endsWrongWeights_5 (by decide) ?_
  refine ri_cge (tgt := 27) hx hb dX3_endsWrongWeights_6 (by decide) (by omega) (by omega) (fun c6 => ?_) (fun c6 => ?_)
  · exact absurd c6 (by decide)
  · refine lv_iload_n hx hb dX3_endsWrongWeights_9 rfl (lv_at hl 1 rfl) ?_
    refine lv_aload_n hx hb dX3_endsWrongWeights_10 rfl (lv_at hl 2 rfl) ?_
    refine va_get (D := (dC, dI)) (ci := 3) (v := .ref s2) (C := RX3) (T := TX3) (N := 11) hx hb hts inlX3 hown hK hP 0 rfl rfl 1 (by decide) (hts _ qf_X3_15) (fun _ h9 => h9) rfl dX3_endsWrongWeights_11 ?_
    refine lv_bipush (v := nI 15) hx hb dX3_endsWrongWeights_14 (by decide) ?_
    refine lv_iload_n hx hb dX3_endsWrongWeights_16 rfl (lv_at hl 0 rfl) ?_
    refine ri_add hx hb dX3_endsWrongWeights_17 ?_
    refine ri_ald hx hb hK hP 2 0 (F := S) rfl rfl dX3_endsWrongWeights_18 (by decide) (by omega) ?_
    refine ri_add hx hb dX3_endsWrongWeights_19 ?_
    refine lv_istore_n (lv' := [(1, .int (nI (0 + (S 15)))), (2, .int (nI 0)), (0, .ref h0)]) hx hb dX3_endsWrongWeights_20 rfl hl (by decide) rfl (fun ls hl => ?_)
    refine lv_iinc (v := nI 1) (lv' := [(2, .int (nI 1)), (1, .int (nI (0 + (S 15)))), (0, .ref h0)]) hx hb dX3_endsWrongWeights_21 hl (k := 1) rfl (by decide) (by decide) rfl (fun ls hl => ?_)
    refine lv_goto (tgt := 4) hx hb dX3_endsWrongWeights_24 (by decide) ?_
    refine lv_iload_n hx hb dX3_endsWrongWeights_4 rfl (lv_at hl 0 rfl) ?_
    refine lv_iconst (v := nI 5) hx hb dX3_endsWrongWeights_5 (by decide) ?_
    refine ri_cge (tgt := 27) hx hb dX3_endsWrongWeights_6 (by decide) (by omega) (by omega) (fun c6_1 => ?_) (fun c6_1 => ?_)
    · exact absurd c6_1 (by decide)
    · refine lv_iload_n hx hb dX3_endsWrongWeights_9 rfl (lv_at hl 1 rfl) ?_
      refine lv_aload_n hx hb dX3_endsWrongWeights_10 rfl (lv_at hl 2 rfl) ?_
      refine va_get (D := (dC, dI)) (ci := 3) (v := .ref s2) (C := RX3) (T := TX3) (N := 11) hx hb hts inlX3 hown hK hP 0 rfl rfl 1 (by decide) (hts _ qf_X3_15) (fun _ h9 => h9) rfl dX3_endsWrongWeights_11 ?_
      refine lv_bipush (v := nI 15) hx hb dX3_endsWrongWeights_14 (by decide) ?_
      refine lv_iload_n hx hb dX3_endsWrongWeights_16 rfl (lv_at hl 0 rfl) ?_
      refine ri_add hx hb dX3_endsWrongWeights_17 ?_
      refine ri_ald hx hb hK hP 2 0 (F := S) rfl rfl dX3_endsWrongWeights_18 (by decide) (by omega) ?_
      refine ri_add hx hb dX3_endsWrongWeights_19 ?_
      refine lv_istore_n (lv' := [(1, .int (nI ((0 + (S 15)) + (S 16)))), (2, .int (nI 1)), (0, .ref h0)]) hx hb dX3_endsWrongWeights_20 rfl hl (by decide) rfl (fun ls hl => ?_)
      refine lv_iinc (v := nI 2) (lv' := [(2, .int (nI 2)), (1, .int (nI ((0 + (S 15)) + (S 16)))), (0, .ref h0)]) hx hb dX3_endsWrongWeights_21 hl (k := 1) rfl (by decide) (by decide) rfl (fun ls hl => ?_)
      refine lv_goto (tgt := 4) hx hb dX3_endsWrongWeights_24 (by decide) ?_
      refine lv_iload_n hx hb dX3_endsWrongWeights_4 rfl (lv_at hl 0 rfl) ?_
      refine lv_iconst (v := nI 5) hx hb dX3_endsWrongWeights_5 (by decide) ?_
      refine ri_cge (tgt := 27) hx hb dX3_endsWrongWeights_6 (by decide) (by omega) (by omega) (fun c6_2 => ?_) (fun c6_2 => ?_)
      · exact absurd c6_2 (by decide)
      · refine lv_iload_n hx hb dX3_endsWrongWeights_9 rfl (lv_at hl 1 rfl) ?_
        refine lv_aload_n hx hb dX3_endsWrongWeights_10 rfl (lv_at hl 2 rfl) ?_
        refine va_get (D := (dC, dI)) (ci := 3) (v := .ref s2) (C := RX3) (T := TX3) (N := 11) hx hb hts inlX3 hown hK hP 0 rfl rfl 1 (by decide) (hts _ qf_X3_15) (fun _ h9 => h9) rfl dX3_endsWrongWeights_11 ?_
        refine lv_bipush (v := nI 15) hx hb dX3_endsWrongWeights_14 (by decide) ?_
        refine lv_iload_n hx hb dX3_endsWrongWeights_16 rfl (lv_at hl 0 rfl) ?_
        refine ri_add hx hb dX3_endsWrongWeights_17 ?_
        refine ri_ald hx hb hK hP 2 0 (F := S) rfl rfl dX3_endsWrongWeights_18 (by decide) (by omega) ?_
        refine ri_add hx hb dX3_endsWrongWeights_19 ?_
        refine lv_istore_n (lv' := [(1, .int (nI (((0 + (S 15)) + (S 16)) + (S 17)))), (2, .int (nI 2)), (0, .ref h0)]) hx hb dX3_endsWrongWeights_20 rfl hl (by decide) rfl (fun ls hl => ?_)
        refine lv_iinc (v := nI 3) (lv' := [(2, .int (nI 3)), (1, .int (nI (((0 + (S 15)) + (S 16)) + (S 17)))), (0, .ref h0)]) hx hb dX3_endsWrongWeights_21 hl (k := 1) rfl (by decide) (by decide) rfl (fun ls hl => ?_)
        refine lv_goto (tgt := 4) hx hb dX3_endsWrongWeights_24 (by decide) ?_
        refine lv_iload_n hx hb dX3_endsWrongWeights_4 rfl (lv_at hl 0 rfl) ?_
        refine lv_iconst (v := nI 5) hx hb dX3_endsWrongWeights_5 (by decide) ?_
        refine ri_cge (tgt := 27) hx hb dX3_endsWrongWeights_6 (by decide) (by omega) (by omega) (fun c6_3 => ?_) (fun c6_3 => ?_)
        · exact absurd c6_3 (by decide)
        · refine lv_iload_n hx hb dX3_endsWrongWeights_9 rfl (lv_at hl 1 rfl) ?_
          refine lv_aload_n hx hb dX3_endsWrongWeights_10 rfl (lv_at hl 2 rfl) ?_
          refine va_get (D := (dC, dI)) (ci := 3) (v := .ref s2) (C := RX3) (T := TX3) (N := 11) hx hb hts inlX3 hown hK hP 0 rfl rfl 1 (by decide) (hts _ qf_X3_15) (fun _ h9 => h9) rfl dX3_endsWrongWeights_11 ?_
          refine lv_bipush (v := nI 15) hx hb dX3_endsWrongWeights_14 (by decide) ?_
          refine lv_iload_n hx hb dX3_endsWrongWeights_16 rfl (lv_at hl 0 rfl) ?_
          refine ri_add hx hb dX3_endsWrongWeights_17 ?_
          refine ri_ald hx hb hK hP 2 0 (F := S) rfl rfl dX3_endsWrongWeights_18 (by decide) (by omega) ?_
          refine ri_add hx hb dX3_endsWrongWeights_19 ?_
          refine lv_istore_n (lv' := [(1, .int (nI ((((0 + (S 15)) + (S 16)) + (S 17)) + (S 18)))), (2, .int (nI 3)), (0, .ref h0)]) hx hb dX3_endsWrongWeights_20 rfl hl (by decide) rfl (fun ls hl => ?_)
          refine lv_iinc (v := nI 4) (lv' := [(2, .int (nI 4)), (1, .int (nI ((((0 + (S 15)) + (S 16)) + (S 17)) + (S 18)))), (0, .ref h0)]) hx hb dX3_endsWrongWeights_21 hl (k := 1) rfl (by decide) (by decide) rfl (fun ls hl => ?_)
          refine lv_goto (tgt := 4) hx hb dX3_endsWrongWeights_24 (by decide) ?_
          refine lv_iload_n hx hb dX3_endsWrongWeights_4 rfl (lv_at hl 0 rfl) ?_
          refine lv_iconst (v := nI 5) hx hb dX3_endsWrongWeights_5 (by decide) ?_
          refine ri_cge (tgt := 27) hx hb dX3_endsWrongWeights_6 (by decide) (by omega) (by omega) (fun c6_4 => ?_) (fun c6_4 => ?_)
          · exact absurd c6_4 (by decide)
          · refine lv_iload_n hx hb dX3_endsWrongWeights_9 rfl (lv_at hl 1 rfl) ?_
            refine lv_aload_n hx hb dX3_endsWrongWeights_10 rfl (lv_at hl 2 rfl) ?_
            refine va_get (D := (dC, dI)) (ci := 3) (v := .ref s2) (C := RX3) (T := TX3) (N := 11) hx hb hts inlX3 hown hK hP 0 rfl rfl 1 (by decide) (hts _ qf_X3_15) (fun _ h9 => h9) rfl dX3_endsWrongWeights_11 ?_
            refine lv_bipush (v := nI 15) hx hb dX3_endsWrongWeights_14 (by decide) ?_
            refine lv_iload_n hx hb dX3_endsWrongWeights_16 rfl (lv_at hl 0 rfl) ?_
            refine ri_add hx hb dX3_endsWrongWeights_17 ?_
            refine ri_ald hx hb hK hP 2 0 (F := S) rfl rfl dX3_endsWrongWeights_18 (by decide) (by omega) ?_
            refine ri_add hx hb dX3_endsWrongWeights_19 ?_
            refine lv_istore_n (lv' := [(1, .int (nI (((((0 + (S 15)) + (S 16)) + (S 17)) + (S 18)) + (S 19)))), (2, .int (nI 4)), (0, .ref h0)]) hx hb dX3_endsWrongWeights_20 rfl hl (by decide) rfl (fun ls hl => ?_)
            refine lv_iinc (v := nI 5) (lv' := [(2, .int (nI 5)), (1, .int (nI (((((0 + (S 15)) + (S 16)) + (S 17)) + (S 18)) + (S 19)))), (0, .ref h0)]) hx hb dX3_endsWrongWeights_21 hl (k := 1) rfl (by decide) (by decide) rfl (fun ls hl => ?_)
            refine lv_goto (tgt := 4) hx hb dX3_endsWrongWeights_24 (by decide) ?_
            refine lv_iload_n hx hb dX3_endsWrongWeights_4 rfl (lv_at hl 0 rfl) ?_
            refine lv_iconst (v := nI 5) hx hb dX3_endsWrongWeights_5 (by decide) ?_
            refine ri_cge (tgt := 27) hx hb dX3_endsWrongWeights_6 (by decide) (by omega) (by omega) (fun c6_5 => ?_) (fun c6_5 => ?_)
            · refine r_gets Y hZ.2.2.2.2.2.1 hS qf_X3_69 (fun _ h9 => h9) dX3_endsWrongWeights_27 (fun t27 ht27 => ?_)
              refine lv_aload_n hx hb dX3_endsWrongWeights_30 rfl (lv_at hl 2 rfl) ?_
              refine va_get (D := (dC, dI)) (ci := 3) (v := .int (itV it)) (C := RX3) (T := TX3) (N := 11) hx hb hts inlX3 hown hK hP 0 rfl rfl 6 (by decide) (hts _ qf_X3_18) (fun _ h9 => h9) rfl dX3_endsWrongWeights_31 ?_
              refine ri_set hx hb (x' := nI it) (itV_n hit) ?_
              refine r_ti hx hb ht27 hS dX3_endsWrongWeights_34 (by decide) (by omega) ?_
              refine lv_bipush (v := nI 15) hx hb dX3_endsWrongWeights_35 (by decide) ?_
              refine ri_cne (tgt := 50) hx hb dX3_endsWrongWeights_37 (by decide) (by omega) (by omega) (fun c37 => ?_) (fun c37 => ?_)
              · refine lv_iconst (v := nI 0) hx hb dX3_endsWrongWeights_50 (by decide) ?_
                exact krz (v := nI 0) Y hr hlocks (by decide) (b2i_f (fun q => by unfold wsum at q; omega)).symm dX3_endsWrongWeights_51
              · refine lv_iload_n hx hb dX3_endsWrongWeights_40 rfl (lv_at hl 1 rfl) ?_
                refine lv_bipush (v := nI 10) hx hb dX3_endsWrongWeights_41 (by decide) ?_
                refine ri_ceq (tgt := 50) hx hb dX3_endsWrongWeights_43 (by decide) (by omega) (by omega) (fun c43 => ?_) (fun c43 => ?_)
                · refine lv_iconst (v := nI 0) hx hb dX3_endsWrongWeights_50 (by decide) ?_
                  exact krz (v := nI 0) Y hr hlocks (by decide) (b2i_f (fun q => by unfold wsum at q; omega)).symm dX3_endsWrongWeights_51
                · refine lv_iconst (v := nI 1) hx hb dX3_endsWrongWeights_46 (by decide) ?_
                  refine lv_goto (tgt := 51) hx hb dX3_endsWrongWeights_47 (by decide) ?_
                  exact krz (v := nI 1) Y hr hlocks (by decide) (b2i_t ⟨hm.2.2.2.2.1.mp c37, by unfold wsum; omega⟩).symm dX3_endsWrongWeights_51
            · exact absurd c6_5 (by decide)
set_option maxHeartbeats 4000000 in
set_option maxRecDepth 100000 in
theorem c_X3_clearOtherPayoffs (l : Launch) (dC : Nat → ClassId) (dI : Nat → Nat → Nat) (sz : Nat) (cI : ClassId) (h0 s1 s2 : Nat) (tn fl fp its it nu di nb np : Nat) (tx S : Nat → Nat) (hT : TIv it nu di nb np S) (hit : it < 7) : Met l yX3_clearOtherPayoffs (kw yX3_clearOtherPayoffs cX3_clearOtherPayoffs 2 none) (kR 0 0) (kPq (dC, dI) [.ref h0] sz [(h0, .inr (3, [.ref s1, .ref s2, .int (nI tn), .int (nI fl), .int (nI fp), .int (nI its), .int (itV it), .int (nI nu), .int (nI di), .int (nI nb), .int (nI np)])), (s1, .inl (cI, 60, .inl (fun zz => nI (tx zz)))), (s2, .inl (cI, 22, .inl (fun zz => nI (S zz))))] [(cI, .int)]) (va_Qv (fun u : Nat → Nat => u = if it = 3 then clP S nu else S) (fun u : Nat → Nat => kB (dC, dI) [(cI, .int)] (va_A [(h0, .inr (3, [.ref s1, .ref s2, .int (nI tn), .int (nI fl), .int (nI fp), .int (nI its), .int (itV it), .int (nI nu), .int (nI di), .int (nI nb), .int (nI np)])), (s1, .inl (cI, 60, .inl (fun zz => nI (tx zz)))), (s2, .inl (cI, 22, .inl (fun zz => nI (S zz))))] sz) ([(h0, .inr (3, [.ref s1, .ref s2, .int (nI tn), .int (nI fl), .int (nI fp), .int (nI its), .int (itV it), .int (nI nu), .int (nI di), .int (nI nb), .int (nI np)])), (s1, .inl (cI, 60, .inl (fun zz => nI (tx zz)))), (s2, .inl (cI, 22, .inl (fun zz => nI (u zz))))])) (va_A [(h0, .inr (3, [.ref s1, .ref s2, .int (nI tn), .int (nI fl), .int (nI fp), .int (nI its), .int (itV it), .int (nI nu), .int (nI di), .int (nI nb), .int (nI np)])), (s1, .inl (cI, 60, .inl (fun zz => nI (tx zz)))), (s2, .inl (cI, 22, .inl (fun zz => nI (S zz))))] sz)) 0 0 (va_A [(h0, .inr (3, [.ref s1, .ref s2, .int (nI tn), .int (nI fl), .int (nI fp), .int (nI its), .int (itV it), .int (nI nu), .int (nI di), .int (nI nb), .int (nI np)])), (s1, .inl (cI, 60, .inl (fun zz => nI (tx zz)))), (s2, .inl (cI, 22, .inl (fun zz => nI (S zz))))] sz) := by
  refine kmet (by decide) ?_
  intro p e s m args below meth c Y hr hlocks hin hv
  obtain ⟨rfl, A, hAe, hsz, hP, hK, hD, hZ, hA⟩ := kinQ hv
  rw [hAe]
  have hS : va_S A s.heap s.heap [] := va_S.rf
  have hx := Y.1
  have hb := Y.2.1
  have hml := Y.2.2.1
  have hown := Y.2.2.2.1
  have hts := Y.2.2.2.2
  have hl := lv_entry ([.ref h0]) (n := 2) (Nat.le_of_ble_eq_true rfl)
  rw [lg_entry_eq]
  generalize (lg_sl ([.ref h0]) ++ List.replicate (2 - (lg_sl ([.ref h0])).length) Slot.unset).toArray = ls at hl ⊢
  have hl : lv_has ls 2 [(0, .ref h0)] := hl
  obtain ⟨hT1, hT2, hT3, hT4, hT5, hT6, hT7, hT8⟩ := hT
  have hm := mor_le it hit
  have hn := hT2 hit
  refine r_gets Y hZ.2.2.2.2.2.1 hS qf_X3_69 (fun _ h9 => h9) dX3_clearOtherPayoffs_0 (fun t0 ht0 => ?_)
  refine lv_aload_n hx hb dX3_clearOtherPayoffs_3 rfl (lv_at hl 0 rfl) ?_
  refine va_get (D := (dC, dI)) (ci := 3) (v := .int (itV it)) (C := RX3) (T := TX3) (N := 11) hx hb hts inlX3 hown hK hP 0 rfl rfl 6 (by decide) (hts _ qf_X3_18) (fun _ h9 => h9) rfl dX3_clearOtherPayoffs_4 ?_
  refine ri_set hx hb (x' := nI it) (itV_n hit) ?_
  refine r_ti hx hb ht0 hS dX3_clearOtherPayoffs_7 (by decide) (by omega) ?_
  refine lv_iconst (v := nI 3) hx hb dX3_clearOtherPayoffs_8 (by decide) ?_
  refine ri_cne (tgt := 38) hx hb dX3_clearOtherPayoffs_9 (by decide) (by omega) (by omega) (fun c9 => ?_) (fun c9 => ?_)
  · exact kqv (w1 := (fun u : Nat → Nat => [(h0, .inr (3, [.ref s1, .ref s2, .int (nI tn), .int (nI fl), .int (nI fp), .int (nI its), .int (itV it), .int (nI nu), .int (nI di), .int (nI nb), .int (nI np)])), (s1, .inl (cI, 60, .inl (fun zz => nI (tx zz)))), (s2, .inl (cI, 22, .inl (fun zz => nI (u zz))))])) Y hr hlocks hK hP hD hS [0, 1, 2] (by decide) (S) rfl (by rw [if_neg (fun q => c9 (hm.2.2.2.2.2.mpr q))]) dX3_clearOtherPayoffs_38
  · refine lv_aload_n hx hb dX3_clearOtherPayoffs_12 rfl (lv_at hl 0 rfl) ?_
    refine va_get (D := (dC, dI)) (ci := 3) (v := .int (nI nu)) (C := RX3) (T := TX3) (N := 11) hx hb hts inlX3 hown hK hP 0 rfl rfl 7 (by decide) (hts _ qf_X3_72) (fun _ h9 => h9) rfl dX3_clearOtherPayoffs_13 ?_
    refine lv_istore_n (lv' := [(1, .int (nI nu)), (0, .ref h0)]) hx hb dX3_clearOtherPayoffs_16 rfl hl (by decide) rfl (fun ls hl => ?_)
    refine wl2 (fun (t : Nat) (S1 : Nat → Nat) => 7 - t) (fun (t : Nat) (S1 : Nat → Nat) (ls : Array Slot) (H : Heap) (locs : List Loc) => lv_has ls 2 [(0, .ref h0), (1, .int (nI t))] ∧ va_P (dC, dI) vwCl [(h0, .inr (3, [.ref s1, .ref s2, .int (nI tn), .int (nI fl), .int (nI fp), .int (nI its), .int (itV it), .int (nI nu), .int (nI di), .int (nI nb), .int (nI np)])), (s1, .inl (cI, 60, .inl (fun zz => nI (tx zz)))), (s2, .inl (cI, 22, .inl (fun zz => nI (S1 zz))))] H ∧ va_D A [(h0, .inr (3, [.ref s1, .ref s2, .int (nI tn), .int (nI fl), .int (nI fp), .int (nI its), .int (itV it), .int (nI nu), .int (nI di), .int (nI nb), .int (nI np)])), (s1, .inl (cI, 60, .inl (fun zz => nI (tx zz)))), (s2, .inl (cI, 22, .inl (fun zz => nI (S1 zz))))] ∧ va_S A s.heap H locs ∧ (nu ≤ t ∧ t ≤ 7 ∧ ∀ x, S1 x = if 3 + nu ≤ x ∧ x < 3 + t then 0 else S x)) nu S (by exact ⟨lv_sub hl [1, 0] rfl, hP.sub [0, 1, 2] rfl, hD.sub [0, 1, 2] (by decide) rfl, hS, by omega, by omega, fun x => by rw [if_neg (by omega)]⟩) (fun t S1 ls H locs hI ih => ?_)
    obtain ⟨hl, hP, hD, hS, ht1, ht2, hS1⟩ := hI
    have ih17 := ih
    refine lv_iload_n hx hb dX3_clearOtherPayoffs_17 rfl (lv_at hl 1 rfl) ?_
    refine lv_bipush (v := nI 7) hx hb dX3_clearOtherPayoffs_18 (by decide) ?_
    refine ri_cge (tgt := 38) hx hb dX3_clearOtherPayoffs_20 (by decide) (by omega) (by omega) (fun c20 => ?_) (fun c20 => ?_)
    · exact kqv (w1 := (fun u : Nat → Nat => [(h0, .inr (3, [.ref s1, .ref s2, .int (nI tn), .int (nI fl), .int (nI fp), .int (nI its), .int (itV it), .int (nI nu), .int (nI di), .int (nI nb), .int (nI np)])), (s1, .inl (cI, 60, .inl (fun zz => nI (tx zz)))), (s2, .inl (cI, 22, .inl (fun zz => nI (u zz))))])) Y hr hlocks hK hP hD hS [0, 1, 2] (by decide) (S1) rfl (by rw [if_pos (hm.2.2.2.2.2.mp c9)]; funext x; rw [hS1 x]; unfold clP; split <;> (try split) <;> first | rfl | omega) dX3_clearOtherPayoffs_38
    · refine lv_aload_n hx hb dX3_clearOtherPayoffs_23 rfl (lv_at hl 0 rfl) ?_
      refine va_get (D := (dC, dI)) (ci := 3) (v := .ref s2) (C := RX3) (T := TX3) (N := 11) hx hb hts inlX3 hown hK hP 0 rfl rfl 1 (by decide) (hts _ qf_X3_15) (fun _ h9 => h9) rfl dX3_clearOtherPayoffs_24 ?_
      refine lv_iconst (v := nI 3) hx hb dX3_clearOtherPayoffs_27 (by decide) ?_
      refine lv_iload_n hx hb dX3_clearOtherPayoffs_28 rfl (lv_at hl 1 rfl) ?_
      refine ri_add hx hb dX3_clearOtherPayoffs_29 ?_
      refine lv_iconst (v := nI 0) hx hb dX3_clearOtherPayoffs_30 (by decide) ?_
      refine ri_ast hx hb hK hP hD hS 2 0 (F := S1) rfl rfl dX3_clearOtherPayoffs_31 (by decide) (by omega) (fun H locs hP hD hS => ?_)
      have hP : va_P (dC, dI) vwCl [(h0, .inr (3, [.ref s1, .ref s2, .int (nI tn), .int (nI fl), .int (nI fp), .int (nI its), .int (itV it), .int (nI nu), .int (nI di), .int (nI nb), .int (nI np)])), (s1, .inl (cI, 60, .inl (fun zz => nI (tx zz)))), (s2, .inl (cI, 22, .inl (fun zz => nI (updN S1 (3 + t) 0 zz))))] H := hP
      have hD : va_D A [(h0, .inr (3, [.ref s1, .ref s2, .int (nI tn), .int (nI fl), .int (nI fp), .int (nI its), .int (itV it), .int (nI nu), .int (nI di), .int (nI nb), .int (nI np)])), (s1, .inl (cI, 60, .inl (fun zz => nI (tx zz)))), (s2, .inl (cI, 22, .inl (fun zz => nI (updN S1 (3 + t) 0 zz))))] := hD
      refine lv_iinc (v := nI (t + 1)) (lv' := [(1, .int (nI (t + 1))), (0, .ref h0)]) hx hb dX3_clearOtherPayoffs_32 hl (k := 1) rfl (inc1 _) (by decide) rfl (fun ls hl => ?_)
      refine lv_goto (tgt := 17) hx hb dX3_clearOtherPayoffs_35 (by decide) ?_
      exact ih17 (t + 1) (updN S1 (3 + t) 0) _ _ _ (by show _ < _; omega) (by exact ⟨lv_sub hl [1, 0] rfl, hP.sub [0, 1, 2] rfl, hD.sub [0, 1, 2] (by decide) rfl, hS, by omega, by omega, fun x => by unfold updN; rw [hS1 x]; split <;> (try split) <;> (try split) <;> first | rfl | omega⟩)
