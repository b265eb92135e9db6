set_option maxHeartbeats 4000000 in
set_option maxRecDepth 100000 in
theorem c_X3_read (l : Launch) (dC : Nat → ClassId) (dI : Nat → Nat → Nat) (sz : Nat) (cI : ClassId) (h0 s1 s2 pa : Nat) (tn fl fp its it nu di nb np : Nat) (tx S P : Nat → Nat) (h1 : tn ≤ 60) (h2 : nb ≤ 99) (h3 : np ≤ 60) (hPI : PI P) (htx : ∀ k, k < tn → 32 ≤ tx k ∧ tx k ≤ 126) : Met l yX3_read (kw yX3_read cX3_read 3 none) (kR 3 67) (kPq (dC, dI) [.ref h0, .ref pa] sz [(h0, .inr (3, [.ref s1, .ref s2, .int (nI tn), .int (nI fl), .int (nI fp), .int (nI its), .int (itV it), .int (nI nu), .int (nI di), .int (nI nb), .int (nI np)])), (s1, .inl (cI, 60, .inl (fun zz => nI (tx zz)))), (s2, .inl (cI, 22, .inl (fun zz => nI (S zz)))), (pa, .inl (cI, 22, .inl (fun zz => nI (P zz))))] [(cI, .int)]) (va_Qv (fun u : Nat × Nat × Nat × Nat × Nat × Nat × Nat × Nat × (Nat → Nat) => (u.1, u.2.1, u.2.2.1, u.2.2.2.1, u.2.2.2.2.1, u.2.2.2.2.2.1, u.2.2.2.2.2.2.1, u.2.2.2.2.2.2.2.1, u.2.2.2.2.2.2.2.2) = goF tx tn tn 0 (0, fp, 0, 7, nu, 0, nb, np, va_cpy P S 0 0 22)) (fun u : Nat × Nat × Nat × Nat × Nat × Nat × Nat × Nat × (Nat → Nat) => kB (dC, dI) [(cI, .int)] (va_A [(h0, .inr (3, [.ref s1, .ref s2, .int (nI tn), .int (nI fl), .int (nI fp), .int (nI its), .int (itV it), .int (nI nu), .int (nI di), .int (nI nb), .int (nI np)])), (s1, .inl (cI, 60, .inl (fun zz => nI (tx zz)))), (s2, .inl (cI, 22, .inl (fun zz => nI (S zz)))), (pa, .inl (cI, 22, .inl (fun zz => nI (P zz))))] sz) ([(h0, .inr (3, [.ref s1, .ref s2, .int (nI tn), .int (nI u.1), .int (nI u.2.1), .int (nI u.2.2.1), .int (itV u.2.2.2.1), .int (nI u.2.2.2.2.1), .int (nI u.2.2.2.2.2.1), .int (nI u.2.2.2.2.2.2.1), .int (nI u.2.2.2.2.2.2.2.1)])), (s1, .inl (cI, 60, .inl (fun zz => nI (tx zz)))), (s2, .inl (cI, 22, .inl (fun zz => nI (u.2.2.2.2.2.2.2.2 zz)))), (pa, .inl (cI, 22, .inl (fun zz => nI (P zz))))])) (va_A [(h0, .inr (3, [.ref s1, .ref s2, .int (nI tn), .int (nI fl), .int (nI fp), .int (nI its), .int (itV it), .int (nI nu), .int (nI di), .int (nI nb), .int (nI np)])), (s1, .inl (cI, 60, .inl (fun zz => nI (tx zz)))), (s2, .inl (cI, 22, .inl (fun zz => nI (S zz)))), (pa, .inl (cI, 22, .inl (fun zz => nI (P zz))))] sz)) 0 0 (va_A [(h0, .inr (3, [.ref s1, .ref s2, .int (nI tn), .int (nI fl), .int (nI fp), .int (nI its), .int (itV it), .int (nI nu), .int (nI di), .int (nI nb), .int (nI np)])), (s1, .inl (cI, 60, .inl (fun zz => nI (tx zz)))), (s2, .inl (cI, 22, .inl (fun zz => nI (S zz)))), (pa, .inl (cI, 22, .inl (fun zz => nI (P zz))))] sz) := by
  refine kmet (by decide) ?_
  intro p e s m args below meth c Y hr hlocks hin hv
  obtain ⟨rfl, A, hAe, hsz, hP, hK, hD, hZ, hA⟩ := kinQ hv
  rw [hAe]
  have hS : va_S A s.heap s.heap [] := va_S.rf
  have hx := Y.1
  have hb := Y.2.1
  have hml := Y.2.2.1
  have hown := Y.2.2.2.1
  have hts := Y.2.2.2.2
  have hl := lv_entry ([.ref h0, .ref pa]) (n := 3) (Nat.le_of_ble_eq_true rfl)
  rw [lg_entry_eq]
  generalize (lg_sl ([.ref h0, .ref pa]) ++ List.replicate (3 - (lg_sl ([.ref h0, .ref pa])).length) Slot.unset).toArray = ls at hl ⊢
  have hl : lv_has ls 3 [(0, .ref h0), (1, .ref pa)] := hl
  refine lv_aload_n hx hb dX3_read_0 rfl (lv_at hl 1 rfl) ?_
  refine lv_iconst (v := nI 0) hx hb dX3_read_1 (by decide) ?_
  refine lv_aload_n hx hb dX3_read_2 rfl (lv_at hl 0 rfl) ?_
  refine va_get (D := (dC, dI)) (ci := 3) (v := .ref s2) (C := RX3) (T := TX3) (N := 11) hx hb hts inlX3 hown hK hP 0 rfl rfl 1 (by decide) (hts _ qf_X3_15) (fun _ h9 => h9) rfl dX3_read_3 ?_
  refine lv_iconst (v := nI 0) hx hb dX3_read_6 (by decide) ?_
  refine lv_bipush (v := nI 22) hx hb dX3_read_7 (by decide) ?_
  refine r_copy Y hl hK hP hD hS 3 2 0 0 (F := P) (G := S) rfl rfl rfl rfl qm_X3_34 dX3_read_9 (by decide) (by decide) (by omega) (by omega) (Nat.le_of_ble_eq_true rfl) (Nat.le_of_ble_eq_true rfl) (fun H locs hP hD hS => ?_)
  have hP : va_P (dC, dI) vwCl [(h0, .inr (3, [.ref s1, .ref s2, .int (nI tn), .int (nI fl), .int (nI fp), .int (nI its), .int (itV it), .int (nI nu), .int (nI di), .int (nI nb), .int (nI np)])), (s1, .inl (cI, 60, .inl (fun zz => nI (tx zz)))), (s2, .inl (cI, 22, .inl (fun zz => nI (va_cpy P S 0 0 22 zz)))), (pa, .inl (cI, 22, .inl (fun zz => nI (P zz))))] H := hP
  have hD : va_D A [(h0, .inr (3, [.ref s1, .ref s2, .int (nI tn), .int (nI fl), .int (nI fp), .int (nI its), .int (itV it), .int (nI nu), .int (nI di), .int (nI nb), .int (nI np)])), (s1, .inl (cI, 60, .inl (fun zz => nI (tx zz)))), (s2, .inl (cI, 22, .inl (fun zz => nI (va_cpy P S 0 0 22 zz)))), (pa, .inl (cI, 22, .inl (fun zz => nI (P zz))))] := hD
  refine lv_aload_n hx hb dX3_read_12 rfl (lv_at hl 0 rfl) ?_
  refine lv_iconst (v := nI 0) hx hb dX3_read_13 (by decide) ?_
  refine va_put (D := (dC, dI)) (ci := 3) (v := .int (nI 0)) (ty := .int) (C := RX3) (T := TX3) (N := 11) hx hb hts inlX3 tyX3 tyX3_ok nmX3 hown hK hP hD hS 0 rfl rfl 3 (by decide) (hts _ qf_X3_25) (fun _ h9 => h9) rfl (by decide +kernel) rfl rfl (Nat.le_of_ble_eq_true rfl) dX3_read_14 (fun H locs hP hD hS => ?_)
  have hP : va_P (dC, dI) vwCl [(h0, .inr (3, [.ref s1, .ref s2, .int (nI tn), .int (nI 0), .int (nI fp), .int (nI its), .int (itV it), .int (nI nu), .int (nI di), .int (nI nb), .int (nI np)])), (s1, .inl (cI, 60, .inl (fun zz => nI (tx zz)))), (s2, .inl (cI, 22, .inl (fun zz => nI (va_cpy P S 0 0 22 zz)))), (pa, .inl (cI, 22, .inl (fun zz => nI (P zz))))] H := hP
  have hD : va_D A [(h0, .inr (3, [.ref s1, .ref s2, .int (nI tn), .int (nI 0), .int (nI fp), .int (nI its), .int (itV it), .int (nI nu), .int (nI di), .int (nI nb), .int (nI np)])), (s1, .inl (cI, 60, .inl (fun zz => nI (tx zz)))), (s2, .inl (cI, 22, .inl (fun zz => nI (va_cpy P S 0 0 22 zz)))), (pa, .inl (cI, 22, .inl (fun zz => nI (P zz))))] := hD
  refine lv_aload_n hx hb dX3_read_17 rfl (lv_at hl 0 rfl) ?_
  refine lv_iconst (v := nI 0) hx hb dX3_read_18 (by decide) ?_
  refine va_put (D := (dC, dI)) (ci := 3) (v := .int (nI 0)) (ty := .int) (C := RX3) (T := TX3) (N := 11) hx hb hts inlX3 tyX3 tyX3_ok nmX3 hown hK hP hD hS 0 rfl rfl 5 (by decide) (hts _ qf_X3_31) (fun _ h9 => h9) rfl (by decide +kernel) rfl rfl (Nat.le_of_ble_eq_true rfl) dX3_read_19 (fun H locs hP hD hS => ?_)
  have hP : va_P (dC, dI) vwCl [(h0, .inr (3, [.ref s1, .ref s2, .int (nI tn), .int (nI 0), .int (nI fp), .int (nI 0), .int (itV it), .int (nI nu), .int (nI di), .int (nI nb), .int (nI np)])), (s1, .inl (cI, 60, .inl (fun zz => nI (tx zz)))), (s2, .inl (cI, 22, .inl (fun zz => nI (va_cpy P S 0 0 22 zz)))), (pa, .inl (cI, 22, .inl (fun zz => nI (P zz))))] H := hP
  have hD : va_D A [(h0, .inr (3, [.ref s1, .ref s2, .int (nI tn), .int (nI 0), .int (nI fp), .int (nI 0), .int (itV it), .int (nI nu), .int (nI di), .int (nI nb), .int (nI np)])), (s1, .inl (cI, 60, .inl (fun zz => nI (tx zz)))), (s2, .inl (cI, 22, .inl (fun zz => nI (va_cpy P S 0 0 22 zz)))), (pa, .inl (cI, 22, .inl (fun zz => nI (P zz))))] := hD
  refine lv_aload_n hx hb dX3_read_22 rfl (lv_at hl 0 rfl) ?_
  refine lv_iconst (v := -1) hx hb dX3_read_23 (by decide) ?_
  refine ri_set hx hb (x' := itV 7) rfl ?_
  refine va_put (D := (dC, dI)) (ci := 3) (v := .int (itV 7)) (ty := .int) (C := RX3) (T := TX3) (N := 11) hx hb hts inlX3 tyX3 tyX3_ok nmX3 hown hK hP hD hS 0 rfl rfl 6 (by decide) (hts _ qf_X3_18) (fun _ h9 => h9) rfl (by decide +kernel) rfl rfl (Nat.le_of_ble_eq_true rfl) dX3_read_24 (fun H locs hP hD hS => ?_)
  have hP : va_P (dC, dI) vwCl [(h0, .inr (3, [.ref s1, .ref s2, .int (nI tn), .int (nI 0), .int (nI fp), .int (nI 0), .int (itV 7), .int (nI nu), .int (nI di), .int (nI nb), .int (nI np)])), (s1, .inl (cI, 60, .inl (fun zz => nI (tx zz)))), (s2, .inl (cI, 22, .inl (fun zz => nI (va_cpy P S 0 0 22 zz)))), (pa, .inl (cI, 22, .inl (fun zz => nI (P zz))))] H := hP
  have hD : va_D A [(h0, .inr (3, [.ref s1, .ref s2, .int (nI tn), .int (nI 0), .int (nI fp), .int (nI 0), .int (itV 7), .int (nI nu), .int (nI di), .int (nI nb), .int (nI np)])), (s1, .inl (cI, 60, .inl (fun zz => nI (tx zz)))), (s2, .inl (cI, 22, .inl (fun zz => nI (va_cpy P S 0 0 22 zz)))), (pa, .inl (cI, 22, .inl (fun zz => nI (P zz))))] := hD
  refine lv_aload_n hx hb dX3_read_27 rfl (lv_at hl 0 rfl) ?_
  refine lv_iconst (v := nI 0) hx hb dX3_read_28 (by decide) ?_
  refine va_put (D := (dC, dI)) (ci := 3) (v := .int (nI 0)) (ty := .int) (C := RX3) (T := TX3) (N := 11) hx hb hts inlX3 tyX3 tyX3_ok nmX3 hown hK hP hD hS 0 rfl rfl 8 (by decide) (hts _ qf_X3_40) (fun _ h9 => h9) rfl (by decide +kernel) rfl rfl (Nat.le_of_ble_eq_true rfl) dX3_read_29 (fun H locs hP hD hS => ?_)
  have hP : va_P (dC, dI) vwCl [(h0, .inr (3, [.ref s1, .ref s2, .int (nI tn), .int (nI 0), .int (nI fp), .int (nI 0), .int (itV 7), .int (nI nu), .int (nI 0), .int (nI nb), .int (nI np)])), (s1, .inl (cI, 60, .inl (fun zz => nI (tx zz)))), (s2, .inl (cI, 22, .inl (fun zz => nI (va_cpy P S 0 0 22 zz)))), (pa, .inl (cI, 22, .inl (fun zz => nI (P zz))))] H := hP
  have hD : va_D A [(h0, .inr (3, [.ref s1, .ref s2, .int (nI tn), .int (nI 0), .int (nI fp), .int (nI 0), .int (itV 7), .int (nI nu), .int (nI 0), .int (nI nb), .int (nI np)])), (s1, .inl (cI, 60, .inl (fun zz => nI (tx zz)))), (s2, .inl (cI, 22, .inl (fun zz => nI (va_cpy P S 0 0 22 zz)))), (pa, .inl (cI, 22, .inl (fun zz => nI (P zz))))] := hD
  refine lv_iconst (v := nI 0) hx hb dX3_read_32 (by decide) ?_
  refine lv_istore_n (lv' := [(2, .int (nI 0)), (0, .ref h0), (1, .ref pa)]) hx hb dX3_read_33 rfl hl (by decide) rfl (fun ls hl => ?_)
  refine wl10 (fun (p7 : Nat) (fl7 : Nat) (fp7 : Nat) (its7 : Nat) (it7 : Nat) (nu7 : Nat) (di7 : Nat) (nb7 : Nat) (np7 : Nat) (S7 : Nat → Nat) => tn - p7) (fun (p7 : Nat) (fl7 : Nat) (fp7 : Nat) (its7 : Nat) (it7 : Nat) (nu7 : Nat) (di7 : Nat) (nb7 : Nat) (np7 : Nat) (S7 : Nat → Nat) (ls : Array Slot) (H : Heap) (locs : List Loc) => lv_has ls 3 [(0, .ref h0), (1, .ref pa), (2, .int (nI p7))] ∧ va_P (dC, dI) vwCl [(h0, .inr (3, [.ref s1, .ref s2, .int (nI tn), .int (nI fl7), .int (nI fp7), .int (nI its7), .int (itV it7), .int (nI nu7), .int (nI di7), .int (nI nb7), .int (nI np7)])), (s1, .inl (cI, 60, .inl (fun zz => nI (tx zz)))), (s2, .inl (cI, 22, .inl (fun zz => nI (S7 zz)))), (pa, .inl (cI, 22, .inl (fun zz => nI (P zz))))] H ∧ va_D A [(h0, .inr (3, [.ref s1, .ref s2, .int (nI tn), .int (nI fl7), .int (nI fp7), .int (nI its7), .int (itV it7), .int (nI nu7), .int (nI di7), .int (nI nb7), .int (nI np7)])), (s1, .inl (cI, 60, .inl (fun zz => nI (tx zz)))), (s2, .inl (cI, 22, .inl (fun zz => nI (S7 zz)))), (pa, .inl (cI, 22, .inl (fun zz => nI (P zz))))] ∧ va_S A s.heap H locs ∧ (p7 ≤ tn ∧ its7 ≤ p7 ∧ goF tx tn tn 0 (0, fp, 0, 7, nu, 0, nb, np, va_cpy P S 0 0 22) = goF tx tn (tn - p7) p7 (fl7, fp7, its7, it7, nu7, di7, nb7, np7, S7) ∧ TIv it7 nu7 di7 nb7 np7 S7 ∧ fl7 ≤ 3)) 0 0 fp 0 7 nu 0 nb np (va_cpy P S 0 0 22) (by exact ⟨lv_sub hl [1, 2, 0] rfl, hP.sub [0, 1, 2, 3] rfl, hD.sub [0, 1, 2, 3] (by decide) rfl, hS, by omega, by omega, rfl, ⟨by omega, fun q => absurd q (by decide), by omega, fun _ => rfl, h2, fun q => absurd q (by decide), h3, fun k hk => by unfold va_cpy; rw [if_pos ⟨by omega, by omega⟩]; exact hPI.le (by omega)⟩, by omega⟩) (fun p7 fl7 fp7 its7 it7 nu7 di7 nb7 np7 S7 ls H locs hI ih => ?_)
  obtain ⟨hl, hP, hD, hS, hp7, hits, hRES, hT7, hfl7⟩ := hI
  have ih34 := ih
  refine lv_iload_n hx hb dX3_read_34 rfl (lv_at hl 2 rfl) ?_
  refine lv_aload_n hx hb dX3_read_35 rfl (lv_at hl 0 rfl) ?_
  refine va_get (D := (dC, dI)) (ci := 3) (v := .int (nI tn)) (C := RX3) (T := TX3) (N := 11) hx hb hts inlX3 hown hK hP 0 rfl rfl 2 (by decide) (hts _ qf_X3_22) (fun _ h9 => h9) rfl dX3_read_36 ?_
  refine ri_cge (tgt := 66) hx hb dX3_read_39 (by decide) (by omega) (by omega) (fun c39 => ?_) (fun c39 => ?_)
  · refine lv_aload_n hx hb dX3_read_66 rfl (lv_at hl 0 rfl) ?_
    refine va_get (D := (dC, dI)) (ci := 3) (v := .int (nI fl7)) (C := RX3) (T := TX3) (N := 11) hx hb hts inlX3 hown hK hP 0 rfl rfl 3 (by decide) (hts _ qf_X3_25) (fun _ h9 => h9) rfl dX3_read_67 ?_
    refine ri_zne (tgt := 77) hx hb dX3_read_70 (by decide) (by omega) (fun c70 => ?_) (fun c70 => ?_)
    · refine lv_aload_n hx hb dX3_read_77 rfl (lv_at hl 0 rfl) ?_
      refine va_get (D := (dC, dI)) (ci := 3) (v := .int (nI fl7)) (C := RX3) (T := TX3) (N := 11) hx hb hts inlX3 hown hK hP 0 rfl rfl 3 (by decide) (hts _ qf_X3_25) (fun _ h9 => h9) rfl dX3_read_78 ?_
      refine ri_zne (tgt := 101) hx hb dX3_read_81 (by decide) (by omega) (fun c81 => ?_) (fun c81 => ?_)
      · exact kqv (w1 := (fun u : Nat × Nat × Nat × Nat × Nat × Nat × Nat × Nat × (Nat → Nat) => [(h0, .inr (3, [.ref s1, .ref s2, .int (nI tn), .int (nI u.1), .int (nI u.2.1), .int (nI u.2.2.1), .int (itV u.2.2.2.1), .int (nI u.2.2.2.2.1), .int (nI u.2.2.2.2.2.1), .int (nI u.2.2.2.2.2.2.1), .int (nI u.2.2.2.2.2.2.2.1)])), (s1, .inl (cI, 60, .inl (fun zz => nI (tx zz)))), (s2, .inl (cI, 22, .inl (fun zz => nI (u.2.2.2.2.2.2.2.2 zz)))), (pa, .inl (cI, 22, .inl (fun zz => nI (P zz))))])) Y hr hlocks hK hP hD hS [0, 1, 2, 3] (by decide) (fl7, fp7, its7, it7, nu7, di7, nb7, np7, S7) rfl ((hRES.trans (by rw [show tn - p7 = 0 by omega]; rfl)).trans (finS_fl c70)).symm dX3_read_101
      · exact absurd c81 c70
    · obtain rfl : fl7 = 0 := c70
      refine lv_aload_n hx hb dX3_read_73 rfl (lv_at hl 0 rfl) ?_
      refine kQv (As := []) (rest := []) (wr := [(pa, .inl (cI, 22, .inl (fun zz => nI (P zz))))]) Y m_X3_endNumber (c_X3_endNumber l dC dI _ cI h0 s1 s2 tn 0 fp7 its7 it7 nu7 di7 nb7 np7 tx S7 hT7) qm_X3_47 hP hD hS hA [0, 1, 2] [3] rfl rfl (by decide) (by decide) (kqV (ci := 3) hK hP hD hZ hS hA [0, 1, 2] [0] rfl (by decide) rfl 0 rfl rfl rfl) rfl hl.1 rfl (Nat.le_of_ble_eq_true rfl) dX3_read_74 ⟨Nat.le_of_ble_eq_true rfl, Nat.le_of_ble_eq_true rfl⟩ ⟨Nat.zero_le _, Nat.zero_le _⟩ (fun u74 H locs hr74 hP hD hS => ?_)
      obtain ⟨fl2_74, fp2_74, nu2_74, di2_74, S2_74⟩ := u74
      have hP : va_P (dC, dI) vwCl [(pa, .inl (cI, 22, .inl (fun zz => nI (P zz)))), (h0, .inr (3, [.ref s1, .ref s2, .int (nI tn), .int (nI fl2_74), .int (nI fp2_74), .int (nI its7), .int (itV it7), .int (nI nu2_74), .int (nI di2_74), .int (nI nb7), .int (nI np7)])), (s1, .inl (cI, 60, .inl (fun zz => nI (tx zz)))), (s2, .inl (cI, 22, .inl (fun zz => nI (S2_74 zz))))] H := hP
      have hD : va_D A [(pa, .inl (cI, 22, .inl (fun zz => nI (P zz)))), (h0, .inr (3, [.ref s1, .ref s2, .int (nI tn), .int (nI fl2_74), .int (nI fp2_74), .int (nI its7), .int (itV it7), .int (nI nu2_74), .int (nI di2_74), .int (nI nb7), .int (nI np7)])), (s1, .inl (cI, 60, .inl (fun zz => nI (tx zz)))), (s2, .inl (cI, 22, .inl (fun zz => nI (S2_74 zz))))] := hD
      have hr74 : (fl2_74, fp2_74, its7, it7, nu2_74, di2_74, nb7, np7, S2_74) = endN (0, fp7, its7, it7, nu7, di7, nb7, np7, S7) := hr74
      have hfl8 := endN_fl (s := (0, fp7, its7, it7, nu7, di7, nb7, np7, S7)) (show 0 ≤ 3 by omega)
      rw [← hr74] at hfl8
      have hfl8 : fl2_74 ≤ 3 := hfl8
      refine lv_aload_n hx hb dX3_read_77 rfl (lv_at hl 0 rfl) ?_
      refine va_get (D := (dC, dI)) (ci := 3) (v := .int (nI fl2_74)) (C := RX3) (T := TX3) (N := 11) hx hb hts inlX3 hown hK hP 1 rfl rfl 3 (by decide) (hts _ qf_X3_25) (fun _ h9 => h9) rfl dX3_read_78 ?_
      refine ri_zne (tgt := 101) hx hb dX3_read_81 (by decide) (by omega) (fun c81 => ?_) (fun c81 => ?_)
      · exact kqv (w1 := (fun u : Nat × Nat × Nat × Nat × Nat × Nat × Nat × Nat × (Nat → Nat) => [(h0, .inr (3, [.ref s1, .ref s2, .int (nI tn), .int (nI u.1), .int (nI u.2.1), .int (nI u.2.2.1), .int (itV u.2.2.2.1), .int (nI u.2.2.2.2.1), .int (nI u.2.2.2.2.2.1), .int (nI u.2.2.2.2.2.2.1), .int (nI u.2.2.2.2.2.2.2.1)])), (s1, .inl (cI, 60, .inl (fun zz => nI (tx zz)))), (s2, .inl (cI, 22, .inl (fun zz => nI (u.2.2.2.2.2.2.2.2 zz)))), (pa, .inl (cI, 22, .inl (fun zz => nI (P zz))))])) Y hr hlocks hK hP hD hS [1, 2, 3, 0] (by decide) (fl2_74, fp2_74, its7, it7, nu2_74, di2_74, nb7, np7, S2_74) rfl ((hRES.trans (by rw [show tn - p7 = 0 by omega]; rfl)).trans (finS_b rfl hr74 (fun q => c81 q.1))).symm dX3_read_101
      · have hit9 : it7 ≤ 7 := hT7.1
        rcases (show it7 = 7 ∨ it7 < 7 by omega) with hit7 | hit
        · refine lv_aload_n hx hb dX3_read_84 rfl (lv_at hl 0 rfl) ?_
          refine va_get (D := (dC, dI)) (ci := 3) (v := .int (itV it7)) (C := RX3) (T := TX3) (N := 11) hx hb hts inlX3 hown hK hP 1 rfl rfl 6 (by decide) (hts _ qf_X3_18) (fun _ h9 => h9) rfl dX3_read_85 ?_
          refine ri_set hx hb (x' := -1) (by rw [hit7]; rfl) ?_
          refine lv_iconst (v := -1) hx hb dX3_read_88 (by decide) ?_
          refine lv_icmp_eq (tgt := 101) hx hb dX3_read_89 (by decide) (fun c89 => ?_) (fun c89 => ?_)
          · exact kqv (w1 := (fun u : Nat × Nat × Nat × Nat × Nat × Nat × Nat × Nat × (Nat → Nat) => [(h0, .inr (3, [.ref s1, .ref s2, .int (nI tn), .int (nI u.1), .int (nI u.2.1), .int (nI u.2.2.1), .int (itV u.2.2.2.1), .int (nI u.2.2.2.2.1), .int (nI u.2.2.2.2.2.1), .int (nI u.2.2.2.2.2.2.1), .int (nI u.2.2.2.2.2.2.2.1)])), (s1, .inl (cI, 60, .inl (fun zz => nI (tx zz)))), (s2, .inl (cI, 22, .inl (fun zz => nI (u.2.2.2.2.2.2.2.2 zz)))), (pa, .inl (cI, 22, .inl (fun zz => nI (P zz))))])) Y hr hlocks hK hP hD hS [1, 2, 3, 0] (by decide) (fl2_74, fp2_74, its7, it7, nu2_74, di2_74, nb7, np7, S2_74) rfl ((hRES.trans (by rw [show tn - p7 = 0 by omega]; rfl)).trans (finS_b rfl hr74 (fun q => q.2 hit7))).symm dX3_read_101
          · exact absurd rfl c89
        · refine lv_aload_n hx hb dX3_read_84 rfl (lv_at hl 0 rfl) ?_
          refine va_get (D := (dC, dI)) (ci := 3) (v := .int (itV it7)) (C := RX3) (T := TX3) (N := 11) hx hb hts inlX3 hown hK hP 1 rfl rfl 6 (by decide) (hts _ qf_X3_18) (fun _ h9 => h9) rfl dX3_read_85 ?_
          refine ri_set hx hb (x' := nI it7) (itV_n hit) ?_
          refine lv_iconst (v := -1) hx hb dX3_read_88 (by decide) ?_
          refine lv_icmp_eq (tgt := 101) hx hb dX3_read_89 (by decide) (fun c89 => ?_) (fun c89 => ?_)
          · exact absurd c89 (nI_m1 (by omega))
          · refine lv_aload_n hx hb dX3_read_92 rfl (lv_at hl 0 rfl) ?_
            refine lv_iconst (v := nI 1) hx hb dX3_read_93 (by decide) ?_
            refine lv_aload_n hx hb dX3_read_94 rfl (lv_at hl 0 rfl) ?_
            refine va_get (D := (dC, dI)) (ci := 3) (v := .int (nI tn)) (C := RX3) (T := TX3) (N := 11) hx hb hts inlX3 hown hK hP 1 rfl rfl 2 (by decide) (hts _ qf_X3_22) (fun _ h9 => h9) rfl dX3_read_95 ?_
            refine kQv (As := [.int (nI 1), .int (nI tn)]) (rest := []) (wr := [(pa, .inl (cI, 22, .inl (fun zz => nI (P zz)))), (s1, .inl (cI, 60, .inl (fun zz => nI (tx zz)))), (s2, .inl (cI, 22, .inl (fun zz => nI (S2_74 zz))))]) Y m_X3_setFault (c_X3_setFault l dC dI H.size h0 s1 s2 tn fl2_74 fp2_74 its7 it7 nu2_74 di2_74 nb7 np7 1 tn ) qm_X3_50 hP hD hS hA [1] [0, 2, 3] rfl rfl (by decide) (by decide) (kqV (ci := 3) hK hP hD hZ hS hA [1] [] rfl (by decide) rfl 0 rfl rfl rfl) rfl hl.1 rfl (Nat.le_of_ble_eq_true rfl) dX3_read_98 ⟨Nat.le_of_ble_eq_true rfl, Nat.le_of_ble_eq_true rfl⟩ ⟨Nat.zero_le _, Nat.zero_le _⟩ (fun u98 H locs hr98 hP hD hS => ?_)
            have hP : va_P (dC, dI) vwCl [(pa, .inl (cI, 22, .inl (fun zz => nI (P zz)))), (s1, .inl (cI, 60, .inl (fun zz => nI (tx zz)))), (s2, .inl (cI, 22, .inl (fun zz => nI (S2_74 zz)))), (h0, .inr (3, [.ref s1, .ref s2, .int (nI tn), .int (nI 1), .int (nI tn), .int (nI its7), .int (itV it7), .int (nI nu2_74), .int (nI di2_74), .int (nI nb7), .int (nI np7)]))] H := hP
            have hD : va_D A [(pa, .inl (cI, 22, .inl (fun zz => nI (P zz)))), (s1, .inl (cI, 60, .inl (fun zz => nI (tx zz)))), (s2, .inl (cI, 22, .inl (fun zz => nI (S2_74 zz)))), (h0, .inr (3, [.ref s1, .ref s2, .int (nI tn), .int (nI 1), .int (nI tn), .int (nI its7), .int (itV it7), .int (nI nu2_74), .int (nI di2_74), .int (nI nb7), .int (nI np7)]))] := hD
            exact kqv (w1 := (fun u : Nat × Nat × Nat × Nat × Nat × Nat × Nat × Nat × (Nat → Nat) => [(h0, .inr (3, [.ref s1, .ref s2, .int (nI tn), .int (nI u.1), .int (nI u.2.1), .int (nI u.2.2.1), .int (itV u.2.2.2.1), .int (nI u.2.2.2.2.1), .int (nI u.2.2.2.2.2.1), .int (nI u.2.2.2.2.2.2.1), .int (nI u.2.2.2.2.2.2.2.1)])), (s1, .inl (cI, 60, .inl (fun zz => nI (tx zz)))), (s2, .inl (cI, 22, .inl (fun zz => nI (u.2.2.2.2.2.2.2.2 zz)))), (pa, .inl (cI, 22, .inl (fun zz => nI (P zz))))])) Y hr hlocks hK hP hD hS [3, 1, 2, 0] (by decide) (1, tn, its7, it7, nu2_74, di2_74, nb7, np7, S2_74) rfl ((hRES.trans (by rw [show tn - p7 = 0 by omega]; rfl)).trans (finS_a rfl hr74 ⟨c81, by show it7 ≠ 7; omega⟩)).symm dX3_read_101
  · refine lv_aload_n hx hb dX3_read_42 rfl (lv_at hl 0 rfl) ?_
    refine va_get (D := (dC, dI)) (ci := 3) (v := .int (nI fl7)) (C := RX3) (T := TX3) (N := 11) hx hb hts inlX3 hown hK hP 0 rfl rfl 3 (by decide) (hts _ qf_X3_25) (fun _ h9 => h9) rfl dX3_read_43 ?_
    refine ri_zne (tgt := 66) hx hb dX3_read_46 (by decide) (by omega) (fun c46 => ?_) (fun c46 => ?_)
    · refine lv_aload_n hx hb dX3_read_66 rfl (lv_at hl 0 rfl) ?_
      refine va_get (D := (dC, dI)) (ci := 3) (v := .int (nI fl7)) (C := RX3) (T := TX3) (N := 11) hx hb hts inlX3 hown hK hP 0 rfl rfl 3 (by decide) (hts _ qf_X3_25) (fun _ h9 => h9) rfl dX3_read_67 ?_
      refine ri_zne (tgt := 77) hx hb dX3_read_70 (by decide) (by omega) (fun c70 => ?_) (fun c70 => ?_)
      · refine lv_aload_n hx hb dX3_read_77 rfl (lv_at hl 0 rfl) ?_
        refine va_get (D := (dC, dI)) (ci := 3) (v := .int (nI fl7)) (C := RX3) (T := TX3) (N := 11) hx hb hts inlX3 hown hK hP 0 rfl rfl 3 (by decide) (hts _ qf_X3_25) (fun _ h9 => h9) rfl dX3_read_78 ?_
        refine ri_zne (tgt := 101) hx hb dX3_read_81 (by decide) (by omega) (fun c81 => ?_) (fun c81 => ?_)
        · exact kqv (w1 := (fun u : Nat × Nat × Nat × Nat × Nat × Nat × Nat × Nat × (Nat → Nat) => [(h0, .inr (3, [.ref s1, .ref s2, .int (nI tn), .int (nI u.1), .int (nI u.2.1), .int (nI u.2.2.1), .int (itV u.2.2.2.1), .int (nI u.2.2.2.2.1), .int (nI u.2.2.2.2.2.1), .int (nI u.2.2.2.2.2.2.1), .int (nI u.2.2.2.2.2.2.2.1)])), (s1, .inl (cI, 60, .inl (fun zz => nI (tx zz)))), (s2, .inl (cI, 22, .inl (fun zz => nI (u.2.2.2.2.2.2.2.2 zz)))), (pa, .inl (cI, 22, .inl (fun zz => nI (P zz))))])) Y hr hlocks hK hP hD hS [0, 1, 2, 3] (by decide) (fl7, fp7, its7, it7, nu7, di7, nb7, np7, S7) rfl (hRES.trans (goF_fl c46)).symm dX3_read_101
        · exact absurd c81 c70
      · exact absurd c70 c46
    · obtain rfl : fl7 = 0 := c46
      have htxp := htx p7 (by omega)
      refine lv_aload_n hx hb dX3_read_49 rfl (lv_at hl 0 rfl) ?_
      refine lv_aload_n hx hb dX3_read_50 rfl (lv_at hl 0 rfl) ?_
      refine va_get (D := (dC, dI)) (ci := 3) (v := .ref s1) (C := RX3) (T := TX3) (N := 11) hx hb hts inlX3 hown hK hP 0 rfl rfl 0 (by decide) (hts _ qf_X3_11) (fun _ h9 => h9) rfl dX3_read_51 ?_
      refine lv_iload_n hx hb dX3_read_54 rfl (lv_at hl 2 rfl) ?_
      refine ri_ald hx hb hK hP 1 0 (F := tx) rfl rfl dX3_read_55 (by decide) (by omega) ?_
      refine lv_iload_n hx hb dX3_read_56 rfl (lv_at hl 2 rfl) ?_
      refine kQv (As := [.int (nI (tx p7)), .int (nI p7)]) (rest := []) (wr := [(pa, .inl (cI, 22, .inl (fun zz => nI (P zz))))]) Y m_X3_readCharacter (c_X3_readCharacter l dC dI _ cI h0 s1 s2 tn fp7 its7 it7 nu7 di7 nb7 np7 tx S7 (tx p7) p7 (by omega) (by omega) (by omega) hT7) qm_X3_43 hP hD hS hA [0, 1, 2] [3] rfl rfl (by decide) (by decide) (kqV (ci := 3) hK hP hD hZ hS hA [0, 1, 2] [0] rfl (by decide) rfl 0 rfl rfl rfl) rfl hl.1 rfl (Nat.le_of_ble_eq_true rfl) dX3_read_57 ⟨Nat.le_of_ble_eq_true rfl, Nat.le_of_ble_eq_true rfl⟩ ⟨Nat.zero_le _, Nat.zero_le _⟩ (fun u57 H locs hr57 hP hD hS => ?_)
      obtain ⟨fl2_57, fp2_57, its2_57, it2_57, nu2_57, di2_57, nb2_57, np2_57, S2_57⟩ := u57
      have hP : va_P (dC, dI) vwCl [(pa, .inl (cI, 22, .inl (fun zz => nI (P zz)))), (h0, .inr (3, [.ref s1, .ref s2, .int (nI tn), .int (nI fl2_57), .int (nI fp2_57), .int (nI its2_57), .int (itV it2_57), .int (nI nu2_57), .int (nI di2_57), .int (nI nb2_57), .int (nI np2_57)])), (s1, .inl (cI, 60, .inl (fun zz => nI (tx zz)))), (s2, .inl (cI, 22, .inl (fun zz => nI (S2_57 zz))))] H := hP
      have hD : va_D A [(pa, .inl (cI, 22, .inl (fun zz => nI (P zz)))), (h0, .inr (3, [.ref s1, .ref s2, .int (nI tn), .int (nI fl2_57), .int (nI fp2_57), .int (nI its2_57), .int (itV it2_57), .int (nI nu2_57), .int (nI di2_57), .int (nI nb2_57), .int (nI np2_57)])), (s1, .inl (cI, 60, .inl (fun zz => nI (tx zz)))), (s2, .inl (cI, 22, .inl (fun zz => nI (S2_57 zz))))] := hD
      have hr57 : (fl2_57, fp2_57, its2_57, it2_57, nu2_57, di2_57, nb2_57, np2_57, S2_57) = stepc (0, fp7, its7, it7, nu7, di7, nb7, np7, S7) (tx p7) p7 := hr57
      have hTs := TIs_step (s := (0, fp7, its7, it7, nu7, di7, nb7, np7, S7)) (ch := tx p7) (pos := p7) hT7 (by omega)
      rw [← hr57] at hTs
      have hst := goF_s (tx := tx) (n := tn) (pos := p7) (s := (0, fp7, its7, it7, nu7, di7, nb7, np7, S7)) rfl (by omega)
      rw [← hr57] at hst
      have hit2 := stepc_its (s := (0, fp7, its7, it7, nu7, di7, nb7, np7, S7)) (ch := tx p7) (pos := p7)
      rw [← hr57] at hit2
      have hfl9 := stepc_fl (s := (0, fp7, its7, it7, nu7, di7, nb7, np7, S7)) (ch := tx p7) (pos := p7) (show 0 ≤ 3 by omega)
      rw [← hr57] at hfl9
      have hfl9 : fl2_57 ≤ 3 := hfl9
      have hit2 : its2_57 ≤ its7 + 1 := hit2
      refine lv_iinc (v := nI (p7 + 1)) (lv' := [(2, .int (nI (p7 + 1))), (0, .ref h0), (1, .ref pa)]) hx hb dX3_read_60 hl (k := 2) rfl (inc1 _) (by decide) rfl (fun ls hl => ?_)
      refine lv_goto (tgt := 34) hx hb dX3_read_63 (by decide) ?_
      exact ih34 (p7 + 1) fl2_57 fp2_57 its2_57 it2_57 nu2_57 di2_57 nb2_57 np2_57 S2_57 _ _ _ (by show _ < _; omega) (by exact ⟨lv_sub hl [1, 2, 0] rfl, hP.sub [1, 2, 3, 0] rfl, hD.sub [1, 2, 3, 0] (by decide) rfl, hS, by omega, by omega, hRES.trans hst, hTs, hfl9⟩)
