set_option maxHeartbeats 4000000 in
set_option maxRecDepth 100000 in
theorem c_X0_size (l : Launch) (dC : Nat → ClassId) (dI : Nat → Nat → Nat) (h0 s1 : Nat) (hn : Nat)  : Met l yX0_size (kw yX0_size cX0_size 1 (some .int)) (kR 0 0) (kPr (dC, dI) [.ref h0] [(h0, .inr (0, [.ref s1, .int (nI hn)]))] []) (vp_Si (fun res : Int32 => res = nI hn)) 0 0 kNo := by
  refine kmet (by decide) ?_
  intro p e s m args below meth c Y hr hlocks hin hv
  obtain ⟨rfl, hP, hK, hZ⟩ := kinR hv
  have hS : va_S kNo s.heap s.heap [] := va_S.rf
  have hx := Y.1
  have hb := Y.2.1
  have hml := Y.2.2.1
  have hown := Y.2.2.2.1
  have hts := Y.2.2.2.2
  have hl := lv_entry ([.ref h0]) (n := 1) (Nat.le_of_ble_eq_true rfl)
  rw [lg_entry_eq]
  generalize (lg_sl ([.ref h0]) ++ List.replicate (1 - (lg_sl ([.ref h0])).length) Slot.unset).toArray = ls at hl ⊢
  have hl : lv_has ls 1 [(0, .ref h0)] := hl
  refine lv_aload_n hx hb dX0_size_0 rfl (lv_at hl 0 rfl) ?_
  refine va_get (D := (dC, dI)) (ci := 0) (v := .int (nI hn)) (C := RX0) (T := TX0) (N := 2) hx hb hts inlX0 hown hK hP 0 rfl rfl 1 (by decide) (hts _ qf_X0_15) (fun _ h9 => h9) rfl dX0_size_1 ?_
  exact kri (v := nI hn) Y hr hlocks rfl dX0_size_4
set_option maxHeartbeats 4000000 in
set_option maxRecDepth 100000 in
theorem c_X0_record (l : Launch) (dC : Nat → ClassId) (dI : Nat → Nat → Nat) (sz : Nat) (cI : ClassId) (h0 s1 pa : Nat) (hs P : Nat → Nat) (hn : Nat) (h1 : hn ≤ 8) : Met l yX0_record (kw yX0_record cX0_record 2 none) (kR 1 40) (kPq (dC, dI) [.ref h0, .ref pa] sz [(h0, .inr (0, [.ref s1, .int (nI hn)])), (s1, .inl (cI, 176, .inl (fun zz => nI (hs zz)))), (pa, .inl (cI, 22, .inl (fun zz => nI (P zz))))] [(cI, .int)]) (va_Qv (fun u : Unit => True) (fun u : Unit => kB (dC, dI) [(cI, .int)] (va_A [(h0, .inr (0, [.ref s1, .int (nI hn)])), (s1, .inl (cI, 176, .inl (fun zz => nI (hs zz)))), (pa, .inl (cI, 22, .inl (fun zz => nI (P zz))))] sz) ([(h0, .inr (0, [.ref s1, .int (nI (recN hn))])), (s1, .inl (cI, 176, .inl (fun zz => nI (recS P hs hn zz)))), (pa, .inl (cI, 22, .inl (fun zz => nI (P zz))))])) (va_A [(h0, .inr (0, [.ref s1, .int (nI hn)])), (s1, .inl (cI, 176, .inl (fun zz => nI (hs zz)))), (pa, .inl (cI, 22, .inl (fun zz => nI (P zz))))] sz)) 0 0 (va_A [(h0, .inr (0, [.ref s1, .int (nI hn)])), (s1, .inl (cI, 176, .inl (fun zz => nI (hs zz)))), (pa, .inl (cI, 22, .inl (fun zz => nI (P zz))))] sz) := by
  refine kmet (by decide) ?_
  intro p e s m args below meth c Y hr hlocks hin hv
  obtain ⟨rfl, A, hAe, hsz, hP, hK, hD, hZ, hA⟩ := kinQ hv
  rw [hAe]
  have hS : va_S A s.heap s.heap [] := va_S.rf
  have hx := Y.1
  have hb := Y.2.1
  have hml := Y.2.2.1
  have hown := Y.2.2.2.1
  have hts := Y.2.2.2.2
  have hl := lv_entry ([.ref h0, .ref pa]) (n := 2) (Nat.le_of_ble_eq_true rfl)
  rw [lg_entry_eq]
  generalize (lg_sl ([.ref h0, .ref pa]) ++ List.replicate (2 - (lg_sl ([.ref h0, .ref pa])).length) Slot.unset).toArray = ls at hl ⊢
  have hl : lv_has ls 2 [(0, .ref h0), (1, .ref pa)] := hl
  refine lv_aload_n hx hb dX0_record_0 rfl (lv_at hl 0 rfl) ?_
  refine va_get (D := (dC, dI)) (ci := 0) (v := .int (nI hn)) (C := RX0) (T := TX0) (N := 2) hx hb hts inlX0 hown hK hP 0 rfl rfl 1 (by decide) (hts _ qf_X0_15) (fun _ h9 => h9) rfl dX0_record_1 ?_
  refine lv_bipush (v := nI 8) hx hb dX0_record_4 (by decide) ?_
  refine ri_cne (tgt := 36) hx hb dX0_record_6 (by decide) (by omega) (by omega) (fun c6 => ?_) (fun c6 => ?_)
  · refine lv_aload_n hx hb dX0_record_36 rfl (lv_at hl 1 rfl) ?_
    refine lv_iconst (v := nI 0) hx hb dX0_record_37 (by decide) ?_
    refine lv_aload_n hx hb dX0_record_38 rfl (lv_at hl 0 rfl) ?_
    refine va_get (D := (dC, dI)) (ci := 0) (v := .ref s1) (C := RX0) (T := TX0) (N := 2) hx hb hts inlX0 hown hK hP 0 rfl rfl 0 (by decide) (hts _ qf_X0_11) (fun _ h9 => h9) rfl dX0_record_39 ?_
    refine lv_aload_n hx hb dX0_record_42 rfl (lv_at hl 0 rfl) ?_
    refine va_get (D := (dC, dI)) (ci := 0) (v := .int (nI hn)) (C := RX0) (T := TX0) (N := 2) hx hb hts inlX0 hown hK hP 0 rfl rfl 1 (by decide) (hts _ qf_X0_15) (fun _ h9 => h9) rfl dX0_record_43 ?_
    refine lv_bipush (v := nI 22) hx hb dX0_record_46 (by decide) ?_
    refine ri_mul hx hb dX0_record_48 ?_
    refine lv_bipush (v := nI 22) hx hb dX0_record_49 (by decide) ?_
    refine r_copy Y hl hK hP hD hS 2 1 0 0 (F := P) (G := hs) rfl rfl rfl rfl qm_X0_19 dX0_record_51 (by decide) (by decide) (by omega) (by omega) (Nat.le_of_ble_eq_true rfl) (Nat.le_of_ble_eq_true rfl) (fun H locs hP hD hS => ?_)
    have hP : va_P (dC, dI) vwCl [(h0, .inr (0, [.ref s1, .int (nI hn)])), (s1, .inl (cI, 176, .inl (fun zz => nI (va_cpy P hs 0 (hn * 22) 22 zz)))), (pa, .inl (cI, 22, .inl (fun zz => nI (P zz))))] H := hP
    have hD : va_D A [(h0, .inr (0, [.ref s1, .int (nI hn)])), (s1, .inl (cI, 176, .inl (fun zz => nI (va_cpy P hs 0 (hn * 22) 22 zz)))), (pa, .inl (cI, 22, .inl (fun zz => nI (P zz))))] := hD
    refine lv_aload_n hx hb dX0_record_54 rfl (lv_at hl 0 rfl) ?_
    refine lv_dup hx hb dX0_record_55 rfl ?_
    refine va_get (D := (dC, dI)) (ci := 0) (v := .int (nI hn)) (C := RX0) (T := TX0) (N := 2) hx hb hts inlX0 hown hK hP 0 rfl rfl 1 (by decide) (hts _ qf_X0_15) (fun _ h9 => h9) rfl dX0_record_56 ?_
    refine lv_iconst (v := nI 1) hx hb dX0_record_59 (by decide) ?_
    refine ri_add hx hb dX0_record_60 ?_
    refine va_put (D := (dC, dI)) (ci := 0) (v := .int (nI (hn + 1))) (ty := .int) (C := RX0) (T := TX0) (N := 2) hx hb hts inlX0 tyX0 tyX0_ok nmX0 hown hK hP hD hS 0 rfl rfl 1 (by decide) (hts _ qf_X0_15) (fun _ h9 => h9) rfl (by decide +kernel) rfl rfl (Nat.le_of_ble_eq_true rfl) dX0_record_61 (fun H locs hP hD hS => ?_)
    have hP : va_P (dC, dI) vwCl [(h0, .inr (0, [.ref s1, .int (nI (hn + 1))])), (s1, .inl (cI, 176, .inl (fun zz => nI (va_cpy P hs 0 (hn * 22) 22 zz)))), (pa, .inl (cI, 22, .inl (fun zz => nI (P zz))))] H := hP
    have hD : va_D A [(h0, .inr (0, [.ref s1, .int (nI (hn + 1))])), (s1, .inl (cI, 176, .inl (fun zz => nI (va_cpy P hs 0 (hn * 22) 22 zz)))), (pa, .inl (cI, 22, .inl (fun zz => nI (P zz))))] := hD
    have e1 : va_cpy P hs 0 (hn * 22) 22 = recS P hs hn := by unfold recS; rw [if_neg c6, if_neg c6]
    have e2 : hn + 1 = recN hn := by unfold recN; rw [if_neg c6]
    rw [e1, e2] at hP hD
    exact kqv (w1 := (fun u : Unit => [(h0, .inr (0, [.ref s1, .int (nI (recN hn))])), (s1, .inl (cI, 176, .inl (fun zz => nI (recS P hs hn zz)))), (pa, .inl (cI, 22, .inl (fun zz => nI (P zz))))])) Y hr hlocks hK hP hD hS [0, 1, 2] (by decide) () rfl trivial dX0_record_64
  · obtain rfl : hn = 8 := c6
    refine lv_aload_n hx hb dX0_record_9 rfl (lv_at hl 0 rfl) ?_
    refine va_get (D := (dC, dI)) (ci := 0) (v := .ref s1) (C := RX0) (T := TX0) (N := 2) hx hb hts inlX0 hown hK hP 0 rfl rfl 0 (by decide) (hts _ qf_X0_11) (fun _ h9 => h9) rfl dX0_record_10 ?_
    refine lv_bipush (v := nI 22) hx hb dX0_record_13 (by decide) ?_
    refine lv_aload_n hx hb dX0_record_15 rfl (lv_at hl 0 rfl) ?_
    refine va_get (D := (dC, dI)) (ci := 0) (v := .ref s1) (C := RX0) (T := TX0) (N := 2) hx hb hts inlX0 hown hK hP 0 rfl rfl 0 (by decide) (hts _ qf_X0_11) (fun _ h9 => h9) rfl dX0_record_16 ?_
    refine lv_iconst (v := nI 0) hx hb dX0_record_19 (by decide) ?_
    refine lv_sipush (v := nI 154) hx hb dX0_record_20 (by decide) ?_
    refine r_copy Y hl hK hP hD hS 1 1 0 0 (F := hs) (G := hs) rfl rfl rfl rfl qm_X0_19 dX0_record_23 (by decide) (by decide) (by omega) (by omega) (Nat.le_of_ble_eq_true rfl) (Nat.le_of_ble_eq_true rfl) (fun H locs hP hD hS => ?_)
    have hP : va_P (dC, dI) vwCl [(h0, .inr (0, [.ref s1, .int (nI 8)])), (s1, .inl (cI, 176, .inl (fun zz => nI (va_cpy hs hs 22 0 154 zz)))), (pa, .inl (cI, 22, .inl (fun zz => nI (P zz))))] H := hP
    have hD : va_D A [(h0, .inr (0, [.ref s1, .int (nI 8)])), (s1, .inl (cI, 176, .inl (fun zz => nI (va_cpy hs hs 22 0 154 zz)))), (pa, .inl (cI, 22, .inl (fun zz => nI (P zz))))] := hD
    refine lv_aload_n hx hb dX0_record_26 rfl (lv_at hl 0 rfl) ?_
    refine lv_dup hx hb dX0_record_27 rfl ?_
    refine va_get (D := (dC, dI)) (ci := 0) (v := .int (nI 8)) (C := RX0) (T := TX0) (N := 2) hx hb hts inlX0 hown hK hP 0 rfl rfl 1 (by decide) (hts _ qf_X0_15) (fun _ h9 => h9) rfl dX0_record_28 ?_
    refine lv_iconst (v := nI 1) hx hb dX0_record_31 (by decide) ?_
    refine ri_sub hx hb dX0_record_32 (by omega) ?_
    refine va_put (D := (dC, dI)) (ci := 0) (v := .int (nI 7)) (ty := .int) (C := RX0) (T := TX0) (N := 2) hx hb hts inlX0 tyX0 tyX0_ok nmX0 hown hK hP hD hS 0 rfl rfl 1 (by decide) (hts _ qf_X0_15) (fun _ h9 => h9) rfl (by decide +kernel) rfl rfl (Nat.le_of_ble_eq_true rfl) dX0_record_33 (fun H locs hP hD hS => ?_)
    have hP : va_P (dC, dI) vwCl [(h0, .inr (0, [.ref s1, .int (nI 7)])), (s1, .inl (cI, 176, .inl (fun zz => nI (va_cpy hs hs 22 0 154 zz)))), (pa, .inl (cI, 22, .inl (fun zz => nI (P zz))))] H := hP
    have hD : va_D A [(h0, .inr (0, [.ref s1, .int (nI 7)])), (s1, .inl (cI, 176, .inl (fun zz => nI (va_cpy hs hs 22 0 154 zz)))), (pa, .inl (cI, 22, .inl (fun zz => nI (P zz))))] := hD
    refine lv_aload_n hx hb dX0_record_36 rfl (lv_at hl 1 rfl) ?_
    refine lv_iconst (v := nI 0) hx hb dX0_record_37 (by decide) ?_
    refine lv_aload_n hx hb dX0_record_38 rfl (lv_at hl 0 rfl) ?_
    refine va_get (D := (dC, dI)) (ci := 0) (v := .ref s1) (C := RX0) (T := TX0) (N := 2) hx hb hts inlX0 hown hK hP 0 rfl rfl 0 (by decide) (hts _ qf_X0_11) (fun _ h9 => h9) rfl dX0_record_39 ?_
    refine lv_aload_n hx hb dX0_record_42 rfl (lv_at hl 0 rfl) ?_
    refine va_get (D := (dC, dI)) (ci := 0) (v := .int (nI 7)) (C := RX0) (T := TX0) (N := 2) hx hb hts inlX0 hown hK hP 0 rfl rfl 1 (by decide) (hts _ qf_X0_15) (fun _ h9 => h9) rfl dX0_record_43 ?_
    refine lv_bipush (v := nI 22) hx hb dX0_record_46 (by decide) ?_
    refine ri_mul hx hb dX0_record_48 ?_
    refine lv_bipush (v := nI 22) hx hb dX0_record_49 (by decide) ?_
    refine r_copy Y hl hK hP hD hS 2 1 0 0 (F := P) (G := (va_cpy hs hs 22 0 154)) rfl rfl rfl rfl qm_X0_19 dX0_record_51 (by decide) (by decide) (by omega) (by omega) (Nat.le_of_ble_eq_true rfl) (Nat.le_of_ble_eq_true rfl) (fun H locs hP hD hS => ?_)
    have hP : va_P (dC, dI) vwCl [(h0, .inr (0, [.ref s1, .int (nI 7)])), (s1, .inl (cI, 176, .inl (fun zz => nI (va_cpy P (va_cpy hs hs 22 0 154) 0 (7 * 22) 22 zz)))), (pa, .inl (cI, 22, .inl (fun zz => nI (P zz))))] H := hP
    have hD : va_D A [(h0, .inr (0, [.ref s1, .int (nI 7)])), (s1, .inl (cI, 176, .inl (fun zz => nI (va_cpy P (va_cpy hs hs 22 0 154) 0 (7 * 22) 22 zz)))), (pa, .inl (cI, 22, .inl (fun zz => nI (P zz))))] := hD
    refine lv_aload_n hx hb dX0_record_54 rfl (lv_at hl 0 rfl) ?_
    refine lv_dup hx hb dX0_record_55 rfl ?_
    refine va_get (D := (dC, dI)) (ci := 0) (v := .int (nI 7)) (C := RX0) (T := TX0) (N := 2) hx hb hts inlX0 hown hK hP 0 rfl rfl 1 (by decide) (hts _ qf_X0_15) (fun _ h9 => h9) rfl dX0_record_56 ?_
    refine lv_iconst (v := nI 1) hx hb dX0_record_59 (by decide) ?_
    refine ri_add hx hb dX0_record_60 ?_
    refine va_put (D := (dC, dI)) (ci := 0) (v := .int (nI 8)) (ty := .int) (C := RX0) (T := TX0) (N := 2) hx hb hts inlX0 tyX0 tyX0_ok nmX0 hown hK hP hD hS 0 rfl rfl 1 (by decide) (hts _ qf_X0_15) (fun _ h9 => h9) rfl (by decide +kernel) rfl rfl (Nat.le_of_ble_eq_true rfl) dX0_record_61 (fun H locs hP hD hS => ?_)
    have hP : va_P (dC, dI) vwCl [(h0, .inr (0, [.ref s1, .int (nI 8)])), (s1, .inl (cI, 176, .inl (fun zz => nI (va_cpy P (va_cpy hs hs 22 0 154) 0 (7 * 22) 22 zz)))), (pa, .inl (cI, 22, .inl (fun zz => nI (P zz))))] H := hP
    have hD : va_D A [(h0, .inr (0, [.ref s1, .int (nI 8)])), (s1, .inl (cI, 176, .inl (fun zz => nI (va_cpy P (va_cpy hs hs 22 0 154) 0 (7 * 22) 22 zz)))), (pa, .inl (cI, 22, .inl (fun zz => nI (P zz))))] := hD
    exact kqv (w1 := (fun u : Unit => [(h0, .inr (0, [.ref s1, .int (nI (recN 8))])), (s1, .inl (cI, 176, .inl (fun zz => nI (recS P hs 8 zz)))), (pa, .inl (cI, 22, .inl (fun zz => nI (P zz))))])) Y hr hlocks hK hP hD hS [0, 1, 2] (by decide) () rfl trivial dX0_record_64
set_option maxHeartbeats 4000000 in
set_option maxRecDepth 100000 in
theorem c_X0_restore (l : Launch) (dC : Nat → ClassId) (dI : Nat → Nat → Nat) (sz : Nat) (cI : ClassId) (h0 s1 pa : Nat) (hs P : Nat → Nat) (hn : Nat) (h1 : hn ≤ 8) (h2 : 1 ≤ hn) : Met l yX0_restore (kw yX0_restore cX0_restore 2 none) (kR 1 40) (kPq (dC, dI) [.ref h0, .ref pa] sz [(h0, .inr (0, [.ref s1, .int (nI hn)])), (s1, .inl (cI, 176, .inl (fun zz => nI (hs zz)))), (pa, .inl (cI, 22, .inl (fun zz => nI (P zz))))] [(cI, .int)]) (va_Qv (fun u : Unit => True) (fun u : Unit => kB (dC, dI) [(cI, .int)] (va_A [(h0, .inr (0, [.ref s1, .int (nI hn)])), (s1, .inl (cI, 176, .inl (fun zz => nI (hs zz)))), (pa, .inl (cI, 22, .inl (fun zz => nI (P zz))))] sz) ([(h0, .inr (0, [.ref s1, .int (nI (hn - 1))])), (s1, .inl (cI, 176, .inl (fun zz => nI (hs zz)))), (pa, .inl (cI, 22, .inl (fun zz => nI (va_cpy hs P ((hn - 1) * 22) 0 22 zz))))])) (va_A [(h0, .inr (0, [.ref s1, .int (nI hn)])), (s1, .inl (cI, 176, .inl (fun zz => nI (hs zz)))), (pa, .inl (cI, 22, .inl (fun zz => nI (P zz))))] sz)) 0 0 (va_A [(h0, .inr (0, [.ref s1, .int (nI hn)])), (s1, .inl (cI, 176, .inl (fun zz => nI (hs zz)))), (pa, .inl (cI, 22, .inl (fun zz => nI (P zz))))] sz) := by
  refine kmet (by decide) ?_
  intro p e s m args below meth c Y hr hlocks hin hv
  obtain ⟨rfl, A, hAe, hsz, hP, hK, hD, hZ, hA⟩ := kinQ hv
  rw [hAe]
  have hS : va_S A s.heap s.heap [] := va_S.rf
  have hx := Y.1
  have hb := Y.2.1
  have hml := Y.2.2.1
  have hown := Y.2.2.2.1
  have hts := Y.2.2.2.2
  have hl := lv_entry ([.ref h0, .ref pa]) (n := 2) (Nat.le_of_ble_eq_true rfl)
  rw [lg_entry_eq]
  generalize (lg_sl ([.ref h0, .ref pa]) ++ List.replicate (2 - (lg_sl ([.ref h0, .ref pa])).length) Slot.unset).toArray = ls at hl ⊢
  have hl : lv_has ls 2 [(0, .ref h0), (1, .ref pa)] := hl
  refine lv_aload_n hx hb dX0_restore_0 rfl (lv_at hl 0 rfl) ?_
  refine va_get (D := (dC, dI)) (ci := 0) (v := .int (nI hn)) (C := RX0) (T := TX0) (N := 2) hx hb hts inlX0 hown hK hP 0 rfl rfl 1 (by decide) (hts _ qf_X0_15) (fun _ h9 => h9) rfl dX0_restore_1 ?_
  refine ri_zle (tgt := 35) hx hb dX0_restore_4 (by decide) (by omega) (fun c4 => ?_) (fun c4 => ?_)
  · exact absurd c4 (by omega)
  · refine lv_aload_n hx hb dX0_restore_7 rfl (lv_at hl 0 rfl) ?_
    refine lv_dup hx hb dX0_restore_8 rfl ?_
    refine va_get (D := (dC, dI)) (ci := 0) (v := .int (nI hn)) (C := RX0) (T := TX0) (N := 2) hx hb hts inlX0 hown hK hP 0 rfl rfl 1 (by decide) (hts _ qf_X0_15) (fun _ h9 => h9) rfl dX0_restore_9 ?_
    refine lv_iconst (v := nI 1) hx hb dX0_restore_12 (by decide) ?_
    refine ri_sub hx hb dX0_restore_13 (by omega) ?_
    refine va_put (D := (dC, dI)) (ci := 0) (v := .int (nI (hn - 1))) (ty := .int) (C := RX0) (T := TX0) (N := 2) hx hb hts inlX0 tyX0 tyX0_ok nmX0 hown hK hP hD hS 0 rfl rfl 1 (by decide) (hts _ qf_X0_15) (fun _ h9 => h9) rfl (by decide +kernel) rfl rfl (Nat.le_of_ble_eq_true rfl) dX0_restore_14 (fun H locs hP hD hS => ?_)
    have hP : va_P (dC, dI) vwCl [(h0, .inr (0, [.ref s1, .int (nI (hn - 1))])), (s1, .inl (cI, 176, .inl (fun zz => nI (hs zz)))), (pa, .inl (cI, 22, .inl (fun zz => nI (P zz))))] H := hP
    have hD : va_D A [(h0, .inr (0, [.ref s1, .int (nI (hn - 1))])), (s1, .inl (cI, 176, .inl (fun zz => nI (hs zz)))), (pa, .inl (cI, 22, .inl (fun zz => nI (P zz))))] := hD
    refine lv_aload_n hx hb dX0_restore_17 rfl (lv_at hl 0 rfl) ?_
    refine va_get (D := (dC, dI)) (ci := 0) (v := .ref s1) (C := RX0) (T := TX0) (N := 2) hx hb hts inlX0 hown hK hP 0 rfl rfl 0 (by decide) (hts _ qf_X0_11) (fun _ h9 => h9) rfl dX0_restore_18 ?_
    refine lv_aload_n hx hb dX0_restore_21 rfl (lv_at hl 0 rfl) ?_
    refine va_get (D := (dC, dI)) (ci := 0) (v := .int (nI (hn - 1))) (C := RX0) (T := TX0) (N := 2) hx hb hts inlX0 hown hK hP 0 rfl rfl 1 (by decide) (hts _ qf_X0_15) (fun _ h9 => h9) rfl dX0_restore_22 ?_
    refine lv_bipush (v := nI 22) hx hb dX0_restore_25 (by decide) ?_
    refine ri_mul hx hb dX0_restore_27 ?_
    refine lv_aload_n hx hb dX0_restore_28 rfl (lv_at hl 1 rfl) ?_
    refine lv_iconst (v := nI 0) hx hb dX0_restore_29 (by decide) ?_
    refine lv_bipush (v := nI 22) hx hb dX0_restore_30 (by decide) ?_
    refine r_copy Y hl hK hP hD hS 1 2 0 0 (F := hs) (G := P) rfl rfl rfl rfl qm_X0_19 dX0_restore_32 (by decide) (by decide) (by omega) (by omega) (Nat.le_of_ble_eq_true rfl) (Nat.le_of_ble_eq_true rfl) (fun H locs hP hD hS => ?_)
    have hP : va_P (dC, dI) vwCl [(h0, .inr (0, [.ref s1, .int (nI (hn - 1))])), (s1, .inl (cI, 176, .inl (fun zz => nI (hs zz)))), (pa, .inl (cI, 22, .inl (fun zz => nI (va_cpy hs P ((hn - 1) * 22) 0 22 zz))))] H := hP
    have hD : va_D A [(h0, .inr (0, [.ref s1, .int (nI (hn - 1))])), (s1, .inl (cI, 176, .inl (fun zz => nI (hs zz)))), (pa, .inl (cI, 22, .inl (fun zz => nI (va_cpy hs P ((hn - 1) * 22) 0 22 zz))))] := hD
    exact kqv (w1 := (fun u : Unit => [(h0, .inr (0, [.ref s1, .int (nI (hn - 1))])), (s1, .inl (cI, 176, .inl (fun zz => nI (hs zz)))), (pa, .inl (cI, 22, .inl (fun zz => nI (va_cpy hs P ((hn - 1) * 22) 0 22 zz))))])) Y hr hlocks hK hP hD hS [0, 1, 2] (by decide) () rfl trivial dX0_restore_35
