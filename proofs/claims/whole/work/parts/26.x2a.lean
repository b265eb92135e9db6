set_option maxHeartbeats 4000000 in
set_option maxRecDepth 100000 in
theorem c_X2_resultOf (l : Launch) (dC : Nat → ClassId) (dI : Nat → Nat → Nat) (cI : ClassId) (h0 s1 s2 s3 : Nat) (rs : Nat → Int32) (rr fr : Nat → Nat) (z : Int32) (i : Nat) (h1 : i < 5) : Met l yX2_resultOf (kw yX2_resultOf cX2_resultOf 2 (some .int)) (kR 0 0) (kPr (dC, dI) [.ref h0, .int (nI i)] [(h0, .inr (2, [.ref s1, .ref s2, .ref s3, .int z])), (s1, .inl (cI, 5, .inl rs)), (s2, .inl (cI, 8, .inl (fun zz => nI (rr zz)))), (s3, .inl (cI, 8, .inl (fun zz => nI (fr zz))))] [(cI, .int)]) (vp_Si (fun res : Int32 => res = rs i)) 0 0 kNo := by
  refine kmet (by decide) ?_
  intro p e s m args below meth c Y hr hlocks hin hv
  obtain ⟨rfl, hP, hK, hZ⟩ := kinR hv
  have hS : va_S kNo s.heap s.heap [] := va_S.rf
  have hx := Y.1
  have hb := Y.2.1
  have hml := Y.2.2.1
  have hown := Y.2.2.2.1
  have hts := Y.2.2.2.2
  have hl := lv_entry ([.ref h0, .int (nI i)]) (n := 2) (Nat.le_of_ble_eq_true rfl)
  rw [lg_entry_eq]
  generalize (lg_sl ([.ref h0, .int (nI i)]) ++ List.replicate (2 - (lg_sl ([.ref h0, .int (nI i)])).length) Slot.unset).toArray = ls at hl ⊢
  have hl : lv_has ls 2 [(0, .ref h0), (1, .int (nI i))] := hl
  refine lv_aload_n hx hb dX2_resultOf_0 rfl (lv_at hl 0 rfl) ?_
  refine va_get (D := (dC, dI)) (ci := 2) (v := .ref s1) (C := RX2) (T := TX2) (N := 4) hx hb hts inlX2 hown hK hP 0 rfl rfl 0 (by decide) (hts _ qf_X2_11) (fun _ h9 => h9) rfl dX2_resultOf_1 ?_
  refine lv_iload_n hx hb dX2_resultOf_4 rfl (lv_at hl 1 rfl) ?_
  refine rr_ald hx hb hK hP 1 0 (F := rs) rfl rfl dX2_resultOf_5 (by decide) (by omega) ?_
  exact kri (v := rs i) Y hr hlocks rfl dX2_resultOf_6
set_option maxHeartbeats 4000000 in
set_option maxRecDepth 100000 in
theorem c_X2_draw (l : Launch) (dC : Nat → ClassId) (dI : Nat → Nat → Nat) (sz : Nat) (h0 s1 s2 s3 : Nat) (z : Int32)  : Met l yX2_draw (kw yX2_draw cX2_draw 1 (some .int)) (kR 0 0) (kPq (dC, dI) [.ref h0] sz [(h0, .inr (2, [.ref s1, .ref s2, .ref s3, .int z]))] []) (va_Qi (fun (res : Int32) (u : Unit) => res = nI (dn (dz z))) (fun u : Unit => kB (dC, dI) [] (va_A [(h0, .inr (2, [.ref s1, .ref s2, .ref s3, .int z]))] sz) ([(h0, .inr (2, [.ref s1, .ref s2, .ref s3, .int (dz z)]))])) (va_A [(h0, .inr (2, [.ref s1, .ref s2, .ref s3, .int z]))] sz)) 0 0 (va_A [(h0, .inr (2, [.ref s1, .ref s2, .ref s3, .int z]))] sz) := by
  refine kmet (by decide) ?_
  intro p e s m args below meth c Y hr hlocks hin hv
  obtain ⟨rfl, A, hAe, hsz, hP, hK, hD, hZ, hA⟩ := kinQ hv
  rw [hAe]
  have hS : va_S A s.heap s.heap [] := va_S.rf
  have hx := Y.1
  have hb := Y.2.1
  have hml := Y.2.2.1
  have hown := Y.2.2.2.1
  have hts := Y.2.2.2.2
  have hl := lv_entry ([.ref h0]) (n := 1) (Nat.le_of_ble_eq_true rfl)
  rw [lg_entry_eq]
  generalize (lg_sl ([.ref h0]) ++ List.replicate (1 - (lg_sl ([.ref h0])).length) Slot.unset).toArray = ls at hl ⊢
  have hl : lv_has ls 1 [(0, .ref h0)] := hl
  refine lv_aload_n hx hb dX2_draw_0 rfl (lv_at hl 0 rfl) ?_
  refine lv_aload_n hx hb dX2_draw_1 rfl (lv_at hl 0 rfl) ?_
  refine va_get (D := (dC, dI)) (ci := 2) (v := .int z) (C := RX2) (T := TX2) (N := 4) hx hb hts inlX2 hown hK hP 0 rfl rfl 3 (by decide) (hts _ qf_X2_59) (fun _ h9 => h9) rfl dX2_draw_2 ?_
  refine lv_ldc (v := 1103515245) hx hb hown (hts _ qi_X2_63) dX2_draw_5 ?_
  refine lv_imul hx hb dX2_draw_7 ?_
  refine lv_sipush (v := nI 12345) hx hb dX2_draw_8 (by decide) ?_
  refine lv_iadd hx hb dX2_draw_11 ?_
  refine va_put (D := (dC, dI)) (ci := 2) (v := .int (dz z)) (ty := .int) (C := RX2) (T := TX2) (N := 4) hx hb hts inlX2 tyX2 tyX2_ok nmX2 hown hK hP hD hS 0 rfl rfl 3 (by decide) (hts _ qf_X2_59) (fun _ h9 => h9) rfl (by decide +kernel) rfl rfl (Nat.le_of_ble_eq_true rfl) dX2_draw_12 (fun H locs hP hD hS => ?_)
  have hP : va_P (dC, dI) vwCl [(h0, .inr (2, [.ref s1, .ref s2, .ref s3, .int (dz z)]))] H := hP
  have hD : va_D A [(h0, .inr (2, [.ref s1, .ref s2, .ref s3, .int (dz z)]))] := hD
  refine lv_aload_n hx hb dX2_draw_15 rfl (lv_at hl 0 rfl) ?_
  refine va_get (D := (dC, dI)) (ci := 2) (v := .int (dz z)) (C := RX2) (T := TX2) (N := 4) hx hb hts inlX2 hown hK hP 0 rfl rfl 3 (by decide) (hts _ qf_X2_59) (fun _ h9 => h9) rfl dX2_draw_16 ?_
  refine lv_bipush (v := nI 16) hx hb dX2_draw_19 (by decide) ?_
  refine lv_iushr (v := ((dz z).toUInt32 >>> ((nI 16).toUInt32 &&& Int32.toUInt32 31)).toInt32) hx hb dX2_draw_21 rfl ?_
  refine lv_sipush (v := nI 32767) hx hb dX2_draw_22 (by decide) ?_
  refine lv_iand hx hb dX2_draw_25 ?_
  refine ri_set hx hb (x' := nI (dn (dz z))) (dn_e _) ?_
  exact kqi (w1 := (fun u : Unit => [(h0, .inr (2, [.ref s1, .ref s2, .ref s3, .int (dz z)]))])) (v := nI (dn (dz z))) Y hr hlocks hK hP hD hS [0] (by decide) () rfl rfl dX2_draw_26
set_option maxHeartbeats 4000000 in
set_option maxRecDepth 100000 in
theorem c_X2_begin (l : Launch) (dC : Nat → ClassId) (dI : Nat → Nat → Nat) (sz : Nat) (cI : ClassId) (h0 s1 s2 s3 : Nat) (rs : Nat → Int32) (rr fr : Nat → Nat) (z : Int32) (sd : Int32)  : Met l yX2_begin (kw yX2_begin cX2_begin 3 none) (kR 0 0) (kPq (dC, dI) [.ref h0, .int sd] sz [(h0, .inr (2, [.ref s1, .ref s2, .ref s3, .int z])), (s1, .inl (cI, 5, .inl rs)), (s2, .inl (cI, 8, .inl (fun zz => nI (rr zz)))), (s3, .inl (cI, 8, .inl (fun zz => nI (fr zz))))] [(cI, .int)]) (va_Qv (fun u : Nat → Int32 => ∀ k, k < 5 → u k = nI 0) (fun u : Nat → Int32 => kB (dC, dI) [(cI, .int)] (va_A [(h0, .inr (2, [.ref s1, .ref s2, .ref s3, .int z])), (s1, .inl (cI, 5, .inl rs)), (s2, .inl (cI, 8, .inl (fun zz => nI (rr zz)))), (s3, .inl (cI, 8, .inl (fun zz => nI (fr zz))))] sz) ([(h0, .inr (2, [.ref s1, .ref s2, .ref s3, .int sd])), (s1, .inl (cI, 5, .inl u)), (s2, .inl (cI, 8, .inl (fun zz => nI (rr zz)))), (s3, .inl (cI, 8, .inl (fun zz => nI (fr zz))))])) (va_A [(h0, .inr (2, [.ref s1, .ref s2, .ref s3, .int z])), (s1, .inl (cI, 5, .inl rs)), (s2, .inl (cI, 8, .inl (fun zz => nI (rr zz)))), (s3, .inl (cI, 8, .inl (fun zz => nI (fr zz))))] sz)) 0 0 (va_A [(h0, .inr (2, [.ref s1, .ref s2, .ref s3, .int z])), (s1, .inl (cI, 5, .inl rs)), (s2, .inl (cI, 8, .inl (fun zz => nI (rr zz)))), (s3, .inl (cI, 8, .inl (fun zz => nI (fr zz))))] sz) := by
  refine kmet (by decide) ?_
  intro p e s m args below meth c Y hr hlocks hin hv
  obtain ⟨rfl, A, hAe, hsz, hP, hK, hD, hZ, hA⟩ := kinQ hv
  rw [hAe]
  have hS : va_S A s.heap s.heap [] := va_S.rf
  have hx := Y.1
  have hb := Y.2.1
  have hml := Y.2.2.1
  have hown := Y.2.2.2.1
  have hts := Y.2.2.2.2
  have hl := lv_entry ([.ref h0, .int sd]) (n := 3) (Nat.le_of_ble_eq_true rfl)
  rw [lg_entry_eq]
  generalize (lg_sl ([.ref h0, .int sd]) ++ List.replicate (3 - (lg_sl ([.ref h0, .int sd])).length) Slot.unset).toArray = ls at hl ⊢
  have hl : lv_has ls 3 [(0, .ref h0), (1, .int sd)] := hl
  refine lv_aload_n hx hb dX2_begin_0 rfl (lv_at hl 0 rfl) ?_
  refine lv_iload_n hx hb dX2_begin_1 rfl (lv_at hl 1 rfl) ?_
  refine va_put (D := (dC, dI)) (ci := 2) (v := .int sd) (ty := .int) (C := RX2) (T := TX2) (N := 4) hx hb hts inlX2 tyX2 tyX2_ok nmX2 hown hK hP hD hS 0 rfl rfl 3 (by decide) (hts _ qf_X2_59) (fun _ h9 => h9) rfl (by decide +kernel) rfl rfl (Nat.le_of_ble_eq_true rfl) dX2_begin_2 (fun H locs hP hD hS => ?_)
  have hP : va_P (dC, dI) vwCl [(h0, .inr (2, [.ref s1, .ref s2, .ref s3, .int sd])), (s1, .inl (cI, 5, .inl rs)), (s2, .inl (cI, 8, .inl (fun zz => nI (rr zz)))), (s3, .inl (cI, 8, .inl (fun zz => nI (fr zz))))] H := hP
  have hD : va_D A [(h0, .inr (2, [.ref s1, .ref s2, .ref s3, .int sd])), (s1, .inl (cI, 5, .inl rs)), (s2, .inl (cI, 8, .inl (fun zz => nI (rr zz)))), (s3, .inl (cI, 8, .inl (fun zz => nI (fr zz))))] := hD
  refine lv_iconst (v := nI 0) hx hb dX2_begin_5 (by decide) ?_
  refine lv_istore_n (lv' := [(2, .int (nI 0)), (0, .ref h0), (1, .int sd)]) hx hb dX2_begin_6 rfl hl (by decide) rfl (fun ls hl => ?_)
  refine wl2 (fun (i : Nat) (rs1 : Nat → Int32) => 5 - i) (fun (i : Nat) (rs1 : Nat → Int32) (ls : Array Slot) (H : Heap) (locs : List Loc) => lv_has ls 3 [(0, .ref h0), (1, .int sd), (2, .int (nI i))] ∧ va_P (dC, dI) vwCl [(h0, .inr (2, [.ref s1, .ref s2, .ref s3, .int sd])), (s1, .inl (cI, 5, .inl rs1)), (s2, .inl (cI, 8, .inl (fun zz => nI (rr zz)))), (s3, .inl (cI, 8, .inl (fun zz => nI (fr zz))))] H ∧ va_D A [(h0, .inr (2, [.ref s1, .ref s2, .ref s3, .int sd])), (s1, .inl (cI, 5, .inl rs1)), (s2, .inl (cI, 8, .inl (fun zz => nI (rr zz)))), (s3, .inl (cI, 8, .inl (fun zz => nI (fr zz))))] ∧ va_S A s.heap H locs ∧ (i ≤ 5 ∧ ∀ k, k < i → rs1 k = nI 0)) 0 rs (by exact ⟨lv_sub hl [1, 2, 0] rfl, hP.sub [0, 1, 2, 3] rfl, hD.sub [0, 1, 2, 3] (by decide) rfl, hS, by omega, fun k h => by omega⟩) (fun i rs1 ls H locs hI ih => ?_)
  obtain ⟨hl, hP, hD, hS, hi5, hrs⟩ := hI
  have ih7 := ih
  refine lv_iload_n hx hb dX2_begin_7 rfl (lv_at hl 2 rfl) ?_
  refine lv_iconst (v := nI 5) hx hb dX2_begin_8 (by decide) ?_
  refine ri_cge (tgt := 25) hx hb dX2_begin_9 (by decide) (by omega) (by omega) (fun c9 => ?_) (fun c9 => ?_)
  · exact kqv (w1 := (fun u : Nat → Int32 => [(h0, .inr (2, [.ref s1, .ref s2, .ref s3, .int sd])), (s1, .inl (cI, 5, .inl u)), (s2, .inl (cI, 8, .inl (fun zz => nI (rr zz)))), (s3, .inl (cI, 8, .inl (fun zz => nI (fr zz))))])) Y hr hlocks hK hP hD hS [0, 1, 2, 3] (by decide) (rs1) rfl (fun k h => hrs k (by omega)) dX2_begin_25
  · refine lv_aload_n hx hb dX2_begin_12 rfl (lv_at hl 0 rfl) ?_
    refine va_get (D := (dC, dI)) (ci := 2) (v := .ref s1) (C := RX2) (T := TX2) (N := 4) hx hb hts inlX2 hown hK hP 0 rfl rfl 0 (by decide) (hts _ qf_X2_11) (fun _ h9 => h9) rfl dX2_begin_13 ?_
    refine lv_iload_n hx hb dX2_begin_16 rfl (lv_at hl 2 rfl) ?_
    refine lv_iconst (v := nI 0) hx hb dX2_begin_17 (by decide) ?_
    refine rr_ast hx hb hK hP hD hS 1 0 (F := rs1) rfl rfl dX2_begin_18 (by decide) (by omega) (fun H locs hP hD hS => ?_)
    have hP : va_P (dC, dI) vwCl [(h0, .inr (2, [.ref s1, .ref s2, .ref s3, .int sd])), (s1, .inl (cI, 5, .inl (upd rs1 i (nI 0)))), (s2, .inl (cI, 8, .inl (fun zz => nI (rr zz)))), (s3, .inl (cI, 8, .inl (fun zz => nI (fr zz))))] H := hP
    have hD : va_D A [(h0, .inr (2, [.ref s1, .ref s2, .ref s3, .int sd])), (s1, .inl (cI, 5, .inl (upd rs1 i (nI 0)))), (s2, .inl (cI, 8, .inl (fun zz => nI (rr zz)))), (s3, .inl (cI, 8, .inl (fun zz => nI (fr zz))))] := hD
    refine lv_iinc (v := nI (i + 1)) (lv' := [(2, .int (nI (i + 1))), (0, .ref h0), (1, .int sd)]) hx hb dX2_begin_19 hl (k := 2) rfl (inc1 _) (by decide) rfl (fun ls hl => ?_)
    refine lv_goto (tgt := 7) hx hb dX2_begin_22 (by decide) ?_
    exact ih7 (i + 1) (upd rs1 i (nI 0)) _ _ _ (by show _ < _; omega) (by exact ⟨lv_sub hl [1, 2, 0] rfl, hP.sub [0, 1, 2, 3] rfl, hD.sub [0, 1, 2, 3] (by decide) rfl, hS, by omega, fun k h => by unfold upd; split <;> first | rfl | exact hrs k (by omega)⟩)
set_option maxHeartbeats 4000000 in
set_option maxRecDepth 100000 in
theorem c_X2_drawRanks (l : Launch) (dC : Nat → ClassId) (dI : Nat → Nat → Nat) (sz : Nat) (cI : ClassId) (h0 s1 s2 s3 : Nat) (rs : Nat → Int32) (rr fr : Nat → Nat) (z : Int32) (n : Nat) (h1 : n ≤ 7) : Met l yX2_drawRanks (kw yX2_drawRanks cX2_drawRanks 5 none) (kR 1 20) (kPq (dC, dI) [.ref h0, .int (nI n)] sz [(h0, .inr (2, [.ref s1, .ref s2, .ref s3, .int z])), (s1, .inl (cI, 5, .inl rs)), (s2, .inl (cI, 8, .inl (fun zz => nI (rr zz)))), (s3, .inl (cI, 8, .inl (fun zz => nI (fr zz))))] [(cI, .int)]) (va_Qv (fun u : (Nat → Nat) × (Nat → Nat) => ∀ o, 1 ≤ o → o ≤ n → u.1 o = rel z o ∧ u.2 o = frk z n o) (fun u : (Nat → Nat) × (Nat → Nat) => kB (dC, dI) [(cI, .int)] (va_A [(h0, .inr (2, [.ref s1, .ref s2, .ref s3, .int z])), (s1, .inl (cI, 5, .inl rs)), (s2, .inl (cI, 8, .inl (fun zz => nI (rr zz)))), (s3, .inl (cI, 8, .inl (fun zz => nI (fr zz))))] sz) ([(h0, .inr (2, [.ref s1, .ref s2, .ref s3, .int (zit z n)])), (s1, .inl (cI, 5, .inl rs)), (s2, .inl (cI, 8, .inl (fun zz => nI (u.1 zz)))), (s3, .inl (cI, 8, .inl (fun zz => nI (u.2 zz))))])) (va_A [(h0, .inr (2, [.ref s1, .ref s2, .ref s3, .int z])), (s1, .inl (cI, 5, .inl rs)), (s2, .inl (cI, 8, .inl (fun zz => nI (rr zz)))), (s3, .inl (cI, 8, .inl (fun zz => nI (fr zz))))] sz)) 0 0 (va_A [(h0, .inr (2, [.ref s1, .ref s2, .ref s3, .int z])), (s1, .inl (cI, 5, .inl rs)), (s2, .inl (cI, 8, .inl (fun zz => nI (rr zz)))), (s3, .inl (cI, 8, .inl (fun zz => nI (fr zz))))] sz) := by
  refine kmet (by decide) ?_
  intro p e s m args below meth c Y hr hlocks hin hv
  obtain ⟨rfl, A, hAe, hsz, hP, hK, hD, hZ, hA⟩ := kinQ hv
  rw [hAe]
  have hS : va_S A s.heap s.heap [] := va_S.rf
  have hx := Y.1
  have hb := Y.2.1
  have hml := Y.2.2.1
  have hown := Y.2.2.2.1
  have hts := Y.2.2.2.2
  have hl := lv_entry ([.ref h0, .int (nI n)]) (n := 5) (Nat.le_of_ble_eq_true rfl)
  rw [lg_entry_eq]
  generalize (lg_sl ([.ref h0, .int (nI n)]) ++ List.replicate (5 - (lg_sl ([.ref h0, .int (nI n)])).length) Slot.unset).toArray = ls at hl ⊢
  have hl : lv_has ls 5 [(0, .ref h0), (1, .int (nI n))] := hl
  refine lv_iconst (v := nI 1) hx hb dX2_drawRanks_0 (by decide) ?_
  refine lv_istore_n (lv' := [(2, .int (nI 1)), (0, .ref h0), (1, .int (nI n))]) hx hb dX2_drawRanks_1 rfl hl (by decide) rfl (fun ls hl => ?_)
  refine wl3 (fun (i : Nat) (rr1 : Nat → Nat) (fr1 : Nat → Nat) => n + 1 - i) (fun (i : Nat) (rr1 : Nat → Nat) (fr1 : Nat → Nat) (ls : Array Slot) (H : Heap) (locs : List Loc) => lv_has ls 5 [(0, .ref h0), (1, .int (nI n)), (2, .int (nI i))] ∧ va_P (dC, dI) vwCl [(h0, .inr (2, [.ref s1, .ref s2, .ref s3, .int (zit z (i - 1))])), (s1, .inl (cI, 5, .inl rs)), (s2, .inl (cI, 8, .inl (fun zz => nI (rr1 zz)))), (s3, .inl (cI, 8, .inl (fun zz => nI (fr1 zz))))] H ∧ va_D A [(h0, .inr (2, [.ref s1, .ref s2, .ref s3, .int (zit z (i - 1))])), (s1, .inl (cI, 5, .inl rs)), (s2, .inl (cI, 8, .inl (fun zz => nI (rr1 zz)))), (s3, .inl (cI, 8, .inl (fun zz => nI (fr1 zz))))] ∧ va_S A s.heap H locs ∧ (1 ≤ i ∧ i ≤ n + 1 ∧ ∀ o, 1 ≤ o → o < i → rr1 o = rel z o ∧ fr1 o = frk z (i - 1) o)) 1 rr fr (by exact ⟨lv_sub hl [1, 2, 0] rfl, hP.sub [0, 1, 2, 3] rfl, hD.sub [0, 1, 2, 3] (by decide) rfl, hS, by omega, by omega, fun o a b => by omega⟩) (fun i rr1 fr1 ls H locs hI ih => ?_)
  obtain ⟨hl, hP, hD, hS, hi1, hi2, hrf⟩ := hI
  have ih2 := ih
  refine lv_iload_n hx hb dX2_drawRanks_2 rfl (lv_at hl 2 rfl) ?_
  refine lv_iload_n hx hb dX2_drawRanks_3 rfl (lv_at hl 1 rfl) ?_
  refine ri_cgt (tgt := 73) hx hb dX2_drawRanks_4 (by decide) (by omega) (by omega) (fun c4 => ?_) (fun c4 => ?_)
  · obtain rfl : i = n + 1 := by omega
    exact kqv (w1 := (fun u : (Nat → Nat) × (Nat → Nat) => [(h0, .inr (2, [.ref s1, .ref s2, .ref s3, .int (zit z n)])), (s1, .inl (cI, 5, .inl rs)), (s2, .inl (cI, 8, .inl (fun zz => nI (u.1 zz)))), (s3, .inl (cI, 8, .inl (fun zz => nI (u.2 zz))))])) Y hr hlocks hK hP hD hS [0, 1, 2, 3] (by decide) (rr1, fr1) rfl (fun o a b => ⟨(hrf o a (by omega)).1, (hrf o a (by omega)).2⟩) dX2_drawRanks_73
  · refine lv_iconst (v := nI 1) hx hb dX2_drawRanks_7 (by decide) ?_
    refine lv_aload_n hx hb dX2_drawRanks_8 rfl (lv_at hl 0 rfl) ?_
    refine kQi (As := []) (rest := [.int (nI 1)]) (wr := [(s1, .inl (cI, 5, .inl rs)), (s2, .inl (cI, 8, .inl (fun zz => nI (rr1 zz)))), (s3, .inl (cI, 8, .inl (fun zz => nI (fr1 zz))))]) Y m_X2_draw (c_X2_draw l dC dI _ h0 s1 s2 s3 (zit z (i - 1)) ) qm_X2_64 hP hD hS hA [0] [1, 2, 3] rfl rfl (by decide) (by decide) (kqV (ci := 2) hK hP hD hZ hS hA [0] [] rfl (by decide) rfl 0 rfl rfl rfl) rfl hl.1 rfl (Nat.le_of_ble_eq_true rfl) dX2_drawRanks_9 ⟨Nat.le_of_ble_eq_true rfl, Nat.le_of_ble_eq_true rfl⟩ ⟨Nat.zero_le _, Nat.zero_le _⟩ (fun r9 u9 H locs hr9 hP hD hS => ?_)
    have hP : va_P (dC, dI) vwCl [(s1, .inl (cI, 5, .inl rs)), (s2, .inl (cI, 8, .inl (fun zz => nI (rr1 zz)))), (s3, .inl (cI, 8, .inl (fun zz => nI (fr1 zz)))), (h0, .inr (2, [.ref s1, .ref s2, .ref s3, .int (dz (zit z (i - 1)))]))] H := hP
    have hD : va_D A [(s1, .inl (cI, 5, .inl rs)), (s2, .inl (cI, 8, .inl (fun zz => nI (rr1 zz)))), (s3, .inl (cI, 8, .inl (fun zz => nI (fr1 zz)))), (h0, .inr (2, [.ref s1, .ref s2, .ref s3, .int (dz (zit z (i - 1)))]))] := hD
    obtain rfl : r9 = nI (dn (dz (zit z (i - 1)))) := hr9
    have hdb := dn_b (dz (zit z (i - 1)))
    have hz1 : dz (zit z (i - 1)) = zit z i := by obtain ⟨k, rfl⟩ : ∃ k, i = k + 1 := ⟨i - 1, by omega⟩; rfl
    refine lv_iload_n hx hb dX2_drawRanks_12 rfl (lv_at hl 2 rfl) ?_
    refine ri_rem hx hb dX2_drawRanks_13 (by omega) (by omega) (by omega) ?_
    refine ri_add hx hb dX2_drawRanks_14 ?_
    rw [hz1] at hP hD
    refine ri_set hx hb (x' := nI (rel z i)) (by unfold rel; rw [← hz1]) ?_
    have hrb := rel_b z (i := i) (by omega)
    refine lv_istore_n (lv' := [(3, .int (nI (rel z i))), (0, .ref h0), (1, .int (nI n)), (2, .int (nI i))]) hx hb dX2_drawRanks_15 rfl hl (by decide) rfl (fun ls hl => ?_)
    refine lv_aload_n hx hb dX2_drawRanks_16 rfl (lv_at hl 1 rfl) ?_
    refine va_get (D := (dC, dI)) (ci := 2) (v := .ref s2) (C := RX2) (T := TX2) (N := 4) hx hb hts inlX2 hown hK hP 3 rfl rfl 1 (by decide) (hts _ qf_X2_15) (fun _ h9 => h9) rfl dX2_drawRanks_17 ?_
    refine lv_iload_n hx hb dX2_drawRanks_20 rfl (lv_at hl 3 rfl) ?_
    refine lv_iload_n hx hb dX2_drawRanks_21 rfl (lv_at hl 0 rfl) ?_
    refine ri_ast hx hb hK hP hD hS 1 0 (F := rr1) rfl rfl dX2_drawRanks_22 (by decide) (by omega) (fun H locs hP hD hS => ?_)
    have hP : va_P (dC, dI) vwCl [(s1, .inl (cI, 5, .inl rs)), (s2, .inl (cI, 8, .inl (fun zz => nI (updN rr1 i (rel z i) zz)))), (s3, .inl (cI, 8, .inl (fun zz => nI (fr1 zz)))), (h0, .inr (2, [.ref s1, .ref s2, .ref s3, .int (zit z i)]))] H := hP
    have hD : va_D A [(s1, .inl (cI, 5, .inl rs)), (s2, .inl (cI, 8, .inl (fun zz => nI (updN rr1 i (rel z i) zz)))), (s3, .inl (cI, 8, .inl (fun zz => nI (fr1 zz)))), (h0, .inr (2, [.ref s1, .ref s2, .ref s3, .int (zit z i)]))] := hD
    refine lv_iconst (v := nI 1) hx hb dX2_drawRanks_23 (by decide) ?_
    refine lv_istore (lv' := [(4, .int (nI 1)), (3, .int (nI (rel z i))), (0, .ref h0), (1, .int (nI n)), (2, .int (nI i))]) hx hb dX2_drawRanks_24 hl (by decide) rfl (fun ls hl => ?_)
    refine wl2 (fun (o4 : Nat) (fr3 : Nat → Nat) => i - o4) (fun (o4 : Nat) (fr3 : Nat → Nat) (ls : Array Slot) (H : Heap) (locs : List Loc) => lv_has ls 5 [(0, .ref h0), (1, .int (nI n)), (2, .int (nI i)), (3, .int (nI (rel z i))), (4, .int (nI o4))] ∧ va_P (dC, dI) vwCl [(h0, .inr (2, [.ref s1, .ref s2, .ref s3, .int (zit z i)])), (s1, .inl (cI, 5, .inl rs)), (s2, .inl (cI, 8, .inl (fun zz => nI (updN rr1 i (rel z i) zz)))), (s3, .inl (cI, 8, .inl (fun zz => nI (fr3 zz))))] H ∧ va_D A [(h0, .inr (2, [.ref s1, .ref s2, .ref s3, .int (zit z i)])), (s1, .inl (cI, 5, .inl rs)), (s2, .inl (cI, 8, .inl (fun zz => nI (updN rr1 i (rel z i) zz)))), (s3, .inl (cI, 8, .inl (fun zz => nI (fr3 zz))))] ∧ va_S A s.heap H locs ∧ (1 ≤ o4 ∧ o4 ≤ i ∧ ∀ o, 1 ≤ o → o < i → (o < o4 → fr3 o = frk z i o) ∧ (o4 ≤ o → fr3 o = frk z (i - 1) o))) 1 fr1 (by exact ⟨lv_sub hl [2, 3, 4, 1, 0] rfl, hP.sub [3, 0, 1, 2] rfl, hD.sub [3, 0, 1, 2] (by decide) rfl, hS, by omega, by omega, fun o a b => ⟨fun q => by omega, fun _ => (hrf o a b).2⟩⟩) (fun o4 fr3 ls H locs hI ih => ?_)
    obtain ⟨hl, hP, hD, hS, ho1, ho2, hf3⟩ := hI
    have ih26 := ih
    refine lv_iload hx hb dX2_drawRanks_26 (lv_at hl 4 rfl) ?_
    refine lv_iload_n hx hb dX2_drawRanks_28 rfl (lv_at hl 2 rfl) ?_
    refine ri_cge (tgt := 60) hx hb dX2_drawRanks_29 (by decide) (by omega) (by omega) (fun c29 => ?_) (fun c29 => ?_)
    · refine lv_aload_n hx hb dX2_drawRanks_60 rfl (lv_at hl 0 rfl) ?_
      refine va_get (D := (dC, dI)) (ci := 2) (v := .ref s3) (C := RX2) (T := TX2) (N := 4) hx hb hts inlX2 hown hK hP 0 rfl rfl 2 (by decide) (hts _ qf_X2_18) (fun _ h9 => h9) rfl dX2_drawRanks_61 ?_
      refine lv_iload_n hx hb dX2_drawRanks_64 rfl (lv_at hl 2 rfl) ?_
      refine lv_iload_n hx hb dX2_drawRanks_65 rfl (lv_at hl 3 rfl) ?_
      refine ri_ast hx hb hK hP hD hS 3 0 (F := fr3) rfl rfl dX2_drawRanks_66 (by decide) (by omega) (fun H locs hP hD hS => ?_)
      have hP : va_P (dC, dI) vwCl [(h0, .inr (2, [.ref s1, .ref s2, .ref s3, .int (zit z i)])), (s1, .inl (cI, 5, .inl rs)), (s2, .inl (cI, 8, .inl (fun zz => nI (updN rr1 i (rel z i) zz)))), (s3, .inl (cI, 8, .inl (fun zz => nI (updN fr3 i (rel z i) zz))))] H := hP
      have hD : va_D A [(h0, .inr (2, [.ref s1, .ref s2, .ref s3, .int (zit z i)])), (s1, .inl (cI, 5, .inl rs)), (s2, .inl (cI, 8, .inl (fun zz => nI (updN rr1 i (rel z i) zz)))), (s3, .inl (cI, 8, .inl (fun zz => nI (updN fr3 i (rel z i) zz))))] := hD
      refine lv_iinc (v := nI (i + 1)) (lv' := [(2, .int (nI (i + 1))), (0, .ref h0), (1, .int (nI n)), (3, .int (nI (rel z i))), (4, .int (nI o4))]) hx hb dX2_drawRanks_67 hl (k := 2) rfl (inc1 _) (by decide) rfl (fun ls hl => ?_)
      refine lv_goto (tgt := 2) hx hb dX2_drawRanks_70 (by decide) ?_
      exact ih2 (i + 1) (updN rr1 i (rel z i)) (updN fr3 i (rel z i)) _ _ _ (by show _ < _; omega) (by exact ⟨lv_sub hl [1, 2, 0] rfl, hP.sub [0, 1, 2, 3] rfl, hD.sub [0, 1, 2, 3] (by decide) rfl, hS, by omega, by omega, fr_next hi1 (fun o a b => (hrf o a b).1) (fun o a b => (hf3 o a b).1 (by omega))⟩)
    · have hfe := (hf3 o4 ho1 (by omega)).2 (Nat.le_refl _)
      have hfb := frk_b z (i - 1) o4 ho1 (by omega)
      rw [← hfe] at hfb
      refine lv_aload_n hx hb dX2_drawRanks_32 rfl (lv_at hl 0 rfl) ?_
      refine va_get (D := (dC, dI)) (ci := 2) (v := .ref s3) (C := RX2) (T := TX2) (N := 4) hx hb hts inlX2 hown hK hP 0 rfl rfl 2 (by decide) (hts _ qf_X2_18) (fun _ h9 => h9) rfl dX2_drawRanks_33 ?_
      refine lv_iload hx hb dX2_drawRanks_36 (lv_at hl 4 rfl) ?_
      refine ri_ald hx hb hK hP 3 0 (F := fr3) rfl rfl dX2_drawRanks_38 (by decide) (by omega) ?_
      refine lv_iload_n hx hb dX2_drawRanks_39 rfl (lv_at hl 3 rfl) ?_
      refine ri_clt (tgt := 54) hx hb dX2_drawRanks_40 (by decide) (by omega) (by omega) (fun c40 => ?_) (fun c40 => ?_)
      · refine lv_iinc (v := nI (o4 + 1)) (lv' := [(4, .int (nI (o4 + 1))), (0, .ref h0), (1, .int (nI n)), (2, .int (nI i)), (3, .int (nI (rel z i)))]) hx hb dX2_drawRanks_54 hl (k := 4) rfl (inc1 _) (by decide) rfl (fun ls hl => ?_)
        refine lv_goto (tgt := 26) hx hb dX2_drawRanks_57 (by decide) ?_
        exact ih26 (o4 + 1) fr3 _ _ _ (by show _ < _; omega) (by exact ⟨lv_sub hl [1, 2, 3, 4, 0] rfl, hP.sub [0, 1, 2, 3] rfl, hD.sub [0, 1, 2, 3] (by decide) rfl, hS, by omega, by omega, fr_step1 ho1 (by omega) hf3 (by omega)⟩)
      · refine lv_aload_n hx hb dX2_drawRanks_43 rfl (lv_at hl 0 rfl) ?_
        refine va_get (D := (dC, dI)) (ci := 2) (v := .ref s3) (C := RX2) (T := TX2) (N := 4) hx hb hts inlX2 hown hK hP 0 rfl rfl 2 (by decide) (hts _ qf_X2_18) (fun _ h9 => h9) rfl dX2_drawRanks_44 ?_
        refine lv_iload hx hb dX2_drawRanks_47 (lv_at hl 4 rfl) ?_
        refine lv_dup2_11 hx hb dX2_drawRanks_49 rfl rfl ?_
        refine ri_ald hx hb hK hP 3 0 (F := fr3) rfl rfl dX2_drawRanks_50 (by decide) (by omega) ?_
        refine lv_iconst (v := nI 1) hx hb dX2_drawRanks_51 (by decide) ?_
        refine ri_add hx hb dX2_drawRanks_52 ?_
        refine ri_ast hx hb hK hP hD hS 3 0 (F := fr3) rfl rfl dX2_drawRanks_53 (by decide) (by omega) (fun H locs hP hD hS => ?_)
        have hP : va_P (dC, dI) vwCl [(h0, .inr (2, [.ref s1, .ref s2, .ref s3, .int (zit z i)])), (s1, .inl (cI, 5, .inl rs)), (s2, .inl (cI, 8, .inl (fun zz => nI (updN rr1 i (rel z i) zz)))), (s3, .inl (cI, 8, .inl (fun zz => nI (updN fr3 o4 ((fr3 o4) + 1) zz))))] H := hP
        have hD : va_D A [(h0, .inr (2, [.ref s1, .ref s2, .ref s3, .int (zit z i)])), (s1, .inl (cI, 5, .inl rs)), (s2, .inl (cI, 8, .inl (fun zz => nI (updN rr1 i (rel z i) zz)))), (s3, .inl (cI, 8, .inl (fun zz => nI (updN fr3 o4 ((fr3 o4) + 1) zz))))] := hD
        refine lv_iinc (v := nI (o4 + 1)) (lv' := [(4, .int (nI (o4 + 1))), (0, .ref h0), (1, .int (nI n)), (2, .int (nI i)), (3, .int (nI (rel z i)))]) hx hb dX2_drawRanks_54 hl (k := 4) rfl (inc1 _) (by decide) rfl (fun ls hl => ?_)
        refine lv_goto (tgt := 26) hx hb dX2_drawRanks_57 (by decide) ?_
        exact ih26 (o4 + 1) (updN fr3 o4 ((fr3 o4) + 1)) _ _ _ (by show _ < _; omega) (by exact ⟨lv_sub hl [1, 2, 3, 4, 0] rfl, hP.sub [0, 1, 2, 3] rfl, hD.sub [0, 1, 2, 3] (by decide) rfl, hS, by omega, by omega, fr_step2 ho1 (by omega) hf3 (by omega)⟩)
