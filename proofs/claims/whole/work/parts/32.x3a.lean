set_option maxHeartbeats 4000000 in
set_option maxRecDepth 100000 in
theorem c_X3_size (l : Launch) (dC : Nat → ClassId) (dI : Nat → Nat → Nat) (h0 s1 s2 : Nat) (tn fl fp its it nu di nb np : Nat)  : Met l yX3_size (kw yX3_size cX3_size 1 (some .int)) (kR 0 0) (kPr (dC, dI) [.ref h0] [(h0, .inr (3, [.ref s1, .ref s2, .int (nI tn), .int (nI fl), .int (nI fp), .int (nI its), .int (itV it), .int (nI nu), .int (nI di), .int (nI nb), .int (nI np)]))] []) (vp_Si (fun res : Int32 => res = nI tn)) 0 0 kNo := by
  refine kmet (by decide) ?_
  intro p e s m args below meth c Y hr hlocks hin hv
  obtain ⟨rfl, hP, hK, hZ⟩ := kinR hv
  have hS : va_S kNo s.heap s.heap [] := va_S.rf
  have hx := Y.1
  have hb := Y.2.1
  have hml := Y.2.2.1
  have hown := Y.2.2.2.1
  have hts := Y.2.2.2.2
  have hl := lv_entry ([.ref h0]) (n := 1) (Nat.le_of_ble_eq_true rfl)
  rw [lg_entry_eq]
  generalize (lg_sl ([.ref h0]) ++ List.replicate (1 - (lg_sl ([.ref h0])).length) Slot.unset).toArray = ls at hl ⊢
  have hl : lv_has ls 1 [(0, .ref h0)] := hl
  refine lv_aload_n hx hb dX3_size_0 rfl (lv_at hl 0 rfl) ?_
  refine va_get (D := (dC, dI)) (ci := 3) (v := .int (nI tn)) (C := RX3) (T := TX3) (N := 11) hx hb hts inlX3 hown hK hP 0 rfl rfl 2 (by decide) (hts _ qf_X3_22) (fun _ h9 => h9) rfl dX3_size_1 ?_
  exact kri (v := nI tn) Y hr hlocks rfl dX3_size_4
set_option maxHeartbeats 4000000 in
set_option maxRecDepth 100000 in
theorem c_X3_kindOfFault (l : Launch) (dC : Nat → ClassId) (dI : Nat → Nat → Nat) (h0 s1 s2 : Nat) (tn fl fp its it nu di nb np : Nat)  : Met l yX3_kindOfFault (kw yX3_kindOfFault cX3_kindOfFault 1 (some .int)) (kR 0 0) (kPr (dC, dI) [.ref h0] [(h0, .inr (3, [.ref s1, .ref s2, .int (nI tn), .int (nI fl), .int (nI fp), .int (nI its), .int (itV it), .int (nI nu), .int (nI di), .int (nI nb), .int (nI np)]))] []) (vp_Si (fun res : Int32 => res = nI fl)) 0 0 kNo := by
  refine kmet (by decide) ?_
  intro p e s m args below meth c Y hr hlocks hin hv
  obtain ⟨rfl, hP, hK, hZ⟩ := kinR hv
  have hS : va_S kNo s.heap s.heap [] := va_S.rf
  have hx := Y.1
  have hb := Y.2.1
  have hml := Y.2.2.1
  have hown := Y.2.2.2.1
  have hts := Y.2.2.2.2
  have hl := lv_entry ([.ref h0]) (n := 1) (Nat.le_of_ble_eq_true rfl)
  rw [lg_entry_eq]
  generalize (lg_sl ([.ref h0]) ++ List.replicate (1 - (lg_sl ([.ref h0])).length) Slot.unset).toArray = ls at hl ⊢
  have hl : lv_has ls 1 [(0, .ref h0)] := hl
  refine lv_aload_n hx hb dX3_kindOfFault_0 rfl (lv_at hl 0 rfl) ?_
  refine va_get (D := (dC, dI)) (ci := 3) (v := .int (nI fl)) (C := RX3) (T := TX3) (N := 11) hx hb hts inlX3 hown hK hP 0 rfl rfl 3 (by decide) (hts _ qf_X3_25) (fun _ h9 => h9) rfl dX3_kindOfFault_1 ?_
  exact kri (v := nI fl) Y hr hlocks rfl dX3_kindOfFault_4
set_option maxHeartbeats 4000000 in
set_option maxRecDepth 100000 in
theorem c_X3_positionOfFault (l : Launch) (dC : Nat → ClassId) (dI : Nat → Nat → Nat) (h0 s1 s2 : Nat) (tn fl fp its it nu di nb np : Nat)  : Met l yX3_positionOfFault (kw yX3_positionOfFault cX3_positionOfFault 1 (some .int)) (kR 0 0) (kPr (dC, dI) [.ref h0] [(h0, .inr (3, [.ref s1, .ref s2, .int (nI tn), .int (nI fl), .int (nI fp), .int (nI its), .int (itV it), .int (nI nu), .int (nI di), .int (nI nb), .int (nI np)]))] []) (vp_Si (fun res : Int32 => res = nI fp)) 0 0 kNo := by
  refine kmet (by decide) ?_
  intro p e s m args below meth c Y hr hlocks hin hv
  obtain ⟨rfl, hP, hK, hZ⟩ := kinR hv
  have hS : va_S kNo s.heap s.heap [] := va_S.rf
  have hx := Y.1
  have hb := Y.2.1
  have hml := Y.2.2.1
  have hown := Y.2.2.2.1
  have hts := Y.2.2.2.2
  have hl := lv_entry ([.ref h0]) (n := 1) (Nat.le_of_ble_eq_true rfl)
  rw [lg_entry_eq]
  generalize (lg_sl ([.ref h0]) ++ List.replicate (1 - (lg_sl ([.ref h0])).length) Slot.unset).toArray = ls at hl ⊢
  have hl : lv_has ls 1 [(0, .ref h0)] := hl
  refine lv_aload_n hx hb dX3_positionOfFault_0 rfl (lv_at hl 0 rfl) ?_
  refine va_get (D := (dC, dI)) (ci := 3) (v := .int (nI fp)) (C := RX3) (T := TX3) (N := 11) hx hb hts inlX3 hown hK hP 0 rfl rfl 4 (by decide) (hts _ qf_X3_28) (fun _ h9 => h9) rfl dX3_positionOfFault_1 ?_
  exact kri (v := nI fp) Y hr hlocks rfl dX3_positionOfFault_4
set_option maxHeartbeats 4000000 in
set_option maxRecDepth 100000 in
theorem c_X3_countOfItems (l : Launch) (dC : Nat → ClassId) (dI : Nat → Nat → Nat) (h0 s1 s2 : Nat) (tn fl fp its it nu di nb np : Nat)  : Met l yX3_countOfItems (kw yX3_countOfItems cX3_countOfItems 1 (some .int)) (kR 0 0) (kPr (dC, dI) [.ref h0] [(h0, .inr (3, [.ref s1, .ref s2, .int (nI tn), .int (nI fl), .int (nI fp), .int (nI its), .int (itV it), .int (nI nu), .int (nI di), .int (nI nb), .int (nI np)]))] []) (vp_Si (fun res : Int32 => res = nI its)) 0 0 kNo := by
  refine kmet (by decide) ?_
  intro p e s m args below meth c Y hr hlocks hin hv
  obtain ⟨rfl, hP, hK, hZ⟩ := kinR hv
  have hS : va_S kNo s.heap s.heap [] := va_S.rf
  have hx := Y.1
  have hb := Y.2.1
  have hml := Y.2.2.1
  have hown := Y.2.2.2.1
  have hts := Y.2.2.2.2
  have hl := lv_entry ([.ref h0]) (n := 1) (Nat.le_of_ble_eq_true rfl)
  rw [lg_entry_eq]
  generalize (lg_sl ([.ref h0]) ++ List.replicate (1 - (lg_sl ([.ref h0])).length) Slot.unset).toArray = ls at hl ⊢
  have hl : lv_has ls 1 [(0, .ref h0)] := hl
  refine lv_aload_n hx hb dX3_countOfItems_0 rfl (lv_at hl 0 rfl) ?_
  refine va_get (D := (dC, dI)) (ci := 3) (v := .int (nI its)) (C := RX3) (T := TX3) (N := 11) hx hb hts inlX3 hown hK hP 0 rfl rfl 5 (by decide) (hts _ qf_X3_31) (fun _ h9 => h9) rfl dX3_countOfItems_1 ?_
  exact kri (v := nI its) Y hr hlocks rfl dX3_countOfItems_4
set_option maxHeartbeats 4000000 in
set_option maxRecDepth 100000 in
theorem c_X3_isFull (l : Launch) (dC : Nat → ClassId) (dI : Nat → Nat → Nat) (h0 s1 s2 : Nat) (tn fl fp its it nu di nb np : Nat) (h1 : tn ≤ 60) : Met l yX3_isFull (kw yX3_isFull cX3_isFull 1 (some .boolean)) (kR 0 0) (kPr (dC, dI) [.ref h0] [(h0, .inr (3, [.ref s1, .ref s2, .int (nI tn), .int (nI fl), .int (nI fp), .int (nI its), .int (itV it), .int (nI nu), .int (nI di), .int (nI nb), .int (nI np)]))] []) (vp_Si (fun res : Int32 => res = b2i (tn = 60))) 0 0 kNo := by
  refine kmet (by decide) ?_
  intro p e s m args below meth c Y hr hlocks hin hv
  obtain ⟨rfl, hP, hK, hZ⟩ := kinR hv
  have hS : va_S kNo s.heap s.heap [] := va_S.rf
  have hx := Y.1
  have hb := Y.2.1
  have hml := Y.2.2.1
  have hown := Y.2.2.2.1
  have hts := Y.2.2.2.2
  have hl := lv_entry ([.ref h0]) (n := 1) (Nat.le_of_ble_eq_true rfl)
  rw [lg_entry_eq]
  generalize (lg_sl ([.ref h0]) ++ List.replicate (1 - (lg_sl ([.ref h0])).length) Slot.unset).toArray = ls at hl ⊢
  have hl : lv_has ls 1 [(0, .ref h0)] := hl
  refine lv_aload_n hx hb dX3_isFull_0 rfl (lv_at hl 0 rfl) ?_
  refine va_get (D := (dC, dI)) (ci := 3) (v := .int (nI tn)) (C := RX3) (T := TX3) (N := 11) hx hb hts inlX3 hown hK hP 0 rfl rfl 2 (by decide) (hts _ qf_X3_22) (fun _ h9 => h9) rfl dX3_isFull_1 ?_
  refine lv_bipush (v := nI 60) hx hb dX3_isFull_4 (by decide) ?_
  refine ri_cne (tgt := 13) hx hb dX3_isFull_6 (by decide) (by omega) (by omega) (fun c6 => ?_) (fun c6 => ?_)
  · refine lv_iconst (v := nI 0) hx hb dX3_isFull_13 (by decide) ?_
    exact krz (v := nI 0) Y hr hlocks (by decide) (b2i_f (by omega)).symm dX3_isFull_14
  · refine lv_iconst (v := nI 1) hx hb dX3_isFull_9 (by decide) ?_
    refine lv_goto (tgt := 14) hx hb dX3_isFull_10 (by decide) ?_
    exact krz (v := nI 1) Y hr hlocks (by decide) (b2i_t (by omega)).symm dX3_isFull_14
set_option maxHeartbeats 4000000 in
set_option maxRecDepth 100000 in
theorem c_X3_append (l : Launch) (dC : Nat → ClassId) (dI : Nat → Nat → Nat) (sz : Nat) (cI : ClassId) (h0 s1 s2 : Nat) (tn fl fp its it nu di nb np : Nat) (tx S : Nat → Nat) (c9 : Nat) (h1 : tn < 60) : Met l yX3_append (kw yX3_append cX3_append 2 (some .int)) (kR 0 0) (kPq (dC, dI) [.ref h0, .int (nI c9)] sz [(h0, .inr (3, [.ref s1, .ref s2, .int (nI tn), .int (nI fl), .int (nI fp), .int (nI its), .int (itV it), .int (nI nu), .int (nI di), .int (nI nb), .int (nI np)])), (s1, .inl (cI, 60, .inl (fun zz => nI (tx zz)))), (s2, .inl (cI, 22, .inl (fun zz => nI (S zz))))] [(cI, .int)]) (va_Qi (fun (res : Int32) (u : Unit) => res = nI (tn + 1)) (fun u : Unit => kB (dC, dI) [(cI, .int)] (va_A [(h0, .inr (3, [.ref s1, .ref s2, .int (nI tn), .int (nI fl), .int (nI fp), .int (nI its), .int (itV it), .int (nI nu), .int (nI di), .int (nI nb), .int (nI np)])), (s1, .inl (cI, 60, .inl (fun zz => nI (tx zz)))), (s2, .inl (cI, 22, .inl (fun zz => nI (S zz))))] sz) ([(h0, .inr (3, [.ref s1, .ref s2, .int (nI (tn + 1)), .int (nI fl), .int (nI fp), .int (nI its), .int (itV it), .int (nI nu), .int (nI di), .int (nI nb), .int (nI np)])), (s1, .inl (cI, 60, .inl (fun zz => nI (updN tx tn c9 zz)))), (s2, .inl (cI, 22, .inl (fun zz => nI (S zz))))])) (va_A [(h0, .inr (3, [.ref s1, .ref s2, .int (nI tn), .int (nI fl), .int (nI fp), .int (nI its), .int (itV it), .int (nI nu), .int (nI di), .int (nI nb), .int (nI np)])), (s1, .inl (cI, 60, .inl (fun zz => nI (tx zz)))), (s2, .inl (cI, 22, .inl (fun zz => nI (S zz))))] sz)) 0 0 (va_A [(h0, .inr (3, [.ref s1, .ref s2, .int (nI tn), .int (nI fl), .int (nI fp), .int (nI its), .int (itV it), .int (nI nu), .int (nI di), .int (nI nb), .int (nI np)])), (s1, .inl (cI, 60, .inl (fun zz => nI (tx zz)))), (s2, .inl (cI, 22, .inl (fun zz => nI (S zz))))] sz) := by
  refine kmet (by decide) ?_
  intro p e s m args below meth c Y hr hlocks hin hv
  obtain ⟨rfl, A, hAe, hsz, hP, hK, hD, hZ, hA⟩ := kinQ hv
  rw [hAe]
  have hS : va_S A s.heap s.heap [] := va_S.rf
  have hx := Y.1
  have hb := Y.2.1
  have hml := Y.2.2.1
  have hown := Y.2.2.2.1
  have hts := Y.2.2.2.2
  have hl := lv_entry ([.ref h0, .int (nI c9)]) (n := 2) (Nat.le_of_ble_eq_true rfl)
  rw [lg_entry_eq]
  generalize (lg_sl ([.ref h0, .int (nI c9)]) ++ List.replicate (2 - (lg_sl ([.ref h0, .int (nI c9)])).length) Slot.unset).toArray = ls at hl ⊢
  have hl : lv_has ls 2 [(0, .ref h0), (1, .int (nI c9))] := hl
  refine lv_aload_n hx hb dX3_append_0 rfl (lv_at hl 0 rfl) ?_
  refine va_get (D := (dC, dI)) (ci := 3) (v := .int (nI tn)) (C := RX3) (T := TX3) (N := 11) hx hb hts inlX3 hown hK hP 0 rfl rfl 2 (by decide) (hts _ qf_X3_22) (fun _ h9 => h9) rfl dX3_append_1 ?_
  refine lv_bipush (v := nI 60) hx hb dX3_append_4 (by decide) ?_
  refine ri_cge (tgt := 29) hx hb dX3_append_6 (by decide) (by omega) (by omega) (fun c6 => ?_) (fun c6 => ?_)
  · exact absurd c6 (by omega)
  · refine lv_aload_n hx hb dX3_append_9 rfl (lv_at hl 0 rfl) ?_
    refine va_get (D := (dC, dI)) (ci := 3) (v := .ref s1) (C := RX3) (T := TX3) (N := 11) hx hb hts inlX3 hown hK hP 0 rfl rfl 0 (by decide) (hts _ qf_X3_11) (fun _ h9 => h9) rfl dX3_append_10 ?_
    refine lv_aload_n hx hb dX3_append_13 rfl (lv_at hl 0 rfl) ?_
    refine va_get (D := (dC, dI)) (ci := 3) (v := .int (nI tn)) (C := RX3) (T := TX3) (N := 11) hx hb hts inlX3 hown hK hP 0 rfl rfl 2 (by decide) (hts _ qf_X3_22) (fun _ h9 => h9) rfl dX3_append_14 ?_
    refine lv_iload_n hx hb dX3_append_17 rfl (lv_at hl 1 rfl) ?_
    refine ri_ast hx hb hK hP hD hS 1 0 (F := tx) rfl rfl dX3_append_18 (by decide) (by omega) (fun H locs hP hD hS => ?_)
    have hP : va_P (dC, dI) vwCl [(h0, .inr (3, [.ref s1, .ref s2, .int (nI tn), .int (nI fl), .int (nI fp), .int (nI its), .int (itV it), .int (nI nu), .int (nI di), .int (nI nb), .int (nI np)])), (s1, .inl (cI, 60, .inl (fun zz => nI (updN tx tn c9 zz)))), (s2, .inl (cI, 22, .inl (fun zz => nI (S zz))))] H := hP
    have hD : va_D A [(h0, .inr (3, [.ref s1, .ref s2, .int (nI tn), .int (nI fl), .int (nI fp), .int (nI its), .int (itV it), .int (nI nu), .int (nI di), .int (nI nb), .int (nI np)])), (s1, .inl (cI, 60, .inl (fun zz => nI (updN tx tn c9 zz)))), (s2, .inl (cI, 22, .inl (fun zz => nI (S zz))))] := hD
    refine lv_aload_n hx hb dX3_append_19 rfl (lv_at hl 0 rfl) ?_
    refine lv_dup hx hb dX3_append_20 rfl ?_
    refine va_get (D := (dC, dI)) (ci := 3) (v := .int (nI tn)) (C := RX3) (T := TX3) (N := 11) hx hb hts inlX3 hown hK hP 0 rfl rfl 2 (by decide) (hts _ qf_X3_22) (fun _ h9 => h9) rfl dX3_append_21 ?_
    refine lv_iconst (v := nI 1) hx hb dX3_append_24 (by decide) ?_
    refine ri_add hx hb dX3_append_25 ?_
    refine va_put (D := (dC, dI)) (ci := 3) (v := .int (nI (tn + 1))) (ty := .int) (C := RX3) (T := TX3) (N := 11) hx hb hts inlX3 tyX3 tyX3_ok nmX3 hown hK hP hD hS 0 rfl rfl 2 (by decide) (hts _ qf_X3_22) (fun _ h9 => h9) rfl (by decide +kernel) rfl rfl (Nat.le_of_ble_eq_true rfl) dX3_append_26 (fun H locs hP hD hS => ?_)
    have hP : va_P (dC, dI) vwCl [(h0, .inr (3, [.ref s1, .ref s2, .int (nI (tn + 1)), .int (nI fl), .int (nI fp), .int (nI its), .int (itV it), .int (nI nu), .int (nI di), .int (nI nb), .int (nI np)])), (s1, .inl (cI, 60, .inl (fun zz => nI (updN tx tn c9 zz)))), (s2, .inl (cI, 22, .inl (fun zz => nI (S zz))))] H := hP
    have hD : va_D A [(h0, .inr (3, [.ref s1, .ref s2, .int (nI (tn + 1)), .int (nI fl), .int (nI fp), .int (nI its), .int (itV it), .int (nI nu), .int (nI di), .int (nI nb), .int (nI np)])), (s1, .inl (cI, 60, .inl (fun zz => nI (updN tx tn c9 zz)))), (s2, .inl (cI, 22, .inl (fun zz => nI (S zz))))] := hD
    refine lv_aload_n hx hb dX3_append_29 rfl (lv_at hl 0 rfl) ?_
    refine va_get (D := (dC, dI)) (ci := 3) (v := .int (nI (tn + 1))) (C := RX3) (T := TX3) (N := 11) hx hb hts inlX3 hown hK hP 0 rfl rfl 2 (by decide) (hts _ qf_X3_22) (fun _ h9 => h9) rfl dX3_append_30 ?_
    exact kqi (w1 := (fun u : Unit => [(h0, .inr (3, [.ref s1, .ref s2, .int (nI (tn + 1)), .int (nI fl), .int (nI fp), .int (nI its), .int (itV it), .int (nI nu), .int (nI di), .int (nI nb), .int (nI np)])), (s1, .inl (cI, 60, .inl (fun zz => nI (updN tx tn c9 zz)))), (s2, .inl (cI, 22, .inl (fun zz => nI (S zz))))])) (v := nI (tn + 1)) Y hr hlocks hK hP hD hS [0, 1, 2] (by decide) () rfl rfl dX3_append_33
set_option maxHeartbeats 4000000 in
set_option maxRecDepth 100000 in
theorem c_X3_empty (l : Launch) (dC : Nat → ClassId) (dI : Nat → Nat → Nat) (sz : Nat) (h0 s1 s2 : Nat) (tn fl fp its it nu di nb np : Nat)  : Met l yX3_empty (kw yX3_empty cX3_empty 2 (some .int)) (kR 0 0) (kPq (dC, dI) [.ref h0] sz [(h0, .inr (3, [.ref s1, .ref s2, .int (nI tn), .int (nI fl), .int (nI fp), .int (nI its), .int (itV it), .int (nI nu), .int (nI di), .int (nI nb), .int (nI np)]))] []) (va_Qi (fun (res : Int32) (u : Unit) => res = nI tn) (fun u : Unit => kB (dC, dI) [] (va_A [(h0, .inr (3, [.ref s1, .ref s2, .int (nI tn), .int (nI fl), .int (nI fp), .int (nI its), .int (itV it), .int (nI nu), .int (nI di), .int (nI nb), .int (nI np)]))] sz) ([(h0, .inr (3, [.ref s1, .ref s2, .int (nI 0), .int (nI fl), .int (nI fp), .int (nI its), .int (itV it), .int (nI nu), .int (nI di), .int (nI nb), .int (nI np)]))])) (va_A [(h0, .inr (3, [.ref s1, .ref s2, .int (nI tn), .int (nI fl), .int (nI fp), .int (nI its), .int (itV it), .int (nI nu), .int (nI di), .int (nI nb), .int (nI np)]))] sz)) 0 0 (va_A [(h0, .inr (3, [.ref s1, .ref s2, .int (nI tn), .int (nI fl), .int (nI fp), .int (nI its), .int (itV it), .int (nI nu), .int (nI di), .int (nI nb), .int (nI np)]))] sz) := by
  refine kmet (by decide) ?_
  intro p e s m args below meth c Y hr hlocks hin hv
  obtain ⟨rfl, A, hAe, hsz, hP, hK, hD, hZ, hA⟩ := kinQ hv
  rw [hAe]
  have hS : va_S A s.heap s.heap [] := va_S.rf
  have hx := Y.1
  have hb := Y.2.1
  have hml := Y.2.2.1
  have hown := Y.2.2.2.1
  have hts := Y.2.2.2.2
  have hl := lv_entry ([.ref h0]) (n := 2) (Nat.le_of_ble_eq_true rfl)
  rw [lg_entry_eq]
  generalize (lg_sl ([.ref h0]) ++ List.replicate (2 - (lg_sl ([.ref h0])).length) Slot.unset).toArray = ls at hl ⊢
  have hl : lv_has ls 2 [(0, .ref h0)] := hl
  refine lv_aload_n hx hb dX3_empty_0 rfl (lv_at hl 0 rfl) ?_
  refine va_get (D := (dC, dI)) (ci := 3) (v := .int (nI tn)) (C := RX3) (T := TX3) (N := 11) hx hb hts inlX3 hown hK hP 0 rfl rfl 2 (by decide) (hts _ qf_X3_22) (fun _ h9 => h9) rfl dX3_empty_1 ?_
  refine lv_istore_n (lv' := [(1, .int (nI tn)), (0, .ref h0)]) hx hb dX3_empty_4 rfl hl (by decide) rfl (fun ls hl => ?_)
  refine lv_aload_n hx hb dX3_empty_5 rfl (lv_at hl 1 rfl) ?_
  refine lv_iconst (v := nI 0) hx hb dX3_empty_6 (by decide) ?_
  refine va_put (D := (dC, dI)) (ci := 3) (v := .int (nI 0)) (ty := .int) (C := RX3) (T := TX3) (N := 11) hx hb hts inlX3 tyX3 tyX3_ok nmX3 hown hK hP hD hS 0 rfl rfl 2 (by decide) (hts _ qf_X3_22) (fun _ h9 => h9) rfl (by decide +kernel) rfl rfl (Nat.le_of_ble_eq_true rfl) dX3_empty_7 (fun H locs hP hD hS => ?_)
  have hP : va_P (dC, dI) vwCl [(h0, .inr (3, [.ref s1, .ref s2, .int (nI 0), .int (nI fl), .int (nI fp), .int (nI its), .int (itV it), .int (nI nu), .int (nI di), .int (nI nb), .int (nI np)]))] H := hP
  have hD : va_D A [(h0, .inr (3, [.ref s1, .ref s2, .int (nI 0), .int (nI fl), .int (nI fp), .int (nI its), .int (itV it), .int (nI nu), .int (nI di), .int (nI nb), .int (nI np)]))] := hD
  refine lv_iload_n hx hb dX3_empty_10 rfl (lv_at hl 0 rfl) ?_
  exact kqi (w1 := (fun u : Unit => [(h0, .inr (3, [.ref s1, .ref s2, .int (nI 0), .int (nI fl), .int (nI fp), .int (nI its), .int (itV it), .int (nI nu), .int (nI di), .int (nI nb), .int (nI np)]))])) (v := nI tn) Y hr hlocks hK hP hD hS [0] (by decide) () rfl rfl dX3_empty_11
set_option maxHeartbeats 4000000 in
set_option maxRecDepth 100000 in
theorem c_X3_giveParameters (l : Launch) (dC : Nat → ClassId) (dI : Nat → Nat → Nat) (sz : Nat) (cI : ClassId) (h0 s1 s2 pa : Nat) (tn fl fp its it nu di nb np : Nat) (tx S : Nat → Nat) (P : Nat → Nat)  : Met l yX3_giveParameters (kw yX3_giveParameters cX3_giveParameters 2 none) (kR 1 40) (kPq (dC, dI) [.ref h0, .ref pa] sz [(h0, .inr (3, [.ref s1, .ref s2, .int (nI tn), .int (nI fl), .int (nI fp), .int (nI its), .int (itV it), .int (nI nu), .int (nI di), .int (nI nb), .int (nI np)])), (s1, .inl (cI, 60, .inl (fun zz => nI (tx zz)))), (s2, .inl (cI, 22, .inl (fun zz => nI (S zz)))), (pa, .inl (cI, 22, .inl (fun zz => nI (P zz))))] [(cI, .int)]) (va_Qv (fun u : Unit => True) (fun u : Unit => kB (dC, dI) [(cI, .int)] (va_A [(h0, .inr (3, [.ref s1, .ref s2, .int (nI tn), .int (nI fl), .int (nI fp), .int (nI its), .int (itV it), .int (nI nu), .int (nI di), .int (nI nb), .int (nI np)])), (s1, .inl (cI, 60, .inl (fun zz => nI (tx zz)))), (s2, .inl (cI, 22, .inl (fun zz => nI (S zz)))), (pa, .inl (cI, 22, .inl (fun zz => nI (P zz))))] sz) ([(h0, .inr (3, [.ref s1, .ref s2, .int (nI tn), .int (nI fl), .int (nI fp), .int (nI its), .int (itV it), .int (nI nu), .int (nI di), .int (nI nb), .int (nI np)])), (s1, .inl (cI, 60, .inl (fun zz => nI (tx zz)))), (s2, .inl (cI, 22, .inl (fun zz => nI (S zz)))), (pa, .inl (cI, 22, .inl (fun zz => nI (va_cpy S P 0 0 22 zz))))])) (va_A [(h0, .inr (3, [.ref s1, .ref s2, .int (nI tn), .int (nI fl), .int (nI fp), .int (nI its), .int (itV it), .int (nI nu), .int (nI di), .int (nI nb), .int (nI np)])), (s1, .inl (cI, 60, .inl (fun zz => nI (tx zz)))), (s2, .inl (cI, 22, .inl (fun zz => nI (S zz)))), (pa, .inl (cI, 22, .inl (fun zz => nI (P zz))))] sz)) 0 0 (va_A [(h0, .inr (3, [.ref s1, .ref s2, .int (nI tn), .int (nI fl), .int (nI fp), .int (nI its), .int (itV it), .int (nI nu), .int (nI di), .int (nI nb), .int (nI np)])), (s1, .inl (cI, 60, .inl (fun zz => nI (tx zz)))), (s2, .inl (cI, 22, .inl (fun zz => nI (S zz)))), (pa, .inl (cI, 22, .inl (fun zz => nI (P zz))))] sz) := by
  refine kmet (by decide) ?_
  intro p e s m args below meth c Y hr hlocks hin hv
  obtain ⟨rfl, A, hAe, hsz, hP, hK, hD, hZ, hA⟩ := kinQ hv
  rw [hAe]
  have hS : va_S A s.heap s.heap [] := va_S.rf
  have hx := Y.1
  have hb := Y.2.1
  have hml := Y.2.2.1
  have hown := Y.2.2.2.1
  have hts := Y.2.2.2.2
  have hl := lv_entry ([.ref h0, .ref pa]) (n := 2) (Nat.le_of_ble_eq_true rfl)
  rw [lg_entry_eq]
  generalize (lg_sl ([.ref h0, .ref pa]) ++ List.replicate (2 - (lg_sl ([.ref h0, .ref pa])).length) Slot.unset).toArray = ls at hl ⊢
  have hl : lv_has ls 2 [(0, .ref h0), (1, .ref pa)] := hl
  refine lv_aload_n hx hb dX3_giveParameters_0 rfl (lv_at hl 0 rfl) ?_
  refine va_get (D := (dC, dI)) (ci := 3) (v := .ref s2) (C := RX3) (T := TX3) (N := 11) hx hb hts inlX3 hown hK hP 0 rfl rfl 1 (by decide) (hts _ qf_X3_15) (fun _ h9 => h9) rfl dX3_giveParameters_1 ?_
  refine lv_iconst (v := nI 0) hx hb dX3_giveParameters_4 (by decide) ?_
  refine lv_aload_n hx hb dX3_giveParameters_5 rfl (lv_at hl 1 rfl) ?_
  refine lv_iconst (v := nI 0) hx hb dX3_giveParameters_6 (by decide) ?_
  refine lv_bipush (v := nI 22) hx hb dX3_giveParameters_7 (by decide) ?_
  refine r_copy Y hl hK hP hD hS 2 3 0 0 (F := S) (G := P) rfl rfl rfl rfl qm_X3_34 dX3_giveParameters_9 (by decide) (by decide) (by omega) (by omega) (Nat.le_of_ble_eq_true rfl) (Nat.le_of_ble_eq_true rfl) (fun H locs hP hD hS => ?_)
  have hP : va_P (dC, dI) vwCl [(h0, .inr (3, [.ref s1, .ref s2, .int (nI tn), .int (nI fl), .int (nI fp), .int (nI its), .int (itV it), .int (nI nu), .int (nI di), .int (nI nb), .int (nI np)])), (s1, .inl (cI, 60, .inl (fun zz => nI (tx zz)))), (s2, .inl (cI, 22, .inl (fun zz => nI (S zz)))), (pa, .inl (cI, 22, .inl (fun zz => nI (va_cpy S P 0 0 22 zz))))] H := hP
  have hD : va_D A [(h0, .inr (3, [.ref s1, .ref s2, .int (nI tn), .int (nI fl), .int (nI fp), .int (nI its), .int (itV it), .int (nI nu), .int (nI di), .int (nI nb), .int (nI np)])), (s1, .inl (cI, 60, .inl (fun zz => nI (tx zz)))), (s2, .inl (cI, 22, .inl (fun zz => nI (S zz)))), (pa, .inl (cI, 22, .inl (fun zz => nI (va_cpy S P 0 0 22 zz))))] := hD
  exact kqv (w1 := (fun u : Unit => [(h0, .inr (3, [.ref s1, .ref s2, .int (nI tn), .int (nI fl), .int (nI fp), .int (nI its), .int (itV it), .int (nI nu), .int (nI di), .int (nI nb), .int (nI np)])), (s1, .inl (cI, 60, .inl (fun zz => nI (tx zz)))), (s2, .inl (cI, 22, .inl (fun zz => nI (S zz)))), (pa, .inl (cI, 22, .inl (fun zz => nI (va_cpy S P 0 0 22 zz))))])) Y hr hlocks hK hP hD hS [0, 1, 2, 3] (by decide) () rfl trivial dX3_giveParameters_12
set_option maxHeartbeats 4000000 in
set_option maxRecDepth 100000 in
theorem c_X3_setFault (l : Launch) (dC : Nat → ClassId) (dI : Nat → Nat → Nat) (sz : Nat) (h0 s1 s2 : Nat) (tn fl fp its it nu di nb np : Nat) (k9 p9 : Nat)  : Met l yX3_setFault (kw yX3_setFault cX3_setFault 3 none) (kR 0 0) (kPq (dC, dI) [.ref h0, .int (nI k9), .int (nI p9)] sz [(h0, .inr (3, [.ref s1, .ref s2, .int (nI tn), .int (nI fl), .int (nI fp), .int (nI its), .int (itV it), .int (nI nu), .int (nI di), .int (nI nb), .int (nI np)]))] []) (va_Qv (fun u : Unit => True) (fun u : Unit => kB (dC, dI) [] (va_A [(h0, .inr (3, [.ref s1, .ref s2, .int (nI tn), .int (nI fl), .int (nI fp), .int (nI its), .int (itV it), .int (nI nu), .int (nI di), .int (nI nb), .int (nI np)]))] sz) ([(h0, .inr (3, [.ref s1, .ref s2, .int (nI tn), .int (nI k9), .int (nI p9), .int (nI its), .int (itV it), .int (nI nu), .int (nI di), .int (nI nb), .int (nI np)]))])) (va_A [(h0, .inr (3, [.ref s1, .ref s2, .int (nI tn), .int (nI fl), .int (nI fp), .int (nI its), .int (itV it), .int (nI nu), .int (nI di), .int (nI nb), .int (nI np)]))] sz)) 0 0 (va_A [(h0, .inr (3, [.ref s1, .ref s2, .int (nI tn), .int (nI fl), .int (nI fp), .int (nI its), .int (itV it), .int (nI nu), .int (nI di), .int (nI nb), .int (nI np)]))] sz) := by
  refine kmet (by decide) ?_
  intro p e s m args below meth c Y hr hlocks hin hv
  obtain ⟨rfl, A, hAe, hsz, hP, hK, hD, hZ, hA⟩ := kinQ hv
  rw [hAe]
  have hS : va_S A s.heap s.heap [] := va_S.rf
  have hx := Y.1
  have hb := Y.2.1
  have hml := Y.2.2.1
  have hown := Y.2.2.2.1
  have hts := Y.2.2.2.2
  have hl := lv_entry ([.ref h0, .int (nI k9), .int (nI p9)]) (n := 3) (Nat.le_of_ble_eq_true rfl)
  rw [lg_entry_eq]
  generalize (lg_sl ([.ref h0, .int (nI k9), .int (nI p9)]) ++ List.replicate (3 - (lg_sl ([.ref h0, .int (nI k9), .int (nI p9)])).length) Slot.unset).toArray = ls at hl ⊢
  have hl : lv_has ls 3 [(0, .ref h0), (1, .int (nI k9)), (2, .int (nI p9))] := hl
  refine lv_aload_n hx hb dX3_setFault_0 rfl (lv_at hl 0 rfl) ?_
  refine lv_iload_n hx hb dX3_setFault_1 rfl (lv_at hl 1 rfl) ?_
  refine va_put (D := (dC, dI)) (ci := 3) (v := .int (nI k9)) (ty := .int) (C := RX3) (T := TX3) (N := 11) hx hb hts inlX3 tyX3 tyX3_ok nmX3 hown hK hP hD hS 0 rfl rfl 3 (by decide) (hts _ qf_X3_25) (fun _ h9 => h9) rfl (by decide +kernel) rfl rfl (Nat.le_of_ble_eq_true rfl) dX3_setFault_2 (fun H locs hP hD hS => ?_)
  have hP : va_P (dC, dI) vwCl [(h0, .inr (3, [.ref s1, .ref s2, .int (nI tn), .int (nI k9), .int (nI fp), .int (nI its), .int (itV it), .int (nI nu), .int (nI di), .int (nI nb), .int (nI np)]))] H := hP
  have hD : va_D A [(h0, .inr (3, [.ref s1, .ref s2, .int (nI tn), .int (nI k9), .int (nI fp), .int (nI its), .int (itV it), .int (nI nu), .int (nI di), .int (nI nb), .int (nI np)]))] := hD
  refine lv_aload_n hx hb dX3_setFault_5 rfl (lv_at hl 0 rfl) ?_
  refine lv_iload_n hx hb dX3_setFault_6 rfl (lv_at hl 2 rfl) ?_
  refine va_put (D := (dC, dI)) (ci := 3) (v := .int (nI p9)) (ty := .int) (C := RX3) (T := TX3) (N := 11) hx hb hts inlX3 tyX3 tyX3_ok nmX3 hown hK hP hD hS 0 rfl rfl 4 (by decide) (hts _ qf_X3_28) (fun _ h9 => h9) rfl (by decide +kernel) rfl rfl (Nat.le_of_ble_eq_true rfl) dX3_setFault_7 (fun H locs hP hD hS => ?_)
  have hP : va_P (dC, dI) vwCl [(h0, .inr (3, [.ref s1, .ref s2, .int (nI tn), .int (nI k9), .int (nI p9), .int (nI its), .int (itV it), .int (nI nu), .int (nI di), .int (nI nb), .int (nI np)]))] H := hP
  have hD : va_D A [(h0, .inr (3, [.ref s1, .ref s2, .int (nI tn), .int (nI k9), .int (nI p9), .int (nI its), .int (itV it), .int (nI nu), .int (nI di), .int (nI nb), .int (nI np)]))] := hD
  exact kqv (w1 := (fun u : Unit => [(h0, .inr (3, [.ref s1, .ref s2, .int (nI tn), .int (nI k9), .int (nI p9), .int (nI its), .int (itV it), .int (nI nu), .int (nI di), .int (nI nb), .int (nI np)]))])) Y hr hlocks hK hP hD hS [0] (by decide) () rfl trivial dX3_setFault_10
set_option maxHeartbeats 4000000 in
set_option maxRecDepth 100000 in
theorem c_X3_indexOfLetter (l : Launch) (dC : Nat → ClassId) (dI : Nat → Nat → Nat) (ch : Nat) (h1 : ch ≤ 126) : Met l yX3_indexOfLetter (kw yX3_indexOfLetter cX3_indexOfLetter 2 (some .int)) (kR 0 0) (kPr (dC, dI) [.int (nI ch)] [] []) (vp_Si (fun res : Int32 => res = itV (letc ch))) 0 0 kNo := by
  refine kmet (by decide) ?_
  intro p e s m args below meth c Y hr hlocks hin hv
  obtain ⟨rfl, hP, hK, hZ⟩ := kinR hv
  have hS : va_S kNo s.heap s.heap [] := va_S.rf
  have hx := Y.1
  have hb := Y.2.1
  have hml := Y.2.2.1
  have hown := Y.2.2.2.1
  have hts := Y.2.2.2.2
  have hl := lv_entry ([.int (nI ch)]) (n := 2) (Nat.le_of_ble_eq_true rfl)
  rw [lg_entry_eq]
  generalize (lg_sl ([.int (nI ch)]) ++ List.replicate (2 - (lg_sl ([.int (nI ch)])).length) Slot.unset).toArray = ls at hl ⊢
  have hl : lv_has ls 2 [(0, .int (nI ch))] := hl
  refine lv_iconst (v := nI 0) hx hb dX3_indexOfLetter_0 (by decide) ?_
  refine lv_istore_n (lv' := [(1, .int (nI 0)), (0, .int (nI ch))]) hx hb dX3_indexOfLetter_1 rfl hl (by decide) rfl (fun ls hl => ?_)
  refine lv_iload_n hx hb dX3_indexOfLetter_2 rfl (lv_at hl 0 rfl) ?_
  refine r_gets Y hZ.2.2.2.2.1 hS qf_X3_98 (fun _ h9 => h9) dX3_indexOfLetter_3 (fun t3 ht3 => ?_)
  refine va_tlen (v := nI 7) hx hb ht3 hS rfl dX3_indexOfLetter_6 ?_
  refine ri_cge (tgt := 27) hx hb dX3_indexOfLetter_7 (by decide) (by omega) (by omega) (fun c7 => ?_) (fun c7 => ?_)
  · exact absurd c7 (by decide)
  · refine r_gets Y hZ.2.2.2.2.1 hS qf_X3_98 (fun _ h9 => h9) dX3_indexOfLetter_10 (fun t10 ht10 => ?_)
    refine lv_iload_n hx hb dX3_indexOfLetter_13 rfl (lv_at hl 0 rfl) ?_
    refine r_tc hx hb ht10 hS dX3_indexOfLetter_14 (by decide) (by omega) ?_
    refine ri_set hx hb (x' := nI 110) rfl ?_
    refine lv_iload_n hx hb dX3_indexOfLetter_15 rfl (lv_at hl 1 rfl) ?_
    refine ri_cne (tgt := 21) hx hb dX3_indexOfLetter_16 (by decide) (by omega) (by omega) (fun c16 => ?_) (fun c16 => ?_)
    · refine lv_iinc (v := nI 1) (lv' := [(1, .int (nI 1)), (0, .int (nI ch))]) hx hb dX3_indexOfLetter_21 hl (k := 0) rfl (by decide) (by decide) rfl (fun ls hl => ?_)
      refine lv_goto (tgt := 2) hx hb dX3_indexOfLetter_24 (by decide) ?_
      refine lv_iload_n hx hb dX3_indexOfLetter_2 rfl (lv_at hl 0 rfl) ?_
      refine r_gets Y hZ.2.2.2.2.1 hS qf_X3_98 (fun _ h9 => h9) dX3_indexOfLetter_3 (fun t3 ht3 => ?_)
      refine va_tlen (v := nI 7) hx hb ht3 hS rfl dX3_indexOfLetter_6 ?_
      refine ri_cge (tgt := 27) hx hb dX3_indexOfLetter_7 (by decide) (by omega) (by omega) (fun c7_1 => ?_) (fun c7_1 => ?_)
      · exact absurd c7_1 (by decide)
      · refine r_gets Y hZ.2.2.2.2.1 hS qf_X3_98 (fun _ h9 => h9) dX3_indexOfLetter_10 (fun t10 ht10 => ?_)
        refine lv_iload_n hx hb dX3_indexOfLetter_13 rfl (lv_at hl 0 rfl) ?_
        refine r_tc hx hb ht10 hS dX3_indexOfLetter_14 (by decide) (by omega) ?_
        refine ri_set hx hb (x' := nI 107) rfl ?_
        refine lv_iload_n hx hb dX3_indexOfLetter_15 rfl (lv_at hl 1 rfl) ?_
        refine ri_cne (tgt := 21) hx hb dX3_indexOfLetter_16 (by decide) (by omega) (by omega) (fun c16_1 => ?_) (fun c16_1 => ?_)
        · refine lv_iinc (v := nI 2) (lv' := [(1, .int (nI 2)), (0, .int (nI ch))]) hx hb dX3_indexOfLetter_21 hl (k := 0) rfl (by decide) (by decide) rfl (fun ls hl => ?_)
          refine lv_goto (tgt := 2) hx hb dX3_indexOfLetter_24 (by decide) ?_
          refine lv_iload_n hx hb dX3_indexOfLetter_2 rfl (lv_at hl 0 rfl) ?_
          refine r_gets Y hZ.2.2.2.2.1 hS qf_X3_98 (fun _ h9 => h9) dX3_indexOfLetter_3 (fun t3 ht3 => ?_)
          refine va_tlen (v := nI 7) hx hb ht3 hS rfl dX3_indexOfLetter_6 ?_
          refine ri_cge (tgt := 27) hx hb dX3_indexOfLetter_7 (by decide) (by omega) (by omega) (fun c7_2 => ?_) (fun c7_2 => ?_)
          · exact absurd c7_2 (by decide)
          · refine r_gets Y hZ.2.2.2.2.1 hS qf_X3_98 (fun _ h9 => h9) dX3_indexOfLetter_10 (fun t10 ht10 => ?_)
            refine lv_iload_n hx hb dX3_indexOfLetter_13 rfl (lv_at hl 0 rfl) ?_
            refine r_tc hx hb ht10 hS dX3_indexOfLetter_14 (by decide) (by omega) ?_
            refine ri_set hx hb (x' := nI 99) rfl ?_
            refine lv_iload_n hx hb dX3_indexOfLetter_15 rfl (lv_at hl 1 rfl) ?_
            refine ri_cne (tgt := 21) hx hb dX3_indexOfLetter_16 (by decide) (by omega) (by omega) (fun c16_2 => ?_) (fun c16_2 => ?_)
            · refine lv_iinc (v := nI 3) (lv' := [(1, .int (nI 3)), (0, .int (nI ch))]) hx hb dX3_indexOfLetter_21 hl (k := 0) rfl (by decide) (by decide) rfl (fun ls hl => ?_)
              refine lv_goto (tgt := 2) hx hb dX3_indexOfLetter_24 (by decide) ?_
              refine lv_iload_n hx hb dX3_indexOfLetter_2 rfl (lv_at hl 0 rfl) ?_
              refine r_gets Y hZ.2.2.2.2.1 hS qf_X3_98 (fun _ h9 => h9) dX3_indexOfLetter_3 (fun t3 ht3 => ?_)
              refine va_tlen (v := nI 7) hx hb ht3 hS rfl dX3_indexOfLetter_6 ?_
              refine ri_cge (tgt := 27) hx hb dX3_indexOfLetter_7 (by decide) (by omega) (by omega) (fun c7_3 => ?_) (fun c7_3 => ?_)
              · exact absurd c7_3 (by decide)
              · refine r_gets Y hZ.2.2.2.2.1 hS qf_X3_98 (fun _ h9 => h9) dX3_indexOfLetter_10 (fun t10 ht10 => ?_)
                refine lv_iload_n hx hb dX3_indexOfLetter_13 rfl (lv_at hl 0 rfl) ?_
                refine r_tc hx hb ht10 hS dX3_indexOfLetter_14 (by decide) (by omega) ?_
                refine ri_set hx hb (x' := nI 112) rfl ?_
                refine lv_iload_n hx hb dX3_indexOfLetter_15 rfl (lv_at hl 1 rfl) ?_
                refine ri_cne (tgt := 21) hx hb dX3_indexOfLetter_16 (by decide) (by omega) (by omega) (fun c16_3 => ?_) (fun c16_3 => ?_)
                · refine lv_iinc (v := nI 4) (lv' := [(1, .int (nI 4)), (0, .int (nI ch))]) hx hb dX3_indexOfLetter_21 hl (k := 0) rfl (by decide) (by decide) rfl (fun ls hl => ?_)
                  refine lv_goto (tgt := 2) hx hb dX3_indexOfLetter_24 (by decide) ?_
                  refine lv_iload_n hx hb dX3_indexOfLetter_2 rfl (lv_at hl 0 rfl) ?_
                  refine r_gets Y hZ.2.2.2.2.1 hS qf_X3_98 (fun _ h9 => h9) dX3_indexOfLetter_3 (fun t3 ht3 => ?_)
                  refine va_tlen (v := nI 7) hx hb ht3 hS rfl dX3_indexOfLetter_6 ?_
                  refine ri_cge (tgt := 27) hx hb dX3_indexOfLetter_7 (by decide) (by omega) (by omega) (fun c7_4 => ?_) (fun c7_4 => ?_)
                  · exact absurd c7_4 (by decide)
                  · refine r_gets Y hZ.2.2.2.2.1 hS qf_X3_98 (fun _ h9 => h9) dX3_indexOfLetter_10 (fun t10 ht10 => ?_)
                    refine lv_iload_n hx hb dX3_indexOfLetter_13 rfl (lv_at hl 0 rfl) ?_
                    refine r_tc hx hb ht10 hS dX3_indexOfLetter_14 (by decide) (by omega) ?_
                    refine ri_set hx hb (x' := nI 118) rfl ?_
                    refine lv_iload_n hx hb dX3_indexOfLetter_15 rfl (lv_at hl 1 rfl) ?_
                    refine ri_cne (tgt := 21) hx hb dX3_indexOfLetter_16 (by decide) (by omega) (by omega) (fun c16_4 => ?_) (fun c16_4 => ?_)
                    · refine lv_iinc (v := nI 5) (lv' := [(1, .int (nI 5)), (0, .int (nI ch))]) hx hb dX3_indexOfLetter_21 hl (k := 0) rfl (by decide) (by decide) rfl (fun ls hl => ?_)
                      refine lv_goto (tgt := 2) hx hb dX3_indexOfLetter_24 (by decide) ?_
                      refine lv_iload_n hx hb dX3_indexOfLetter_2 rfl (lv_at hl 0 rfl) ?_
                      refine r_gets Y hZ.2.2.2.2.1 hS qf_X3_98 (fun _ h9 => h9) dX3_indexOfLetter_3 (fun t3 ht3 => ?_)
                      refine va_tlen (v := nI 7) hx hb ht3 hS rfl dX3_indexOfLetter_6 ?_
                      refine ri_cge (tgt := 27) hx hb dX3_indexOfLetter_7 (by decide) (by omega) (by omega) (fun c7_5 => ?_) (fun c7_5 => ?_)
                      · exact absurd c7_5 (by decide)
                      · refine r_gets Y hZ.2.2.2.2.1 hS qf_X3_98 (fun _ h9 => h9) dX3_indexOfLetter_10 (fun t10 ht10 => ?_)
                        refine lv_iload_n hx hb dX3_indexOfLetter_13 rfl (lv_at hl 0 rfl) ?_
                        refine r_tc hx hb ht10 hS dX3_indexOfLetter_14 (by decide) (by omega) ?_
                        refine ri_set hx hb (x' := nI 119) rfl ?_
                        refine lv_iload_n hx hb dX3_indexOfLetter_15 rfl (lv_at hl 1 rfl) ?_
                        refine ri_cne (tgt := 21) hx hb dX3_indexOfLetter_16 (by decide) (by omega) (by omega) (fun c16_5 => ?_) (fun c16_5 => ?_)
                        · refine lv_iinc (v := nI 6) (lv' := [(1, .int (nI 6)), (0, .int (nI ch))]) hx hb dX3_indexOfLetter_21 hl (k := 0) rfl (by decide) (by decide) rfl (fun ls hl => ?_)
                          refine lv_goto (tgt := 2) hx hb dX3_indexOfLetter_24 (by decide) ?_
                          refine lv_iload_n hx hb dX3_indexOfLetter_2 rfl (lv_at hl 0 rfl) ?_
                          refine r_gets Y hZ.2.2.2.2.1 hS qf_X3_98 (fun _ h9 => h9) dX3_indexOfLetter_3 (fun t3 ht3 => ?_)
                          refine va_tlen (v := nI 7) hx hb ht3 hS rfl dX3_indexOfLetter_6 ?_
                          refine ri_cge (tgt := 27) hx hb dX3_indexOfLetter_7 (by decide) (by omega) (by omega) (fun c7_6 => ?_) (fun c7_6 => ?_)
                          · exact absurd c7_6 (by decide)
                          · refine r_gets Y hZ.2.2.2.2.1 hS qf_X3_98 (fun _ h9 => h9) dX3_indexOfLetter_10 (fun t10 ht10 => ?_)
                            refine lv_iload_n hx hb dX3_indexOfLetter_13 rfl (lv_at hl 0 rfl) ?_
                            refine r_tc hx hb ht10 hS dX3_indexOfLetter_14 (by decide) (by omega) ?_
                            refine ri_set hx hb (x' := nI 114) rfl ?_
                            refine lv_iload_n hx hb dX3_indexOfLetter_15 rfl (lv_at hl 1 rfl) ?_
                            refine ri_cne (tgt := 21) hx hb dX3_indexOfLetter_16 (by decide) (by omega) (by omega) (fun c16_6 => ?_) (fun c16_6 => ?_)
                            · refine lv_iinc (v := nI 7) (lv' := [(1, .int (nI 7)), (0, .int (nI ch))]) hx hb dX3_indexOfLetter_21 hl (k := 0) rfl (by decide) (by decide) rfl (fun ls hl => ?_)
                              refine lv_goto (tgt := 2) hx hb dX3_indexOfLetter_24 (by decide) ?_
                              refine lv_iload_n hx hb dX3_indexOfLetter_2 rfl (lv_at hl 0 rfl) ?_
                              refine r_gets Y hZ.2.2.2.2.1 hS qf_X3_98 (fun _ h9 => h9) dX3_indexOfLetter_3 (fun t3 ht3 => ?_)
                              refine va_tlen (v := nI 7) hx hb ht3 hS rfl dX3_indexOfLetter_6 ?_
                              refine ri_cge (tgt := 27) hx hb dX3_indexOfLetter_7 (by decide) (by omega) (by omega) (fun c7_7 => ?_) (fun c7_7 => ?_)
                              · refine lv_iconst (v := -1) hx hb dX3_indexOfLetter_27 (by decide) ?_
                                exact kri (v := (-1)) Y hr hlocks (by rw [show letc ch = 7 by unfold letc; rw [if_neg c16, if_neg c16_1, if_neg c16_2, if_neg c16_3, if_neg c16_4, if_neg c16_5, if_neg c16_6]]; rfl) dX3_indexOfLetter_28
                              · exact absurd c7_7 (by decide)
                            · refine lv_iload_n hx hb dX3_indexOfLetter_19 rfl (lv_at hl 0 rfl) ?_
                              exact kri (v := nI 6) Y hr hlocks (by rw [show letc ch = 6 by unfold letc; rw [if_neg c16, if_neg c16_1, if_neg c16_2, if_neg c16_3, if_neg c16_4, if_neg c16_5, if_pos c16_6]]; rfl) dX3_indexOfLetter_20
                        · refine lv_iload_n hx hb dX3_indexOfLetter_19 rfl (lv_at hl 0 rfl) ?_
                          exact kri (v := nI 5) Y hr hlocks (by rw [show letc ch = 5 by unfold letc; rw [if_neg c16, if_neg c16_1, if_neg c16_2, if_neg c16_3, if_neg c16_4, if_pos c16_5]]; rfl) dX3_indexOfLetter_20
                    · refine lv_iload_n hx hb dX3_indexOfLetter_19 rfl (lv_at hl 0 rfl) ?_
                      exact kri (v := nI 4) Y hr hlocks (by rw [show letc ch = 4 by unfold letc; rw [if_neg c16, if_neg c16_1, if_neg c16_2, if_neg c16_3, if_pos c16_4]]; rfl) dX3_indexOfLetter_20
                · refine lv_iload_n hx hb dX3_indexOfLetter_19 rfl (lv_at hl 0 rfl) ?_
                  exact kri (v := nI 3) Y hr hlocks (by rw [show letc ch = 3 by unfold letc; rw [if_neg c16, if_neg c16_1, if_neg c16_2, if_pos c16_3]]; rfl) dX3_indexOfLetter_20
            · refine lv_iload_n hx hb dX3_indexOfLetter_19 rfl (lv_at hl 0 rfl) ?_
              exact kri (v := nI 2) Y hr hlocks (by rw [show letc ch = 2 by unfold letc; rw [if_neg c16, if_neg c16_1, if_pos c16_2]]; rfl) dX3_indexOfLetter_20
        · refine lv_iload_n hx hb dX3_indexOfLetter_19 rfl (lv_at hl 0 rfl) ?_
          exact kri (v := nI 1) Y hr hlocks (by rw [show letc ch = 1 by unfold letc; rw [if_neg c16, if_pos c16_1]]; rfl) dX3_indexOfLetter_20
    · refine lv_iload_n hx hb dX3_indexOfLetter_19 rfl (lv_at hl 0 rfl) ?_
      exact kri (v := nI 0) Y hr hlocks (by rw [show letc ch = 0 by unfold letc; rw [if_pos c16]]; rfl) dX3_indexOfLetter_20
