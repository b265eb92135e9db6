set_option maxHeartbeats 4000000 in
set_option maxRecDepth 100000 in
theorem c_X2_recallSucceeds (l : Launch) (dC : Nat → ClassId) (dI : Nat → Nat → Nat) (sz : Nat) (cI : ClassId) (h0 s1 s2 s3 : Nat) (rs : Nat → Int32) (rr fr : Nat → Nat) (z : Int32) (c9 : Nat) (h1 : c9 ≤ 10) : Met l yX2_recallSucceeds (kw yX2_recallSucceeds cX2_recallSucceeds 2 (some .boolean)) (kR 1 20) (kPq (dC, dI) [.ref h0, .int (nI c9)] sz [(h0, .inr (2, [.ref s1, .ref s2, .ref s3, .int z])), (s1, .inl (cI, 5, .inl rs)), (s2, .inl (cI, 8, .inl (fun zz => nI (rr zz)))), (s3, .inl (cI, 8, .inl (fun zz => nI (fr zz))))] [(cI, .int)]) (va_Qi (fun (res : Int32) (u : Nat → Int32) => res = b2i (dn (dz z) % 10 < c9) ∧ (u 0 = rs 0 ∧ u 1 = rs 1 ∧ u 2 = rs 2 ∧ u 3 = rs 3 + nI 1 ∧ u 4 = if dn (dz z) % 10 < c9 then rs 4 + nI 1 else rs 4)) (fun u : Nat → Int32 => kB (dC, dI) [(cI, .int)] (va_A [(h0, .inr (2, [.ref s1, .ref s2, .ref s3, .int z])), (s1, .inl (cI, 5, .inl rs)), (s2, .inl (cI, 8, .inl (fun zz => nI (rr zz)))), (s3, .inl (cI, 8, .inl (fun zz => nI (fr zz))))] sz) ([(h0, .inr (2, [.ref s1, .ref s2, .ref s3, .int (dz z)])), (s1, .inl (cI, 5, .inl u)), (s2, .inl (cI, 8, .inl (fun zz => nI (rr zz)))), (s3, .inl (cI, 8, .inl (fun zz => nI (fr zz))))])) (va_A [(h0, .inr (2, [.ref s1, .ref s2, .ref s3, .int z])), (s1, .inl (cI, 5, .inl rs)), (s2, .inl (cI, 8, .inl (fun zz => nI (rr zz)))), (s3, .inl (cI, 8, .inl (fun zz => nI (fr zz))))] sz)) 0 0 (va_A [(h0, .inr (2, [.ref s1, .ref s2, .ref s3, .int z])), (s1, .inl (cI, 5, .inl rs)), (s2, .inl (cI, 8, .inl (fun zz => nI (rr zz)))), (s3, .inl (cI, 8, .inl (fun zz => nI (fr zz))))] sz) := by
  refine kmet (by decide) ?_
  intro p e s m args below meth c Y hr hlocks hin hv
  obtain ⟨rfl, A, hAe, hsz, hP, hK, hD, hZ, hA⟩ := kinQ hv
  rw [hAe]
  have hS : va_S A s.heap s.heap [] := va_S.rf
  have hx := Y.1
  have hb := Y.2.1
  have hml := Y.2.2.1
  have hown := Y.2.2.2.1
  have hts := Y.2.2.2.2
  have hl := lv_entry ([.ref h0, .int (nI c9)]) (n := 2) (Nat.le_of_ble_eq_true rfl)
  rw [lg_entry_eq]
  generalize (lg_sl ([.ref h0, .int (nI c9)]) ++ List.replicate (2 - (lg_sl ([.ref h0, .int (nI c9)])).length) Slot.unset).toArray = ls at hl ⊢
  have hl : lv_has ls 2 [(0, .ref h0), (1, .int (nI c9))] := hl
  refine lv_aload_n hx hb dX2_recallSucceeds_0 rfl (lv_at hl 0 rfl) ?_
  refine va_get (D := (dC, dI)) (ci := 2) (v := .ref s1) (C := RX2) (T := TX2) (N := 4) hx hb hts inlX2 hown hK hP 0 rfl rfl 0 (by decide) (hts _ qf_X2_11) (fun _ h9 => h9) rfl dX2_recallSucceeds_1 ?_
  refine lv_iconst (v := nI 3) hx hb dX2_recallSucceeds_4 (by decide) ?_
  refine lv_dup2_11 hx hb dX2_recallSucceeds_5 rfl rfl ?_
  refine rr_ald hx hb hK hP 1 0 (F := rs) rfl rfl dX2_recallSucceeds_6 (by decide) (by omega) ?_
  refine lv_iconst (v := nI 1) hx hb dX2_recallSucceeds_7 (by decide) ?_
  refine lv_iadd hx hb dX2_recallSucceeds_8 ?_
  refine rr_ast hx hb hK hP hD hS 1 0 (F := rs) rfl rfl dX2_recallSucceeds_9 (by decide) (by omega) (fun H locs hP hD hS => ?_)
  have hP : va_P (dC, dI) vwCl [(h0, .inr (2, [.ref s1, .ref s2, .ref s3, .int z])), (s1, .inl (cI, 5, .inl (upd rs 3 ((rs 3) + (nI 1))))), (s2, .inl (cI, 8, .inl (fun zz => nI (rr zz)))), (s3, .inl (cI, 8, .inl (fun zz => nI (fr zz))))] H := hP
  have hD : va_D A [(h0, .inr (2, [.ref s1, .ref s2, .ref s3, .int z])), (s1, .inl (cI, 5, .inl (upd rs 3 ((rs 3) + (nI 1))))), (s2, .inl (cI, 8, .inl (fun zz => nI (rr zz)))), (s3, .inl (cI, 8, .inl (fun zz => nI (fr zz))))] := hD
  refine lv_aload_n hx hb dX2_recallSucceeds_10 rfl (lv_at hl 0 rfl) ?_
  refine kQi (As := []) (rest := []) (wr := [(s1, .inl (cI, 5, .inl (upd rs 3 ((rs 3) + (nI 1))))), (s2, .inl (cI, 8, .inl (fun zz => nI (rr zz)))), (s3, .inl (cI, 8, .inl (fun zz => nI (fr zz))))]) Y m_X2_draw (c_X2_draw l dC dI _ h0 s1 s2 s3 z ) qm_X2_64 hP hD hS hA [0] [1, 2, 3] rfl rfl (by decide) (by decide) (kqV (ci := 2) hK hP hD hZ hS hA [0] [] rfl (by decide) rfl 0 rfl rfl rfl) rfl hl.1 rfl (Nat.le_of_ble_eq_true rfl) dX2_recallSucceeds_11 ⟨Nat.le_of_ble_eq_true rfl, Nat.le_of_ble_eq_true rfl⟩ ⟨Nat.zero_le _, Nat.zero_le _⟩ (fun r11 u11 H locs hr11 hP hD hS => ?_)
  have hP : va_P (dC, dI) vwCl [(s1, .inl (cI, 5, .inl (upd rs 3 ((rs 3) + (nI 1))))), (s2, .inl (cI, 8, .inl (fun zz => nI (rr zz)))), (s3, .inl (cI, 8, .inl (fun zz => nI (fr zz)))), (h0, .inr (2, [.ref s1, .ref s2, .ref s3, .int (dz z)]))] H := hP
  have hD : va_D A [(s1, .inl (cI, 5, .inl (upd rs 3 ((rs 3) + (nI 1))))), (s2, .inl (cI, 8, .inl (fun zz => nI (rr zz)))), (s3, .inl (cI, 8, .inl (fun zz => nI (fr zz)))), (h0, .inr (2, [.ref s1, .ref s2, .ref s3, .int (dz z)]))] := hD
  obtain rfl : r11 = nI (dn (dz z)) := hr11
  have hdb := dn_b (dz z)
  refine lv_bipush (v := nI 10) hx hb dX2_recallSucceeds_14 (by decide) ?_
  refine ri_rem hx hb dX2_recallSucceeds_16 (by omega) (by omega) (by omega) ?_
  refine lv_iload_n hx hb dX2_recallSucceeds_17 rfl (lv_at hl 1 rfl) ?_
  refine ri_clt (tgt := 23) hx hb dX2_recallSucceeds_18 (by decide) (by omega) (by omega) (fun c18 => ?_) (fun c18 => ?_)
  · refine lv_aload_n hx hb dX2_recallSucceeds_23 rfl (lv_at hl 0 rfl) ?_
    refine va_get (D := (dC, dI)) (ci := 2) (v := .ref s1) (C := RX2) (T := TX2) (N := 4) hx hb hts inlX2 hown hK hP 3 rfl rfl 0 (by decide) (hts _ qf_X2_11) (fun _ h9 => h9) rfl dX2_recallSucceeds_24 ?_
    refine lv_iconst (v := nI 4) hx hb dX2_recallSucceeds_27 (by decide) ?_
    refine lv_dup2_11 hx hb dX2_recallSucceeds_28 rfl rfl ?_
    refine rr_ald hx hb hK hP 0 0 (F := (upd rs 3 ((rs 3) + (nI 1)))) rfl rfl dX2_recallSucceeds_29 (by decide) (by omega) ?_
    refine lv_iconst (v := nI 1) hx hb dX2_recallSucceeds_30 (by decide) ?_
    refine lv_iadd hx hb dX2_recallSucceeds_31 ?_
    refine rr_ast hx hb hK hP hD hS 0 0 (F := (upd rs 3 ((rs 3) + (nI 1)))) rfl rfl dX2_recallSucceeds_32 (by decide) (by omega) (fun H locs hP hD hS => ?_)
    have hP : va_P (dC, dI) vwCl [(s1, .inl (cI, 5, .inl (upd (upd rs 3 ((rs 3) + (nI 1))) 4 (((upd rs 3 ((rs 3) + (nI 1))) 4) + (nI 1))))), (s2, .inl (cI, 8, .inl (fun zz => nI (rr zz)))), (s3, .inl (cI, 8, .inl (fun zz => nI (fr zz)))), (h0, .inr (2, [.ref s1, .ref s2, .ref s3, .int (dz z)]))] H := hP
    have hD : va_D A [(s1, .inl (cI, 5, .inl (upd (upd rs 3 ((rs 3) + (nI 1))) 4 (((upd rs 3 ((rs 3) + (nI 1))) 4) + (nI 1))))), (s2, .inl (cI, 8, .inl (fun zz => nI (rr zz)))), (s3, .inl (cI, 8, .inl (fun zz => nI (fr zz)))), (h0, .inr (2, [.ref s1, .ref s2, .ref s3, .int (dz z)]))] := hD
    refine lv_iconst (v := nI 1) hx hb dX2_recallSucceeds_33 (by decide) ?_
    exact kqz (w1 := (fun u : Nat → Int32 => [(h0, .inr (2, [.ref s1, .ref s2, .ref s3, .int (dz z)])), (s1, .inl (cI, 5, .inl u)), (s2, .inl (cI, 8, .inl (fun zz => nI (rr zz)))), (s3, .inl (cI, 8, .inl (fun zz => nI (fr zz))))])) (v := nI 1) Y hr hlocks (by decide) hK hP hD hS [3, 0, 1, 2] (by decide) (upd (upd rs 3 ((rs 3) + (nI 1))) 4 (((upd rs 3 ((rs 3) + (nI 1))) 4) + (nI 1))) rfl ⟨(b2i_t (by omega)).symm, rfl, rfl, rfl, rfl, by rw [if_pos (by omega)]; rfl⟩ dX2_recallSucceeds_34
  · refine lv_iconst (v := nI 0) hx hb dX2_recallSucceeds_21 (by decide) ?_
    exact kqz (w1 := (fun u : Nat → Int32 => [(h0, .inr (2, [.ref s1, .ref s2, .ref s3, .int (dz z)])), (s1, .inl (cI, 5, .inl u)), (s2, .inl (cI, 8, .inl (fun zz => nI (rr zz)))), (s3, .inl (cI, 8, .inl (fun zz => nI (fr zz))))])) (v := nI 0) Y hr hlocks (by decide) hK hP hD hS [3, 0, 1, 2] (by decide) (upd rs 3 ((rs 3) + (nI 1))) rfl ⟨(b2i_f (by omega)).symm, rfl, rfl, rfl, rfl, by rw [if_neg (by omega)]; rfl⟩ dX2_recallSucceeds_22
set_option maxHeartbeats 4000000 in
set_option maxRecDepth 100000 in
theorem c_X2_drawLevel (l : Launch) (dC : Nat → ClassId) (dI : Nat → Nat → Nat) (sz : Nat) (cI : ClassId) (h0 s1 s2 s3 pa : Nat) (P : Nat → Nat) (z : Int32) (hPI : PI P) : Met l yX2_drawLevel (kw yX2_drawLevel cX2_drawLevel 5 (some .int)) (kR 1 20) (kPq (dC, dI) [.ref h0, .ref pa] sz [(h0, .inr (2, [.ref s1, .ref s2, .ref s3, .int z])), (pa, .inl (cI, 22, .inl (fun zz => nI (P zz))))] [(cI, .int)]) (va_Qi (fun (res : Int32) (u : Unit) => res = nI (lvl P (dn (dz z) % 10))) (fun u : Unit => kB (dC, dI) [(cI, .int)] (va_A [(h0, .inr (2, [.ref s1, .ref s2, .ref s3, .int z])), (pa, .inl (cI, 22, .inl (fun zz => nI (P zz))))] sz) ([(h0, .inr (2, [.ref s1, .ref s2, .ref s3, .int (dz z)])), (pa, .inl (cI, 22, .inl (fun zz => nI (P zz))))])) (va_A [(h0, .inr (2, [.ref s1, .ref s2, .ref s3, .int z])), (pa, .inl (cI, 22, .inl (fun zz => nI (P zz))))] sz)) 0 0 (va_A [(h0, .inr (2, [.ref s1, .ref s2, .ref s3, .int z])), (pa, .inl (cI, 22, .inl (fun zz => nI (P zz))))] sz) := by
  refine kmet (by decide) ?_
  intro p e s m args below meth c Y hr hlocks hin hv
  obtain ⟨rfl, A, hAe, hsz, hP, hK, hD, hZ, hA⟩ := kinQ hv
  rw [hAe]
  have hS : va_S A s.heap s.heap [] := va_S.rf
  have hx := Y.1
  have hb := Y.2.1
  have hml := Y.2.2.1
  have hown := Y.2.2.2.1
  have hts := Y.2.2.2.2
  have hl := lv_entry ([.ref h0, .ref pa]) (n := 5) (Nat.le_of_ble_eq_true rfl)
  rw [lg_entry_eq]
  generalize (lg_sl ([.ref h0, .ref pa]) ++ List.replicate (5 - (lg_sl ([.ref h0, .ref pa])).length) Slot.unset).toArray = ls at hl ⊢
  have hl : lv_has ls 5 [(0, .ref h0), (1, .ref pa)] := hl
  have hw5 := hPI.2.2.2.2.1
  have hw15 := hw5 0 (by omega)
  have hw16 := hw5 1 (by omega)
  have hw17 := hw5 2 (by omega)
  have hw18 := hw5 3 (by omega)
  have hw19 := hw5 4 (by omega)
  have hw15 : P 15 ≤ 10 := hw15
  have hw16 : P 16 ≤ 10 := hw16
  have hw17 : P 17 ≤ 10 := hw17
  have hw18 : P 18 ≤ 10 := hw18
  have hw19 : P 19 ≤ 10 := hw19
  refine lv_aload_n hx hb dX2_drawLevel_0 rfl (lv_at hl 0 rfl) ?_
  refine kQi (As := []) (rest := []) (wr := [(pa, .inl (cI, 22, .inl (fun zz => nI (P zz))))]) Y m_X2_draw (c_X2_draw l dC dI _ h0 s1 s2 s3 z ) qm_X2_64 hP hD hS hA [0] [1] rfl rfl (by decide) (by decide) (kqV (ci := 2) hK hP hD hZ hS hA [0] [] rfl (by decide) rfl 0 rfl rfl rfl) rfl hl.1 rfl (Nat.le_of_ble_eq_true rfl) dX2_drawLevel_1 ⟨Nat.le_of_ble_eq_true rfl, Nat.le_of_ble_eq_true rfl⟩ ⟨Nat.zero_le _, Nat.zero_le _⟩ (fun r1 u1 H locs hr1 hP hD hS => ?_)
  have hP : va_P (dC, dI) vwCl [(pa, .inl (cI, 22, .inl (fun zz => nI (P zz)))), (h0, .inr (2, [.ref s1, .ref s2, .ref s3, .int (dz z)]))] H := hP
  have hD : va_D A [(pa, .inl (cI, 22, .inl (fun zz => nI (P zz)))), (h0, .inr (2, [.ref s1, .ref s2, .ref s3, .int (dz z)]))] := hD
  obtain rfl : r1 = nI (dn (dz z)) := hr1
  have hdb := dn_b (dz z)
  refine lv_bipush (v := nI 10) hx hb dX2_drawLevel_4 (by decide) ?_
  refine ri_rem hx hb dX2_drawLevel_6 (by omega) (by omega) (by omega) ?_
  refine lv_istore_n (lv' := [(2, .int (nI ((dn (dz z)) % 10))), (0, .ref h0), (1, .ref pa)]) hx hb dX2_drawLevel_7 rfl hl (by decide) rfl (fun ls hl => ?_)
  refine lv_iconst (v := nI 0) hx hb dX2_drawLevel_8 (by decide) ?_
  refine lv_istore_n (lv' := [(3, .int (nI 0)), (2, .int (nI ((dn (dz z)) % 10))), (0, .ref h0), (1, .ref pa)]) hx hb dX2_drawLevel_9 rfl hl (by decide) rfl (fun ls hl => ?_)
  refine lv_aload_n hx hb dX2_drawLevel_10 rfl (lv_at hl 3 rfl) ?_
  refine lv_bipush (v := nI 15) hx hb dX2_drawLevel_11 (by decide) ?_
  refine ri_ald hx hb hK hP 0 0 (F := P) rfl rfl dX2_drawLevel_13 (by decide) (by omega) ?_
  refine lv_istore (lv' := [(4, .int (nI (P 15))), (3, .int (nI 0)), (2, .int (nI ((dn (dz z)) % 10))), (0, .ref h0), (1, .ref pa)]) hx hb dX2_drawLevel_14 hl (by decide) rfl (fun ls hl => ?_)
  refine lv_iload_n hx hb dX2_drawLevel_16 rfl (lv_at hl 1 rfl) ?_
  refine lv_iconst (v := nI 4) hx hb dX2_drawLevel_17 (by decide) ?_
  refine ri_cge (tgt := 44) hx hb dX2_drawLevel_18 (by decide) (by omega) (by omega) (fun c18 => ?_) (fun c18 => ?_)
  · exact absurd c18 (by decide)
  · refine lv_iload_n hx hb dX2_drawLevel_21 rfl (lv_at hl 2 rfl) ?_
    refine lv_iload hx hb dX2_drawLevel_22 (lv_at hl 0 rfl) ?_
    refine ri_clt (tgt := 44) hx hb dX2_drawLevel_24 (by decide) (by omega) (by omega) (fun c24 => ?_) (fun c24 => ?_)
    · refine lv_iload_n hx hb dX2_drawLevel_44 rfl (lv_at hl 1 rfl) ?_
      exact kqi (w1 := (fun u : Unit => [(h0, .inr (2, [.ref s1, .ref s2, .ref s3, .int (dz z)])), (pa, .inl (cI, 22, .inl (fun zz => nI (P zz))))])) (v := nI 0) Y hr hlocks hK hP hD hS [1, 0] (by decide) () rfl (congrArg nI (by unfold lvl; rw [if_pos (by omega)])) dX2_drawLevel_45
    · refine lv_iinc (v := nI 1) (lv' := [(3, .int (nI 1)), (4, .int (nI (P 15))), (2, .int (nI ((dn (dz z)) % 10))), (0, .ref h0), (1, .ref pa)]) hx hb dX2_drawLevel_27 hl (k := 1) rfl (by decide) (by decide) rfl (fun ls hl => ?_)
      refine lv_iload hx hb dX2_drawLevel_30 (lv_at hl 1 rfl) ?_
      refine lv_aload_n hx hb dX2_drawLevel_32 rfl (lv_at hl 4 rfl) ?_
      refine lv_bipush (v := nI 15) hx hb dX2_drawLevel_33 (by decide) ?_
      refine lv_iload_n hx hb dX2_drawLevel_35 rfl (lv_at hl 0 rfl) ?_
      refine ri_add hx hb dX2_drawLevel_36 ?_
      refine ri_ald hx hb hK hP 0 0 (F := P) rfl rfl dX2_drawLevel_37 (by decide) (by omega) ?_
      refine ri_add hx hb dX2_drawLevel_38 ?_
      refine lv_istore (lv' := [(4, .int (nI ((P 15) + (P 16)))), (3, .int (nI 1)), (2, .int (nI ((dn (dz z)) % 10))), (0, .ref h0), (1, .ref pa)]) hx hb dX2_drawLevel_39 hl (by decide) rfl (fun ls hl => ?_)
      refine lv_goto (tgt := 16) hx hb dX2_drawLevel_41 (by decide) ?_
      refine lv_iload_n hx hb dX2_drawLevel_16 rfl (lv_at hl 1 rfl) ?_
      refine lv_iconst (v := nI 4) hx hb dX2_drawLevel_17 (by decide) ?_
      refine ri_cge (tgt := 44) hx hb dX2_drawLevel_18 (by decide) (by omega) (by omega) (fun c18_1 => ?_) (fun c18_1 => ?_)
      · exact absurd c18_1 (by decide)
      · refine lv_iload_n hx hb dX2_drawLevel_21 rfl (lv_at hl 2 rfl) ?_
        refine lv_iload hx hb dX2_drawLevel_22 (lv_at hl 0 rfl) ?_
        refine ri_clt (tgt := 44) hx hb dX2_drawLevel_24 (by decide) (by omega) (by omega) (fun c24_1 => ?_) (fun c24_1 => ?_)
        · refine lv_iload_n hx hb dX2_drawLevel_44 rfl (lv_at hl 1 rfl) ?_
          exact kqi (w1 := (fun u : Unit => [(h0, .inr (2, [.ref s1, .ref s2, .ref s3, .int (dz z)])), (pa, .inl (cI, 22, .inl (fun zz => nI (P zz))))])) (v := nI 1) Y hr hlocks hK hP hD hS [1, 0] (by decide) () rfl (congrArg nI (by unfold lvl; rw [if_neg (by omega), if_pos (by omega)])) dX2_drawLevel_45
        · refine lv_iinc (v := nI 2) (lv' := [(3, .int (nI 2)), (4, .int (nI ((P 15) + (P 16)))), (2, .int (nI ((dn (dz z)) % 10))), (0, .ref h0), (1, .ref pa)]) hx hb dX2_drawLevel_27 hl (k := 1) rfl (by decide) (by decide) rfl (fun ls hl => ?_)
          refine lv_iload hx hb dX2_drawLevel_30 (lv_at hl 1 rfl) ?_
          refine lv_aload_n hx hb dX2_drawLevel_32 rfl (lv_at hl 4 rfl) ?_
          refine lv_bipush (v := nI 15) hx hb dX2_drawLevel_33 (by decide) ?_
          refine lv_iload_n hx hb dX2_drawLevel_35 rfl (lv_at hl 0 rfl) ?_
          refine ri_add hx hb dX2_drawLevel_36 ?_
          refine ri_ald hx hb hK hP 0 0 (F := P) rfl rfl dX2_drawLevel_37 (by decide) (by omega) ?_
          refine ri_add hx hb dX2_drawLevel_38 ?_
          refine lv_istore (lv' := [(4, .int (nI (((P 15) + (P 16)) + (P 17)))), (3, .int (nI 2)), (2, .int (nI ((dn (dz z)) % 10))), (0, .ref h0), (1, .ref pa)]) hx hb dX2_drawLevel_39 hl (by decide) rfl (fun ls hl => ?_)
          refine lv_goto (tgt := 16) hx hb dX2_drawLevel_41 (by decide) ?_
          refine lv_iload_n hx hb dX2_drawLevel_16 rfl (lv_at hl 1 rfl) ?_
          refine lv_iconst (v := nI 4) hx hb dX2_drawLevel_17 (by decide) ?_
          refine ri_cge (tgt := 44) hx hb dX2_drawLevel_18 (by decide) (by omega) (by omega) (fun c18_2 => ?_) (fun c18_2 => ?_)
          · exact absurd c18_2 (by decide)
          · refine lv_iload_n hx hb dX2_drawLevel_21 rfl (lv_at hl 2 rfl) ?_
            refine lv_iload hx hb dX2_drawLevel_22 (lv_at hl 0 rfl) ?_
            refine ri_clt (tgt := 44) hx hb dX2_drawLevel_24 (by decide) (by omega) (by omega) (fun c24_2 => ?_) (fun c24_2 => ?_)
            · refine lv_iload_n hx hb dX2_drawLevel_44 rfl (lv_at hl 1 rfl) ?_
              exact kqi (w1 := (fun u : Unit => [(h0, .inr (2, [.ref s1, .ref s2, .ref s3, .int (dz z)])), (pa, .inl (cI, 22, .inl (fun zz => nI (P zz))))])) (v := nI 2) Y hr hlocks hK hP hD hS [1, 0] (by decide) () rfl (congrArg nI (by unfold lvl; rw [if_neg (by omega), if_neg (by omega), if_pos (by omega)])) dX2_drawLevel_45
            · refine lv_iinc (v := nI 3) (lv' := [(3, .int (nI 3)), (4, .int (nI (((P 15) + (P 16)) + (P 17)))), (2, .int (nI ((dn (dz z)) % 10))), (0, .ref h0), (1, .ref pa)]) hx hb dX2_drawLevel_27 hl (k := 1) rfl (by decide) (by decide) rfl (fun ls hl => ?_)
              refine lv_iload hx hb dX2_drawLevel_30 (lv_at hl 1 rfl) ?_
              refine lv_aload_n hx hb dX2_drawLevel_32 rfl (lv_at hl 4 rfl) ?_
              refine lv_bipush (v := nI 15) hx hb dX2_drawLevel_33 (by decide) ?_
              refine lv_iload_n hx hb dX2_drawLevel_35 rfl (lv_at hl 0 rfl) ?_
              refine ri_add hx hb dX2_drawLevel_36 ?_
              refine ri_ald hx hb hK hP 0 0 (F := P) rfl rfl dX2_drawLevel_37 (by decide) (by omega) ?_
              refine ri_add hx hb dX2_drawLevel_38 ?_
              refine lv_istore (lv' := [(4, .int (nI ((((P 15) + (P 16)) + (P 17)) + (P 18)))), (3, .int (nI 3)), (2, .int (nI ((dn (dz z)) % 10))), (0, .ref h0), (1, .ref pa)]) hx hb dX2_drawLevel_39 hl (by decide) rfl (fun ls hl => ?_)
              refine lv_goto (tgt := 16) hx hb dX2_drawLevel_41 (by decide) ?_
              refine lv_iload_n hx hb dX2_drawLevel_16 rfl (lv_at hl 1 rfl) ?_
              refine lv_iconst (v := nI 4) hx hb dX2_drawLevel_17 (by decide) ?_
              refine ri_cge (tgt := 44) hx hb dX2_drawLevel_18 (by decide) (by omega) (by omega) (fun c18_3 => ?_) (fun c18_3 => ?_)
              · exact absurd c18_3 (by decide)
              · refine lv_iload_n hx hb dX2_drawLevel_21 rfl (lv_at hl 2 rfl) ?_
                refine lv_iload hx hb dX2_drawLevel_22 (lv_at hl 0 rfl) ?_
                refine ri_clt (tgt := 44) hx hb dX2_drawLevel_24 (by decide) (by omega) (by omega) (fun c24_3 => ?_) (fun c24_3 => ?_)
                · refine lv_iload_n hx hb dX2_drawLevel_44 rfl (lv_at hl 1 rfl) ?_
                  exact kqi (w1 := (fun u : Unit => [(h0, .inr (2, [.ref s1, .ref s2, .ref s3, .int (dz z)])), (pa, .inl (cI, 22, .inl (fun zz => nI (P zz))))])) (v := nI 3) Y hr hlocks hK hP hD hS [1, 0] (by decide) () rfl (congrArg nI (by unfold lvl; rw [if_neg (by omega), if_neg (by omega), if_neg (by omega), if_pos (by omega)])) dX2_drawLevel_45
                · refine lv_iinc (v := nI 4) (lv' := [(3, .int (nI 4)), (4, .int (nI ((((P 15) + (P 16)) + (P 17)) + (P 18)))), (2, .int (nI ((dn (dz z)) % 10))), (0, .ref h0), (1, .ref pa)]) hx hb dX2_drawLevel_27 hl (k := 1) rfl (by decide) (by decide) rfl (fun ls hl => ?_)
                  refine lv_iload hx hb dX2_drawLevel_30 (lv_at hl 1 rfl) ?_
                  refine lv_aload_n hx hb dX2_drawLevel_32 rfl (lv_at hl 4 rfl) ?_
                  refine lv_bipush (v := nI 15) hx hb dX2_drawLevel_33 (by decide) ?_
                  refine lv_iload_n hx hb dX2_drawLevel_35 rfl (lv_at hl 0 rfl) ?_
                  refine ri_add hx hb dX2_drawLevel_36 ?_
                  refine ri_ald hx hb hK hP 0 0 (F := P) rfl rfl dX2_drawLevel_37 (by decide) (by omega) ?_
                  refine ri_add hx hb dX2_drawLevel_38 ?_
                  refine lv_istore (lv' := [(4, .int (nI (((((P 15) + (P 16)) + (P 17)) + (P 18)) + (P 19)))), (3, .int (nI 4)), (2, .int (nI ((dn (dz z)) % 10))), (0, .ref h0), (1, .ref pa)]) hx hb dX2_drawLevel_39 hl (by decide) rfl (fun ls hl => ?_)
                  refine lv_goto (tgt := 16) hx hb dX2_drawLevel_41 (by decide) ?_
                  refine lv_iload_n hx hb dX2_drawLevel_16 rfl (lv_at hl 1 rfl) ?_
                  refine lv_iconst (v := nI 4) hx hb dX2_drawLevel_17 (by decide) ?_
                  refine ri_cge (tgt := 44) hx hb dX2_drawLevel_18 (by decide) (by omega) (by omega) (fun c18_4 => ?_) (fun c18_4 => ?_)
                  · refine lv_iload_n hx hb dX2_drawLevel_44 rfl (lv_at hl 1 rfl) ?_
                    exact kqi (w1 := (fun u : Unit => [(h0, .inr (2, [.ref s1, .ref s2, .ref s3, .int (dz z)])), (pa, .inl (cI, 22, .inl (fun zz => nI (P zz))))])) (v := nI 4) Y hr hlocks hK hP hD hS [1, 0] (by decide) () rfl (congrArg nI (by unfold lvl; rw [if_neg (by omega), if_neg (by omega), if_neg (by omega), if_neg (by omega)])) dX2_drawLevel_45
                  · exact absurd c18_4 (by decide)
set_option maxHeartbeats 4000000 in
set_option maxRecDepth 100000 in
theorem c_X2_runRanks (l : Launch) (dC : Nat → ClassId) (dI : Nat → Nat → Nat) (sz : Nat) (cI cL : ClassId) (h0 s1 s2 s3 g0 q1 q2 q3 pa : Nat) (rs : Nat → Int32) (rr fr : Nat → Nat) (z : Int32) (w b f : Nat → Int64) (rsv n : Nat) (co : Int64) (P : Nat → Nat) (sd : Int32) (hPI : PI P) (hRS : RS P w b n co) : Met l yX2_runRanks (kw yX2_runRanks cX2_runRanks 7 none) (kR 2 45) (kPq (dC, dI) [.ref h0, .ref g0, .ref pa, .int sd] sz [(h0, .inr (2, [.ref s1, .ref s2, .ref s3, .int z])), (s1, .inl (cI, 5, .inl rs)), (s2, .inl (cI, 8, .inl (fun zz => nI (rr zz)))), (s3, .inl (cI, 8, .inl (fun zz => nI (fr zz)))), (g0, .inr (1, [.ref q1, .ref q2, .ref q3, .int (nI rsv), .int (nI n), .long co])), (q1, .inl (cL, 49, .inr (.inl w))), (q2, .inl (cL, 32, .inr (.inl b))), (q3, .inl (cL, 32, .inr (.inl f))), (pa, .inl (cI, 22, .inl (fun zz => nI (P zz))))] [(cI, .int), (cL, .long)]) (va_Qv (fun u : (Nat → Int32) × (Nat → Nat) × (Nat → Nat) × Int32 => u.1 0 = (RR P sd (P 0) (P 1) (nI 0) (nI 0) (nI 0)).1 ∧ u.1 1 = (RR P sd (P 0) (P 1) (nI 0) (nI 0) (nI 0)).2.1 ∧ u.1 2 = (RR P sd (P 0) (P 1) (nI 0) (nI 0) (nI 0)).2.2) (fun u : (Nat → Int32) × (Nat → Nat) × (Nat → Nat) × Int32 => kB (dC, dI) [(cI, .int), (cL, .long)] (va_A [(h0, .inr (2, [.ref s1, .ref s2, .ref s3, .int z])), (s1, .inl (cI, 5, .inl rs)), (s2, .inl (cI, 8, .inl (fun zz => nI (rr zz)))), (s3, .inl (cI, 8, .inl (fun zz => nI (fr zz)))), (g0, .inr (1, [.ref q1, .ref q2, .ref q3, .int (nI rsv), .int (nI n), .long co])), (q1, .inl (cL, 49, .inr (.inl w))), (q2, .inl (cL, 32, .inr (.inl b))), (q3, .inl (cL, 32, .inr (.inl f))), (pa, .inl (cI, 22, .inl (fun zz => nI (P zz))))] sz) ([(h0, .inr (2, [.ref s1, .ref s2, .ref s3, .int u.2.2.2])), (s1, .inl (cI, 5, .inl u.1)), (s2, .inl (cI, 8, .inl (fun zz => nI (u.2.1 zz)))), (s3, .inl (cI, 8, .inl (fun zz => nI (u.2.2.1 zz)))), (g0, .inr (1, [.ref q1, .ref q2, .ref q3, .int (nI rsv), .int (nI n), .long co])), (q1, .inl (cL, 49, .inr (.inl w))), (q2, .inl (cL, 32, .inr (.inl b))), (q3, .inl (cL, 32, .inr (.inl f))), (pa, .inl (cI, 22, .inl (fun zz => nI (P zz))))])) (va_A [(h0, .inr (2, [.ref s1, .ref s2, .ref s3, .int z])), (s1, .inl (cI, 5, .inl rs)), (s2, .inl (cI, 8, .inl (fun zz => nI (rr zz)))), (s3, .inl (cI, 8, .inl (fun zz => nI (fr zz)))), (g0, .inr (1, [.ref q1, .ref q2, .ref q3, .int (nI rsv), .int (nI n), .long co])), (q1, .inl (cL, 49, .inr (.inl w))), (q2, .inl (cL, 32, .inr (.inl b))), (q3, .inl (cL, 32, .inr (.inl f))), (pa, .inl (cI, 22, .inl (fun zz => nI (P zz))))] sz)) 0 0 (va_A [(h0, .inr (2, [.ref s1, .ref s2, .ref s3, .int z])), (s1, .inl (cI, 5, .inl rs)), (s2, .inl (cI, 8, .inl (fun zz => nI (rr zz)))), (s3, .inl (cI, 8, .inl (fun zz => nI (fr zz)))), (g0, .inr (1, [.ref q1, .ref q2, .ref q3, .int (nI rsv), .int (nI n), .long co])), (q1, .inl (cL, 49, .inr (.inl w))), (q2, .inl (cL, 32, .inr (.inl b))), (q3, .inl (cL, 32, .inr (.inl f))), (pa, .inl (cI, 22, .inl (fun zz => nI (P zz))))] sz) := by
  refine kmet (by decide) ?_
  intro p e s m args below meth c Y hr hlocks hin hv
  obtain ⟨rfl, A, hAe, hsz, hP, hK, hD, hZ, hA⟩ := kinQ hv
  rw [hAe]
  have hS : va_S A s.heap s.heap [] := va_S.rf
  have hx := Y.1
  have hb := Y.2.1
  have hml := Y.2.2.1
  have hown := Y.2.2.2.1
  have hts := Y.2.2.2.2
  have hl := lv_entry ([.ref h0, .ref g0, .ref pa, .int sd]) (n := 7) (Nat.le_of_ble_eq_true rfl)
  rw [lg_entry_eq]
  generalize (lg_sl ([.ref h0, .ref g0, .ref pa, .int sd]) ++ List.replicate (7 - (lg_sl ([.ref h0, .ref g0, .ref pa, .int sd])).length) Slot.unset).toArray = ls at hl ⊢
  have hl : lv_has ls 7 [(0, .ref h0), (1, .ref g0), (2, .ref pa), (3, .int sd)] := hl
  obtain ⟨hn0, hco, hw, hb2⟩ := hRS
  subst hn0
  subst hco
  have hp0 := hPI.1
  have hp2 := hPI.2.2.1
  have hp1 := hPI.2.1
  refine lv_aload_n hx hb dX2_runRanks_0 rfl (lv_at hl 0 rfl) ?_
  refine lv_iload_n hx hb dX2_runRanks_1 rfl (lv_at hl 3 rfl) ?_
  refine kQv (As := [.int sd]) (rest := []) (wr := [(g0, .inr (1, [.ref q1, .ref q2, .ref q3, .int (nI rsv), .int (nI (P 0)), .long (lN (P 2 * 2116800))])), (q1, .inl (cL, 49, .inr (.inl w))), (q2, .inl (cL, 32, .inr (.inl b))), (q3, .inl (cL, 32, .inr (.inl f))), (pa, .inl (cI, 22, .inl (fun zz => nI (P zz))))]) Y m_X2_begin (c_X2_begin l dC dI _ cI h0 s1 s2 s3 rs rr fr z sd ) qm_X2_21 hP hD hS hA [0, 1, 2, 3] [4, 5, 6, 7, 8] rfl rfl (by decide) (by decide) (kqV (ci := 2) hK hP hD hZ hS hA [0, 1, 2, 3] [0] rfl (by decide) rfl 0 rfl rfl rfl) rfl hl.1 rfl (Nat.le_of_ble_eq_true rfl) dX2_runRanks_2 ⟨Nat.le_of_ble_eq_true rfl, Nat.le_of_ble_eq_true rfl⟩ ⟨Nat.zero_le _, Nat.zero_le _⟩ (fun u2 H locs hr2 hP hD hS => ?_)
  obtain ⟨rs2_2, rfl⟩ : ∃ z, z = u2 := ⟨_, rfl⟩
  have hP : va_P (dC, dI) vwCl [(g0, .inr (1, [.ref q1, .ref q2, .ref q3, .int (nI rsv), .int (nI (P 0)), .long (lN (P 2 * 2116800))])), (q1, .inl (cL, 49, .inr (.inl w))), (q2, .inl (cL, 32, .inr (.inl b))), (q3, .inl (cL, 32, .inr (.inl f))), (pa, .inl (cI, 22, .inl (fun zz => nI (P zz)))), (h0, .inr (2, [.ref s1, .ref s2, .ref s3, .int sd])), (s1, .inl (cI, 5, .inl rs2_2)), (s2, .inl (cI, 8, .inl (fun zz => nI (rr zz)))), (s3, .inl (cI, 8, .inl (fun zz => nI (fr zz))))] H := hP
  have hD : va_D A [(g0, .inr (1, [.ref q1, .ref q2, .ref q3, .int (nI rsv), .int (nI (P 0)), .long (lN (P 2 * 2116800))])), (q1, .inl (cL, 49, .inr (.inl w))), (q2, .inl (cL, 32, .inr (.inl b))), (q3, .inl (cL, 32, .inr (.inl f))), (pa, .inl (cI, 22, .inl (fun zz => nI (P zz)))), (h0, .inr (2, [.ref s1, .ref s2, .ref s3, .int sd])), (s1, .inl (cI, 5, .inl rs2_2)), (s2, .inl (cI, 8, .inl (fun zz => nI (rr zz)))), (s3, .inl (cI, 8, .inl (fun zz => nI (fr zz))))] := hD
  have hr2 : ∀ k, k < 5 → rs2_2 k = nI 0 := hr2
  refine lv_aload_n hx hb dX2_runRanks_5 rfl (lv_at hl 2 rfl) ?_
  refine lv_iconst (v := nI 0) hx hb dX2_runRanks_6 (by decide) ?_
  refine ri_ald hx hb hK hP 4 0 (F := P) rfl rfl dX2_runRanks_7 (by decide) (by omega) ?_
  refine lv_istore (lv' := [(4, .int (nI (P 0))), (0, .ref h0), (1, .ref g0), (2, .ref pa), (3, .int sd)]) hx hb dX2_runRanks_8 hl (by decide) rfl (fun ls hl => ?_)
  refine lv_aload_n hx hb dX2_runRanks_10 rfl (lv_at hl 1 rfl) ?_
  refine lv_iload hx hb dX2_runRanks_11 (lv_at hl 0 rfl) ?_
  refine kQv (As := [.int (nI (P 0))]) (rest := []) (wr := [(g0, .inr (1, [.ref q1, .ref q2, .ref q3, .int (nI rsv), .int (nI (P 0)), .long (lN (P 2 * 2116800))])), (q1, .inl (cL, 49, .inr (.inl w))), (q2, .inl (cL, 32, .inr (.inl b))), (q3, .inl (cL, 32, .inr (.inl f))), (pa, .inl (cI, 22, .inl (fun zz => nI (P zz))))]) Y m_X2_drawRanks (c_X2_drawRanks l dC dI H.size cI h0 s1 s2 s3 rs2_2 rr fr sd (P 0) (by omega)) qm_X2_25 hP hD hS hA [5, 6, 7, 8] [0, 1, 2, 3, 4] rfl rfl (by decide) (by decide) (kqV (ci := 2) hK hP hD hZ hS hA [5, 6, 7, 8] [0] rfl (by decide) rfl 0 rfl rfl rfl) rfl hl.1 rfl (Nat.le_of_ble_eq_true rfl) dX2_runRanks_13 ⟨Nat.le_of_ble_eq_true rfl, Nat.le_of_ble_eq_true rfl⟩ ⟨Nat.zero_le _, Nat.zero_le _⟩ (fun u13 H locs hr13 hP hD hS => ?_)
  obtain ⟨rr2_13, fr2_13⟩ := u13
  have hP : va_P (dC, dI) vwCl [(g0, .inr (1, [.ref q1, .ref q2, .ref q3, .int (nI rsv), .int (nI (P 0)), .long (lN (P 2 * 2116800))])), (q1, .inl (cL, 49, .inr (.inl w))), (q2, .inl (cL, 32, .inr (.inl b))), (q3, .inl (cL, 32, .inr (.inl f))), (pa, .inl (cI, 22, .inl (fun zz => nI (P zz)))), (h0, .inr (2, [.ref s1, .ref s2, .ref s3, .int (zit sd (P 0))])), (s1, .inl (cI, 5, .inl rs2_2)), (s2, .inl (cI, 8, .inl (fun zz => nI (rr2_13 zz)))), (s3, .inl (cI, 8, .inl (fun zz => nI (fr2_13 zz))))] H := hP
  have hD : va_D A [(g0, .inr (1, [.ref q1, .ref q2, .ref q3, .int (nI rsv), .int (nI (P 0)), .long (lN (P 2 * 2116800))])), (q1, .inl (cL, 49, .inr (.inl w))), (q2, .inl (cL, 32, .inr (.inl b))), (q3, .inl (cL, 32, .inr (.inl f))), (pa, .inl (cI, 22, .inl (fun zz => nI (P zz)))), (h0, .inr (2, [.ref s1, .ref s2, .ref s3, .int (zit sd (P 0))])), (s1, .inl (cI, 5, .inl rs2_2)), (s2, .inl (cI, 8, .inl (fun zz => nI (rr2_13 zz)))), (s3, .inl (cI, 8, .inl (fun zz => nI (fr2_13 zz))))] := hD
  have hr13 : ∀ o, 1 ≤ o → o ≤ (P 0) → rr2_13 o = rel sd o ∧ fr2_13 o = frk sd (P 0) o := hr13
  refine lv_aload_n hx hb dX2_runRanks_16 rfl (lv_at hl 3 rfl) ?_
  refine lv_iconst (v := nI 1) hx hb dX2_runRanks_17 (by decide) ?_
  refine ri_ald hx hb hK hP 4 0 (F := P) rfl rfl dX2_runRanks_18 (by decide) (by omega) ?_
  refine lv_istore (lv' := [(5, .int (nI (P 1))), (4, .int (nI (P 0))), (0, .ref h0), (1, .ref g0), (2, .ref pa), (3, .int sd)]) hx hb dX2_runRanks_19 hl (by decide) rfl (fun ls hl => ?_)
  refine lv_iconst (v := nI 1) hx hb dX2_runRanks_21 (by decide) ?_
  refine lv_istore (lv' := [(6, .int (nI 1)), (5, .int (nI (P 1))), (4, .int (nI (P 0))), (0, .ref h0), (1, .ref g0), (2, .ref pa), (3, .int sd)]) hx hb dX2_runRanks_22 hl (by decide) rfl (fun ls hl => ?_)
  refine wl3 (fun (i : Nat) (j : Nat) (rs1 : Nat → Int32) => P 0 + 1 - i) (fun (i : Nat) (j : Nat) (rs1 : Nat → Int32) (ls : Array Slot) (H : Heap) (locs : List Loc) => lv_has ls 7 [(0, .ref h0), (1, .ref g0), (2, .ref pa), (4, .int (nI (P 0))), (5, .int (nI j)), (6, .int (nI i))] ∧ va_P (dC, dI) vwCl [(h0, .inr (2, [.ref s1, .ref s2, .ref s3, .int (zit sd (P 0))])), (s1, .inl (cI, 5, .inl rs1)), (s2, .inl (cI, 8, .inl (fun zz => nI (rr2_13 zz)))), (s3, .inl (cI, 8, .inl (fun zz => nI (fr2_13 zz)))), (g0, .inr (1, [.ref q1, .ref q2, .ref q3, .int (nI rsv), .int (nI (P 0)), .long (lN (P 2 * 2116800))])), (q1, .inl (cL, 49, .inr (.inl w))), (q2, .inl (cL, 32, .inr (.inl b))), (q3, .inl (cL, 32, .inr (.inl f))), (pa, .inl (cI, 22, .inl (fun zz => nI (P zz))))] H ∧ va_D A [(h0, .inr (2, [.ref s1, .ref s2, .ref s3, .int (zit sd (P 0))])), (s1, .inl (cI, 5, .inl rs1)), (s2, .inl (cI, 8, .inl (fun zz => nI (rr2_13 zz)))), (s3, .inl (cI, 8, .inl (fun zz => nI (fr2_13 zz)))), (g0, .inr (1, [.ref q1, .ref q2, .ref q3, .int (nI rsv), .int (nI (P 0)), .long (lN (P 2 * 2116800))])), (q1, .inl (cL, 49, .inr (.inl w))), (q2, .inl (cL, 32, .inr (.inl b))), (q3, .inl (cL, 32, .inr (.inl f))), (pa, .inl (cI, 22, .inl (fun zz => nI (P zz))))] ∧ va_S A s.heap H locs ∧ (1 ≤ i ∧ i ≤ P 0 + 1 ∧ j ≤ P 1 ∧ RR P sd (P 0) (P 1) (nI 0) (nI 0) (nI 0) = RR P sd (P 0 + 1 - i) j (rs1 0) (rs1 1) (rs1 2))) 1 (P 1) rs2_2 (by exact ⟨lv_sub hl [3, 4, 5, 2, 1, 0] rfl, hP.sub [5, 6, 7, 8, 0, 1, 2, 3, 4] rfl, hD.sub [5, 6, 7, 8, 0, 1, 2, 3, 4] (by decide) rfl, hS, by omega, by omega, by omega, by rw [hr2 0 (by omega), hr2 1 (by omega), hr2 2 (by omega)]; rfl⟩) (fun i j rs1 ls H locs hI ih => ?_)
  obtain ⟨hl, hP, hD, hS, hi1, hi2, hj9, hRR⟩ := hI
  have ih24 := ih
  refine lv_iload hx hb dX2_runRanks_24 (lv_at hl 5 rfl) ?_
  refine lv_iload hx hb dX2_runRanks_26 (lv_at hl 3 rfl) ?_
  refine ri_cgt (tgt := 118) hx hb dX2_runRanks_28 (by decide) (by omega) (by omega) (fun c28 => ?_) (fun c28 => ?_)
  · exact kqv (w1 := (fun u : (Nat → Int32) × (Nat → Nat) × (Nat → Nat) × Int32 => [(h0, .inr (2, [.ref s1, .ref s2, .ref s3, .int u.2.2.2])), (s1, .inl (cI, 5, .inl u.1)), (s2, .inl (cI, 8, .inl (fun zz => nI (u.2.1 zz)))), (s3, .inl (cI, 8, .inl (fun zz => nI (u.2.2.1 zz)))), (g0, .inr (1, [.ref q1, .ref q2, .ref q3, .int (nI rsv), .int (nI (P 0)), .long (lN (P 2 * 2116800))])), (q1, .inl (cL, 49, .inr (.inl w))), (q2, .inl (cL, 32, .inr (.inl b))), (q3, .inl (cL, 32, .inr (.inl f))), (pa, .inl (cI, 22, .inl (fun zz => nI (P zz))))])) Y hr hlocks hK hP hD hS [0, 1, 2, 3, 4, 5, 6, 7, 8] (by decide) (rs1, rr2_13, fr2_13, zit sd (P 0)) rfl (by rw [hRR, RR_end (Or.inl (by omega))]; exact ⟨rfl, rfl, rfl⟩) dX2_runRanks_118
  · refine lv_aload_n hx hb dX2_runRanks_31 rfl (lv_at hl 1 rfl) ?_
    refine lv_iload hx hb dX2_runRanks_32 (lv_at hl 5 rfl) ?_
    refine lv_iload hx hb dX2_runRanks_34 (lv_at hl 4 rfl) ?_
    refine kVl (As := [.int (nI i), .int (nI j)]) (rest := []) Y m_X1_valueBefore (c_X1_valueBefore l dC dI cL g0 q1 q2 q3 w b f rsv (P 0) (lN (P 2 * 2116800)) i j (by omega) (by omega) (by omega)) qm_X2_28 (kpV (ci := 1) hK hP hZ hS [4, 5, 6, 7] [1] rfl rfl 0 rfl rfl rfl) rfl hl.1 rfl (Nat.le_of_ble_eq_true rfl) dX2_runRanks_36 ⟨Nat.le_of_ble_eq_true rfl, Nat.le_of_ble_eq_true rfl⟩ ⟨Nat.zero_le _, Nat.zero_le _⟩ (fun r36 hr36 => ?_)
    obtain rfl : r36 = b (((i - 1) * 4) + j) := hr36
    refine rl_set (x' := lN (420 * VR P (P 0 + 1 - i) j)) (hb2 i j (by omega) (by omega) (by omega)) ?_
    have hvb := VR_le hPI (P 0 + 1 - i) j (by omega)
    refine lv_lconst (v := lN 0) hx hb dX2_runRanks_39 rfl ?_
    refine rl_eqn (tgt := 118) hx hb dX2_runRanks_40 dX2_runRanks_41 (by decide) (by omega) (by omega) (fun c40 => ?_) (fun c40 => ?_)
    · exact kqv (w1 := (fun u : (Nat → Int32) × (Nat → Nat) × (Nat → Nat) × Int32 => [(h0, .inr (2, [.ref s1, .ref s2, .ref s3, .int u.2.2.2])), (s1, .inl (cI, 5, .inl u.1)), (s2, .inl (cI, 8, .inl (fun zz => nI (u.2.1 zz)))), (s3, .inl (cI, 8, .inl (fun zz => nI (u.2.2.1 zz)))), (g0, .inr (1, [.ref q1, .ref q2, .ref q3, .int (nI rsv), .int (nI (P 0)), .long (lN (P 2 * 2116800))])), (q1, .inl (cL, 49, .inr (.inl w))), (q2, .inl (cL, 32, .inr (.inl b))), (q3, .inl (cL, 32, .inr (.inl f))), (pa, .inl (cI, 22, .inl (fun zz => nI (P zz))))])) Y hr hlocks hK hP hD hS [0, 1, 2, 3, 4, 5, 6, 7, 8] (by decide) (rs1, rr2_13, fr2_13, zit sd (P 0)) rfl (by rw [hRR, RR_end (Or.inr (by omega))]; exact ⟨rfl, rfl, rfl⟩) dX2_runRanks_118
    · have hv9 : VR P (P 0 + 1 - i) j ≠ 0 := fun q => c40 (by rw [q])
      have hj1 := VR_j1 hv9
      refine lv_aload_n hx hb dX2_runRanks_44 rfl (lv_at hl 0 rfl) ?_
      refine va_get (D := (dC, dI)) (ci := 2) (v := .ref s1) (C := RX2) (T := TX2) (N := 4) hx hb hts inlX2 hown hK hP 0 rfl rfl 0 (by decide) (hts _ qf_X2_11) (fun _ h9 => h9) rfl dX2_runRanks_45 ?_
      refine lv_iconst (v := nI 1) hx hb dX2_runRanks_48 (by decide) ?_
      refine lv_dup2_11 hx hb dX2_runRanks_49 rfl rfl ?_
      refine rr_ald hx hb hK hP 1 0 (F := rs1) rfl rfl dX2_runRanks_50 (by decide) (by omega) ?_
      refine lv_iconst (v := nI 1) hx hb dX2_runRanks_51 (by decide) ?_
      refine lv_iadd hx hb dX2_runRanks_52 ?_
      refine rr_ast hx hb hK hP hD hS 1 0 (F := rs1) rfl rfl dX2_runRanks_53 (by decide) (by omega) (fun H locs hP hD hS => ?_)
      have hP : va_P (dC, dI) vwCl [(h0, .inr (2, [.ref s1, .ref s2, .ref s3, .int (zit sd (P 0))])), (s1, .inl (cI, 5, .inl (upd rs1 1 ((rs1 1) + (nI 1))))), (s2, .inl (cI, 8, .inl (fun zz => nI (rr2_13 zz)))), (s3, .inl (cI, 8, .inl (fun zz => nI (fr2_13 zz)))), (g0, .inr (1, [.ref q1, .ref q2, .ref q3, .int (nI rsv), .int (nI (P 0)), .long (lN (P 2 * 2116800))])), (q1, .inl (cL, 49, .inr (.inl w))), (q2, .inl (cL, 32, .inr (.inl b))), (q3, .inl (cL, 32, .inr (.inl f))), (pa, .inl (cI, 22, .inl (fun zz => nI (P zz))))] H := hP
      have hD : va_D A [(h0, .inr (2, [.ref s1, .ref s2, .ref s3, .int (zit sd (P 0))])), (s1, .inl (cI, 5, .inl (upd rs1 1 ((rs1 1) + (nI 1))))), (s2, .inl (cI, 8, .inl (fun zz => nI (rr2_13 zz)))), (s3, .inl (cI, 8, .inl (fun zz => nI (fr2_13 zz)))), (g0, .inr (1, [.ref q1, .ref q2, .ref q3, .int (nI rsv), .int (nI (P 0)), .long (lN (P 2 * 2116800))])), (q1, .inl (cL, 49, .inr (.inl w))), (q2, .inl (cL, 32, .inr (.inl b))), (q3, .inl (cL, 32, .inr (.inl f))), (pa, .inl (cI, 22, .inl (fun zz => nI (P zz))))] := hD
      refine lv_aload_n hx hb dX2_runRanks_54 rfl (lv_at hl 1 rfl) ?_
      refine lv_iload hx hb dX2_runRanks_55 (lv_at hl 5 rfl) ?_
      refine lv_iload hx hb dX2_runRanks_57 (lv_at hl 4 rfl) ?_
      refine lv_aload_n hx hb dX2_runRanks_59 rfl (lv_at hl 0 rfl) ?_
      refine va_get (D := (dC, dI)) (ci := 2) (v := .ref s2) (C := RX2) (T := TX2) (N := 4) hx hb hts inlX2 hown hK hP 0 rfl rfl 1 (by decide) (hts _ qf_X2_15) (fun _ h9 => h9) rfl dX2_runRanks_60 ?_
      refine lv_iload hx hb dX2_runRanks_63 (lv_at hl 5 rfl) ?_
      refine ri_ald hx hb hK hP 2 0 (F := rr2_13) rfl rfl dX2_runRanks_65 (by decide) (by omega) ?_
      refine ri_set hx hb (x' := nI (rel sd i)) (congrArg nI (hr13 i (by omega) (by omega)).1) ?_
      have hrb := rel_b sd (i := i) (by omega)
      have htk := takes_c hPI (i := i) (j := j) (r := rel sd i) (by omega) (by omega) hj1 (by omega) hrb.1 hrb.2 hw hb2
      refine kVi (As := [.int (nI i), .int (nI j), .int (nI (rel sd i))]) (rest := []) Y m_X1_takes (c_X1_takes l dC dI cL g0 q1 q2 q3 w b f rsv (P 0) (lN (P 2 * 2116800)) i j (rel sd i) (by omega) (by omega) (by omega) (by omega) (by omega) (by omega)) qm_X2_34 (kpV (ci := 1) hK hP hZ hS [4, 5, 6, 7] [1] rfl rfl 0 rfl rfl rfl) rfl hl.1 rfl (Nat.le_of_ble_eq_true rfl) dX2_runRanks_66 ⟨Nat.le_of_ble_eq_true rfl, Nat.le_of_ble_eq_true rfl⟩ ⟨Nat.zero_le _, Nat.zero_le _⟩ (fun r66 hr66 => ?_)
      obtain rfl : r66 = b2i (b ((((i + 1) - 1) * 4) + j) ≤ w ((((i - 1) * 7) + (rel sd i)) - 1) + b ((((i + 1) - 1) * 4) + (j - 1))) := hr66
      refine ri_beq (tgt := 112) hx hb dX2_runRanks_69 (by decide) (fun c69 => ?_) (fun c69 => ?_)
      · refine lv_iinc (v := nI (i + 1)) (lv' := [(6, .int (nI (i + 1))), (0, .ref h0), (1, .ref g0), (2, .ref pa), (4, .int (nI (P 0))), (5, .int (nI j))]) hx hb dX2_runRanks_112 hl (k := 5) rfl (inc1 _) (by decide) rfl (fun ls hl => ?_)
        refine lv_goto (tgt := 24) hx hb dX2_runRanks_115 (by decide) ?_
        exact ih24 (i + 1) j (upd rs1 1 ((rs1 1) + (nI 1))) _ _ _ (by show _ < _; omega) (by exact ⟨lv_sub hl [1, 2, 3, 4, 5, 0] rfl, hP.sub [0, 1, 2, 3, 4, 5, 6, 7, 8] rfl, hD.sub [0, 1, 2, 3, 4, 5, 6, 7, 8] (by decide) rfl, hS, by omega, by omega, by omega, RR_p hRR (by omega) (by omega) hv9 (fun q => c69 (htk.mpr q))⟩)
      · refine lv_aload_n hx hb dX2_runRanks_72 rfl (lv_at hl 0 rfl) ?_
        refine va_get (D := (dC, dI)) (ci := 2) (v := .ref s1) (C := RX2) (T := TX2) (N := 4) hx hb hts inlX2 hown hK hP 0 rfl rfl 0 (by decide) (hts _ qf_X2_11) (fun _ h9 => h9) rfl dX2_runRanks_73 ?_
        refine lv_iconst (v := nI 0) hx hb dX2_runRanks_76 (by decide) ?_
        refine lv_dup2_11 hx hb dX2_runRanks_77 rfl rfl ?_
        refine rr_ald hx hb hK hP 1 0 (F := (upd rs1 1 ((rs1 1) + (nI 1)))) rfl rfl dX2_runRanks_78 (by decide) (by omega) ?_
        refine lv_aload_n hx hb dX2_runRanks_79 rfl (lv_at hl 2 rfl) ?_
        refine lv_iconst (v := nI 3) hx hb dX2_runRanks_80 (by decide) ?_
        refine lv_aload_n hx hb dX2_runRanks_81 rfl (lv_at hl 0 rfl) ?_
        refine va_get (D := (dC, dI)) (ci := 2) (v := .ref s3) (C := RX2) (T := TX2) (N := 4) hx hb hts inlX2 hown hK hP 0 rfl rfl 2 (by decide) (hts _ qf_X2_18) (fun _ h9 => h9) rfl dX2_runRanks_82 ?_
        refine lv_iload hx hb dX2_runRanks_85 (lv_at hl 5 rfl) ?_
        refine ri_ald hx hb hK hP 3 0 (F := fr2_13) rfl rfl dX2_runRanks_87 (by decide) (by omega) ?_
        refine ri_set hx hb (x' := nI (frk sd (P 0) i)) (congrArg nI (hr13 i (by omega) (by omega)).2) ?_
        have hfb := frk_b sd (P 0) i (by omega) (by omega)
        refine ri_add hx hb dX2_runRanks_88 ?_
        refine lv_iconst (v := nI 1) hx hb dX2_runRanks_89 (by decide) ?_
        refine ri_sub hx hb dX2_runRanks_90 (by omega) ?_
        refine ri_ald hx hb hK hP 8 0 (F := P) rfl rfl dX2_runRanks_91 (by decide) (by omega) ?_
        refine lv_iadd hx hb dX2_runRanks_92 ?_
        refine rr_ast hx hb hK hP hD hS 1 0 (F := (upd rs1 1 ((rs1 1) + (nI 1)))) rfl rfl dX2_runRanks_93 (by decide) (by omega) (fun H locs hP hD hS => ?_)
        have hP : va_P (dC, dI) vwCl [(h0, .inr (2, [.ref s1, .ref s2, .ref s3, .int (zit sd (P 0))])), (s1, .inl (cI, 5, .inl (upd (upd rs1 1 ((rs1 1) + (nI 1))) 0 (((upd rs1 1 ((rs1 1) + (nI 1))) 0) + (nI (P ((3 + (frk sd (P 0) i)) - 1))))))), (s2, .inl (cI, 8, .inl (fun zz => nI (rr2_13 zz)))), (s3, .inl (cI, 8, .inl (fun zz => nI (fr2_13 zz)))), (g0, .inr (1, [.ref q1, .ref q2, .ref q3, .int (nI rsv), .int (nI (P 0)), .long (lN (P 2 * 2116800))])), (q1, .inl (cL, 49, .inr (.inl w))), (q2, .inl (cL, 32, .inr (.inl b))), (q3, .inl (cL, 32, .inr (.inl f))), (pa, .inl (cI, 22, .inl (fun zz => nI (P zz))))] H := hP
        have hD : va_D A [(h0, .inr (2, [.ref s1, .ref s2, .ref s3, .int (zit sd (P 0))])), (s1, .inl (cI, 5, .inl (upd (upd rs1 1 ((rs1 1) + (nI 1))) 0 (((upd rs1 1 ((rs1 1) + (nI 1))) 0) + (nI (P ((3 + (frk sd (P 0) i)) - 1))))))), (s2, .inl (cI, 8, .inl (fun zz => nI (rr2_13 zz)))), (s3, .inl (cI, 8, .inl (fun zz => nI (fr2_13 zz)))), (g0, .inr (1, [.ref q1, .ref q2, .ref q3, .int (nI rsv), .int (nI (P 0)), .long (lN (P 2 * 2116800))])), (q1, .inl (cL, 49, .inr (.inl w))), (q2, .inl (cL, 32, .inr (.inl b))), (q3, .inl (cL, 32, .inr (.inl f))), (pa, .inl (cI, 22, .inl (fun zz => nI (P zz))))] := hD
        refine lv_aload_n hx hb dX2_runRanks_94 rfl (lv_at hl 0 rfl) ?_
        refine va_get (D := (dC, dI)) (ci := 2) (v := .ref s1) (C := RX2) (T := TX2) (N := 4) hx hb hts inlX2 hown hK hP 0 rfl rfl 0 (by decide) (hts _ qf_X2_11) (fun _ h9 => h9) rfl dX2_runRanks_95 ?_
        refine lv_iconst (v := nI 2) hx hb dX2_runRanks_98 (by decide) ?_
        refine lv_dup2_11 hx hb dX2_runRanks_99 rfl rfl ?_
        refine rr_ald hx hb hK hP 1 0 (F := (upd (upd rs1 1 ((rs1 1) + (nI 1))) 0 (((upd rs1 1 ((rs1 1) + (nI 1))) 0) + (nI (P ((3 + (frk sd (P 0) i)) - 1)))))) rfl rfl dX2_runRanks_100 (by decide) (by omega) ?_
        refine lv_iconst (v := nI 1) hx hb dX2_runRanks_101 (by decide) ?_
        refine lv_iload hx hb dX2_runRanks_102 (lv_at hl 5 rfl) ?_
        refine lv_iconst (v := nI 1) hx hb dX2_runRanks_104 (by decide) ?_
        refine ri_sub hx hb dX2_runRanks_105 (by omega) ?_
        refine lv_ishl hx hb dX2_runRanks_106 ?_
        refine lv_ior hx hb dX2_runRanks_107 ?_
        refine rr_ast hx hb hK hP hD hS 1 0 (F := (upd (upd rs1 1 ((rs1 1) + (nI 1))) 0 (((upd rs1 1 ((rs1 1) + (nI 1))) 0) + (nI (P ((3 + (frk sd (P 0) i)) - 1)))))) rfl rfl dX2_runRanks_108 (by decide) (by omega) (fun H locs hP hD hS => ?_)
        have hP : va_P (dC, dI) vwCl [(h0, .inr (2, [.ref s1, .ref s2, .ref s3, .int (zit sd (P 0))])), (s1, .inl (cI, 5, .inl (upd (upd (upd rs1 1 ((rs1 1) + (nI 1))) 0 (((upd rs1 1 ((rs1 1) + (nI 1))) 0) + (nI (P ((3 + (frk sd (P 0) i)) - 1))))) 2 (((upd (upd rs1 1 ((rs1 1) + (nI 1))) 0 (((upd rs1 1 ((rs1 1) + (nI 1))) 0) + (nI (P ((3 + (frk sd (P 0) i)) - 1))))) 2) ||| ((nI 1) <<< ((nI (i - 1)) &&& 31)))))), (s2, .inl (cI, 8, .inl (fun zz => nI (rr2_13 zz)))), (s3, .inl (cI, 8, .inl (fun zz => nI (fr2_13 zz)))), (g0, .inr (1, [.ref q1, .ref q2, .ref q3, .int (nI rsv), .int (nI (P 0)), .long (lN (P 2 * 2116800))])), (q1, .inl (cL, 49, .inr (.inl w))), (q2, .inl (cL, 32, .inr (.inl b))), (q3, .inl (cL, 32, .inr (.inl f))), (pa, .inl (cI, 22, .inl (fun zz => nI (P zz))))] H := hP
        have hD : va_D A [(h0, .inr (2, [.ref s1, .ref s2, .ref s3, .int (zit sd (P 0))])), (s1, .inl (cI, 5, .inl (upd (upd (upd rs1 1 ((rs1 1) + (nI 1))) 0 (((upd rs1 1 ((rs1 1) + (nI 1))) 0) + (nI (P ((3 + (frk sd (P 0) i)) - 1))))) 2 (((upd (upd rs1 1 ((rs1 1) + (nI 1))) 0 (((upd rs1 1 ((rs1 1) + (nI 1))) 0) + (nI (P ((3 + (frk sd (P 0) i)) - 1))))) 2) ||| ((nI 1) <<< ((nI (i - 1)) &&& 31)))))), (s2, .inl (cI, 8, .inl (fun zz => nI (rr2_13 zz)))), (s3, .inl (cI, 8, .inl (fun zz => nI (fr2_13 zz)))), (g0, .inr (1, [.ref q1, .ref q2, .ref q3, .int (nI rsv), .int (nI (P 0)), .long (lN (P 2 * 2116800))])), (q1, .inl (cL, 49, .inr (.inl w))), (q2, .inl (cL, 32, .inr (.inl b))), (q3, .inl (cL, 32, .inr (.inl f))), (pa, .inl (cI, 22, .inl (fun zz => nI (P zz))))] := hD
        refine lv_iinc (v := nI (j - 1)) (lv' := [(5, .int (nI (j - 1))), (0, .ref h0), (1, .ref g0), (2, .ref pa), (4, .int (nI (P 0))), (6, .int (nI i))]) hx hb dX2_runRanks_109 hl (k := 4) rfl (dec1 (by omega)) (by decide) rfl (fun ls hl => ?_)
        refine lv_iinc (v := nI (i + 1)) (lv' := [(6, .int (nI (i + 1))), (5, .int (nI (j - 1))), (0, .ref h0), (1, .ref g0), (2, .ref pa), (4, .int (nI (P 0)))]) hx hb dX2_runRanks_112 hl (k := 5) rfl (inc1 _) (by decide) rfl (fun ls hl => ?_)
        refine lv_goto (tgt := 24) hx hb dX2_runRanks_115 (by decide) ?_
        exact ih24 (i + 1) (j - 1) (upd (upd (upd rs1 1 ((rs1 1) + (nI 1))) 0 (((upd rs1 1 ((rs1 1) + (nI 1))) 0) + (nI (P ((3 + (frk sd (P 0) i)) - 1))))) 2 (((upd (upd rs1 1 ((rs1 1) + (nI 1))) 0 (((upd rs1 1 ((rs1 1) + (nI 1))) 0) + (nI (P ((3 + (frk sd (P 0) i)) - 1))))) 2) ||| ((nI 1) <<< ((nI (i - 1)) &&& 31)))) _ _ _ (by show _ < _; omega) (by exact ⟨lv_sub hl [2, 3, 4, 5, 1, 0] rfl, hP.sub [0, 1, 2, 3, 4, 5, 6, 7, 8] rfl, hD.sub [0, 1, 2, 3, 4, 5, 6, 7, 8] (by decide) rfl, hS, by omega, by omega, by omega, RR_t hRR (by omega) (by omega) hv9 (htk.mp c69)⟩)
