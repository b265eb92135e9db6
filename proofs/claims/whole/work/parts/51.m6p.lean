set_option maxHeartbeats 4000000 in
set_option maxRecDepth 100000 in
theorem c_X6_drawsLevel (l : Launch) (dC : Nat → ClassId) (dI : Nat → Nat → Nat) (sz : Nat) (cI cL : ClassId) (m0 m1 m2 m3 m4 m5 m6 m7 m8 m9 m10 m11 m12 : Nat) (bm ty sp fa fp kn lf yo ol : Nat) (un hh : Int64) (dr : Int32) (P : Nat → Nat) (hPI : PI P) : Met l yX6_drawsLevel (kw yX6_drawsLevel cX6_drawsLevel 4 (some .int)) (kR 1 20) (kPq (dC, dI) [.ref m0] sz [(m0, .inr (6, [.ref m1, .ref m2, .int (nI bm), .long un, .ref m3, .int (nI ty), .ref m4, .int (nI sp), .int (nI fa), .int (nI fp), .int (nI kn), .ref m5, .ref m6, .ref m7, .ref m8, .ref m9, .int dr, .ref m10, .ref m11, .int (nI lf), .int (nI yo), .int (nI ol), .ref m12, .long hh])), (m1, .inl (cI, 22, .inl (fun zz => nI (P zz))))] [(cI, .int)]) (va_Qi (fun (res : Int32) (u : Unit) => res = nI (lvl P (dn (dz dr) % 10))) (fun u : Unit => kB (dC, dI) [(cI, .int)] (va_A [(m0, .inr (6, [.ref m1, .ref m2, .int (nI bm), .long un, .ref m3, .int (nI ty), .ref m4, .int (nI sp), .int (nI fa), .int (nI fp), .int (nI kn), .ref m5, .ref m6, .ref m7, .ref m8, .ref m9, .int dr, .ref m10, .ref m11, .int (nI lf), .int (nI yo), .int (nI ol), .ref m12, .long hh])), (m1, .inl (cI, 22, .inl (fun zz => nI (P zz))))] sz) ([(m0, .inr (6, [.ref m1, .ref m2, .int (nI bm), .long un, .ref m3, .int (nI ty), .ref m4, .int (nI sp), .int (nI fa), .int (nI fp), .int (nI kn), .ref m5, .ref m6, .ref m7, .ref m8, .ref m9, .int (dz dr), .ref m10, .ref m11, .int (nI lf), .int (nI yo), .int (nI ol), .ref m12, .long hh])), (m1, .inl (cI, 22, .inl (fun zz => nI (P zz))))])) (va_A [(m0, .inr (6, [.ref m1, .ref m2, .int (nI bm), .long un, .ref m3, .int (nI ty), .ref m4, .int (nI sp), .int (nI fa), .int (nI fp), .int (nI kn), .ref m5, .ref m6, .ref m7, .ref m8, .ref m9, .int dr, .ref m10, .ref m11, .int (nI lf), .int (nI yo), .int (nI ol), .ref m12, .long hh])), (m1, .inl (cI, 22, .inl (fun zz => nI (P zz))))] sz)) 0 0 (va_A [(m0, .inr (6, [.ref m1, .ref m2, .int (nI bm), .long un, .ref m3, .int (nI ty), .ref m4, .int (nI sp), .int (nI fa), .int (nI fp), .int (nI kn), .ref m5, .ref m6, .ref m7, .ref m8, .ref m9, .int dr, .ref m10, .ref m11, .int (nI lf), .int (nI yo), .int (nI ol), .ref m12, .long hh])), (m1, .inl (cI, 22, .inl (fun zz => nI (P zz))))] sz) := by
  refine kmet (by decide) ?_
  intro p e s m args below meth c Y hr hlocks hin hv
  obtain ⟨rfl, A, hAe, hsz, hP, hK, hD, hZ, hA⟩ := kinQ hv
  rw [hAe]
  have hS : va_S A s.heap s.heap [] := va_S.rf
  have hx := Y.1
  have hb := Y.2.1
  have hml := Y.2.2.1
  have hown := Y.2.2.2.1
  have hts := Y.2.2.2.2
  have hl := lv_entry ([.ref m0]) (n := 4) (Nat.le_of_ble_eq_true rfl)
  rw [lg_entry_eq]
  generalize (lg_sl ([.ref m0]) ++ List.replicate (4 - (lg_sl ([.ref m0])).length) Slot.unset).toArray = ls at hl ⊢
  have hl : lv_has ls 4 [(0, .ref m0)] := hl
  have hw5 := hPI.2.2.2.2.1
  have hw15 : P 15 ≤ 10 := hw5 0 (by omega)
  have hw16 : P 16 ≤ 10 := hw5 1 (by omega)
  have hw17 : P 17 ≤ 10 := hw5 2 (by omega)
  have hw18 : P 18 ≤ 10 := hw5 3 (by omega)
  have hw19 : P 19 ≤ 10 := hw5 4 (by omega)
  have hws := hPI.2.2.2.2.2.1
  refine lv_aload_n hx hb dX6_drawsLevel_0 rfl (lv_at hl 0 rfl) ?_
  refine kQi (As := []) (rest := []) (wr := [(m1, .inl (cI, 22, .inl (fun zz => nI (P zz))))]) Y m_X6_draws (c_X6_draws l dC dI _ cI cL m0 m1 m2 m3 m4 m5 m6 m7 m8 m9 m10 m11 m12 bm ty sp fa fp kn lf yo ol un hh dr ) qm_X6_224 hP hD hS hA [0] [1] rfl rfl (by decide) (by decide) (kqV (ci := 6) hK hP hD hZ hS hA [0] [] rfl (by decide) rfl 0 rfl rfl rfl) rfl hl.1 rfl (Nat.le_of_ble_eq_true rfl) dX6_drawsLevel_1 ⟨Nat.le_of_ble_eq_true rfl, Nat.le_of_ble_eq_true rfl⟩ ⟨Nat.zero_le _, Nat.zero_le _⟩ (fun r1 u1 H locs hr1 hP hD hS => ?_)
  have hP : va_P (dC, dI) vwCl [(m1, .inl (cI, 22, .inl (fun zz => nI (P zz)))), (m0, .inr (6, [.ref m1, .ref m2, .int (nI bm), .long un, .ref m3, .int (nI ty), .ref m4, .int (nI sp), .int (nI fa), .int (nI fp), .int (nI kn), .ref m5, .ref m6, .ref m7, .ref m8, .ref m9, .int (dz dr), .ref m10, .ref m11, .int (nI lf), .int (nI yo), .int (nI ol), .ref m12, .long hh]))] H := hP
  have hD : va_D A [(m1, .inl (cI, 22, .inl (fun zz => nI (P zz)))), (m0, .inr (6, [.ref m1, .ref m2, .int (nI bm), .long un, .ref m3, .int (nI ty), .ref m4, .int (nI sp), .int (nI fa), .int (nI fp), .int (nI kn), .ref m5, .ref m6, .ref m7, .ref m8, .ref m9, .int (dz dr), .ref m10, .ref m11, .int (nI lf), .int (nI yo), .int (nI ol), .ref m12, .long hh]))] := hD
  obtain rfl : r1 = nI (dn (dz dr)) := hr1
  have hdb := dn_b (dz dr)
  refine lv_bipush (v := nI 10) hx hb dX6_drawsLevel_4 (by decide) ?_
  refine ri_rem hx hb dX6_drawsLevel_6 (by omega) (by omega) (by omega) ?_
  refine lv_istore_n (lv' := [(1, .int (nI ((dn (dz dr)) % 10))), (0, .ref m0)]) hx hb dX6_drawsLevel_7 rfl hl (by decide) rfl (fun ls hl => ?_)
  refine lv_iconst (v := nI 0) hx hb dX6_drawsLevel_8 (by decide) ?_
  refine lv_istore_n (lv' := [(2, .int (nI 0)), (1, .int (nI ((dn (dz dr)) % 10))), (0, .ref m0)]) hx hb dX6_drawsLevel_9 rfl hl (by decide) rfl (fun ls hl => ?_)
  refine lv_aload_n hx hb dX6_drawsLevel_10 rfl (lv_at hl 2 rfl) ?_
  refine va_get (D := (dC, dI)) (ci := 6) (v := .ref m1) (C := RX6) (T := TX6) (N := 24) hx hb hts inlX6 hown hK hP 1 rfl rfl 0 (by decide) (hts _ qf_X6_7) (fun _ h9 => h9) rfl dX6_drawsLevel_11 ?_
  refine lv_bipush (v := nI 15) hx hb dX6_drawsLevel_14 (by decide) ?_
  refine ri_ald hx hb hK hP 0 0 (F := P) rfl rfl dX6_drawsLevel_16 (by decide) (by omega) ?_
  refine lv_istore_n (lv' := [(3, .int (nI (P 15))), (2, .int (nI 0)), (1, .int (nI ((dn (dz dr)) % 10))), (0, .ref m0)]) hx hb dX6_drawsLevel_17 rfl hl (by decide) rfl (fun ls hl => ?_)
  refine lv_iload_n hx hb dX6_drawsLevel_18 rfl (lv_at hl 2 rfl) ?_
  refine lv_iload_n hx hb dX6_drawsLevel_19 rfl (lv_at hl 0 rfl) ?_
  refine ri_clt (tgt := 41) hx hb dX6_drawsLevel_20 (by decide) (by omega) (by omega) (fun c20 => ?_) (fun c20 => ?_)
  · refine lv_iload_n hx hb dX6_drawsLevel_41 rfl (lv_at hl 1 rfl) ?_
    exact kqi (w1 := (fun u : Unit => [(m0, .inr (6, [.ref m1, .ref m2, .int (nI bm), .long un, .ref m3, .int (nI ty), .ref m4, .int (nI sp), .int (nI fa), .int (nI fp), .int (nI kn), .ref m5, .ref m6, .ref m7, .ref m8, .ref m9, .int (dz dr), .ref m10, .ref m11, .int (nI lf), .int (nI yo), .int (nI ol), .ref m12, .long hh])), (m1, .inl (cI, 22, .inl (fun zz => nI (P zz))))])) (v := nI 0) Y hr hlocks hK hP hD hS [1, 0] (by decide) () rfl (congrArg nI (by unfold lvl; rw [if_pos (by omega)])) dX6_drawsLevel_42
  · refine lv_iinc (v := nI 1) (lv' := [(2, .int (nI 1)), (3, .int (nI (P 15))), (1, .int (nI ((dn (dz dr)) % 10))), (0, .ref m0)]) hx hb dX6_drawsLevel_23 hl (k := 1) rfl (by decide) (by decide) rfl (fun ls hl => ?_)
    refine lv_iload_n hx hb dX6_drawsLevel_26 rfl (lv_at hl 1 rfl) ?_
    refine lv_aload_n hx hb dX6_drawsLevel_27 rfl (lv_at hl 3 rfl) ?_
    refine va_get (D := (dC, dI)) (ci := 6) (v := .ref m1) (C := RX6) (T := TX6) (N := 24) hx hb hts inlX6 hown hK hP 1 rfl rfl 0 (by decide) (hts _ qf_X6_7) (fun _ h9 => h9) rfl dX6_drawsLevel_28 ?_
    refine lv_bipush (v := nI 15) hx hb dX6_drawsLevel_31 (by decide) ?_
    refine lv_iload_n hx hb dX6_drawsLevel_33 rfl (lv_at hl 0 rfl) ?_
    refine ri_add hx hb dX6_drawsLevel_34 ?_
    refine ri_ald hx hb hK hP 0 0 (F := P) rfl rfl dX6_drawsLevel_35 (by decide) (by omega) ?_
    refine ri_add hx hb dX6_drawsLevel_36 ?_
    refine lv_istore_n (lv' := [(3, .int (nI ((P 15) + (P 16)))), (2, .int (nI 1)), (1, .int (nI ((dn (dz dr)) % 10))), (0, .ref m0)]) hx hb dX6_drawsLevel_37 rfl hl (by decide) rfl (fun ls hl => ?_)
    refine lv_goto (tgt := 18) hx hb dX6_drawsLevel_38 (by decide) ?_
    refine lv_iload_n hx hb dX6_drawsLevel_18 rfl (lv_at hl 2 rfl) ?_
    refine lv_iload_n hx hb dX6_drawsLevel_19 rfl (lv_at hl 0 rfl) ?_
    refine ri_clt (tgt := 41) hx hb dX6_drawsLevel_20 (by decide) (by omega) (by omega) (fun c20_1 => ?_) (fun c20_1 => ?_)
    · refine lv_iload_n hx hb dX6_drawsLevel_41 rfl (lv_at hl 1 rfl) ?_
      exact kqi (w1 := (fun u : Unit => [(m0, .inr (6, [.ref m1, .ref m2, .int (nI bm), .long un, .ref m3, .int (nI ty), .ref m4, .int (nI sp), .int (nI fa), .int (nI fp), .int (nI kn), .ref m5, .ref m6, .ref m7, .ref m8, .ref m9, .int (dz dr), .ref m10, .ref m11, .int (nI lf), .int (nI yo), .int (nI ol), .ref m12, .long hh])), (m1, .inl (cI, 22, .inl (fun zz => nI (P zz))))])) (v := nI 1) Y hr hlocks hK hP hD hS [1, 0] (by decide) () rfl (congrArg nI (by unfold lvl; rw [if_neg (by omega), if_pos (by omega)])) dX6_drawsLevel_42
    · refine lv_iinc (v := nI 2) (lv' := [(2, .int (nI 2)), (3, .int (nI ((P 15) + (P 16)))), (1, .int (nI ((dn (dz dr)) % 10))), (0, .ref m0)]) hx hb dX6_drawsLevel_23 hl (k := 1) rfl (by decide) (by decide) rfl (fun ls hl => ?_)
      refine lv_iload_n hx hb dX6_drawsLevel_26 rfl (lv_at hl 1 rfl) ?_
      refine lv_aload_n hx hb dX6_drawsLevel_27 rfl (lv_at hl 3 rfl) ?_
      refine va_get (D := (dC, dI)) (ci := 6) (v := .ref m1) (C := RX6) (T := TX6) (N := 24) hx hb hts inlX6 hown hK hP 1 rfl rfl 0 (by decide) (hts _ qf_X6_7) (fun _ h9 => h9) rfl dX6_drawsLevel_28 ?_
      refine lv_bipush (v := nI 15) hx hb dX6_drawsLevel_31 (by decide) ?_
      refine lv_iload_n hx hb dX6_drawsLevel_33 rfl (lv_at hl 0 rfl) ?_
      refine ri_add hx hb dX6_drawsLevel_34 ?_
      refine ri_ald hx hb hK hP 0 0 (F := P) rfl rfl dX6_drawsLevel_35 (by decide) (by omega) ?_
      refine ri_add hx hb dX6_drawsLevel_36 ?_
      refine lv_istore_n (lv' := [(3, .int (nI (((P 15) + (P 16)) + (P 17)))), (2, .int (nI 2)), (1, .int (nI ((dn (dz dr)) % 10))), (0, .ref m0)]) hx hb dX6_drawsLevel_37 rfl hl (by decide) rfl (fun ls hl => ?_)
      refine lv_goto (tgt := 18) hx hb dX6_drawsLevel_38 (by decide) ?_
      refine lv_iload_n hx hb dX6_drawsLevel_18 rfl (lv_at hl 2 rfl) ?_
      refine lv_iload_n hx hb dX6_drawsLevel_19 rfl (lv_at hl 0 rfl) ?_
      refine ri_clt (tgt := 41) hx hb dX6_drawsLevel_20 (by decide) (by omega) (by omega) (fun c20_2 => ?_) (fun c20_2 => ?_)
      · refine lv_iload_n hx hb dX6_drawsLevel_41 rfl (lv_at hl 1 rfl) ?_
        exact kqi (w1 := (fun u : Unit => [(m0, .inr (6, [.ref m1, .ref m2, .int (nI bm), .long un, .ref m3, .int (nI ty), .ref m4, .int (nI sp), .int (nI fa), .int (nI fp), .int (nI kn), .ref m5, .ref m6, .ref m7, .ref m8, .ref m9, .int (dz dr), .ref m10, .ref m11, .int (nI lf), .int (nI yo), .int (nI ol), .ref m12, .long hh])), (m1, .inl (cI, 22, .inl (fun zz => nI (P zz))))])) (v := nI 2) Y hr hlocks hK hP hD hS [1, 0] (by decide) () rfl (congrArg nI (by unfold lvl; rw [if_neg (by omega), if_neg (by omega), if_pos (by omega)])) dX6_drawsLevel_42
      · refine lv_iinc (v := nI 3) (lv' := [(2, .int (nI 3)), (3, .int (nI (((P 15) + (P 16)) + (P 17)))), (1, .int (nI ((dn (dz dr)) % 10))), (0, .ref m0)]) hx hb dX6_drawsLevel_23 hl (k := 1) rfl (by decide) (by decide) rfl (fun ls hl => ?_)
        refine lv_iload_n hx hb dX6_drawsLevel_26 rfl (lv_at hl 1 rfl) ?_
        refine lv_aload_n hx hb dX6_drawsLevel_27 rfl (lv_at hl 3 rfl) ?_
        refine va_get (D := (dC, dI)) (ci := 6) (v := .ref m1) (C := RX6) (T := TX6) (N := 24) hx hb hts inlX6 hown hK hP 1 rfl rfl 0 (by decide) (hts _ qf_X6_7) (fun _ h9 => h9) rfl dX6_drawsLevel_28 ?_
        refine lv_bipush (v := nI 15) hx hb dX6_drawsLevel_31 (by decide) ?_
        refine lv_iload_n hx hb dX6_drawsLevel_33 rfl (lv_at hl 0 rfl) ?_
        refine ri_add hx hb dX6_drawsLevel_34 ?_
        refine ri_ald hx hb hK hP 0 0 (F := P) rfl rfl dX6_drawsLevel_35 (by decide) (by omega) ?_
        refine ri_add hx hb dX6_drawsLevel_36 ?_
        refine lv_istore_n (lv' := [(3, .int (nI ((((P 15) + (P 16)) + (P 17)) + (P 18)))), (2, .int (nI 3)), (1, .int (nI ((dn (dz dr)) % 10))), (0, .ref m0)]) hx hb dX6_drawsLevel_37 rfl hl (by decide) rfl (fun ls hl => ?_)
        refine lv_goto (tgt := 18) hx hb dX6_drawsLevel_38 (by decide) ?_
        refine lv_iload_n hx hb dX6_drawsLevel_18 rfl (lv_at hl 2 rfl) ?_
        refine lv_iload_n hx hb dX6_drawsLevel_19 rfl (lv_at hl 0 rfl) ?_
        refine ri_clt (tgt := 41) hx hb dX6_drawsLevel_20 (by decide) (by omega) (by omega) (fun c20_3 => ?_) (fun c20_3 => ?_)
        · refine lv_iload_n hx hb dX6_drawsLevel_41 rfl (lv_at hl 1 rfl) ?_
          exact kqi (w1 := (fun u : Unit => [(m0, .inr (6, [.ref m1, .ref m2, .int (nI bm), .long un, .ref m3, .int (nI ty), .ref m4, .int (nI sp), .int (nI fa), .int (nI fp), .int (nI kn), .ref m5, .ref m6, .ref m7, .ref m8, .ref m9, .int (dz dr), .ref m10, .ref m11, .int (nI lf), .int (nI yo), .int (nI ol), .ref m12, .long hh])), (m1, .inl (cI, 22, .inl (fun zz => nI (P zz))))])) (v := nI 3) Y hr hlocks hK hP hD hS [1, 0] (by decide) () rfl (congrArg nI (by unfold lvl; rw [if_neg (by omega), if_neg (by omega), if_neg (by omega), if_pos (by omega)])) dX6_drawsLevel_42
        · refine lv_iinc (v := nI 4) (lv' := [(2, .int (nI 4)), (3, .int (nI ((((P 15) + (P 16)) + (P 17)) + (P 18)))), (1, .int (nI ((dn (dz dr)) % 10))), (0, .ref m0)]) hx hb dX6_drawsLevel_23 hl (k := 1) rfl (by decide) (by decide) rfl (fun ls hl => ?_)
          refine lv_iload_n hx hb dX6_drawsLevel_26 rfl (lv_at hl 1 rfl) ?_
          refine lv_aload_n hx hb dX6_drawsLevel_27 rfl (lv_at hl 3 rfl) ?_
          refine va_get (D := (dC, dI)) (ci := 6) (v := .ref m1) (C := RX6) (T := TX6) (N := 24) hx hb hts inlX6 hown hK hP 1 rfl rfl 0 (by decide) (hts _ qf_X6_7) (fun _ h9 => h9) rfl dX6_drawsLevel_28 ?_
          refine lv_bipush (v := nI 15) hx hb dX6_drawsLevel_31 (by decide) ?_
          refine lv_iload_n hx hb dX6_drawsLevel_33 rfl (lv_at hl 0 rfl) ?_
          refine ri_add hx hb dX6_drawsLevel_34 ?_
          refine ri_ald hx hb hK hP 0 0 (F := P) rfl rfl dX6_drawsLevel_35 (by decide) (by omega) ?_
          refine ri_add hx hb dX6_drawsLevel_36 ?_
          refine lv_istore_n (lv' := [(3, .int (nI (((((P 15) + (P 16)) + (P 17)) + (P 18)) + (P 19)))), (2, .int (nI 4)), (1, .int (nI ((dn (dz dr)) % 10))), (0, .ref m0)]) hx hb dX6_drawsLevel_37 rfl hl (by decide) rfl (fun ls hl => ?_)
          refine lv_goto (tgt := 18) hx hb dX6_drawsLevel_38 (by decide) ?_
          refine lv_iload_n hx hb dX6_drawsLevel_18 rfl (lv_at hl 2 rfl) ?_
          refine lv_iload_n hx hb dX6_drawsLevel_19 rfl (lv_at hl 0 rfl) ?_
          refine ri_clt (tgt := 41) hx hb dX6_drawsLevel_20 (by decide) (by omega) (by omega) (fun c20_4 => ?_) (fun c20_4 => ?_)
          · refine lv_iload_n hx hb dX6_drawsLevel_41 rfl (lv_at hl 1 rfl) ?_
            exact kqi (w1 := (fun u : Unit => [(m0, .inr (6, [.ref m1, .ref m2, .int (nI bm), .long un, .ref m3, .int (nI ty), .ref m4, .int (nI sp), .int (nI fa), .int (nI fp), .int (nI kn), .ref m5, .ref m6, .ref m7, .ref m8, .ref m9, .int (dz dr), .ref m10, .ref m11, .int (nI lf), .int (nI yo), .int (nI ol), .ref m12, .long hh])), (m1, .inl (cI, 22, .inl (fun zz => nI (P zz))))])) (v := nI 4) Y hr hlocks hK hP hD hS [1, 0] (by decide) () rfl (congrArg nI (by unfold lvl; rw [if_neg (by omega), if_neg (by omega), if_neg (by omega), if_neg (by omega)])) dX6_drawsLevel_42
          · exact absurd hws (by omega)
