set_option maxHeartbeats 4000000 in
set_option maxRecDepth 100000 in
theorem c_X6_begins (l : Launch) (dC : Nat → ClassId) (dI : Nat → Nat → Nat) (sz : Nat) (cI cL : ClassId) (m0 m1 m2 m3 m4 m5 m6 m7 m8 m9 m10 m11 m12 : Nat) (bm ty sp fa fp kn lf yo ol : Nat) (un hh : Int64) (dr : Int32) (P hs : Nat → Nat) (h1 : bm ≤ 8) : Met l yX6_begins (kw yX6_begins cX6_begins 2 none) (kR 0 0) (kPq (dC, dI) [.ref m0] sz [(m0, .inr (6, [.ref m1, .ref m2, .int (nI bm), .long un, .ref m3, .int (nI ty), .ref m4, .int (nI sp), .int (nI fa), .int (nI fp), .int (nI kn), .ref m5, .ref m6, .ref m7, .ref m8, .ref m9, .int dr, .ref m10, .ref m11, .int (nI lf), .int (nI yo), .int (nI ol), .ref m12, .long hh])), (m1, .inl (cI, 22, .inl (fun zz => nI (P zz)))), (m2, .inl (cI, 176, .inl (fun zz => nI (hs zz))))] [(cI, .int)]) (va_Qv (fun u : Unit => True) (fun u : Unit => kB (dC, dI) [(cI, .int)] (va_A [(m0, .inr (6, [.ref m1, .ref m2, .int (nI bm), .long un, .ref m3, .int (nI ty), .ref m4, .int (nI sp), .int (nI fa), .int (nI fp), .int (nI kn), .ref m5, .ref m6, .ref m7, .ref m8, .ref m9, .int dr, .ref m10, .ref m11, .int (nI lf), .int (nI yo), .int (nI ol), .ref m12, .long hh])), (m1, .inl (cI, 22, .inl (fun zz => nI (P zz)))), (m2, .inl (cI, 176, .inl (fun zz => nI (hs zz))))] sz) ([(m0, .inr (6, [.ref m1, .ref m2, .int (nI (recN bm)), .long un, .ref m3, .int (nI ty), .ref m4, .int (nI sp), .int (nI fa), .int (nI fp), .int (nI 0), .ref m5, .ref m6, .ref m7, .ref m8, .ref m9, .int dr, .ref m10, .ref m11, .int (nI lf), .int (nI yo), .int (nI ol), .ref m12, .long hh])), (m1, .inl (cI, 22, .inl (fun zz => nI (P zz)))), (m2, .inl (cI, 176, .inl (fun zz => nI (recS P hs bm zz))))])) (va_A [(m0, .inr (6, [.ref m1, .ref m2, .int (nI bm), .long un, .ref m3, .int (nI ty), .ref m4, .int (nI sp), .int (nI fa), .int (nI fp), .int (nI kn), .ref m5, .ref m6, .ref m7, .ref m8, .ref m9, .int dr, .ref m10, .ref m11, .int (nI lf), .int (nI yo), .int (nI ol), .ref m12, .long hh])), (m1, .inl (cI, 22, .inl (fun zz => nI (P zz)))), (m2, .inl (cI, 176, .inl (fun zz => nI (hs zz))))] sz)) 0 0 (va_A [(m0, .inr (6, [.ref m1, .ref m2, .int (nI bm), .long un, .ref m3, .int (nI ty), .ref m4, .int (nI sp), .int (nI fa), .int (nI fp), .int (nI kn), .ref m5, .ref m6, .ref m7, .ref m8, .ref m9, .int dr, .ref m10, .ref m11, .int (nI lf), .int (nI yo), .int (nI ol), .ref m12, .long hh])), (m1, .inl (cI, 22, .inl (fun zz => nI (P zz)))), (m2, .inl (cI, 176, .inl (fun zz => nI (hs zz))))] sz) := by
  refine kmet (by decide) ?_
  intro p e s m args below meth c Y hr hlocks hin hv
  obtain ⟨rfl, A, hAe, hsz, hP, hK, hD, hZ, hA⟩ := kinQ hv
  rw [hAe]
  have hS : va_S A s.heap s.heap [] := va_S.rf
  have hx := Y.1
  have hb := Y.2.1
  have hml := Y.2.2.1
  have hown := Y.2.2.2.1
  have hts := Y.2.2.2.2
  have hl := lv_entry ([.ref m0]) (n := 2) (Nat.le_of_ble_eq_true rfl)
  rw [lg_entry_eq]
  generalize (lg_sl ([.ref m0]) ++ List.replicate (2 - (lg_sl ([.ref m0])).length) Slot.unset).toArray = ls at hl ⊢
  have hl : lv_has ls 2 [(0, .ref m0)] := hl
  refine lv_aload_n hx hb dX6_begins_0 rfl (lv_at hl 0 rfl) ?_
  refine va_get (D := (dC, dI)) (ci := 6) (v := .int (nI bm)) (C := RX6) (T := TX6) (N := 24) hx hb hts inlX6 hown hK hP 0 rfl rfl 2 (by decide) (hts _ qf_X6_51) (fun _ h9 => h9) rfl dX6_begins_1 ?_
  refine lv_bipush (v := nI 8) hx hb dX6_begins_4 (by decide) ?_
  refine ri_cne (tgt := 49) hx hb dX6_begins_6 (by decide) (by omega) (by omega) (fun c6 => ?_) (fun c6 => ?_)
  · have hB : hs = recB hs bm := (if_neg c6).symm
    have hM : bm = recM bm := (if_neg c6).symm
    refine lv_iconst (v := nI 0) hx hb dX6_begins_49 (by decide) ?_
    refine lv_istore_n (lv' := [(1, .int (nI 0)), (0, .ref m0)]) hx hb dX6_begins_50 rfl hl (by decide) rfl (fun ls hl => ?_)
    refine wl2 (fun (i8 : Nat) (h8 : Nat → Nat) => 22 - i8) (fun (i8 : Nat) (h8 : Nat → Nat) (ls : Array Slot) (H : Heap) (locs : List Loc) => lv_has ls 2 [(0, .ref m0), (1, .int (nI i8))] ∧ va_P (dC, dI) vwCl [(m0, .inr (6, [.ref m1, .ref m2, .int (nI bm), .long un, .ref m3, .int (nI ty), .ref m4, .int (nI sp), .int (nI fa), .int (nI fp), .int (nI kn), .ref m5, .ref m6, .ref m7, .ref m8, .ref m9, .int dr, .ref m10, .ref m11, .int (nI lf), .int (nI yo), .int (nI ol), .ref m12, .long hh])), (m1, .inl (cI, 22, .inl (fun zz => nI (P zz)))), (m2, .inl (cI, 176, .inl (fun zz => nI (h8 zz))))] H ∧ va_D A [(m0, .inr (6, [.ref m1, .ref m2, .int (nI bm), .long un, .ref m3, .int (nI ty), .ref m4, .int (nI sp), .int (nI fa), .int (nI fp), .int (nI kn), .ref m5, .ref m6, .ref m7, .ref m8, .ref m9, .int dr, .ref m10, .ref m11, .int (nI lf), .int (nI yo), .int (nI ol), .ref m12, .long hh])), (m1, .inl (cI, 22, .inl (fun zz => nI (P zz)))), (m2, .inl (cI, 176, .inl (fun zz => nI (h8 zz))))] ∧ va_S A s.heap H locs ∧ (i8 ≤ 22 ∧ h8 = va_cpy P (recB hs bm) 0 (recM bm * 22) i8)) 0 hs (by exact ⟨lv_sub hl [1, 0] rfl, hP.sub [0, 1, 2] rfl, hD.sub [0, 1, 2] (by decide) rfl, hS, by omega, by rw [cpy_0]; exact hB⟩) (fun i8 h8 ls H locs hI ih => ?_)
    obtain ⟨hl, hP, hD, hS, hi8, hq8⟩ := hI
    have ih51 := ih
    refine lv_iload_n hx hb dX6_begins_51 rfl (lv_at hl 1 rfl) ?_
    refine lv_bipush (v := nI 22) hx hb dX6_begins_52 (by decide) ?_
    refine ri_cge (tgt := 83) hx hb dX6_begins_54 (by decide) (by omega) (by omega) (fun c54 => ?_) (fun c54 => ?_)
    · refine lv_aload_n hx hb dX6_begins_83 rfl (lv_at hl 0 rfl) ?_
      refine lv_dup hx hb dX6_begins_84 rfl ?_
      refine va_get (D := (dC, dI)) (ci := 6) (v := .int (nI bm)) (C := RX6) (T := TX6) (N := 24) hx hb hts inlX6 hown hK hP 0 rfl rfl 2 (by decide) (hts _ qf_X6_51) (fun _ h9 => h9) rfl dX6_begins_85 ?_
      refine lv_iconst (v := nI 1) hx hb dX6_begins_88 (by decide) ?_
      refine ri_add hx hb dX6_begins_89 ?_
      refine va_put (D := (dC, dI)) (ci := 6) (v := .int (nI (bm + 1))) (ty := .int) (C := RX6) (T := TX6) (N := 24) hx hb hts inlX6 tyX6 tyX6_ok nmX6 hown hK hP hD hS 0 rfl rfl 2 (by decide) (hts _ qf_X6_51) (fun _ h9 => h9) rfl (by decide +kernel) rfl rfl (Nat.le_of_ble_eq_true rfl) dX6_begins_90 (fun H locs hP hD hS => ?_)
      have hP : va_P (dC, dI) vwCl [(m0, .inr (6, [.ref m1, .ref m2, .int (nI (bm + 1)), .long un, .ref m3, .int (nI ty), .ref m4, .int (nI sp), .int (nI fa), .int (nI fp), .int (nI kn), .ref m5, .ref m6, .ref m7, .ref m8, .ref m9, .int dr, .ref m10, .ref m11, .int (nI lf), .int (nI yo), .int (nI ol), .ref m12, .long hh])), (m1, .inl (cI, 22, .inl (fun zz => nI (P zz)))), (m2, .inl (cI, 176, .inl (fun zz => nI (h8 zz))))] H := hP
      have hD : va_D A [(m0, .inr (6, [.ref m1, .ref m2, .int (nI (bm + 1)), .long un, .ref m3, .int (nI ty), .ref m4, .int (nI sp), .int (nI fa), .int (nI fp), .int (nI kn), .ref m5, .ref m6, .ref m7, .ref m8, .ref m9, .int dr, .ref m10, .ref m11, .int (nI lf), .int (nI yo), .int (nI ol), .ref m12, .long hh])), (m1, .inl (cI, 22, .inl (fun zz => nI (P zz)))), (m2, .inl (cI, 176, .inl (fun zz => nI (h8 zz))))] := hD
      refine lv_aload_n hx hb dX6_begins_93 rfl (lv_at hl 0 rfl) ?_
      refine lv_iconst (v := nI 0) hx hb dX6_begins_94 (by decide) ?_
      refine va_put (D := (dC, dI)) (ci := 6) (v := .int (nI 0)) (ty := .boolean) (C := RX6) (T := TX6) (N := 24) hx hb hts inlX6 tyX6 tyX6_ok nmX6 hown hK hP hD hS 0 rfl rfl 10 (by decide) (hts _ qf_X6_55) (fun _ h9 => h9) rfl (by decide +kernel) (by decide) rfl (Nat.le_of_ble_eq_true rfl) dX6_begins_95 (fun H locs hP hD hS => ?_)
      have hP : va_P (dC, dI) vwCl [(m0, .inr (6, [.ref m1, .ref m2, .int (nI (bm + 1)), .long un, .ref m3, .int (nI ty), .ref m4, .int (nI sp), .int (nI fa), .int (nI fp), .int (nI 0), .ref m5, .ref m6, .ref m7, .ref m8, .ref m9, .int dr, .ref m10, .ref m11, .int (nI lf), .int (nI yo), .int (nI ol), .ref m12, .long hh])), (m1, .inl (cI, 22, .inl (fun zz => nI (P zz)))), (m2, .inl (cI, 176, .inl (fun zz => nI (h8 zz))))] H := hP
      have hD : va_D A [(m0, .inr (6, [.ref m1, .ref m2, .int (nI (bm + 1)), .long un, .ref m3, .int (nI ty), .ref m4, .int (nI sp), .int (nI fa), .int (nI fp), .int (nI 0), .ref m5, .ref m6, .ref m7, .ref m8, .ref m9, .int dr, .ref m10, .ref m11, .int (nI lf), .int (nI yo), .int (nI ol), .ref m12, .long hh])), (m1, .inl (cI, 22, .inl (fun zz => nI (P zz)))), (m2, .inl (cI, 176, .inl (fun zz => nI (h8 zz))))] := hD
      have e1 : h8 = recS P hs bm := by rw [hq8, show i8 = 22 by omega]; rfl
      subst e1
      have e2 : bm + 1 = recN bm := by unfold recN; rw [if_neg c6]
      rw [e2] at hP hD
      exact kqv (w1 := (fun u : Unit => [(m0, .inr (6, [.ref m1, .ref m2, .int (nI (recN bm)), .long un, .ref m3, .int (nI ty), .ref m4, .int (nI sp), .int (nI fa), .int (nI fp), .int (nI 0), .ref m5, .ref m6, .ref m7, .ref m8, .ref m9, .int dr, .ref m10, .ref m11, .int (nI lf), .int (nI yo), .int (nI ol), .ref m12, .long hh])), (m1, .inl (cI, 22, .inl (fun zz => nI (P zz)))), (m2, .inl (cI, 176, .inl (fun zz => nI (recS P hs bm zz))))])) Y hr hlocks hK hP hD hS [0, 1, 2] (by decide) () rfl trivial dX6_begins_98
    · refine lv_aload_n hx hb dX6_begins_57 rfl (lv_at hl 0 rfl) ?_
      refine va_get (D := (dC, dI)) (ci := 6) (v := .ref m2) (C := RX6) (T := TX6) (N := 24) hx hb hts inlX6 hown hK hP 0 rfl rfl 1 (by decide) (hts _ qf_X6_13) (fun _ h9 => h9) rfl dX6_begins_58 ?_
      refine lv_bipush (v := nI 22) hx hb dX6_begins_61 (by decide) ?_
      refine lv_aload_n hx hb dX6_begins_63 rfl (lv_at hl 0 rfl) ?_
      refine va_get (D := (dC, dI)) (ci := 6) (v := .int (nI bm)) (C := RX6) (T := TX6) (N := 24) hx hb hts inlX6 hown hK hP 0 rfl rfl 2 (by decide) (hts _ qf_X6_51) (fun _ h9 => h9) rfl dX6_begins_64 ?_
      refine ri_mul hx hb dX6_begins_67 ?_
      refine lv_iload_n hx hb dX6_begins_68 rfl (lv_at hl 1 rfl) ?_
      refine ri_add hx hb dX6_begins_69 ?_
      refine lv_aload_n hx hb dX6_begins_70 rfl (lv_at hl 0 rfl) ?_
      refine va_get (D := (dC, dI)) (ci := 6) (v := .ref m1) (C := RX6) (T := TX6) (N := 24) hx hb hts inlX6 hown hK hP 0 rfl rfl 0 (by decide) (hts _ qf_X6_7) (fun _ h9 => h9) rfl dX6_begins_71 ?_
      refine lv_iload_n hx hb dX6_begins_74 rfl (lv_at hl 1 rfl) ?_
      refine ri_ald hx hb hK hP 1 0 (F := P) rfl rfl dX6_begins_75 (by decide) (by omega) ?_
      refine ri_ast hx hb hK hP hD hS 2 0 (F := h8) rfl rfl dX6_begins_76 (by decide) (by omega) (fun H locs hP hD hS => ?_)
      have hP : va_P (dC, dI) vwCl [(m0, .inr (6, [.ref m1, .ref m2, .int (nI bm), .long un, .ref m3, .int (nI ty), .ref m4, .int (nI sp), .int (nI fa), .int (nI fp), .int (nI kn), .ref m5, .ref m6, .ref m7, .ref m8, .ref m9, .int dr, .ref m10, .ref m11, .int (nI lf), .int (nI yo), .int (nI ol), .ref m12, .long hh])), (m1, .inl (cI, 22, .inl (fun zz => nI (P zz)))), (m2, .inl (cI, 176, .inl (fun zz => nI (updN h8 ((22 * bm) + i8) (P i8) zz))))] H := hP
      have hD : va_D A [(m0, .inr (6, [.ref m1, .ref m2, .int (nI bm), .long un, .ref m3, .int (nI ty), .ref m4, .int (nI sp), .int (nI fa), .int (nI fp), .int (nI kn), .ref m5, .ref m6, .ref m7, .ref m8, .ref m9, .int dr, .ref m10, .ref m11, .int (nI lf), .int (nI yo), .int (nI ol), .ref m12, .long hh])), (m1, .inl (cI, 22, .inl (fun zz => nI (P zz)))), (m2, .inl (cI, 176, .inl (fun zz => nI (updN h8 ((22 * bm) + i8) (P i8) zz))))] := hD
      refine lv_iinc (v := nI (i8 + 1)) (lv' := [(1, .int (nI (i8 + 1))), (0, .ref m0)]) hx hb dX6_begins_77 hl (k := 1) rfl (inc1 _) (by decide) rfl (fun ls hl => ?_)
      refine lv_goto (tgt := 51) hx hb dX6_begins_80 (by decide) ?_
      exact ih51 (i8 + 1) (updN h8 ((22 * bm) + i8) (P i8)) _ _ _ (by show _ < _; omega) (by exact ⟨lv_sub hl [1, 0] rfl, hP.sub [0, 1, 2] rfl, hD.sub [0, 1, 2] (by decide) rfl, hS, by omega, by rw [hq8]; exact cpy_nx (by omega) (by omega)⟩)
  · obtain rfl : bm = 8 := c6
    refine lv_iconst (v := nI 0) hx hb dX6_begins_9 (by decide) ?_
    refine lv_istore_n (lv' := [(1, .int (nI 0)), (0, .ref m0)]) hx hb dX6_begins_10 rfl hl (by decide) rfl (fun ls hl => ?_)
    refine wl2 (fun (i9 : Nat) (h9 : Nat → Nat) => 154 - i9) (fun (i9 : Nat) (h9 : Nat → Nat) (ls : Array Slot) (H : Heap) (locs : List Loc) => lv_has ls 2 [(0, .ref m0), (1, .int (nI i9))] ∧ va_P (dC, dI) vwCl [(m0, .inr (6, [.ref m1, .ref m2, .int (nI 8), .long un, .ref m3, .int (nI ty), .ref m4, .int (nI sp), .int (nI fa), .int (nI fp), .int (nI kn), .ref m5, .ref m6, .ref m7, .ref m8, .ref m9, .int dr, .ref m10, .ref m11, .int (nI lf), .int (nI yo), .int (nI ol), .ref m12, .long hh])), (m1, .inl (cI, 22, .inl (fun zz => nI (P zz)))), (m2, .inl (cI, 176, .inl (fun zz => nI (h9 zz))))] H ∧ va_D A [(m0, .inr (6, [.ref m1, .ref m2, .int (nI 8), .long un, .ref m3, .int (nI ty), .ref m4, .int (nI sp), .int (nI fa), .int (nI fp), .int (nI kn), .ref m5, .ref m6, .ref m7, .ref m8, .ref m9, .int dr, .ref m10, .ref m11, .int (nI lf), .int (nI yo), .int (nI ol), .ref m12, .long hh])), (m1, .inl (cI, 22, .inl (fun zz => nI (P zz)))), (m2, .inl (cI, 176, .inl (fun zz => nI (h9 zz))))] ∧ va_S A s.heap H locs ∧ (i9 ≤ 154 ∧ h9 = va_cpy hs hs 22 0 i9)) 0 hs (by exact ⟨lv_sub hl [1, 0] rfl, hP.sub [0, 1, 2] rfl, hD.sub [0, 1, 2] (by decide) rfl, hS, by omega, cpy_0.symm⟩) (fun i9 h9 ls H locs hI ih => ?_)
    obtain ⟨hl, hP, hD, hS, hi9, hq9⟩ := hI
    have ih11 := ih
    refine lv_iload_n hx hb dX6_begins_11 rfl (lv_at hl 1 rfl) ?_
    refine lv_sipush (v := nI 154) hx hb dX6_begins_12 (by decide) ?_
    refine ri_cge (tgt := 39) hx hb dX6_begins_15 (by decide) (by omega) (by omega) (fun c15 => ?_) (fun c15 => ?_)
    · refine lv_aload_n hx hb dX6_begins_39 rfl (lv_at hl 0 rfl) ?_
      refine lv_dup hx hb dX6_begins_40 rfl ?_
      refine va_get (D := (dC, dI)) (ci := 6) (v := .int (nI 8)) (C := RX6) (T := TX6) (N := 24) hx hb hts inlX6 hown hK hP 0 rfl rfl 2 (by decide) (hts _ qf_X6_51) (fun _ h9 => h9) rfl dX6_begins_41 ?_
      refine lv_iconst (v := nI 1) hx hb dX6_begins_44 (by decide) ?_
      refine ri_sub hx hb dX6_begins_45 (by omega) ?_
      refine va_put (D := (dC, dI)) (ci := 6) (v := .int (nI 7)) (ty := .int) (C := RX6) (T := TX6) (N := 24) hx hb hts inlX6 tyX6 tyX6_ok nmX6 hown hK hP hD hS 0 rfl rfl 2 (by decide) (hts _ qf_X6_51) (fun _ h9 => h9) rfl (by decide +kernel) rfl rfl (Nat.le_of_ble_eq_true rfl) dX6_begins_46 (fun H locs hP hD hS => ?_)
      have hP : va_P (dC, dI) vwCl [(m0, .inr (6, [.ref m1, .ref m2, .int (nI 7), .long un, .ref m3, .int (nI ty), .ref m4, .int (nI sp), .int (nI fa), .int (nI fp), .int (nI kn), .ref m5, .ref m6, .ref m7, .ref m8, .ref m9, .int dr, .ref m10, .ref m11, .int (nI lf), .int (nI yo), .int (nI ol), .ref m12, .long hh])), (m1, .inl (cI, 22, .inl (fun zz => nI (P zz)))), (m2, .inl (cI, 176, .inl (fun zz => nI (h9 zz))))] H := hP
      have hD : va_D A [(m0, .inr (6, [.ref m1, .ref m2, .int (nI 7), .long un, .ref m3, .int (nI ty), .ref m4, .int (nI sp), .int (nI fa), .int (nI fp), .int (nI kn), .ref m5, .ref m6, .ref m7, .ref m8, .ref m9, .int dr, .ref m10, .ref m11, .int (nI lf), .int (nI yo), .int (nI ol), .ref m12, .long hh])), (m1, .inl (cI, 22, .inl (fun zz => nI (P zz)))), (m2, .inl (cI, 176, .inl (fun zz => nI (h9 zz))))] := hD
      have hB : h9 = recB hs 8 := by rw [hq9, show i9 = 154 by omega]; rfl
      have hM : 7 = recM 8 := rfl
      refine lv_iconst (v := nI 0) hx hb dX6_begins_49 (by decide) ?_
      refine lv_istore_n (lv' := [(1, .int (nI 0)), (0, .ref m0)]) hx hb dX6_begins_50 rfl hl (by decide) rfl (fun ls hl => ?_)
      refine wl2 (fun (i8 : Nat) (h8 : Nat → Nat) => 22 - i8) (fun (i8 : Nat) (h8 : Nat → Nat) (ls : Array Slot) (H : Heap) (locs : List Loc) => lv_has ls 2 [(0, .ref m0), (1, .int (nI i8))] ∧ va_P (dC, dI) vwCl [(m0, .inr (6, [.ref m1, .ref m2, .int (nI 7), .long un, .ref m3, .int (nI ty), .ref m4, .int (nI sp), .int (nI fa), .int (nI fp), .int (nI kn), .ref m5, .ref m6, .ref m7, .ref m8, .ref m9, .int dr, .ref m10, .ref m11, .int (nI lf), .int (nI yo), .int (nI ol), .ref m12, .long hh])), (m1, .inl (cI, 22, .inl (fun zz => nI (P zz)))), (m2, .inl (cI, 176, .inl (fun zz => nI (h8 zz))))] H ∧ va_D A [(m0, .inr (6, [.ref m1, .ref m2, .int (nI 7), .long un, .ref m3, .int (nI ty), .ref m4, .int (nI sp), .int (nI fa), .int (nI fp), .int (nI kn), .ref m5, .ref m6, .ref m7, .ref m8, .ref m9, .int dr, .ref m10, .ref m11, .int (nI lf), .int (nI yo), .int (nI ol), .ref m12, .long hh])), (m1, .inl (cI, 22, .inl (fun zz => nI (P zz)))), (m2, .inl (cI, 176, .inl (fun zz => nI (h8 zz))))] ∧ va_S A s.heap H locs ∧ (i8 ≤ 22 ∧ h8 = va_cpy P (recB hs 8) 0 (recM 8 * 22) i8)) 0 h9 (by exact ⟨lv_sub hl [1, 0] rfl, hP.sub [0, 1, 2] rfl, hD.sub [0, 1, 2] (by decide) rfl, hS, by omega, by rw [cpy_0]; exact hB⟩) (fun i8 h8 ls H locs hI ih => ?_)
      obtain ⟨hl, hP, hD, hS, hi8, hq8⟩ := hI
      have ih51 := ih
      refine lv_iload_n hx hb dX6_begins_51 rfl (lv_at hl 1 rfl) ?_
      refine lv_bipush (v := nI 22) hx hb dX6_begins_52 (by decide) ?_
      refine ri_cge (tgt := 83) hx hb dX6_begins_54 (by decide) (by omega) (by omega) (fun c54 => ?_) (fun c54 => ?_)
      · refine lv_aload_n hx hb dX6_begins_83 rfl (lv_at hl 0 rfl) ?_
        refine lv_dup hx hb dX6_begins_84 rfl ?_
        refine va_get (D := (dC, dI)) (ci := 6) (v := .int (nI 7)) (C := RX6) (T := TX6) (N := 24) hx hb hts inlX6 hown hK hP 0 rfl rfl 2 (by decide) (hts _ qf_X6_51) (fun _ h9 => h9) rfl dX6_begins_85 ?_
        refine lv_iconst (v := nI 1) hx hb dX6_begins_88 (by decide) ?_
        refine ri_add hx hb dX6_begins_89 ?_
        refine va_put (D := (dC, dI)) (ci := 6) (v := .int (nI 8)) (ty := .int) (C := RX6) (T := TX6) (N := 24) hx hb hts inlX6 tyX6 tyX6_ok nmX6 hown hK hP hD hS 0 rfl rfl 2 (by decide) (hts _ qf_X6_51) (fun _ h9 => h9) rfl (by decide +kernel) rfl rfl (Nat.le_of_ble_eq_true rfl) dX6_begins_90 (fun H locs hP hD hS => ?_)
        have hP : va_P (dC, dI) vwCl [(m0, .inr (6, [.ref m1, .ref m2, .int (nI 8), .long un, .ref m3, .int (nI ty), .ref m4, .int (nI sp), .int (nI fa), .int (nI fp), .int (nI kn), .ref m5, .ref m6, .ref m7, .ref m8, .ref m9, .int dr, .ref m10, .ref m11, .int (nI lf), .int (nI yo), .int (nI ol), .ref m12, .long hh])), (m1, .inl (cI, 22, .inl (fun zz => nI (P zz)))), (m2, .inl (cI, 176, .inl (fun zz => nI (h8 zz))))] H := hP
        have hD : va_D A [(m0, .inr (6, [.ref m1, .ref m2, .int (nI 8), .long un, .ref m3, .int (nI ty), .ref m4, .int (nI sp), .int (nI fa), .int (nI fp), .int (nI kn), .ref m5, .ref m6, .ref m7, .ref m8, .ref m9, .int dr, .ref m10, .ref m11, .int (nI lf), .int (nI yo), .int (nI ol), .ref m12, .long hh])), (m1, .inl (cI, 22, .inl (fun zz => nI (P zz)))), (m2, .inl (cI, 176, .inl (fun zz => nI (h8 zz))))] := hD
        refine lv_aload_n hx hb dX6_begins_93 rfl (lv_at hl 0 rfl) ?_
        refine lv_iconst (v := nI 0) hx hb dX6_begins_94 (by decide) ?_
        refine va_put (D := (dC, dI)) (ci := 6) (v := .int (nI 0)) (ty := .boolean) (C := RX6) (T := TX6) (N := 24) hx hb hts inlX6 tyX6 tyX6_ok nmX6 hown hK hP hD hS 0 rfl rfl 10 (by decide) (hts _ qf_X6_55) (fun _ h9 => h9) rfl (by decide +kernel) (by decide) rfl (Nat.le_of_ble_eq_true rfl) dX6_begins_95 (fun H locs hP hD hS => ?_)
        have hP : va_P (dC, dI) vwCl [(m0, .inr (6, [.ref m1, .ref m2, .int (nI 8), .long un, .ref m3, .int (nI ty), .ref m4, .int (nI sp), .int (nI fa), .int (nI fp), .int (nI 0), .ref m5, .ref m6, .ref m7, .ref m8, .ref m9, .int dr, .ref m10, .ref m11, .int (nI lf), .int (nI yo), .int (nI ol), .ref m12, .long hh])), (m1, .inl (cI, 22, .inl (fun zz => nI (P zz)))), (m2, .inl (cI, 176, .inl (fun zz => nI (h8 zz))))] H := hP
        have hD : va_D A [(m0, .inr (6, [.ref m1, .ref m2, .int (nI 8), .long un, .ref m3, .int (nI ty), .ref m4, .int (nI sp), .int (nI fa), .int (nI fp), .int (nI 0), .ref m5, .ref m6, .ref m7, .ref m8, .ref m9, .int dr, .ref m10, .ref m11, .int (nI lf), .int (nI yo), .int (nI ol), .ref m12, .long hh])), (m1, .inl (cI, 22, .inl (fun zz => nI (P zz)))), (m2, .inl (cI, 176, .inl (fun zz => nI (h8 zz))))] := hD
        have e1 : h8 = recS P hs 8 := by rw [hq8, show i8 = 22 by omega]; rfl
        subst e1
        exact kqv (w1 := (fun u : Unit => [(m0, .inr (6, [.ref m1, .ref m2, .int (nI (recN 8)), .long un, .ref m3, .int (nI ty), .ref m4, .int (nI sp), .int (nI fa), .int (nI fp), .int (nI 0), .ref m5, .ref m6, .ref m7, .ref m8, .ref m9, .int dr, .ref m10, .ref m11, .int (nI lf), .int (nI yo), .int (nI ol), .ref m12, .long hh])), (m1, .inl (cI, 22, .inl (fun zz => nI (P zz)))), (m2, .inl (cI, 176, .inl (fun zz => nI (recS P hs 8 zz))))])) Y hr hlocks hK hP hD hS [0, 1, 2] (by decide) () rfl trivial dX6_begins_98
      · refine lv_aload_n hx hb dX6_begins_57 rfl (lv_at hl 0 rfl) ?_
        refine va_get (D := (dC, dI)) (ci := 6) (v := .ref m2) (C := RX6) (T := TX6) (N := 24) hx hb hts inlX6 hown hK hP 0 rfl rfl 1 (by decide) (hts _ qf_X6_13) (fun _ h9 => h9) rfl dX6_begins_58 ?_
        refine lv_bipush (v := nI 22) hx hb dX6_begins_61 (by decide) ?_
        refine lv_aload_n hx hb dX6_begins_63 rfl (lv_at hl 0 rfl) ?_
        refine va_get (D := (dC, dI)) (ci := 6) (v := .int (nI 7)) (C := RX6) (T := TX6) (N := 24) hx hb hts inlX6 hown hK hP 0 rfl rfl 2 (by decide) (hts _ qf_X6_51) (fun _ h9 => h9) rfl dX6_begins_64 ?_
        refine ri_mul hx hb dX6_begins_67 ?_
        refine lv_iload_n hx hb dX6_begins_68 rfl (lv_at hl 1 rfl) ?_
        refine ri_add hx hb dX6_begins_69 ?_
        refine lv_aload_n hx hb dX6_begins_70 rfl (lv_at hl 0 rfl) ?_
        refine va_get (D := (dC, dI)) (ci := 6) (v := .ref m1) (C := RX6) (T := TX6) (N := 24) hx hb hts inlX6 hown hK hP 0 rfl rfl 0 (by decide) (hts _ qf_X6_7) (fun _ h9 => h9) rfl dX6_begins_71 ?_
        refine lv_iload_n hx hb dX6_begins_74 rfl (lv_at hl 1 rfl) ?_
        refine ri_ald hx hb hK hP 1 0 (F := P) rfl rfl dX6_begins_75 (by decide) (by omega) ?_
        refine ri_ast hx hb hK hP hD hS 2 0 (F := h8) rfl rfl dX6_begins_76 (by decide) (by omega) (fun H locs hP hD hS => ?_)
        have hP : va_P (dC, dI) vwCl [(m0, .inr (6, [.ref m1, .ref m2, .int (nI 7), .long un, .ref m3, .int (nI ty), .ref m4, .int (nI sp), .int (nI fa), .int (nI fp), .int (nI kn), .ref m5, .ref m6, .ref m7, .ref m8, .ref m9, .int dr, .ref m10, .ref m11, .int (nI lf), .int (nI yo), .int (nI ol), .ref m12, .long hh])), (m1, .inl (cI, 22, .inl (fun zz => nI (P zz)))), (m2, .inl (cI, 176, .inl (fun zz => nI (updN h8 ((22 * 7) + i8) (P i8) zz))))] H := hP
        have hD : va_D A [(m0, .inr (6, [.ref m1, .ref m2, .int (nI 7), .long un, .ref m3, .int (nI ty), .ref m4, .int (nI sp), .int (nI fa), .int (nI fp), .int (nI kn), .ref m5, .ref m6, .ref m7, .ref m8, .ref m9, .int dr, .ref m10, .ref m11, .int (nI lf), .int (nI yo), .int (nI ol), .ref m12, .long hh])), (m1, .inl (cI, 22, .inl (fun zz => nI (P zz)))), (m2, .inl (cI, 176, .inl (fun zz => nI (updN h8 ((22 * 7) + i8) (P i8) zz))))] := hD
        refine lv_iinc (v := nI (i8 + 1)) (lv' := [(1, .int (nI (i8 + 1))), (0, .ref m0)]) hx hb dX6_begins_77 hl (k := 1) rfl (inc1 _) (by decide) rfl (fun ls hl => ?_)
        refine lv_goto (tgt := 51) hx hb dX6_begins_80 (by decide) ?_
        exact ih51 (i8 + 1) (updN h8 ((22 * 7) + i8) (P i8)) _ _ _ (by show _ < _; omega) (by exact ⟨lv_sub hl [1, 0] rfl, hP.sub [0, 1, 2] rfl, hD.sub [0, 1, 2] (by decide) rfl, hS, by omega, by rw [hq8]; exact cpy_nx (by omega) (by omega)⟩)
    · refine lv_aload_n hx hb dX6_begins_18 rfl (lv_at hl 0 rfl) ?_
      refine va_get (D := (dC, dI)) (ci := 6) (v := .ref m2) (C := RX6) (T := TX6) (N := 24) hx hb hts inlX6 hown hK hP 0 rfl rfl 1 (by decide) (hts _ qf_X6_13) (fun _ h9 => h9) rfl dX6_begins_19 ?_
      refine lv_iload_n hx hb dX6_begins_22 rfl (lv_at hl 1 rfl) ?_
      refine lv_aload_n hx hb dX6_begins_23 rfl (lv_at hl 0 rfl) ?_
      refine va_get (D := (dC, dI)) (ci := 6) (v := .ref m2) (C := RX6) (T := TX6) (N := 24) hx hb hts inlX6 hown hK hP 0 rfl rfl 1 (by decide) (hts _ qf_X6_13) (fun _ h9 => h9) rfl dX6_begins_24 ?_
      refine lv_iload_n hx hb dX6_begins_27 rfl (lv_at hl 1 rfl) ?_
      refine lv_bipush (v := nI 22) hx hb dX6_begins_28 (by decide) ?_
      refine ri_add hx hb dX6_begins_30 ?_
      refine ri_ald hx hb hK hP 2 0 (F := h9) rfl rfl dX6_begins_31 (by decide) (by omega) ?_
      refine ri_ast hx hb hK hP hD hS 2 0 (F := h9) rfl rfl dX6_begins_32 (by decide) (by omega) (fun H locs hP hD hS => ?_)
      have hP : va_P (dC, dI) vwCl [(m0, .inr (6, [.ref m1, .ref m2, .int (nI 8), .long un, .ref m3, .int (nI ty), .ref m4, .int (nI sp), .int (nI fa), .int (nI fp), .int (nI kn), .ref m5, .ref m6, .ref m7, .ref m8, .ref m9, .int dr, .ref m10, .ref m11, .int (nI lf), .int (nI yo), .int (nI ol), .ref m12, .long hh])), (m1, .inl (cI, 22, .inl (fun zz => nI (P zz)))), (m2, .inl (cI, 176, .inl (fun zz => nI (updN h9 i9 (h9 (i9 + 22)) zz))))] H := hP
      have hD : va_D A [(m0, .inr (6, [.ref m1, .ref m2, .int (nI 8), .long un, .ref m3, .int (nI ty), .ref m4, .int (nI sp), .int (nI fa), .int (nI fp), .int (nI kn), .ref m5, .ref m6, .ref m7, .ref m8, .ref m9, .int dr, .ref m10, .ref m11, .int (nI lf), .int (nI yo), .int (nI ol), .ref m12, .long hh])), (m1, .inl (cI, 22, .inl (fun zz => nI (P zz)))), (m2, .inl (cI, 176, .inl (fun zz => nI (updN h9 i9 (h9 (i9 + 22)) zz))))] := hD
      refine lv_iinc (v := nI (i9 + 1)) (lv' := [(1, .int (nI (i9 + 1))), (0, .ref m0)]) hx hb dX6_begins_33 hl (k := 1) rfl (inc1 _) (by decide) rfl (fun ls hl => ?_)
      refine lv_goto (tgt := 11) hx hb dX6_begins_36 (by decide) ?_
      exact ih11 (i9 + 1) (updN h9 i9 (h9 (i9 + 22))) _ _ _ (by show _ < _; omega) (by exact ⟨lv_sub hl [1, 0] rfl, hP.sub [0, 1, 2] rfl, hD.sub [0, 1, 2] (by decide) rfl, hS, by omega, by rw [show h9 (i9 + 22) = hs (i9 + 22) by rw [hq9]; exact pk_cpy_out (by omega), hq9]; exact cpy_nx (by omega) (by omega)⟩)
set_option maxHeartbeats 4000000 in
set_option maxRecDepth 100000 in
theorem c_X6_undo (l : Launch) (dC : Nat → ClassId) (dI : Nat → Nat → Nat) (sz : Nat) (cI cL : ClassId) (m0 m1 m2 m3 m4 m5 m6 m7 m8 m9 m10 m11 m12 : Nat) (bm ty sp fa fp kn lf yo ol : Nat) (un hh : Int64) (dr : Int32) (P hs : Nat → Nat) (h1 : bm ≤ 8) : Met l yX6_undo (kw yX6_undo cX6_undo 2 (some .int)) (kR 0 0) (kPq (dC, dI) [.ref m0] sz [(m0, .inr (6, [.ref m1, .ref m2, .int (nI bm), .long un, .ref m3, .int (nI ty), .ref m4, .int (nI sp), .int (nI fa), .int (nI fp), .int (nI kn), .ref m5, .ref m6, .ref m7, .ref m8, .ref m9, .int dr, .ref m10, .ref m11, .int (nI lf), .int (nI yo), .int (nI ol), .ref m12, .long hh])), (m1, .inl (cI, 22, .inl (fun zz => nI (P zz)))), (m2, .inl (cI, 176, .inl (fun zz => nI (hs zz))))] [(cI, .int)]) (va_Qi (fun (res : Int32) (u : (Nat → Nat) × Nat × Nat) => (res, u.1, u.2.1, u.2.2) = undO P hs bm kn) (fun u : (Nat → Nat) × Nat × Nat => kB (dC, dI) [(cI, .int)] (va_A [(m0, .inr (6, [.ref m1, .ref m2, .int (nI bm), .long un, .ref m3, .int (nI ty), .ref m4, .int (nI sp), .int (nI fa), .int (nI fp), .int (nI kn), .ref m5, .ref m6, .ref m7, .ref m8, .ref m9, .int dr, .ref m10, .ref m11, .int (nI lf), .int (nI yo), .int (nI ol), .ref m12, .long hh])), (m1, .inl (cI, 22, .inl (fun zz => nI (P zz)))), (m2, .inl (cI, 176, .inl (fun zz => nI (hs zz))))] sz) ([(m0, .inr (6, [.ref m1, .ref m2, .int (nI u.2.1), .long un, .ref m3, .int (nI ty), .ref m4, .int (nI sp), .int (nI fa), .int (nI fp), .int (nI u.2.2), .ref m5, .ref m6, .ref m7, .ref m8, .ref m9, .int dr, .ref m10, .ref m11, .int (nI lf), .int (nI yo), .int (nI ol), .ref m12, .long hh])), (m1, .inl (cI, 22, .inl (fun zz => nI (u.1 zz)))), (m2, .inl (cI, 176, .inl (fun zz => nI (hs zz))))])) (va_A [(m0, .inr (6, [.ref m1, .ref m2, .int (nI bm), .long un, .ref m3, .int (nI ty), .ref m4, .int (nI sp), .int (nI fa), .int (nI fp), .int (nI kn), .ref m5, .ref m6, .ref m7, .ref m8, .ref m9, .int dr, .ref m10, .ref m11, .int (nI lf), .int (nI yo), .int (nI ol), .ref m12, .long hh])), (m1, .inl (cI, 22, .inl (fun zz => nI (P zz)))), (m2, .inl (cI, 176, .inl (fun zz => nI (hs zz))))] sz)) 0 0 (va_A [(m0, .inr (6, [.ref m1, .ref m2, .int (nI bm), .long un, .ref m3, .int (nI ty), .ref m4, .int (nI sp), .int (nI fa), .int (nI fp), .int (nI kn), .ref m5, .ref m6, .ref m7, .ref m8, .ref m9, .int dr, .ref m10, .ref m11, .int (nI lf), .int (nI yo), .int (nI ol), .ref m12, .long hh])), (m1, .inl (cI, 22, .inl (fun zz => nI (P zz)))), (m2, .inl (cI, 176, .inl (fun zz => nI (hs zz))))] sz) := by
  refine kmet (by decide) ?_
  intro p e s m args below meth c Y hr hlocks hin hv
  obtain ⟨rfl, A, hAe, hsz, hP, hK, hD, hZ, hA⟩ := kinQ hv
  rw [hAe]
  have hS : va_S A s.heap s.heap [] := va_S.rf
  have hx := Y.1
  have hb := Y.2.1
  have hml := Y.2.2.1
  have hown := Y.2.2.2.1
  have hts := Y.2.2.2.2
  have hl := lv_entry ([.ref m0]) (n := 2) (Nat.le_of_ble_eq_true rfl)
  rw [lg_entry_eq]
  generalize (lg_sl ([.ref m0]) ++ List.replicate (2 - (lg_sl ([.ref m0])).length) Slot.unset).toArray = ls at hl ⊢
  have hl : lv_has ls 2 [(0, .ref m0)] := hl
  refine lv_aload_n hx hb dX6_undo_0 rfl (lv_at hl 0 rfl) ?_
  refine va_get (D := (dC, dI)) (ci := 6) (v := .int (nI bm)) (C := RX6) (T := TX6) (N := 24) hx hb hts inlX6 hown hK hP 0 rfl rfl 2 (by decide) (hts _ qf_X6_51) (fun _ h9 => h9) rfl dX6_undo_1 ?_
  refine ri_zne (tgt := 10) hx hb dX6_undo_4 (by decide) (by omega) (fun c4 => ?_) (fun c4 => ?_)
  · refine lv_aload_n hx hb dX6_undo_10 rfl (lv_at hl 0 rfl) ?_
    refine lv_dup hx hb dX6_undo_11 rfl ?_
    refine va_get (D := (dC, dI)) (ci := 6) (v := .int (nI bm)) (C := RX6) (T := TX6) (N := 24) hx hb hts inlX6 hown hK hP 0 rfl rfl 2 (by decide) (hts _ qf_X6_51) (fun _ h9 => h9) rfl dX6_undo_12 ?_
    refine lv_iconst (v := nI 1) hx hb dX6_undo_15 (by decide) ?_
    refine ri_sub hx hb dX6_undo_16 (by omega) ?_
    refine va_put (D := (dC, dI)) (ci := 6) (v := .int (nI (bm - 1))) (ty := .int) (C := RX6) (T := TX6) (N := 24) hx hb hts inlX6 tyX6 tyX6_ok nmX6 hown hK hP hD hS 0 rfl rfl 2 (by decide) (hts _ qf_X6_51) (fun _ h9 => h9) rfl (by decide +kernel) rfl rfl (Nat.le_of_ble_eq_true rfl) dX6_undo_17 (fun H locs hP hD hS => ?_)
    have hP : va_P (dC, dI) vwCl [(m0, .inr (6, [.ref m1, .ref m2, .int (nI (bm - 1)), .long un, .ref m3, .int (nI ty), .ref m4, .int (nI sp), .int (nI fa), .int (nI fp), .int (nI kn), .ref m5, .ref m6, .ref m7, .ref m8, .ref m9, .int dr, .ref m10, .ref m11, .int (nI lf), .int (nI yo), .int (nI ol), .ref m12, .long hh])), (m1, .inl (cI, 22, .inl (fun zz => nI (P zz)))), (m2, .inl (cI, 176, .inl (fun zz => nI (hs zz))))] H := hP
    have hD : va_D A [(m0, .inr (6, [.ref m1, .ref m2, .int (nI (bm - 1)), .long un, .ref m3, .int (nI ty), .ref m4, .int (nI sp), .int (nI fa), .int (nI fp), .int (nI kn), .ref m5, .ref m6, .ref m7, .ref m8, .ref m9, .int dr, .ref m10, .ref m11, .int (nI lf), .int (nI yo), .int (nI ol), .ref m12, .long hh])), (m1, .inl (cI, 22, .inl (fun zz => nI (P zz)))), (m2, .inl (cI, 176, .inl (fun zz => nI (hs zz))))] := hD
    refine lv_iconst (v := nI 0) hx hb dX6_undo_20 (by decide) ?_
    refine lv_istore_n (lv' := [(1, .int (nI 0)), (0, .ref m0)]) hx hb dX6_undo_21 rfl hl (by decide) rfl (fun ls hl => ?_)
    refine wl2 (fun (i9 : Nat) (P9 : Nat → Nat) => 22 - i9) (fun (i9 : Nat) (P9 : Nat → Nat) (ls : Array Slot) (H : Heap) (locs : List Loc) => lv_has ls 2 [(0, .ref m0), (1, .int (nI i9))] ∧ va_P (dC, dI) vwCl [(m0, .inr (6, [.ref m1, .ref m2, .int (nI (bm - 1)), .long un, .ref m3, .int (nI ty), .ref m4, .int (nI sp), .int (nI fa), .int (nI fp), .int (nI kn), .ref m5, .ref m6, .ref m7, .ref m8, .ref m9, .int dr, .ref m10, .ref m11, .int (nI lf), .int (nI yo), .int (nI ol), .ref m12, .long hh])), (m1, .inl (cI, 22, .inl (fun zz => nI (P9 zz)))), (m2, .inl (cI, 176, .inl (fun zz => nI (hs zz))))] H ∧ va_D A [(m0, .inr (6, [.ref m1, .ref m2, .int (nI (bm - 1)), .long un, .ref m3, .int (nI ty), .ref m4, .int (nI sp), .int (nI fa), .int (nI fp), .int (nI kn), .ref m5, .ref m6, .ref m7, .ref m8, .ref m9, .int dr, .ref m10, .ref m11, .int (nI lf), .int (nI yo), .int (nI ol), .ref m12, .long hh])), (m1, .inl (cI, 22, .inl (fun zz => nI (P9 zz)))), (m2, .inl (cI, 176, .inl (fun zz => nI (hs zz))))] ∧ va_S A s.heap H locs ∧ (i9 ≤ 22 ∧ P9 = va_cpy hs P ((bm - 1) * 22) 0 i9)) 0 P (by exact ⟨lv_sub hl [1, 0] rfl, hP.sub [0, 1, 2] rfl, hD.sub [0, 1, 2] (by decide) rfl, hS, by omega, cpy_0.symm⟩) (fun i9 P9 ls H locs hI ih => ?_)
    obtain ⟨hl, hP, hD, hS, hi9, hq9⟩ := hI
    have ih22 := ih
    refine lv_iload_n hx hb dX6_undo_22 rfl (lv_at hl 1 rfl) ?_
    refine lv_bipush (v := nI 22) hx hb dX6_undo_23 (by decide) ?_
    refine ri_cge (tgt := 54) hx hb dX6_undo_25 (by decide) (by omega) (by omega) (fun c25 => ?_) (fun c25 => ?_)
    · refine lv_aload_n hx hb dX6_undo_54 rfl (lv_at hl 0 rfl) ?_
      refine lv_iconst (v := nI 0) hx hb dX6_undo_55 (by decide) ?_
      refine va_put (D := (dC, dI)) (ci := 6) (v := .int (nI 0)) (ty := .boolean) (C := RX6) (T := TX6) (N := 24) hx hb hts inlX6 tyX6 tyX6_ok nmX6 hown hK hP hD hS 0 rfl rfl 10 (by decide) (hts _ qf_X6_55) (fun _ h9 => h9) rfl (by decide +kernel) (by decide) rfl (Nat.le_of_ble_eq_true rfl) dX6_undo_56 (fun H locs hP hD hS => ?_)
      have hP : va_P (dC, dI) vwCl [(m0, .inr (6, [.ref m1, .ref m2, .int (nI (bm - 1)), .long un, .ref m3, .int (nI ty), .ref m4, .int (nI sp), .int (nI fa), .int (nI fp), .int (nI 0), .ref m5, .ref m6, .ref m7, .ref m8, .ref m9, .int dr, .ref m10, .ref m11, .int (nI lf), .int (nI yo), .int (nI ol), .ref m12, .long hh])), (m1, .inl (cI, 22, .inl (fun zz => nI (P9 zz)))), (m2, .inl (cI, 176, .inl (fun zz => nI (hs zz))))] H := hP
      have hD : va_D A [(m0, .inr (6, [.ref m1, .ref m2, .int (nI (bm - 1)), .long un, .ref m3, .int (nI ty), .ref m4, .int (nI sp), .int (nI fa), .int (nI fp), .int (nI 0), .ref m5, .ref m6, .ref m7, .ref m8, .ref m9, .int dr, .ref m10, .ref m11, .int (nI lf), .int (nI yo), .int (nI ol), .ref m12, .long hh])), (m1, .inl (cI, 22, .inl (fun zz => nI (P9 zz)))), (m2, .inl (cI, 176, .inl (fun zz => nI (hs zz))))] := hD
      refine lv_aload_n hx hb dX6_undo_59 rfl (lv_at hl 0 rfl) ?_
      refine va_get (D := (dC, dI)) (ci := 6) (v := .int (nI (bm - 1))) (C := RX6) (T := TX6) (N := 24) hx hb hts inlX6 hown hK hP 0 rfl rfl 2 (by decide) (hts _ qf_X6_51) (fun _ h9 => h9) rfl dX6_undo_60 ?_
      exact kqi (w1 := (fun u : (Nat → Nat) × Nat × Nat => [(m0, .inr (6, [.ref m1, .ref m2, .int (nI u.2.1), .long un, .ref m3, .int (nI ty), .ref m4, .int (nI sp), .int (nI fa), .int (nI fp), .int (nI u.2.2), .ref m5, .ref m6, .ref m7, .ref m8, .ref m9, .int dr, .ref m10, .ref m11, .int (nI lf), .int (nI yo), .int (nI ol), .ref m12, .long hh])), (m1, .inl (cI, 22, .inl (fun zz => nI (u.1 zz)))), (m2, .inl (cI, 176, .inl (fun zz => nI (hs zz))))])) (v := nI (bm - 1)) Y hr hlocks hK hP hD hS [0, 1, 2] (by decide) (P9, bm - 1, 0) rfl (by rw [hq9, show i9 = 22 by omega]; exact (if_neg (by omega)).symm) dX6_undo_63
    · refine lv_aload_n hx hb dX6_undo_28 rfl (lv_at hl 0 rfl) ?_
      refine va_get (D := (dC, dI)) (ci := 6) (v := .ref m1) (C := RX6) (T := TX6) (N := 24) hx hb hts inlX6 hown hK hP 0 rfl rfl 0 (by decide) (hts _ qf_X6_7) (fun _ h9 => h9) rfl dX6_undo_29 ?_
      refine lv_iload_n hx hb dX6_undo_32 rfl (lv_at hl 1 rfl) ?_
      refine lv_aload_n hx hb dX6_undo_33 rfl (lv_at hl 0 rfl) ?_
      refine va_get (D := (dC, dI)) (ci := 6) (v := .ref m2) (C := RX6) (T := TX6) (N := 24) hx hb hts inlX6 hown hK hP 0 rfl rfl 1 (by decide) (hts _ qf_X6_13) (fun _ h9 => h9) rfl dX6_undo_34 ?_
      refine lv_bipush (v := nI 22) hx hb dX6_undo_37 (by decide) ?_
      refine lv_aload_n hx hb dX6_undo_39 rfl (lv_at hl 0 rfl) ?_
      refine va_get (D := (dC, dI)) (ci := 6) (v := .int (nI (bm - 1))) (C := RX6) (T := TX6) (N := 24) hx hb hts inlX6 hown hK hP 0 rfl rfl 2 (by decide) (hts _ qf_X6_51) (fun _ h9 => h9) rfl dX6_undo_40 ?_
      refine ri_mul hx hb dX6_undo_43 ?_
      refine lv_iload_n hx hb dX6_undo_44 rfl (lv_at hl 1 rfl) ?_
      refine ri_add hx hb dX6_undo_45 ?_
      refine ri_ald hx hb hK hP 2 0 (F := hs) rfl rfl dX6_undo_46 (by decide) (by omega) ?_
      refine ri_ast hx hb hK hP hD hS 1 0 (F := P9) rfl rfl dX6_undo_47 (by decide) (by omega) (fun H locs hP hD hS => ?_)
      have hP : va_P (dC, dI) vwCl [(m0, .inr (6, [.ref m1, .ref m2, .int (nI (bm - 1)), .long un, .ref m3, .int (nI ty), .ref m4, .int (nI sp), .int (nI fa), .int (nI fp), .int (nI kn), .ref m5, .ref m6, .ref m7, .ref m8, .ref m9, .int dr, .ref m10, .ref m11, .int (nI lf), .int (nI yo), .int (nI ol), .ref m12, .long hh])), (m1, .inl (cI, 22, .inl (fun zz => nI (updN P9 i9 (hs ((22 * (bm - 1)) + i9)) zz)))), (m2, .inl (cI, 176, .inl (fun zz => nI (hs zz))))] H := hP
      have hD : va_D A [(m0, .inr (6, [.ref m1, .ref m2, .int (nI (bm - 1)), .long un, .ref m3, .int (nI ty), .ref m4, .int (nI sp), .int (nI fa), .int (nI fp), .int (nI kn), .ref m5, .ref m6, .ref m7, .ref m8, .ref m9, .int dr, .ref m10, .ref m11, .int (nI lf), .int (nI yo), .int (nI ol), .ref m12, .long hh])), (m1, .inl (cI, 22, .inl (fun zz => nI (updN P9 i9 (hs ((22 * (bm - 1)) + i9)) zz)))), (m2, .inl (cI, 176, .inl (fun zz => nI (hs zz))))] := hD
      refine lv_iinc (v := nI (i9 + 1)) (lv' := [(1, .int (nI (i9 + 1))), (0, .ref m0)]) hx hb dX6_undo_48 hl (k := 1) rfl (inc1 _) (by decide) rfl (fun ls hl => ?_)
      refine lv_goto (tgt := 22) hx hb dX6_undo_51 (by decide) ?_
      exact ih22 (i9 + 1) (updN P9 i9 (hs ((22 * (bm - 1)) + i9))) _ _ _ (by show _ < _; omega) (by exact ⟨lv_sub hl [1, 0] rfl, hP.sub [0, 1, 2] rfl, hD.sub [0, 1, 2] (by decide) rfl, hS, by omega, by rw [hq9]; exact cpy_nx (by omega) (by omega)⟩)
  · refine lv_bipush (v := -2) hx hb dX6_undo_7 (by decide) ?_
    exact kqi (w1 := (fun u : (Nat → Nat) × Nat × Nat => [(m0, .inr (6, [.ref m1, .ref m2, .int (nI u.2.1), .long un, .ref m3, .int (nI ty), .ref m4, .int (nI sp), .int (nI fa), .int (nI fp), .int (nI u.2.2), .ref m5, .ref m6, .ref m7, .ref m8, .ref m9, .int dr, .ref m10, .ref m11, .int (nI lf), .int (nI yo), .int (nI ol), .ref m12, .long hh])), (m1, .inl (cI, 22, .inl (fun zz => nI (u.1 zz)))), (m2, .inl (cI, 176, .inl (fun zz => nI (hs zz))))])) (v := (-2)) Y hr hlocks hK hP hD hS [0, 1, 2] (by decide) (P, bm, kn) rfl (if_pos (by omega)).symm dX6_undo_9
set_option maxHeartbeats 4000000 in
set_option maxRecDepth 100000 in
theorem c_X6_sets (l : Launch) (dC : Nat → ClassId) (dI : Nat → Nat → Nat) (sz : Nat) (cI cL : ClassId) (m0 m1 m2 m3 m4 m5 m6 m7 m8 m9 m10 m11 m12 : Nat) (bm ty sp fa fp kn lf yo ol : Nat) (un hh : Int64) (dr : Int32) (P hs : Nat → Nat) (i v : Nat) (h1 : bm ≤ 8) (h2 : i < 22) : Met l yX6_sets (kw yX6_sets cX6_sets 4 (some .int)) (kR 1 21) (kPq (dC, dI) [.ref m0, .int (nI i), .int (nI v)] sz [(m0, .inr (6, [.ref m1, .ref m2, .int (nI bm), .long un, .ref m3, .int (nI ty), .ref m4, .int (nI sp), .int (nI fa), .int (nI fp), .int (nI kn), .ref m5, .ref m6, .ref m7, .ref m8, .ref m9, .int dr, .ref m10, .ref m11, .int (nI lf), .int (nI yo), .int (nI ol), .ref m12, .long hh])), (m1, .inl (cI, 22, .inl (fun zz => nI (P zz)))), (m2, .inl (cI, 176, .inl (fun zz => nI (hs zz))))] [(cI, .int)]) (va_Qi (fun (res : Int32) (u : Unit) => res = nI (P i)) (fun u : Unit => kB (dC, dI) [(cI, .int)] (va_A [(m0, .inr (6, [.ref m1, .ref m2, .int (nI bm), .long un, .ref m3, .int (nI ty), .ref m4, .int (nI sp), .int (nI fa), .int (nI fp), .int (nI kn), .ref m5, .ref m6, .ref m7, .ref m8, .ref m9, .int dr, .ref m10, .ref m11, .int (nI lf), .int (nI yo), .int (nI ol), .ref m12, .long hh])), (m1, .inl (cI, 22, .inl (fun zz => nI (P zz)))), (m2, .inl (cI, 176, .inl (fun zz => nI (hs zz))))] sz) ([(m0, .inr (6, [.ref m1, .ref m2, .int (nI (recN bm)), .long un, .ref m3, .int (nI ty), .ref m4, .int (nI sp), .int (nI fa), .int (nI fp), .int (nI 0), .ref m5, .ref m6, .ref m7, .ref m8, .ref m9, .int dr, .ref m10, .ref m11, .int (nI lf), .int (nI yo), .int (nI ol), .ref m12, .long hh])), (m1, .inl (cI, 22, .inl (fun zz => nI (updN P i v zz)))), (m2, .inl (cI, 176, .inl (fun zz => nI (recS P hs bm zz))))])) (va_A [(m0, .inr (6, [.ref m1, .ref m2, .int (nI bm), .long un, .ref m3, .int (nI ty), .ref m4, .int (nI sp), .int (nI fa), .int (nI fp), .int (nI kn), .ref m5, .ref m6, .ref m7, .ref m8, .ref m9, .int dr, .ref m10, .ref m11, .int (nI lf), .int (nI yo), .int (nI ol), .ref m12, .long hh])), (m1, .inl (cI, 22, .inl (fun zz => nI (P zz)))), (m2, .inl (cI, 176, .inl (fun zz => nI (hs zz))))] sz)) 0 0 (va_A [(m0, .inr (6, [.ref m1, .ref m2, .int (nI bm), .long un, .ref m3, .int (nI ty), .ref m4, .int (nI sp), .int (nI fa), .int (nI fp), .int (nI kn), .ref m5, .ref m6, .ref m7, .ref m8, .ref m9, .int dr, .ref m10, .ref m11, .int (nI lf), .int (nI yo), .int (nI ol), .ref m12, .long hh])), (m1, .inl (cI, 22, .inl (fun zz => nI (P zz)))), (m2, .inl (cI, 176, .inl (fun zz => nI (hs zz))))] sz) := by
  refine kmet (by decide) ?_
  intro p e s m args below meth c Y hr hlocks hin hv
  obtain ⟨rfl, A, hAe, hsz, hP, hK, hD, hZ, hA⟩ := kinQ hv
  rw [hAe]
  have hS : va_S A s.heap s.heap [] := va_S.rf
  have hx := Y.1
  have hb := Y.2.1
  have hml := Y.2.2.1
  have hown := Y.2.2.2.1
  have hts := Y.2.2.2.2
  have hl := lv_entry ([.ref m0, .int (nI i), .int (nI v)]) (n := 4) (Nat.le_of_ble_eq_true rfl)
  rw [lg_entry_eq]
  generalize (lg_sl ([.ref m0, .int (nI i), .int (nI v)]) ++ List.replicate (4 - (lg_sl ([.ref m0, .int (nI i), .int (nI v)])).length) Slot.unset).toArray = ls at hl ⊢
  have hl : lv_has ls 4 [(0, .ref m0), (1, .int (nI i)), (2, .int (nI v))] := hl
  refine lv_aload_n hx hb dX6_sets_0 rfl (lv_at hl 0 rfl) ?_
  refine kQv (As := []) (rest := []) (wr := []) Y m_X6_begins (c_X6_begins l dC dI _ cI cL m0 m1 m2 m3 m4 m5 m6 m7 m8 m9 m10 m11 m12 bm ty sp fa fp kn lf yo ol un hh dr P hs (by omega)) qm_X6_59 hP hD hS hA [0, 1, 2] [] rfl rfl (by decide) (by decide) (kqV (ci := 6) hK hP hD hZ hS hA [0, 1, 2] [0] rfl (by decide) rfl 0 rfl rfl rfl) rfl hl.1 rfl (Nat.le_of_ble_eq_true rfl) dX6_sets_1 ⟨Nat.le_of_ble_eq_true rfl, Nat.le_of_ble_eq_true rfl⟩ ⟨Nat.zero_le _, Nat.zero_le _⟩ (fun u1 H locs hr1 hP hD hS => ?_)
  have hP : va_P (dC, dI) vwCl [(m0, .inr (6, [.ref m1, .ref m2, .int (nI (recN bm)), .long un, .ref m3, .int (nI ty), .ref m4, .int (nI sp), .int (nI fa), .int (nI fp), .int (nI 0), .ref m5, .ref m6, .ref m7, .ref m8, .ref m9, .int dr, .ref m10, .ref m11, .int (nI lf), .int (nI yo), .int (nI ol), .ref m12, .long hh])), (m1, .inl (cI, 22, .inl (fun zz => nI (P zz)))), (m2, .inl (cI, 176, .inl (fun zz => nI (recS P hs bm zz))))] H := hP
  have hD : va_D A [(m0, .inr (6, [.ref m1, .ref m2, .int (nI (recN bm)), .long un, .ref m3, .int (nI ty), .ref m4, .int (nI sp), .int (nI fa), .int (nI fp), .int (nI 0), .ref m5, .ref m6, .ref m7, .ref m8, .ref m9, .int dr, .ref m10, .ref m11, .int (nI lf), .int (nI yo), .int (nI ol), .ref m12, .long hh])), (m1, .inl (cI, 22, .inl (fun zz => nI (P zz)))), (m2, .inl (cI, 176, .inl (fun zz => nI (recS P hs bm zz))))] := hD
  refine lv_aload_n hx hb dX6_sets_4 rfl (lv_at hl 0 rfl) ?_
  refine va_get (D := (dC, dI)) (ci := 6) (v := .ref m1) (C := RX6) (T := TX6) (N := 24) hx hb hts inlX6 hown hK hP 0 rfl rfl 0 (by decide) (hts _ qf_X6_7) (fun _ h9 => h9) rfl dX6_sets_5 ?_
  refine lv_iload_n hx hb dX6_sets_8 rfl (lv_at hl 1 rfl) ?_
  refine ri_ald hx hb hK hP 1 0 (F := P) rfl rfl dX6_sets_9 (by decide) (by omega) ?_
  refine lv_istore_n (lv' := [(3, .int (nI (P i))), (0, .ref m0), (1, .int (nI i)), (2, .int (nI v))]) hx hb dX6_sets_10 rfl hl (by decide) rfl (fun ls hl => ?_)
  refine lv_aload_n hx hb dX6_sets_11 rfl (lv_at hl 1 rfl) ?_
  refine va_get (D := (dC, dI)) (ci := 6) (v := .ref m1) (C := RX6) (T := TX6) (N := 24) hx hb hts inlX6 hown hK hP 0 rfl rfl 0 (by decide) (hts _ qf_X6_7) (fun _ h9 => h9) rfl dX6_sets_12 ?_
  refine lv_iload_n hx hb dX6_sets_15 rfl (lv_at hl 2 rfl) ?_
  refine lv_iload_n hx hb dX6_sets_16 rfl (lv_at hl 3 rfl) ?_
  refine ri_ast hx hb hK hP hD hS 1 0 (F := P) rfl rfl dX6_sets_17 (by decide) (by omega) (fun H locs hP hD hS => ?_)
  have hP : va_P (dC, dI) vwCl [(m0, .inr (6, [.ref m1, .ref m2, .int (nI (recN bm)), .long un, .ref m3, .int (nI ty), .ref m4, .int (nI sp), .int (nI fa), .int (nI fp), .int (nI 0), .ref m5, .ref m6, .ref m7, .ref m8, .ref m9, .int dr, .ref m10, .ref m11, .int (nI lf), .int (nI yo), .int (nI ol), .ref m12, .long hh])), (m1, .inl (cI, 22, .inl (fun zz => nI (updN P i v zz)))), (m2, .inl (cI, 176, .inl (fun zz => nI (recS P hs bm zz))))] H := hP
  have hD : va_D A [(m0, .inr (6, [.ref m1, .ref m2, .int (nI (recN bm)), .long un, .ref m3, .int (nI ty), .ref m4, .int (nI sp), .int (nI fa), .int (nI fp), .int (nI 0), .ref m5, .ref m6, .ref m7, .ref m8, .ref m9, .int dr, .ref m10, .ref m11, .int (nI lf), .int (nI yo), .int (nI ol), .ref m12, .long hh])), (m1, .inl (cI, 22, .inl (fun zz => nI (updN P i v zz)))), (m2, .inl (cI, 176, .inl (fun zz => nI (recS P hs bm zz))))] := hD
  refine lv_iload_n hx hb dX6_sets_18 rfl (lv_at hl 0 rfl) ?_
  exact kqi (w1 := (fun u : Unit => [(m0, .inr (6, [.ref m1, .ref m2, .int (nI (recN bm)), .long un, .ref m3, .int (nI ty), .ref m4, .int (nI sp), .int (nI fa), .int (nI fp), .int (nI 0), .ref m5, .ref m6, .ref m7, .ref m8, .ref m9, .int dr, .ref m10, .ref m11, .int (nI lf), .int (nI yo), .int (nI ol), .ref m12, .long hh])), (m1, .inl (cI, 22, .inl (fun zz => nI (updN P i v zz)))), (m2, .inl (cI, 176, .inl (fun zz => nI (recS P hs bm zz))))])) (v := nI (P i)) Y hr hlocks hK hP hD hS [0, 1, 2] (by decide) () rfl rfl dX6_sets_19
