set_option maxHeartbeats 4000000 in
set_option maxRecDepth 100000 in
theorem c_X6_ends (l : Launch) (dC : Nat → ClassId) (dI : Nat → Nat → Nat) (sz : Nat) (cI cL : ClassId) (m0 m1 m2 m3 m4 m5 m6 m7 m8 m9 m10 m11 m12 : Nat) (bm ty sp fa fp kn lf yo ol : Nat) (un hh : Int64) (dr : Int32) (tx S : Nat → Nat) (it k its : Nat) (g : TSt) (h1 : ty ≤ 60) (h2 : sp < ty) (hch : tx sp = 59) (hit : it < 7) (h3 : k ≤ 100) (h4 : fa ≤ 3) (hkm : fa = 0 → k ≤ 7) (hF : Fut g tx ty fa fp sp (stB its it k S)) (hSb : ∀ x, x < 22 → S x ≤ 99) : Met l yX6_ends (kw yX6_ends cX6_ends 6 none) (kR 1 22) (kPq (dC, dI) [.ref m0, .int (nI (tbl tFIR it)), .int (nI k)] sz [(m0, .inr (6, [.ref m1, .ref m2, .int (nI bm), .long un, .ref m3, .int (nI ty), .ref m4, .int (nI sp), .int (nI fa), .int (nI fp), .int (nI kn), .ref m5, .ref m6, .ref m7, .ref m8, .ref m9, .int dr, .ref m10, .ref m11, .int (nI lf), .int (nI yo), .int (nI ol), .ref m12, .long hh])), (m4, .inl (cI, 22, .inl (fun zz => nI (S zz))))] [(cI, .int)]) (va_Qv (fun u : Nat × Nat × (Nat → Nat) => Fut g tx ty u.1 u.2.1 (sp + 1) (stA (its + 1) u.2.2) ∧ u.1 ≤ 3 ∧ (∀ x, x < 22 → u.2.2 x ≤ 99)) (fun u : Nat × Nat × (Nat → Nat) => kB (dC, dI) [(cI, .int)] (va_A [(m0, .inr (6, [.ref m1, .ref m2, .int (nI bm), .long un, .ref m3, .int (nI ty), .ref m4, .int (nI sp), .int (nI fa), .int (nI fp), .int (nI kn), .ref m5, .ref m6, .ref m7, .ref m8, .ref m9, .int dr, .ref m10, .ref m11, .int (nI lf), .int (nI yo), .int (nI ol), .ref m12, .long hh])), (m4, .inl (cI, 22, .inl (fun zz => nI (S zz))))] sz) ([(m0, .inr (6, [.ref m1, .ref m2, .int (nI bm), .long un, .ref m3, .int (nI ty), .ref m4, .int (nI (sp + 1)), .int (nI u.1), .int (nI u.2.1), .int (nI kn), .ref m5, .ref m6, .ref m7, .ref m8, .ref m9, .int dr, .ref m10, .ref m11, .int (nI lf), .int (nI yo), .int (nI ol), .ref m12, .long hh])), (m4, .inl (cI, 22, .inl (fun zz => nI (u.2.2 zz))))])) (va_A [(m0, .inr (6, [.ref m1, .ref m2, .int (nI bm), .long un, .ref m3, .int (nI ty), .ref m4, .int (nI sp), .int (nI fa), .int (nI fp), .int (nI kn), .ref m5, .ref m6, .ref m7, .ref m8, .ref m9, .int dr, .ref m10, .ref m11, .int (nI lf), .int (nI yo), .int (nI ol), .ref m12, .long hh])), (m4, .inl (cI, 22, .inl (fun zz => nI (S zz))))] sz)) 0 0 (va_A [(m0, .inr (6, [.ref m1, .ref m2, .int (nI bm), .long un, .ref m3, .int (nI ty), .ref m4, .int (nI sp), .int (nI fa), .int (nI fp), .int (nI kn), .ref m5, .ref m6, .ref m7, .ref m8, .ref m9, .int dr, .ref m10, .ref m11, .int (nI lf), .int (nI yo), .int (nI ol), .ref m12, .long hh])), (m4, .inl (cI, 22, .inl (fun zz => nI (S zz))))] sz) := by
  refine kmet (by decide) ?_
  intro p e s m args below meth c Y hr hlocks hin hv
  obtain ⟨rfl, A, hAe, hsz, hP, hK, hD, hZ, hA⟩ := kinQ hv
  rw [hAe]
  have hS : va_S A s.heap s.heap [] := va_S.rf
  have hx := Y.1
  have hb := Y.2.1
  have hml := Y.2.2.1
  have hown := Y.2.2.2.1
  have hts := Y.2.2.2.2
  have hl := lv_entry ([.ref m0, .int (nI (tbl tFIR it)), .int (nI k)]) (n := 6) (Nat.le_of_ble_eq_true rfl)
  rw [lg_entry_eq]
  generalize (lg_sl ([.ref m0, .int (nI (tbl tFIR it)), .int (nI k)]) ++ List.replicate (6 - (lg_sl ([.ref m0, .int (nI (tbl tFIR it)), .int (nI k)])).length) Slot.unset).toArray = ls at hl ⊢
  have hl : lv_has ls 6 [(0, .ref m0), (1, .int (nI (tbl tFIR it))), (2, .int (nI k))] := hl
  have hm := mor_le it hit
  have hme := nmO_e it hit
  refine lv_iconst (v := nI 0) hx hb dX6_ends_0 (by decide) ?_
  refine lv_istore_n (lv' := [(3, .int (nI 0)), (0, .ref m0), (1, .int (nI (tbl tFIR it))), (2, .int (nI k))]) hx hb dX6_ends_1 rfl hl (by decide) rfl (fun ls hl => ?_)
  refine lv_iconst (v := nI 0) hx hb dX6_ends_2 (by decide) ?_
  refine lv_istore (lv' := [(4, .int (nI 0)), (3, .int (nI 0)), (0, .ref m0), (1, .int (nI (tbl tFIR it))), (2, .int (nI k))]) hx hb dX6_ends_3 hl (by decide) rfl (fun ls hl => ?_)
  refine wl2 (fun (t : Nat) (sm : Nat) => 5 - t) (fun (t : Nat) (sm : Nat) (ls : Array Slot) (H : Heap) (locs : List Loc) => lv_has ls 6 [(0, .ref m0), (1, .int (nI (tbl tFIR it))), (2, .int (nI k)), (3, .int (nI sm)), (4, .int (nI t))] ∧ va_P (dC, dI) vwCl [(m0, .inr (6, [.ref m1, .ref m2, .int (nI bm), .long un, .ref m3, .int (nI ty), .ref m4, .int (nI sp), .int (nI fa), .int (nI fp), .int (nI kn), .ref m5, .ref m6, .ref m7, .ref m8, .ref m9, .int dr, .ref m10, .ref m11, .int (nI lf), .int (nI yo), .int (nI ol), .ref m12, .long hh])), (m4, .inl (cI, 22, .inl (fun zz => nI (S zz))))] H ∧ va_D A [(m0, .inr (6, [.ref m1, .ref m2, .int (nI bm), .long un, .ref m3, .int (nI ty), .ref m4, .int (nI sp), .int (nI fa), .int (nI fp), .int (nI kn), .ref m5, .ref m6, .ref m7, .ref m8, .ref m9, .int dr, .ref m10, .ref m11, .int (nI lf), .int (nI yo), .int (nI ol), .ref m12, .long hh])), (m4, .inl (cI, 22, .inl (fun zz => nI (S zz))))] ∧ va_S A s.heap H locs ∧ (t ≤ 5 ∧ sm ≤ 99 * t ∧ sm = sgN (fun l => S (15 + l)) t)) 0 0 (by exact ⟨lv_sub hl [2, 3, 4, 1, 0] rfl, hP.sub [0, 1] rfl, hD.sub [0, 1] (by decide) rfl, hS, by omega, by omega, rfl⟩) (fun t sm ls H locs hI ih => ?_)
  obtain ⟨hl, hP, hD, hS, ht, hsb, hsm⟩ := hI
  have ih5 := ih
  refine lv_iload hx hb dX6_ends_5 (lv_at hl 4 rfl) ?_
  refine lv_iconst (v := nI 5) hx hb dX6_ends_7 (by decide) ?_
  refine ri_cge (tgt := 30) hx hb dX6_ends_8 (by decide) (by omega) (by omega) (fun c8 => ?_) (fun c8 => ?_)
  · have hsw : sm = wsum S := by rw [hsm, show t = 5 by omega]; rfl
    refine lv_iload_n hx hb dX6_ends_30 rfl (lv_at hl 1 rfl) ?_
    refine lv_iconst (v := nI 3) hx hb dX6_ends_31 (by decide) ?_
    refine ri_cne (tgt := 47) hx hb dX6_ends_32 (by decide) (by omega) (by omega) (fun c32 => ?_) (fun c32 => ?_)
    · refine lv_iload_n hx hb dX6_ends_47 rfl (lv_at hl 2 rfl) ?_
      refine lv_iload_n hx hb dX6_ends_48 rfl (lv_at hl 1 rfl) ?_
      refine kSi (As := [.int (nI (tbl tFIR it))]) (rest := [.int (nI k)]) Y m_X6_numbersOf (c_X6_numbersOf l dC dI (tbl tFIR it) (by omega)) qm_X6_101 (kpS hK hP hZ hS [] [] rfl rfl) rfl hl.1 rfl (Nat.le_of_ble_eq_true rfl) dX6_ends_49 ⟨Nat.le_of_ble_eq_true rfl, Nat.le_of_ble_eq_true rfl⟩ ⟨Nat.zero_le _, Nat.zero_le _⟩ (fun r49 hr49 => ?_)
      obtain rfl : r49 = nI (nmO (tbl tFIR it)) := hr49
      refine ri_cge (tgt := 59) hx hb dX6_ends_52 (by decide) (by omega) (by omega) (fun c52 => ?_) (fun c52 => ?_)
      · refine lv_iconst (v := nI 0) hx hb dX6_ends_59 (by decide) ?_
        refine lv_istore (lv' := [(4, .int (nI 0)), (0, .ref m0), (1, .int (nI (tbl tFIR it))), (2, .int (nI k)), (3, .int (nI sm))]) hx hb dX6_ends_60 hl (by decide) rfl (fun ls hl => ?_)
        refine lv_iload hx hb dX6_ends_62 (lv_at hl 0 rfl) ?_
        refine ri_zne (tgt := 79) hx hb dX6_ends_64 (by decide) (by omega) (fun c64 => ?_) (fun c64 => ?_)
        · exact absurd c64 (by decide)
        · refine lv_iload_n hx hb dX6_ends_67 rfl (lv_at hl 2 rfl) ?_
          refine lv_bipush (v := nI 15) hx hb dX6_ends_68 (by decide) ?_
          refine ri_cne (tgt := 88) hx hb dX6_ends_70 (by decide) (by omega) (by omega) (fun c70 => ?_) (fun c70 => ?_)
          · have hnb : ¬ (k < tbl tFEW it ∨ (it = 5 ∧ wsum S ≠ 10)) := fun z => z.elim (fun q => by have := (en_few hit).mp q; rw [if_neg c32] at this; omega) (fun q => c70 (hm.2.2.2.2.1.mpr q.1))
            refine lv_iload_n hx hb dX6_ends_88 rfl (lv_at hl 3 rfl) ?_
            refine lv_istore (lv' := [(5, .int (nI k)), (4, .int (nI 0)), (0, .ref m0), (1, .int (nI (tbl tFIR it))), (2, .int (nI k)), (3, .int (nI sm))]) hx hb dX6_ends_89 hl (by decide) rfl (fun ls hl => ?_)
            refine wl2 (fun (t2 : Nat) (S1 : Nat → Nat) => 100 - t2) (fun (t2 : Nat) (S1 : Nat → Nat) (ls : Array Slot) (H : Heap) (locs : List Loc) => lv_has ls 6 [(0, .ref m0), (1, .int (nI (tbl tFIR it))), (2, .int (nI k)), (3, .int (nI sm)), (5, .int (nI t2))] ∧ va_P (dC, dI) vwCl [(m0, .inr (6, [.ref m1, .ref m2, .int (nI bm), .long un, .ref m3, .int (nI ty), .ref m4, .int (nI sp), .int (nI fa), .int (nI fp), .int (nI kn), .ref m5, .ref m6, .ref m7, .ref m8, .ref m9, .int dr, .ref m10, .ref m11, .int (nI lf), .int (nI yo), .int (nI ol), .ref m12, .long hh])), (m4, .inl (cI, 22, .inl (fun zz => nI (S1 zz))))] H ∧ va_D A [(m0, .inr (6, [.ref m1, .ref m2, .int (nI bm), .long un, .ref m3, .int (nI ty), .ref m4, .int (nI sp), .int (nI fa), .int (nI fp), .int (nI kn), .ref m5, .ref m6, .ref m7, .ref m8, .ref m9, .int dr, .ref m10, .ref m11, .int (nI lf), .int (nI yo), .int (nI ol), .ref m12, .long hh])), (m4, .inl (cI, 22, .inl (fun zz => nI (S1 zz))))] ∧ va_S A s.heap H locs ∧ (k ≤ t2 ∧ (t2 ≤ 7 ∨ t2 = k) ∧ (t2 = k ∨ tbl tFIR it = 3) ∧ (∀ x, S1 x = if 3 + k ≤ x ∧ x < 3 + t2 then 0 else S x))) k S (by exact ⟨lv_sub hl [2, 3, 4, 5, 0] rfl, hP.sub [0, 1] rfl, hD.sub [0, 1] (by decide) rfl, hS, by omega, by omega, Or.inl rfl, (fun x => by rw [if_neg (by omega)])⟩) (fun t2 S1 ls H locs hI ih => ?_)
            obtain ⟨hl, hP, hD, hS, hS4, hS5, hS3, hS1⟩ := hI
            have ih91 := ih
            refine lv_iload hx hb dX6_ends_91 (lv_at hl 4 rfl) ?_
            refine lv_bipush (v := nI 7) hx hb dX6_ends_93 (by decide) ?_
            refine ri_cge (tgt := 119) hx hb dX6_ends_95 (by decide) (by omega) (by omega) (fun c95 => ?_) (fun c95 => ?_)
            · refine lv_aload_n hx hb dX6_ends_119 rfl (lv_at hl 0 rfl) ?_
              refine lv_dup hx hb dX6_ends_120 rfl ?_
              refine va_get (D := (dC, dI)) (ci := 6) (v := .int (nI sp)) (C := RX6) (T := TX6) (N := 24) hx hb hts inlX6 hown hK hP 0 rfl rfl 7 (by decide) (hts _ qf_X6_84) (fun _ h9 => h9) rfl dX6_ends_121 ?_
              refine lv_iconst (v := nI 1) hx hb dX6_ends_124 (by decide) ?_
              refine ri_add hx hb dX6_ends_125 ?_
              refine va_put (D := (dC, dI)) (ci := 6) (v := .int (nI (sp + 1))) (ty := .int) (C := RX6) (T := TX6) (N := 24) hx hb hts inlX6 tyX6 tyX6_ok nmX6 hown hK hP hD hS 0 rfl rfl 7 (by decide) (hts _ qf_X6_84) (fun _ h9 => h9) rfl (by decide +kernel) rfl rfl (Nat.le_of_ble_eq_true rfl) dX6_ends_126 (fun H locs hP hD hS => ?_)
              have hP : va_P (dC, dI) vwCl [(m0, .inr (6, [.ref m1, .ref m2, .int (nI bm), .long un, .ref m3, .int (nI ty), .ref m4, .int (nI (sp + 1)), .int (nI fa), .int (nI fp), .int (nI kn), .ref m5, .ref m6, .ref m7, .ref m8, .ref m9, .int dr, .ref m10, .ref m11, .int (nI lf), .int (nI yo), .int (nI ol), .ref m12, .long hh])), (m4, .inl (cI, 22, .inl (fun zz => nI (S1 zz))))] H := hP
              have hD : va_D A [(m0, .inr (6, [.ref m1, .ref m2, .int (nI bm), .long un, .ref m3, .int (nI ty), .ref m4, .int (nI (sp + 1)), .int (nI fa), .int (nI fp), .int (nI kn), .ref m5, .ref m6, .ref m7, .ref m8, .ref m9, .int dr, .ref m10, .ref m11, .int (nI lf), .int (nI yo), .int (nI ol), .ref m12, .long hh])), (m4, .inl (cI, 22, .inl (fun zz => nI (S1 zz))))] := hD
              exact kqv (w1 := (fun u : Nat × Nat × (Nat → Nat) => [(m0, .inr (6, [.ref m1, .ref m2, .int (nI bm), .long un, .ref m3, .int (nI ty), .ref m4, .int (nI (sp + 1)), .int (nI u.1), .int (nI u.2.1), .int (nI kn), .ref m5, .ref m6, .ref m7, .ref m8, .ref m9, .int dr, .ref m10, .ref m11, .int (nI lf), .int (nI yo), .int (nI ol), .ref m12, .long hh])), (m4, .inl (cI, 22, .inl (fun zz => nI (u.2.2 zz))))])) Y hr hlocks hK hP hD hS [0, 1] (by decide) (fa, fp, S1) rfl ⟨Fut_en_ok hF h2 hch hit hnb (fun _ => en_S2 hit hS4 (fun q => hS3.resolve_right q) (fun q => ⟨by omega, by omega⟩) hS1 (by omega)), h4, (fun x hx9 => by show S1 x ≤ 99; rw [hS1 x]; split; exact Nat.zero_le _; exact hSb x hx9)⟩ dX6_ends_129
            · refine lv_iload_n hx hb dX6_ends_98 rfl (lv_at hl 1 rfl) ?_
              refine lv_iconst (v := nI 3) hx hb dX6_ends_99 (by decide) ?_
              refine ri_cne (tgt := 119) hx hb dX6_ends_100 (by decide) (by omega) (by omega) (fun c100 => ?_) (fun c100 => ?_)
              · refine lv_aload_n hx hb dX6_ends_119 rfl (lv_at hl 0 rfl) ?_
                refine lv_dup hx hb dX6_ends_120 rfl ?_
                refine va_get (D := (dC, dI)) (ci := 6) (v := .int (nI sp)) (C := RX6) (T := TX6) (N := 24) hx hb hts inlX6 hown hK hP 0 rfl rfl 7 (by decide) (hts _ qf_X6_84) (fun _ h9 => h9) rfl dX6_ends_121 ?_
                refine lv_iconst (v := nI 1) hx hb dX6_ends_124 (by decide) ?_
                refine ri_add hx hb dX6_ends_125 ?_
                refine va_put (D := (dC, dI)) (ci := 6) (v := .int (nI (sp + 1))) (ty := .int) (C := RX6) (T := TX6) (N := 24) hx hb hts inlX6 tyX6 tyX6_ok nmX6 hown hK hP hD hS 0 rfl rfl 7 (by decide) (hts _ qf_X6_84) (fun _ h9 => h9) rfl (by decide +kernel) rfl rfl (Nat.le_of_ble_eq_true rfl) dX6_ends_126 (fun H locs hP hD hS => ?_)
                have hP : va_P (dC, dI) vwCl [(m0, .inr (6, [.ref m1, .ref m2, .int (nI bm), .long un, .ref m3, .int (nI ty), .ref m4, .int (nI (sp + 1)), .int (nI fa), .int (nI fp), .int (nI kn), .ref m5, .ref m6, .ref m7, .ref m8, .ref m9, .int dr, .ref m10, .ref m11, .int (nI lf), .int (nI yo), .int (nI ol), .ref m12, .long hh])), (m4, .inl (cI, 22, .inl (fun zz => nI (S1 zz))))] H := hP
                have hD : va_D A [(m0, .inr (6, [.ref m1, .ref m2, .int (nI bm), .long un, .ref m3, .int (nI ty), .ref m4, .int (nI (sp + 1)), .int (nI fa), .int (nI fp), .int (nI kn), .ref m5, .ref m6, .ref m7, .ref m8, .ref m9, .int dr, .ref m10, .ref m11, .int (nI lf), .int (nI yo), .int (nI ol), .ref m12, .long hh])), (m4, .inl (cI, 22, .inl (fun zz => nI (S1 zz))))] := hD
                exact kqv (w1 := (fun u : Nat × Nat × (Nat → Nat) => [(m0, .inr (6, [.ref m1, .ref m2, .int (nI bm), .long un, .ref m3, .int (nI ty), .ref m4, .int (nI (sp + 1)), .int (nI u.1), .int (nI u.2.1), .int (nI kn), .ref m5, .ref m6, .ref m7, .ref m8, .ref m9, .int dr, .ref m10, .ref m11, .int (nI lf), .int (nI yo), .int (nI ol), .ref m12, .long hh])), (m4, .inl (cI, 22, .inl (fun zz => nI (u.2.2 zz))))])) Y hr hlocks hK hP hD hS [0, 1] (by decide) (fa, fp, S1) rfl ⟨Fut_en_ok hF h2 hch hit hnb (fun _ => en_S2 hit hS4 (fun q => hS3.resolve_right q) (fun q => absurd q c100) hS1 (by omega)), h4, (fun x hx9 => by show S1 x ≤ 99; rw [hS1 x]; split; exact Nat.zero_le _; exact hSb x hx9)⟩ dX6_ends_129
              · refine lv_aload_n hx hb dX6_ends_103 rfl (lv_at hl 0 rfl) ?_
                refine va_get (D := (dC, dI)) (ci := 6) (v := .ref m4) (C := RX6) (T := TX6) (N := 24) hx hb hts inlX6 hown hK hP 0 rfl rfl 6 (by decide) (hts _ qf_X6_23) (fun _ h9 => h9) rfl dX6_ends_104 ?_
                refine lv_iconst (v := nI 3) hx hb dX6_ends_107 (by decide) ?_
                refine lv_iload hx hb dX6_ends_108 (lv_at hl 4 rfl) ?_
                refine ri_add hx hb dX6_ends_110 ?_
                refine lv_iconst (v := nI 0) hx hb dX6_ends_111 (by decide) ?_
                refine ri_ast hx hb hK hP hD hS 1 0 (F := S1) rfl rfl dX6_ends_112 (by decide) (by omega) (fun H locs hP hD hS => ?_)
                have hP : va_P (dC, dI) vwCl [(m0, .inr (6, [.ref m1, .ref m2, .int (nI bm), .long un, .ref m3, .int (nI ty), .ref m4, .int (nI sp), .int (nI fa), .int (nI fp), .int (nI kn), .ref m5, .ref m6, .ref m7, .ref m8, .ref m9, .int dr, .ref m10, .ref m11, .int (nI lf), .int (nI yo), .int (nI ol), .ref m12, .long hh])), (m4, .inl (cI, 22, .inl (fun zz => nI (updN S1 (3 + t2) 0 zz))))] H := hP
                have hD : va_D A [(m0, .inr (6, [.ref m1, .ref m2, .int (nI bm), .long un, .ref m3, .int (nI ty), .ref m4, .int (nI sp), .int (nI fa), .int (nI fp), .int (nI kn), .ref m5, .ref m6, .ref m7, .ref m8, .ref m9, .int dr, .ref m10, .ref m11, .int (nI lf), .int (nI yo), .int (nI ol), .ref m12, .long hh])), (m4, .inl (cI, 22, .inl (fun zz => nI (updN S1 (3 + t2) 0 zz))))] := hD
                refine lv_iinc (v := nI (t2 + 1)) (lv' := [(5, .int (nI (t2 + 1))), (0, .ref m0), (1, .int (nI (tbl tFIR it))), (2, .int (nI k)), (3, .int (nI sm))]) hx hb dX6_ends_113 hl (k := 4) rfl (inc1 _) (by decide) rfl (fun ls hl => ?_)
                refine lv_goto (tgt := 91) hx hb dX6_ends_116 (by decide) ?_
                exact ih91 (t2 + 1) (updN S1 (3 + t2) 0) _ _ _ (by show _ < _; omega) (by exact ⟨lv_sub hl [1, 2, 3, 4, 0] rfl, hP.sub [0, 1] rfl, hD.sub [0, 1] (by decide) rfl, hS, by omega, by omega, Or.inr c100, (fun x => by unfold updN; rw [hS1 x]; split <;> (try split) <;> (try split) <;> first | rfl | omega)⟩)
          · refine lv_iload_n hx hb dX6_ends_73 rfl (lv_at hl 4 rfl) ?_
            refine lv_bipush (v := nI 10) hx hb dX6_ends_74 (by decide) ?_
            refine ri_ceq (tgt := 88) hx hb dX6_ends_76 (by decide) (by omega) (by omega) (fun c76 => ?_) (fun c76 => ?_)
            · have hnb : ¬ (k < tbl tFEW it ∨ (it = 5 ∧ wsum S ≠ 10)) := fun z => z.elim (fun q => by have := (en_few hit).mp q; rw [if_neg c32] at this; omega) (fun q => q.2 (hsw.symm.trans c76))
              refine lv_iload_n hx hb dX6_ends_88 rfl (lv_at hl 3 rfl) ?_
              refine lv_istore (lv' := [(5, .int (nI k)), (4, .int (nI 0)), (0, .ref m0), (1, .int (nI (tbl tFIR it))), (2, .int (nI k)), (3, .int (nI sm))]) hx hb dX6_ends_89 hl (by decide) rfl (fun ls hl => ?_)
              refine wl2 (fun (t2 : Nat) (S1 : Nat → Nat) => 100 - t2) (fun (t2 : Nat) (S1 : Nat → Nat) (ls : Array Slot) (H : Heap) (locs : List Loc) => lv_has ls 6 [(0, .ref m0), (1, .int (nI (tbl tFIR it))), (2, .int (nI k)), (3, .int (nI sm)), (5, .int (nI t2))] ∧ va_P (dC, dI) vwCl [(m0, .inr (6, [.ref m1, .ref m2, .int (nI bm), .long un, .ref m3, .int (nI ty), .ref m4, .int (nI sp), .int (nI fa), .int (nI fp), .int (nI kn), .ref m5, .ref m6, .ref m7, .ref m8, .ref m9, .int dr, .ref m10, .ref m11, .int (nI lf), .int (nI yo), .int (nI ol), .ref m12, .long hh])), (m4, .inl (cI, 22, .inl (fun zz => nI (S1 zz))))] H ∧ va_D A [(m0, .inr (6, [.ref m1, .ref m2, .int (nI bm), .long un, .ref m3, .int (nI ty), .ref m4, .int (nI sp), .int (nI fa), .int (nI fp), .int (nI kn), .ref m5, .ref m6, .ref m7, .ref m8, .ref m9, .int dr, .ref m10, .ref m11, .int (nI lf), .int (nI yo), .int (nI ol), .ref m12, .long hh])), (m4, .inl (cI, 22, .inl (fun zz => nI (S1 zz))))] ∧ va_S A s.heap H locs ∧ (k ≤ t2 ∧ (t2 ≤ 7 ∨ t2 = k) ∧ (t2 = k ∨ tbl tFIR it = 3) ∧ (∀ x, S1 x = if 3 + k ≤ x ∧ x < 3 + t2 then 0 else S x))) k S (by exact ⟨lv_sub hl [2, 3, 4, 5, 0] rfl, hP.sub [0, 1] rfl, hD.sub [0, 1] (by decide) rfl, hS, by omega, by omega, Or.inl rfl, (fun x => by rw [if_neg (by omega)])⟩) (fun t2 S1 ls H locs hI ih => ?_)
              obtain ⟨hl, hP, hD, hS, hS4, hS5, hS3, hS1⟩ := hI
              have ih91 := ih
              refine lv_iload hx hb dX6_ends_91 (lv_at hl 4 rfl) ?_
              refine lv_bipush (v := nI 7) hx hb dX6_ends_93 (by decide) ?_
              refine ri_cge (tgt := 119) hx hb dX6_ends_95 (by decide) (by omega) (by omega) (fun c95 => ?_) (fun c95 => ?_)
              · refine lv_aload_n hx hb dX6_ends_119 rfl (lv_at hl 0 rfl) ?_
                refine lv_dup hx hb dX6_ends_120 rfl ?_
                refine va_get (D := (dC, dI)) (ci := 6) (v := .int (nI sp)) (C := RX6) (T := TX6) (N := 24) hx hb hts inlX6 hown hK hP 0 rfl rfl 7 (by decide) (hts _ qf_X6_84) (fun _ h9 => h9) rfl dX6_ends_121 ?_
                refine lv_iconst (v := nI 1) hx hb dX6_ends_124 (by decide) ?_
                refine ri_add hx hb dX6_ends_125 ?_
                refine va_put (D := (dC, dI)) (ci := 6) (v := .int (nI (sp + 1))) (ty := .int) (C := RX6) (T := TX6) (N := 24) hx hb hts inlX6 tyX6 tyX6_ok nmX6 hown hK hP hD hS 0 rfl rfl 7 (by decide) (hts _ qf_X6_84) (fun _ h9 => h9) rfl (by decide +kernel) rfl rfl (Nat.le_of_ble_eq_true rfl) dX6_ends_126 (fun H locs hP hD hS => ?_)
                have hP : va_P (dC, dI) vwCl [(m0, .inr (6, [.ref m1, .ref m2, .int (nI bm), .long un, .ref m3, .int (nI ty), .ref m4, .int (nI (sp + 1)), .int (nI fa), .int (nI fp), .int (nI kn), .ref m5, .ref m6, .ref m7, .ref m8, .ref m9, .int dr, .ref m10, .ref m11, .int (nI lf), .int (nI yo), .int (nI ol), .ref m12, .long hh])), (m4, .inl (cI, 22, .inl (fun zz => nI (S1 zz))))] H := hP
                have hD : va_D A [(m0, .inr (6, [.ref m1, .ref m2, .int (nI bm), .long un, .ref m3, .int (nI ty), .ref m4, .int (nI (sp + 1)), .int (nI fa), .int (nI fp), .int (nI kn), .ref m5, .ref m6, .ref m7, .ref m8, .ref m9, .int dr, .ref m10, .ref m11, .int (nI lf), .int (nI yo), .int (nI ol), .ref m12, .long hh])), (m4, .inl (cI, 22, .inl (fun zz => nI (S1 zz))))] := hD
                exact kqv (w1 := (fun u : Nat × Nat × (Nat → Nat) => [(m0, .inr (6, [.ref m1, .ref m2, .int (nI bm), .long un, .ref m3, .int (nI ty), .ref m4, .int (nI (sp + 1)), .int (nI u.1), .int (nI u.2.1), .int (nI kn), .ref m5, .ref m6, .ref m7, .ref m8, .ref m9, .int dr, .ref m10, .ref m11, .int (nI lf), .int (nI yo), .int (nI ol), .ref m12, .long hh])), (m4, .inl (cI, 22, .inl (fun zz => nI (u.2.2 zz))))])) Y hr hlocks hK hP hD hS [0, 1] (by decide) (fa, fp, S1) rfl ⟨Fut_en_ok hF h2 hch hit hnb (fun _ => en_S2 hit hS4 (fun q => hS3.resolve_right q) (fun q => ⟨by omega, by omega⟩) hS1 (by omega)), h4, (fun x hx9 => by show S1 x ≤ 99; rw [hS1 x]; split; exact Nat.zero_le _; exact hSb x hx9)⟩ dX6_ends_129
              · refine lv_iload_n hx hb dX6_ends_98 rfl (lv_at hl 1 rfl) ?_
                refine lv_iconst (v := nI 3) hx hb dX6_ends_99 (by decide) ?_
                refine ri_cne (tgt := 119) hx hb dX6_ends_100 (by decide) (by omega) (by omega) (fun c100 => ?_) (fun c100 => ?_)
                · refine lv_aload_n hx hb dX6_ends_119 rfl (lv_at hl 0 rfl) ?_
                  refine lv_dup hx hb dX6_ends_120 rfl ?_
                  refine va_get (D := (dC, dI)) (ci := 6) (v := .int (nI sp)) (C := RX6) (T := TX6) (N := 24) hx hb hts inlX6 hown hK hP 0 rfl rfl 7 (by decide) (hts _ qf_X6_84) (fun _ h9 => h9) rfl dX6_ends_121 ?_
                  refine lv_iconst (v := nI 1) hx hb dX6_ends_124 (by decide) ?_
                  refine ri_add hx hb dX6_ends_125 ?_
                  refine va_put (D := (dC, dI)) (ci := 6) (v := .int (nI (sp + 1))) (ty := .int) (C := RX6) (T := TX6) (N := 24) hx hb hts inlX6 tyX6 tyX6_ok nmX6 hown hK hP hD hS 0 rfl rfl 7 (by decide) (hts _ qf_X6_84) (fun _ h9 => h9) rfl (by decide +kernel) rfl rfl (Nat.le_of_ble_eq_true rfl) dX6_ends_126 (fun H locs hP hD hS => ?_)
                  have hP : va_P (dC, dI) vwCl [(m0, .inr (6, [.ref m1, .ref m2, .int (nI bm), .long un, .ref m3, .int (nI ty), .ref m4, .int (nI (sp + 1)), .int (nI fa), .int (nI fp), .int (nI kn), .ref m5, .ref m6, .ref m7, .ref m8, .ref m9, .int dr, .ref m10, .ref m11, .int (nI lf), .int (nI yo), .int (nI ol), .ref m12, .long hh])), (m4, .inl (cI, 22, .inl (fun zz => nI (S1 zz))))] H := hP
                  have hD : va_D A [(m0, .inr (6, [.ref m1, .ref m2, .int (nI bm), .long un, .ref m3, .int (nI ty), .ref m4, .int (nI (sp + 1)), .int (nI fa), .int (nI fp), .int (nI kn), .ref m5, .ref m6, .ref m7, .ref m8, .ref m9, .int dr, .ref m10, .ref m11, .int (nI lf), .int (nI yo), .int (nI ol), .ref m12, .long hh])), (m4, .inl (cI, 22, .inl (fun zz => nI (S1 zz))))] := hD
                  exact kqv (w1 := (fun u : Nat × Nat × (Nat → Nat) => [(m0, .inr (6, [.ref m1, .ref m2, .int (nI bm), .long un, .ref m3, .int (nI ty), .ref m4, .int (nI (sp + 1)), .int (nI u.1), .int (nI u.2.1), .int (nI kn), .ref m5, .ref m6, .ref m7, .ref m8, .ref m9, .int dr, .ref m10, .ref m11, .int (nI lf), .int (nI yo), .int (nI ol), .ref m12, .long hh])), (m4, .inl (cI, 22, .inl (fun zz => nI (u.2.2 zz))))])) Y hr hlocks hK hP hD hS [0, 1] (by decide) (fa, fp, S1) rfl ⟨Fut_en_ok hF h2 hch hit hnb (fun _ => en_S2 hit hS4 (fun q => hS3.resolve_right q) (fun q => absurd q c100) hS1 (by omega)), h4, (fun x hx9 => by show S1 x ≤ 99; rw [hS1 x]; split; exact Nat.zero_le _; exact hSb x hx9)⟩ dX6_ends_129
                · refine lv_aload_n hx hb dX6_ends_103 rfl (lv_at hl 0 rfl) ?_
                  refine va_get (D := (dC, dI)) (ci := 6) (v := .ref m4) (C := RX6) (T := TX6) (N := 24) hx hb hts inlX6 hown hK hP 0 rfl rfl 6 (by decide) (hts _ qf_X6_23) (fun _ h9 => h9) rfl dX6_ends_104 ?_
                  refine lv_iconst (v := nI 3) hx hb dX6_ends_107 (by decide) ?_
                  refine lv_iload hx hb dX6_ends_108 (lv_at hl 4 rfl) ?_
                  refine ri_add hx hb dX6_ends_110 ?_
                  refine lv_iconst (v := nI 0) hx hb dX6_ends_111 (by decide) ?_
                  refine ri_ast hx hb hK hP hD hS 1 0 (F := S1) rfl rfl dX6_ends_112 (by decide) (by omega) (fun H locs hP hD hS => ?_)
                  have hP : va_P (dC, dI) vwCl [(m0, .inr (6, [.ref m1, .ref m2, .int (nI bm), .long un, .ref m3, .int (nI ty), .ref m4, .int (nI sp), .int (nI fa), .int (nI fp), .int (nI kn), .ref m5, .ref m6, .ref m7, .ref m8, .ref m9, .int dr, .ref m10, .ref m11, .int (nI lf), .int (nI yo), .int (nI ol), .ref m12, .long hh])), (m4, .inl (cI, 22, .inl (fun zz => nI (updN S1 (3 + t2) 0 zz))))] H := hP
                  have hD : va_D A [(m0, .inr (6, [.ref m1, .ref m2, .int (nI bm), .long un, .ref m3, .int (nI ty), .ref m4, .int (nI sp), .int (nI fa), .int (nI fp), .int (nI kn), .ref m5, .ref m6, .ref m7, .ref m8, .ref m9, .int dr, .ref m10, .ref m11, .int (nI lf), .int (nI yo), .int (nI ol), .ref m12, .long hh])), (m4, .inl (cI, 22, .inl (fun zz => nI (updN S1 (3 + t2) 0 zz))))] := hD
                  refine lv_iinc (v := nI (t2 + 1)) (lv' := [(5, .int (nI (t2 + 1))), (0, .ref m0), (1, .int (nI (tbl tFIR it))), (2, .int (nI k)), (3, .int (nI sm))]) hx hb dX6_ends_113 hl (k := 4) rfl (inc1 _) (by decide) rfl (fun ls hl => ?_)
                  refine lv_goto (tgt := 91) hx hb dX6_ends_116 (by decide) ?_
                  exact ih91 (t2 + 1) (updN S1 (3 + t2) 0) _ _ _ (by show _ < _; omega) (by exact ⟨lv_sub hl [1, 2, 3, 4, 0] rfl, hP.sub [0, 1] rfl, hD.sub [0, 1] (by decide) rfl, hS, by omega, by omega, Or.inr c100, (fun x => by unfold updN; rw [hS1 x]; split <;> (try split) <;> (try split) <;> first | rfl | omega)⟩)
            · refine lv_aload_n hx hb dX6_ends_79 rfl (lv_at hl 1 rfl) ?_
              refine lv_iconst (v := nI 3) hx hb dX6_ends_80 (by decide) ?_
              refine lv_aload_n hx hb dX6_ends_81 rfl (lv_at hl 1 rfl) ?_
              refine va_get (D := (dC, dI)) (ci := 6) (v := .int (nI sp)) (C := RX6) (T := TX6) (N := 24) hx hb hts inlX6 hown hK hP 0 rfl rfl 7 (by decide) (hts _ qf_X6_84) (fun _ h9 => h9) rfl dX6_ends_82 ?_
              refine kQv (As := [.int (nI 3), .int (nI sp)]) (rest := []) (wr := [(m4, .inl (cI, 22, .inl (fun zz => nI (S zz))))]) Y m_X6_fails (c_X6_fails l dC dI _ cI cL m0 m1 m2 m3 m4 m5 m6 m7 m8 m9 m10 m11 m12 bm ty sp fa fp kn lf yo ol un hh dr 3 sp (by omega)) qm_X6_97 hP hD hS hA [0] [1] rfl rfl (by decide) (by decide) (kqV (ci := 6) hK hP hD hZ hS hA [0] [] rfl (by decide) rfl 0 rfl rfl rfl) rfl hl.1 rfl (Nat.le_of_ble_eq_true rfl) dX6_ends_85 ⟨Nat.le_of_ble_eq_true rfl, Nat.le_of_ble_eq_true rfl⟩ ⟨Nat.zero_le _, Nat.zero_le _⟩ (fun u85 H locs hr85 hP hD hS => ?_)
              obtain ⟨fa2_85, fp2_85⟩ := u85
              have hP : va_P (dC, dI) vwCl [(m4, .inl (cI, 22, .inl (fun zz => nI (S zz)))), (m0, .inr (6, [.ref m1, .ref m2, .int (nI bm), .long un, .ref m3, .int (nI ty), .ref m4, .int (nI sp), .int (nI fa2_85), .int (nI fp2_85), .int (nI kn), .ref m5, .ref m6, .ref m7, .ref m8, .ref m9, .int dr, .ref m10, .ref m11, .int (nI lf), .int (nI yo), .int (nI ol), .ref m12, .long hh]))] H := hP
              have hD : va_D A [(m4, .inl (cI, 22, .inl (fun zz => nI (S zz)))), (m0, .inr (6, [.ref m1, .ref m2, .int (nI bm), .long un, .ref m3, .int (nI ty), .ref m4, .int (nI sp), .int (nI fa2_85), .int (nI fp2_85), .int (nI kn), .ref m5, .ref m6, .ref m7, .ref m8, .ref m9, .int dr, .ref m10, .ref m11, .int (nI lf), .int (nI yo), .int (nI ol), .ref m12, .long hh]))] := hD
              have hr85 : fa2_85 = (if fa = 0 then 3 else fa) ∧ fp2_85 = (if fa = 0 then sp else fp) := hr85
              have hF2 : ∀ (sp' : Nat) (st : TSt), Fut g tx ty fa2_85 fp2_85 sp' st := fun sp' st => by rw [hr85.1, hr85.2]; exact Fut_en_bad hF h2 hch hit (Or.inr ⟨hm.2.2.2.2.1.mp c70, (fun q => c76 (hsw.trans q))⟩)
              have hfa9 : fa2_85 ≤ 3 := by rw [hr85.1]; split <;> omega
              have hfa8 : fa2_85 = 0 → False := by rw [hr85.1]; intro q; split at q <;> omega
              refine lv_iload_n hx hb dX6_ends_88 rfl (lv_at hl 3 rfl) ?_
              refine lv_istore (lv' := [(5, .int (nI k)), (4, .int (nI 0)), (0, .ref m0), (1, .int (nI (tbl tFIR it))), (2, .int (nI k)), (3, .int (nI sm))]) hx hb dX6_ends_89 hl (by decide) rfl (fun ls hl => ?_)
              refine wl2 (fun (t2 : Nat) (S1 : Nat → Nat) => 100 - t2) (fun (t2 : Nat) (S1 : Nat → Nat) (ls : Array Slot) (H : Heap) (locs : List Loc) => lv_has ls 6 [(0, .ref m0), (1, .int (nI (tbl tFIR it))), (2, .int (nI k)), (3, .int (nI sm)), (5, .int (nI t2))] ∧ va_P (dC, dI) vwCl [(m4, .inl (cI, 22, .inl (fun zz => nI (S1 zz)))), (m0, .inr (6, [.ref m1, .ref m2, .int (nI bm), .long un, .ref m3, .int (nI ty), .ref m4, .int (nI sp), .int (nI fa2_85), .int (nI fp2_85), .int (nI kn), .ref m5, .ref m6, .ref m7, .ref m8, .ref m9, .int dr, .ref m10, .ref m11, .int (nI lf), .int (nI yo), .int (nI ol), .ref m12, .long hh]))] H ∧ va_D A [(m4, .inl (cI, 22, .inl (fun zz => nI (S1 zz)))), (m0, .inr (6, [.ref m1, .ref m2, .int (nI bm), .long un, .ref m3, .int (nI ty), .ref m4, .int (nI sp), .int (nI fa2_85), .int (nI fp2_85), .int (nI kn), .ref m5, .ref m6, .ref m7, .ref m8, .ref m9, .int dr, .ref m10, .ref m11, .int (nI lf), .int (nI yo), .int (nI ol), .ref m12, .long hh]))] ∧ va_S A s.heap H locs ∧ (k ≤ t2 ∧ (t2 ≤ 7 ∨ t2 = k) ∧ (t2 = k ∨ tbl tFIR it = 3) ∧ (∀ x, S1 x = if 3 + k ≤ x ∧ x < 3 + t2 then 0 else S x))) k S (by exact ⟨lv_sub hl [2, 3, 4, 5, 0] rfl, hP.sub [0, 1] rfl, hD.sub [0, 1] (by decide) rfl, hS, by omega, by omega, Or.inl rfl, (fun x => by rw [if_neg (by omega)])⟩) (fun t2 S1 ls H locs hI ih => ?_)
              obtain ⟨hl, hP, hD, hS, hS4, hS5, hS3, hS1⟩ := hI
              have ih91 := ih
              refine lv_iload hx hb dX6_ends_91 (lv_at hl 4 rfl) ?_
              refine lv_bipush (v := nI 7) hx hb dX6_ends_93 (by decide) ?_
              refine ri_cge (tgt := 119) hx hb dX6_ends_95 (by decide) (by omega) (by omega) (fun c95 => ?_) (fun c95 => ?_)
              · refine lv_aload_n hx hb dX6_ends_119 rfl (lv_at hl 0 rfl) ?_
                refine lv_dup hx hb dX6_ends_120 rfl ?_
                refine va_get (D := (dC, dI)) (ci := 6) (v := .int (nI sp)) (C := RX6) (T := TX6) (N := 24) hx hb hts inlX6 hown hK hP 1 rfl rfl 7 (by decide) (hts _ qf_X6_84) (fun _ h9 => h9) rfl dX6_ends_121 ?_
                refine lv_iconst (v := nI 1) hx hb dX6_ends_124 (by decide) ?_
                refine ri_add hx hb dX6_ends_125 ?_
                refine va_put (D := (dC, dI)) (ci := 6) (v := .int (nI (sp + 1))) (ty := .int) (C := RX6) (T := TX6) (N := 24) hx hb hts inlX6 tyX6 tyX6_ok nmX6 hown hK hP hD hS 1 rfl rfl 7 (by decide) (hts _ qf_X6_84) (fun _ h9 => h9) rfl (by decide +kernel) rfl rfl (Nat.le_of_ble_eq_true rfl) dX6_ends_126 (fun H locs hP hD hS => ?_)
                have hP : va_P (dC, dI) vwCl [(m4, .inl (cI, 22, .inl (fun zz => nI (S1 zz)))), (m0, .inr (6, [.ref m1, .ref m2, .int (nI bm), .long un, .ref m3, .int (nI ty), .ref m4, .int (nI (sp + 1)), .int (nI fa2_85), .int (nI fp2_85), .int (nI kn), .ref m5, .ref m6, .ref m7, .ref m8, .ref m9, .int dr, .ref m10, .ref m11, .int (nI lf), .int (nI yo), .int (nI ol), .ref m12, .long hh]))] H := hP
                have hD : va_D A [(m4, .inl (cI, 22, .inl (fun zz => nI (S1 zz)))), (m0, .inr (6, [.ref m1, .ref m2, .int (nI bm), .long un, .ref m3, .int (nI ty), .ref m4, .int (nI (sp + 1)), .int (nI fa2_85), .int (nI fp2_85), .int (nI kn), .ref m5, .ref m6, .ref m7, .ref m8, .ref m9, .int dr, .ref m10, .ref m11, .int (nI lf), .int (nI yo), .int (nI ol), .ref m12, .long hh]))] := hD
                exact kqv (w1 := (fun u : Nat × Nat × (Nat → Nat) => [(m0, .inr (6, [.ref m1, .ref m2, .int (nI bm), .long un, .ref m3, .int (nI ty), .ref m4, .int (nI (sp + 1)), .int (nI u.1), .int (nI u.2.1), .int (nI kn), .ref m5, .ref m6, .ref m7, .ref m8, .ref m9, .int dr, .ref m10, .ref m11, .int (nI lf), .int (nI yo), .int (nI ol), .ref m12, .long hh])), (m4, .inl (cI, 22, .inl (fun zz => nI (u.2.2 zz))))])) Y hr hlocks hK hP hD hS [1, 0] (by decide) (fa2_85, fp2_85, S1) rfl ⟨hF2 _ _, hfa9, (fun x hx9 => by show S1 x ≤ 99; rw [hS1 x]; split; exact Nat.zero_le _; exact hSb x hx9)⟩ dX6_ends_129
              · refine lv_iload_n hx hb dX6_ends_98 rfl (lv_at hl 1 rfl) ?_
                refine lv_iconst (v := nI 3) hx hb dX6_ends_99 (by decide) ?_
                refine ri_cne (tgt := 119) hx hb dX6_ends_100 (by decide) (by omega) (by omega) (fun c100 => ?_) (fun c100 => ?_)
                · refine lv_aload_n hx hb dX6_ends_119 rfl (lv_at hl 0 rfl) ?_
                  refine lv_dup hx hb dX6_ends_120 rfl ?_
                  refine va_get (D := (dC, dI)) (ci := 6) (v := .int (nI sp)) (C := RX6) (T := TX6) (N := 24) hx hb hts inlX6 hown hK hP 1 rfl rfl 7 (by decide) (hts _ qf_X6_84) (fun _ h9 => h9) rfl dX6_ends_121 ?_
                  refine lv_iconst (v := nI 1) hx hb dX6_ends_124 (by decide) ?_
                  refine ri_add hx hb dX6_ends_125 ?_
                  refine va_put (D := (dC, dI)) (ci := 6) (v := .int (nI (sp + 1))) (ty := .int) (C := RX6) (T := TX6) (N := 24) hx hb hts inlX6 tyX6 tyX6_ok nmX6 hown hK hP hD hS 1 rfl rfl 7 (by decide) (hts _ qf_X6_84) (fun _ h9 => h9) rfl (by decide +kernel) rfl rfl (Nat.le_of_ble_eq_true rfl) dX6_ends_126 (fun H locs hP hD hS => ?_)
                  have hP : va_P (dC, dI) vwCl [(m4, .inl (cI, 22, .inl (fun zz => nI (S1 zz)))), (m0, .inr (6, [.ref m1, .ref m2, .int (nI bm), .long un, .ref m3, .int (nI ty), .ref m4, .int (nI (sp + 1)), .int (nI fa2_85), .int (nI fp2_85), .int (nI kn), .ref m5, .ref m6, .ref m7, .ref m8, .ref m9, .int dr, .ref m10, .ref m11, .int (nI lf), .int (nI yo), .int (nI ol), .ref m12, .long hh]))] H := hP
                  have hD : va_D A [(m4, .inl (cI, 22, .inl (fun zz => nI (S1 zz)))), (m0, .inr (6, [.ref m1, .ref m2, .int (nI bm), .long un, .ref m3, .int (nI ty), .ref m4, .int (nI (sp + 1)), .int (nI fa2_85), .int (nI fp2_85), .int (nI kn), .ref m5, .ref m6, .ref m7, .ref m8, .ref m9, .int dr, .ref m10, .ref m11, .int (nI lf), .int (nI yo), .int (nI ol), .ref m12, .long hh]))] := hD
                  exact kqv (w1 := (fun u : Nat × Nat × (Nat → Nat) => [(m0, .inr (6, [.ref m1, .ref m2, .int (nI bm), .long un, .ref m3, .int (nI ty), .ref m4, .int (nI (sp + 1)), .int (nI u.1), .int (nI u.2.1), .int (nI kn), .ref m5, .ref m6, .ref m7, .ref m8, .ref m9, .int dr, .ref m10, .ref m11, .int (nI lf), .int (nI yo), .int (nI ol), .ref m12, .long hh])), (m4, .inl (cI, 22, .inl (fun zz => nI (u.2.2 zz))))])) Y hr hlocks hK hP hD hS [1, 0] (by decide) (fa2_85, fp2_85, S1) rfl ⟨hF2 _ _, hfa9, (fun x hx9 => by show S1 x ≤ 99; rw [hS1 x]; split; exact Nat.zero_le _; exact hSb x hx9)⟩ dX6_ends_129
                · refine lv_aload_n hx hb dX6_ends_103 rfl (lv_at hl 0 rfl) ?_
                  refine va_get (D := (dC, dI)) (ci := 6) (v := .ref m4) (C := RX6) (T := TX6) (N := 24) hx hb hts inlX6 hown hK hP 1 rfl rfl 6 (by decide) (hts _ qf_X6_23) (fun _ h9 => h9) rfl dX6_ends_104 ?_
                  refine lv_iconst (v := nI 3) hx hb dX6_ends_107 (by decide) ?_
                  refine lv_iload hx hb dX6_ends_108 (lv_at hl 4 rfl) ?_
                  refine ri_add hx hb dX6_ends_110 ?_
                  refine lv_iconst (v := nI 0) hx hb dX6_ends_111 (by decide) ?_
                  refine ri_ast hx hb hK hP hD hS 0 0 (F := S1) rfl rfl dX6_ends_112 (by decide) (by omega) (fun H locs hP hD hS => ?_)
                  have hP : va_P (dC, dI) vwCl [(m4, .inl (cI, 22, .inl (fun zz => nI (updN S1 (3 + t2) 0 zz)))), (m0, .inr (6, [.ref m1, .ref m2, .int (nI bm), .long un, .ref m3, .int (nI ty), .ref m4, .int (nI sp), .int (nI fa2_85), .int (nI fp2_85), .int (nI kn), .ref m5, .ref m6, .ref m7, .ref m8, .ref m9, .int dr, .ref m10, .ref m11, .int (nI lf), .int (nI yo), .int (nI ol), .ref m12, .long hh]))] H := hP
                  have hD : va_D A [(m4, .inl (cI, 22, .inl (fun zz => nI (updN S1 (3 + t2) 0 zz)))), (m0, .inr (6, [.ref m1, .ref m2, .int (nI bm), .long un, .ref m3, .int (nI ty), .ref m4, .int (nI sp), .int (nI fa2_85), .int (nI fp2_85), .int (nI kn), .ref m5, .ref m6, .ref m7, .ref m8, .ref m9, .int dr, .ref m10, .ref m11, .int (nI lf), .int (nI yo), .int (nI ol), .ref m12, .long hh]))] := hD
                  refine lv_iinc (v := nI (t2 + 1)) (lv' := [(5, .int (nI (t2 + 1))), (0, .ref m0), (1, .int (nI (tbl tFIR it))), (2, .int (nI k)), (3, .int (nI sm))]) hx hb dX6_ends_113 hl (k := 4) rfl (inc1 _) (by decide) rfl (fun ls hl => ?_)
                  refine lv_goto (tgt := 91) hx hb dX6_ends_116 (by decide) ?_
                  exact ih91 (t2 + 1) (updN S1 (3 + t2) 0) _ _ _ (by show _ < _; omega) (by exact ⟨lv_sub hl [1, 2, 3, 4, 0] rfl, hP.sub [0, 1] rfl, hD.sub [0, 1] (by decide) rfl, hS, by omega, by omega, Or.inr c100, (fun x => by unfold updN; rw [hS1 x]; split <;> (try split) <;> (try split) <;> first | rfl | omega)⟩)
      · refine lv_iconst (v := nI 1) hx hb dX6_ends_55 (by decide) ?_
        refine lv_goto (tgt := 60) hx hb dX6_ends_56 (by decide) ?_
        refine lv_istore (lv' := [(4, .int (nI 1)), (0, .ref m0), (1, .int (nI (tbl tFIR it))), (2, .int (nI k)), (3, .int (nI sm))]) hx hb dX6_ends_60 hl (by decide) rfl (fun ls hl => ?_)
        refine lv_iload hx hb dX6_ends_62 (lv_at hl 0 rfl) ?_
        refine ri_zne (tgt := 79) hx hb dX6_ends_64 (by decide) (by omega) (fun c64 => ?_) (fun c64 => ?_)
        · refine lv_aload_n hx hb dX6_ends_79 rfl (lv_at hl 1 rfl) ?_
          refine lv_iconst (v := nI 3) hx hb dX6_ends_80 (by decide) ?_
          refine lv_aload_n hx hb dX6_ends_81 rfl (lv_at hl 1 rfl) ?_
          refine va_get (D := (dC, dI)) (ci := 6) (v := .int (nI sp)) (C := RX6) (T := TX6) (N := 24) hx hb hts inlX6 hown hK hP 0 rfl rfl 7 (by decide) (hts _ qf_X6_84) (fun _ h9 => h9) rfl dX6_ends_82 ?_
          refine kQv (As := [.int (nI 3), .int (nI sp)]) (rest := []) (wr := [(m4, .inl (cI, 22, .inl (fun zz => nI (S zz))))]) Y m_X6_fails (c_X6_fails l dC dI _ cI cL m0 m1 m2 m3 m4 m5 m6 m7 m8 m9 m10 m11 m12 bm ty sp fa fp kn lf yo ol un hh dr 3 sp (by omega)) qm_X6_97 hP hD hS hA [0] [1] rfl rfl (by decide) (by decide) (kqV (ci := 6) hK hP hD hZ hS hA [0] [] rfl (by decide) rfl 0 rfl rfl rfl) rfl hl.1 rfl (Nat.le_of_ble_eq_true rfl) dX6_ends_85 ⟨Nat.le_of_ble_eq_true rfl, Nat.le_of_ble_eq_true rfl⟩ ⟨Nat.zero_le _, Nat.zero_le _⟩ (fun u85 H locs hr85 hP hD hS => ?_)
          obtain ⟨fa2_85, fp2_85⟩ := u85
          have hP : va_P (dC, dI) vwCl [(m4, .inl (cI, 22, .inl (fun zz => nI (S zz)))), (m0, .inr (6, [.ref m1, .ref m2, .int (nI bm), .long un, .ref m3, .int (nI ty), .ref m4, .int (nI sp), .int (nI fa2_85), .int (nI fp2_85), .int (nI kn), .ref m5, .ref m6, .ref m7, .ref m8, .ref m9, .int dr, .ref m10, .ref m11, .int (nI lf), .int (nI yo), .int (nI ol), .ref m12, .long hh]))] H := hP
          have hD : va_D A [(m4, .inl (cI, 22, .inl (fun zz => nI (S zz)))), (m0, .inr (6, [.ref m1, .ref m2, .int (nI bm), .long un, .ref m3, .int (nI ty), .ref m4, .int (nI sp), .int (nI fa2_85), .int (nI fp2_85), .int (nI kn), .ref m5, .ref m6, .ref m7, .ref m8, .ref m9, .int dr, .ref m10, .ref m11, .int (nI lf), .int (nI yo), .int (nI ol), .ref m12, .long hh]))] := hD
          have hr85 : fa2_85 = (if fa = 0 then 3 else fa) ∧ fp2_85 = (if fa = 0 then sp else fp) := hr85
          have hF2 : ∀ (sp' : Nat) (st : TSt), Fut g tx ty fa2_85 fp2_85 sp' st := fun sp' st => by rw [hr85.1, hr85.2]; exact Fut_en_bad hF h2 hch hit (Or.inl ((en_few hit).mpr (by rw [if_neg c32]; exact c52)))
          have hfa9 : fa2_85 ≤ 3 := by rw [hr85.1]; split <;> omega
          have hfa8 : fa2_85 = 0 → False := by rw [hr85.1]; intro q; split at q <;> omega
          refine lv_iload_n hx hb dX6_ends_88 rfl (lv_at hl 3 rfl) ?_
          refine lv_istore (lv' := [(5, .int (nI k)), (4, .int (nI 1)), (0, .ref m0), (1, .int (nI (tbl tFIR it))), (2, .int (nI k)), (3, .int (nI sm))]) hx hb dX6_ends_89 hl (by decide) rfl (fun ls hl => ?_)
          refine wl2 (fun (t2 : Nat) (S1 : Nat → Nat) => 100 - t2) (fun (t2 : Nat) (S1 : Nat → Nat) (ls : Array Slot) (H : Heap) (locs : List Loc) => lv_has ls 6 [(0, .ref m0), (1, .int (nI (tbl tFIR it))), (2, .int (nI k)), (3, .int (nI sm)), (5, .int (nI t2))] ∧ va_P (dC, dI) vwCl [(m4, .inl (cI, 22, .inl (fun zz => nI (S1 zz)))), (m0, .inr (6, [.ref m1, .ref m2, .int (nI bm), .long un, .ref m3, .int (nI ty), .ref m4, .int (nI sp), .int (nI fa2_85), .int (nI fp2_85), .int (nI kn), .ref m5, .ref m6, .ref m7, .ref m8, .ref m9, .int dr, .ref m10, .ref m11, .int (nI lf), .int (nI yo), .int (nI ol), .ref m12, .long hh]))] H ∧ va_D A [(m4, .inl (cI, 22, .inl (fun zz => nI (S1 zz)))), (m0, .inr (6, [.ref m1, .ref m2, .int (nI bm), .long un, .ref m3, .int (nI ty), .ref m4, .int (nI sp), .int (nI fa2_85), .int (nI fp2_85), .int (nI kn), .ref m5, .ref m6, .ref m7, .ref m8, .ref m9, .int dr, .ref m10, .ref m11, .int (nI lf), .int (nI yo), .int (nI ol), .ref m12, .long hh]))] ∧ va_S A s.heap H locs ∧ (k ≤ t2 ∧ (t2 ≤ 7 ∨ t2 = k) ∧ (t2 = k ∨ tbl tFIR it = 3) ∧ (∀ x, S1 x = if 3 + k ≤ x ∧ x < 3 + t2 then 0 else S x))) k S (by exact ⟨lv_sub hl [2, 3, 4, 5, 0] rfl, hP.sub [0, 1] rfl, hD.sub [0, 1] (by decide) rfl, hS, by omega, by omega, Or.inl rfl, (fun x => by rw [if_neg (by omega)])⟩) (fun t2 S1 ls H locs hI ih => ?_)
          obtain ⟨hl, hP, hD, hS, hS4, hS5, hS3, hS1⟩ := hI
          have ih91 := ih
          refine lv_iload hx hb dX6_ends_91 (lv_at hl 4 rfl) ?_
          refine lv_bipush (v := nI 7) hx hb dX6_ends_93 (by decide) ?_
          refine ri_cge (tgt := 119) hx hb dX6_ends_95 (by decide) (by omega) (by omega) (fun c95 => ?_) (fun c95 => ?_)
          · refine lv_aload_n hx hb dX6_ends_119 rfl (lv_at hl 0 rfl) ?_
            refine lv_dup hx hb dX6_ends_120 rfl ?_
            refine va_get (D := (dC, dI)) (ci := 6) (v := .int (nI sp)) (C := RX6) (T := TX6) (N := 24) hx hb hts inlX6 hown hK hP 1 rfl rfl 7 (by decide) (hts _ qf_X6_84) (fun _ h9 => h9) rfl dX6_ends_121 ?_
            refine lv_iconst (v := nI 1) hx hb dX6_ends_124 (by decide) ?_
            refine ri_add hx hb dX6_ends_125 ?_
            refine va_put (D := (dC, dI)) (ci := 6) (v := .int (nI (sp + 1))) (ty := .int) (C := RX6) (T := TX6) (N := 24) hx hb hts inlX6 tyX6 tyX6_ok nmX6 hown hK hP hD hS 1 rfl rfl 7 (by decide) (hts _ qf_X6_84) (fun _ h9 => h9) rfl (by decide +kernel) rfl rfl (Nat.le_of_ble_eq_true rfl) dX6_ends_126 (fun H locs hP hD hS => ?_)
            have hP : va_P (dC, dI) vwCl [(m4, .inl (cI, 22, .inl (fun zz => nI (S1 zz)))), (m0, .inr (6, [.ref m1, .ref m2, .int (nI bm), .long un, .ref m3, .int (nI ty), .ref m4, .int (nI (sp + 1)), .int (nI fa2_85), .int (nI fp2_85), .int (nI kn), .ref m5, .ref m6, .ref m7, .ref m8, .ref m9, .int dr, .ref m10, .ref m11, .int (nI lf), .int (nI yo), .int (nI ol), .ref m12, .long hh]))] H := hP
            have hD : va_D A [(m4, .inl (cI, 22, .inl (fun zz => nI (S1 zz)))), (m0, .inr (6, [.ref m1, .ref m2, .int (nI bm), .long un, .ref m3, .int (nI ty), .ref m4, .int (nI (sp + 1)), .int (nI fa2_85), .int (nI fp2_85), .int (nI kn), .ref m5, .ref m6, .ref m7, .ref m8, .ref m9, .int dr, .ref m10, .ref m11, .int (nI lf), .int (nI yo), .int (nI ol), .ref m12, .long hh]))] := hD
            exact kqv (w1 := (fun u : Nat × Nat × (Nat → Nat) => [(m0, .inr (6, [.ref m1, .ref m2, .int (nI bm), .long un, .ref m3, .int (nI ty), .ref m4, .int (nI (sp + 1)), .int (nI u.1), .int (nI u.2.1), .int (nI kn), .ref m5, .ref m6, .ref m7, .ref m8, .ref m9, .int dr, .ref m10, .ref m11, .int (nI lf), .int (nI yo), .int (nI ol), .ref m12, .long hh])), (m4, .inl (cI, 22, .inl (fun zz => nI (u.2.2 zz))))])) Y hr hlocks hK hP hD hS [1, 0] (by decide) (fa2_85, fp2_85, S1) rfl ⟨hF2 _ _, hfa9, (fun x hx9 => by show S1 x ≤ 99; rw [hS1 x]; split; exact Nat.zero_le _; exact hSb x hx9)⟩ dX6_ends_129
          · refine lv_iload_n hx hb dX6_ends_98 rfl (lv_at hl 1 rfl) ?_
            refine lv_iconst (v := nI 3) hx hb dX6_ends_99 (by decide) ?_
            refine ri_cne (tgt := 119) hx hb dX6_ends_100 (by decide) (by omega) (by omega) (fun c100 => ?_) (fun c100 => ?_)
            · refine lv_aload_n hx hb dX6_ends_119 rfl (lv_at hl 0 rfl) ?_
              refine lv_dup hx hb dX6_ends_120 rfl ?_
              refine va_get (D := (dC, dI)) (ci := 6) (v := .int (nI sp)) (C := RX6) (T := TX6) (N := 24) hx hb hts inlX6 hown hK hP 1 rfl rfl 7 (by decide) (hts _ qf_X6_84) (fun _ h9 => h9) rfl dX6_ends_121 ?_
              refine lv_iconst (v := nI 1) hx hb dX6_ends_124 (by decide) ?_
              refine ri_add hx hb dX6_ends_125 ?_
              refine va_put (D := (dC, dI)) (ci := 6) (v := .int (nI (sp + 1))) (ty := .int) (C := RX6) (T := TX6) (N := 24) hx hb hts inlX6 tyX6 tyX6_ok nmX6 hown hK hP hD hS 1 rfl rfl 7 (by decide) (hts _ qf_X6_84) (fun _ h9 => h9) rfl (by decide +kernel) rfl rfl (Nat.le_of_ble_eq_true rfl) dX6_ends_126 (fun H locs hP hD hS => ?_)
              have hP : va_P (dC, dI) vwCl [(m4, .inl (cI, 22, .inl (fun zz => nI (S1 zz)))), (m0, .inr (6, [.ref m1, .ref m2, .int (nI bm), .long un, .ref m3, .int (nI ty), .ref m4, .int (nI (sp + 1)), .int (nI fa2_85), .int (nI fp2_85), .int (nI kn), .ref m5, .ref m6, .ref m7, .ref m8, .ref m9, .int dr, .ref m10, .ref m11, .int (nI lf), .int (nI yo), .int (nI ol), .ref m12, .long hh]))] H := hP
              have hD : va_D A [(m4, .inl (cI, 22, .inl (fun zz => nI (S1 zz)))), (m0, .inr (6, [.ref m1, .ref m2, .int (nI bm), .long un, .ref m3, .int (nI ty), .ref m4, .int (nI (sp + 1)), .int (nI fa2_85), .int (nI fp2_85), .int (nI kn), .ref m5, .ref m6, .ref m7, .ref m8, .ref m9, .int dr, .ref m10, .ref m11, .int (nI lf), .int (nI yo), .int (nI ol), .ref m12, .long hh]))] := hD
              exact kqv (w1 := (fun u : Nat × Nat × (Nat → Nat) => [(m0, .inr (6, [.ref m1, .ref m2, .int (nI bm), .long un, .ref m3, .int (nI ty), .ref m4, .int (nI (sp + 1)), .int (nI u.1), .int (nI u.2.1), .int (nI kn), .ref m5, .ref m6, .ref m7, .ref m8, .ref m9, .int dr, .ref m10, .ref m11, .int (nI lf), .int (nI yo), .int (nI ol), .ref m12, .long hh])), (m4, .inl (cI, 22, .inl (fun zz => nI (u.2.2 zz))))])) Y hr hlocks hK hP hD hS [1, 0] (by decide) (fa2_85, fp2_85, S1) rfl ⟨hF2 _ _, hfa9, (fun x hx9 => by show S1 x ≤ 99; rw [hS1 x]; split; exact Nat.zero_le _; exact hSb x hx9)⟩ dX6_ends_129
            · refine lv_aload_n hx hb dX6_ends_103 rfl (lv_at hl 0 rfl) ?_
              refine va_get (D := (dC, dI)) (ci := 6) (v := .ref m4) (C := RX6) (T := TX6) (N := 24) hx hb hts inlX6 hown hK hP 1 rfl rfl 6 (by decide) (hts _ qf_X6_23) (fun _ h9 => h9) rfl dX6_ends_104 ?_
              refine lv_iconst (v := nI 3) hx hb dX6_ends_107 (by decide) ?_
              refine lv_iload hx hb dX6_ends_108 (lv_at hl 4 rfl) ?_
              refine ri_add hx hb dX6_ends_110 ?_
              refine lv_iconst (v := nI 0) hx hb dX6_ends_111 (by decide) ?_
              refine ri_ast hx hb hK hP hD hS 0 0 (F := S1) rfl rfl dX6_ends_112 (by decide) (by omega) (fun H locs hP hD hS => ?_)
              have hP : va_P (dC, dI) vwCl [(m4, .inl (cI, 22, .inl (fun zz => nI (updN S1 (3 + t2) 0 zz)))), (m0, .inr (6, [.ref m1, .ref m2, .int (nI bm), .long un, .ref m3, .int (nI ty), .ref m4, .int (nI sp), .int (nI fa2_85), .int (nI fp2_85), .int (nI kn), .ref m5, .ref m6, .ref m7, .ref m8, .ref m9, .int dr, .ref m10, .ref m11, .int (nI lf), .int (nI yo), .int (nI ol), .ref m12, .long hh]))] H := hP
              have hD : va_D A [(m4, .inl (cI, 22, .inl (fun zz => nI (updN S1 (3 + t2) 0 zz)))), (m0, .inr (6, [.ref m1, .ref m2, .int (nI bm), .long un, .ref m3, .int (nI ty), .ref m4, .int (nI sp), .int (nI fa2_85), .int (nI fp2_85), .int (nI kn), .ref m5, .ref m6, .ref m7, .ref m8, .ref m9, .int dr, .ref m10, .ref m11, .int (nI lf), .int (nI yo), .int (nI ol), .ref m12, .long hh]))] := hD
              refine lv_iinc (v := nI (t2 + 1)) (lv' := [(5, .int (nI (t2 + 1))), (0, .ref m0), (1, .int (nI (tbl tFIR it))), (2, .int (nI k)), (3, .int (nI sm))]) hx hb dX6_ends_113 hl (k := 4) rfl (inc1 _) (by decide) rfl (fun ls hl => ?_)
              refine lv_goto (tgt := 91) hx hb dX6_ends_116 (by decide) ?_
              exact ih91 (t2 + 1) (updN S1 (3 + t2) 0) _ _ _ (by show _ < _; omega) (by exact ⟨lv_sub hl [1, 2, 3, 4, 0] rfl, hP.sub [0, 1] rfl, hD.sub [0, 1] (by decide) rfl, hS, by omega, by omega, Or.inr c100, (fun x => by unfold updN; rw [hS1 x]; split <;> (try split) <;> (try split) <;> first | rfl | omega)⟩)
        · exact absurd c64 (by decide)
    · refine lv_iload_n hx hb dX6_ends_35 rfl (lv_at hl 2 rfl) ?_
      refine ri_zne (tgt := 43) hx hb dX6_ends_36 (by decide) (by omega) (fun c36 => ?_) (fun c36 => ?_)
      · refine lv_iconst (v := nI 0) hx hb dX6_ends_43 (by decide) ?_
        refine lv_goto (tgt := 60) hx hb dX6_ends_44 (by decide) ?_
        refine lv_istore (lv' := [(4, .int (nI 0)), (0, .ref m0), (1, .int (nI (tbl tFIR it))), (2, .int (nI k)), (3, .int (nI sm))]) hx hb dX6_ends_60 hl (by decide) rfl (fun ls hl => ?_)
        refine lv_iload hx hb dX6_ends_62 (lv_at hl 0 rfl) ?_
        refine ri_zne (tgt := 79) hx hb dX6_ends_64 (by decide) (by omega) (fun c64 => ?_) (fun c64 => ?_)
        · exact absurd c64 (by decide)
        · refine lv_iload_n hx hb dX6_ends_67 rfl (lv_at hl 2 rfl) ?_
          refine lv_bipush (v := nI 15) hx hb dX6_ends_68 (by decide) ?_
          refine ri_cne (tgt := 88) hx hb dX6_ends_70 (by decide) (by omega) (by omega) (fun c70 => ?_) (fun c70 => ?_)
          · have hnb : ¬ (k < tbl tFEW it ∨ (it = 5 ∧ wsum S ≠ 10)) := fun z => z.elim (fun q => by have := (en_few hit).mp q; rw [if_pos c32] at this; omega) (fun q => c70 (hm.2.2.2.2.1.mpr q.1))
            refine lv_iload_n hx hb dX6_ends_88 rfl (lv_at hl 3 rfl) ?_
            refine lv_istore (lv' := [(5, .int (nI k)), (4, .int (nI 0)), (0, .ref m0), (1, .int (nI (tbl tFIR it))), (2, .int (nI k)), (3, .int (nI sm))]) hx hb dX6_ends_89 hl (by decide) rfl (fun ls hl => ?_)
            refine wl2 (fun (t2 : Nat) (S1 : Nat → Nat) => 100 - t2) (fun (t2 : Nat) (S1 : Nat → Nat) (ls : Array Slot) (H : Heap) (locs : List Loc) => lv_has ls 6 [(0, .ref m0), (1, .int (nI (tbl tFIR it))), (2, .int (nI k)), (3, .int (nI sm)), (5, .int (nI t2))] ∧ va_P (dC, dI) vwCl [(m0, .inr (6, [.ref m1, .ref m2, .int (nI bm), .long un, .ref m3, .int (nI ty), .ref m4, .int (nI sp), .int (nI fa), .int (nI fp), .int (nI kn), .ref m5, .ref m6, .ref m7, .ref m8, .ref m9, .int dr, .ref m10, .ref m11, .int (nI lf), .int (nI yo), .int (nI ol), .ref m12, .long hh])), (m4, .inl (cI, 22, .inl (fun zz => nI (S1 zz))))] H ∧ va_D A [(m0, .inr (6, [.ref m1, .ref m2, .int (nI bm), .long un, .ref m3, .int (nI ty), .ref m4, .int (nI sp), .int (nI fa), .int (nI fp), .int (nI kn), .ref m5, .ref m6, .ref m7, .ref m8, .ref m9, .int dr, .ref m10, .ref m11, .int (nI lf), .int (nI yo), .int (nI ol), .ref m12, .long hh])), (m4, .inl (cI, 22, .inl (fun zz => nI (S1 zz))))] ∧ va_S A s.heap H locs ∧ (k ≤ t2 ∧ (t2 ≤ 7 ∨ t2 = k) ∧ (t2 = k ∨ tbl tFIR it = 3) ∧ (∀ x, S1 x = if 3 + k ≤ x ∧ x < 3 + t2 then 0 else S x))) k S (by exact ⟨lv_sub hl [2, 3, 4, 5, 0] rfl, hP.sub [0, 1] rfl, hD.sub [0, 1] (by decide) rfl, hS, by omega, by omega, Or.inl rfl, (fun x => by rw [if_neg (by omega)])⟩) (fun t2 S1 ls H locs hI ih => ?_)
            obtain ⟨hl, hP, hD, hS, hS4, hS5, hS3, hS1⟩ := hI
            have ih91 := ih
            refine lv_iload hx hb dX6_ends_91 (lv_at hl 4 rfl) ?_
            refine lv_bipush (v := nI 7) hx hb dX6_ends_93 (by decide) ?_
            refine ri_cge (tgt := 119) hx hb dX6_ends_95 (by decide) (by omega) (by omega) (fun c95 => ?_) (fun c95 => ?_)
            · refine lv_aload_n hx hb dX6_ends_119 rfl (lv_at hl 0 rfl) ?_
              refine lv_dup hx hb dX6_ends_120 rfl ?_
              refine va_get (D := (dC, dI)) (ci := 6) (v := .int (nI sp)) (C := RX6) (T := TX6) (N := 24) hx hb hts inlX6 hown hK hP 0 rfl rfl 7 (by decide) (hts _ qf_X6_84) (fun _ h9 => h9) rfl dX6_ends_121 ?_
              refine lv_iconst (v := nI 1) hx hb dX6_ends_124 (by decide) ?_
              refine ri_add hx hb dX6_ends_125 ?_
              refine va_put (D := (dC, dI)) (ci := 6) (v := .int (nI (sp + 1))) (ty := .int) (C := RX6) (T := TX6) (N := 24) hx hb hts inlX6 tyX6 tyX6_ok nmX6 hown hK hP hD hS 0 rfl rfl 7 (by decide) (hts _ qf_X6_84) (fun _ h9 => h9) rfl (by decide +kernel) rfl rfl (Nat.le_of_ble_eq_true rfl) dX6_ends_126 (fun H locs hP hD hS => ?_)
              have hP : va_P (dC, dI) vwCl [(m0, .inr (6, [.ref m1, .ref m2, .int (nI bm), .long un, .ref m3, .int (nI ty), .ref m4, .int (nI (sp + 1)), .int (nI fa), .int (nI fp), .int (nI kn), .ref m5, .ref m6, .ref m7, .ref m8, .ref m9, .int dr, .ref m10, .ref m11, .int (nI lf), .int (nI yo), .int (nI ol), .ref m12, .long hh])), (m4, .inl (cI, 22, .inl (fun zz => nI (S1 zz))))] H := hP
              have hD : va_D A [(m0, .inr (6, [.ref m1, .ref m2, .int (nI bm), .long un, .ref m3, .int (nI ty), .ref m4, .int (nI (sp + 1)), .int (nI fa), .int (nI fp), .int (nI kn), .ref m5, .ref m6, .ref m7, .ref m8, .ref m9, .int dr, .ref m10, .ref m11, .int (nI lf), .int (nI yo), .int (nI ol), .ref m12, .long hh])), (m4, .inl (cI, 22, .inl (fun zz => nI (S1 zz))))] := hD
              exact kqv (w1 := (fun u : Nat × Nat × (Nat → Nat) => [(m0, .inr (6, [.ref m1, .ref m2, .int (nI bm), .long un, .ref m3, .int (nI ty), .ref m4, .int (nI (sp + 1)), .int (nI u.1), .int (nI u.2.1), .int (nI kn), .ref m5, .ref m6, .ref m7, .ref m8, .ref m9, .int dr, .ref m10, .ref m11, .int (nI lf), .int (nI yo), .int (nI ol), .ref m12, .long hh])), (m4, .inl (cI, 22, .inl (fun zz => nI (u.2.2 zz))))])) Y hr hlocks hK hP hD hS [0, 1] (by decide) (fa, fp, S1) rfl ⟨Fut_en_ok hF h2 hch hit hnb (fun _ => en_S2 hit hS4 (fun q => hS3.resolve_right q) (fun q => ⟨by omega, by omega⟩) hS1 (by omega)), h4, (fun x hx9 => by show S1 x ≤ 99; rw [hS1 x]; split; exact Nat.zero_le _; exact hSb x hx9)⟩ dX6_ends_129
            · refine lv_iload_n hx hb dX6_ends_98 rfl (lv_at hl 1 rfl) ?_
              refine lv_iconst (v := nI 3) hx hb dX6_ends_99 (by decide) ?_
              refine ri_cne (tgt := 119) hx hb dX6_ends_100 (by decide) (by omega) (by omega) (fun c100 => ?_) (fun c100 => ?_)
              · refine lv_aload_n hx hb dX6_ends_119 rfl (lv_at hl 0 rfl) ?_
                refine lv_dup hx hb dX6_ends_120 rfl ?_
                refine va_get (D := (dC, dI)) (ci := 6) (v := .int (nI sp)) (C := RX6) (T := TX6) (N := 24) hx hb hts inlX6 hown hK hP 0 rfl rfl 7 (by decide) (hts _ qf_X6_84) (fun _ h9 => h9) rfl dX6_ends_121 ?_
                refine lv_iconst (v := nI 1) hx hb dX6_ends_124 (by decide) ?_
                refine ri_add hx hb dX6_ends_125 ?_
                refine va_put (D := (dC, dI)) (ci := 6) (v := .int (nI (sp + 1))) (ty := .int) (C := RX6) (T := TX6) (N := 24) hx hb hts inlX6 tyX6 tyX6_ok nmX6 hown hK hP hD hS 0 rfl rfl 7 (by decide) (hts _ qf_X6_84) (fun _ h9 => h9) rfl (by decide +kernel) rfl rfl (Nat.le_of_ble_eq_true rfl) dX6_ends_126 (fun H locs hP hD hS => ?_)
                have hP : va_P (dC, dI) vwCl [(m0, .inr (6, [.ref m1, .ref m2, .int (nI bm), .long un, .ref m3, .int (nI ty), .ref m4, .int (nI (sp + 1)), .int (nI fa), .int (nI fp), .int (nI kn), .ref m5, .ref m6, .ref m7, .ref m8, .ref m9, .int dr, .ref m10, .ref m11, .int (nI lf), .int (nI yo), .int (nI ol), .ref m12, .long hh])), (m4, .inl (cI, 22, .inl (fun zz => nI (S1 zz))))] H := hP
                have hD : va_D A [(m0, .inr (6, [.ref m1, .ref m2, .int (nI bm), .long un, .ref m3, .int (nI ty), .ref m4, .int (nI (sp + 1)), .int (nI fa), .int (nI fp), .int (nI kn), .ref m5, .ref m6, .ref m7, .ref m8, .ref m9, .int dr, .ref m10, .ref m11, .int (nI lf), .int (nI yo), .int (nI ol), .ref m12, .long hh])), (m4, .inl (cI, 22, .inl (fun zz => nI (S1 zz))))] := hD
                exact kqv (w1 := (fun u : Nat × Nat × (Nat → Nat) => [(m0, .inr (6, [.ref m1, .ref m2, .int (nI bm), .long un, .ref m3, .int (nI ty), .ref m4, .int (nI (sp + 1)), .int (nI u.1), .int (nI u.2.1), .int (nI kn), .ref m5, .ref m6, .ref m7, .ref m8, .ref m9, .int dr, .ref m10, .ref m11, .int (nI lf), .int (nI yo), .int (nI ol), .ref m12, .long hh])), (m4, .inl (cI, 22, .inl (fun zz => nI (u.2.2 zz))))])) Y hr hlocks hK hP hD hS [0, 1] (by decide) (fa, fp, S1) rfl ⟨Fut_en_ok hF h2 hch hit hnb (fun _ => en_S2 hit hS4 (fun q => hS3.resolve_right q) (fun q => absurd q c100) hS1 (by omega)), h4, (fun x hx9 => by show S1 x ≤ 99; rw [hS1 x]; split; exact Nat.zero_le _; exact hSb x hx9)⟩ dX6_ends_129
              · refine lv_aload_n hx hb dX6_ends_103 rfl (lv_at hl 0 rfl) ?_
                refine va_get (D := (dC, dI)) (ci := 6) (v := .ref m4) (C := RX6) (T := TX6) (N := 24) hx hb hts inlX6 hown hK hP 0 rfl rfl 6 (by decide) (hts _ qf_X6_23) (fun _ h9 => h9) rfl dX6_ends_104 ?_
                refine lv_iconst (v := nI 3) hx hb dX6_ends_107 (by decide) ?_
                refine lv_iload hx hb dX6_ends_108 (lv_at hl 4 rfl) ?_
                refine ri_add hx hb dX6_ends_110 ?_
                refine lv_iconst (v := nI 0) hx hb dX6_ends_111 (by decide) ?_
                refine ri_ast hx hb hK hP hD hS 1 0 (F := S1) rfl rfl dX6_ends_112 (by decide) (by omega) (fun H locs hP hD hS => ?_)
                have hP : va_P (dC, dI) vwCl [(m0, .inr (6, [.ref m1, .ref m2, .int (nI bm), .long un, .ref m3, .int (nI ty), .ref m4, .int (nI sp), .int (nI fa), .int (nI fp), .int (nI kn), .ref m5, .ref m6, .ref m7, .ref m8, .ref m9, .int dr, .ref m10, .ref m11, .int (nI lf), .int (nI yo), .int (nI ol), .ref m12, .long hh])), (m4, .inl (cI, 22, .inl (fun zz => nI (updN S1 (3 + t2) 0 zz))))] H := hP
                have hD : va_D A [(m0, .inr (6, [.ref m1, .ref m2, .int (nI bm), .long un, .ref m3, .int (nI ty), .ref m4, .int (nI sp), .int (nI fa), .int (nI fp), .int (nI kn), .ref m5, .ref m6, .ref m7, .ref m8, .ref m9, .int dr, .ref m10, .ref m11, .int (nI lf), .int (nI yo), .int (nI ol), .ref m12, .long hh])), (m4, .inl (cI, 22, .inl (fun zz => nI (updN S1 (3 + t2) 0 zz))))] := hD
                refine lv_iinc (v := nI (t2 + 1)) (lv' := [(5, .int (nI (t2 + 1))), (0, .ref m0), (1, .int (nI (tbl tFIR it))), (2, .int (nI k)), (3, .int (nI sm))]) hx hb dX6_ends_113 hl (k := 4) rfl (inc1 _) (by decide) rfl (fun ls hl => ?_)
                refine lv_goto (tgt := 91) hx hb dX6_ends_116 (by decide) ?_
                exact ih91 (t2 + 1) (updN S1 (3 + t2) 0) _ _ _ (by show _ < _; omega) (by exact ⟨lv_sub hl [1, 2, 3, 4, 0] rfl, hP.sub [0, 1] rfl, hD.sub [0, 1] (by decide) rfl, hS, by omega, by omega, Or.inr c100, (fun x => by unfold updN; rw [hS1 x]; split <;> (try split) <;> (try split) <;> first | rfl | omega)⟩)
          · refine lv_iload_n hx hb dX6_ends_73 rfl (lv_at hl 4 rfl) ?_
            refine lv_bipush (v := nI 10) hx hb dX6_ends_74 (by decide) ?_
            refine ri_ceq (tgt := 88) hx hb dX6_ends_76 (by decide) (by omega) (by omega) (fun c76 => ?_) (fun c76 => ?_)
            · have hnb : ¬ (k < tbl tFEW it ∨ (it = 5 ∧ wsum S ≠ 10)) := fun z => z.elim (fun q => by have := (en_few hit).mp q; rw [if_pos c32] at this; omega) (fun q => q.2 (hsw.symm.trans c76))
              refine lv_iload_n hx hb dX6_ends_88 rfl (lv_at hl 3 rfl) ?_
              refine lv_istore (lv' := [(5, .int (nI k)), (4, .int (nI 0)), (0, .ref m0), (1, .int (nI (tbl tFIR it))), (2, .int (nI k)), (3, .int (nI sm))]) hx hb dX6_ends_89 hl (by decide) rfl (fun ls hl => ?_)
              refine wl2 (fun (t2 : Nat) (S1 : Nat → Nat) => 100 - t2) (fun (t2 : Nat) (S1 : Nat → Nat) (ls : Array Slot) (H : Heap) (locs : List Loc) => lv_has ls 6 [(0, .ref m0), (1, .int (nI (tbl tFIR it))), (2, .int (nI k)), (3, .int (nI sm)), (5, .int (nI t2))] ∧ va_P (dC, dI) vwCl [(m0, .inr (6, [.ref m1, .ref m2, .int (nI bm), .long un, .ref m3, .int (nI ty), .ref m4, .int (nI sp), .int (nI fa), .int (nI fp), .int (nI kn), .ref m5, .ref m6, .ref m7, .ref m8, .ref m9, .int dr, .ref m10, .ref m11, .int (nI lf), .int (nI yo), .int (nI ol), .ref m12, .long hh])), (m4, .inl (cI, 22, .inl (fun zz => nI (S1 zz))))] H ∧ va_D A [(m0, .inr (6, [.ref m1, .ref m2, .int (nI bm), .long un, .ref m3, .int (nI ty), .ref m4, .int (nI sp), .int (nI fa), .int (nI fp), .int (nI kn), .ref m5, .ref m6, .ref m7, .ref m8, .ref m9, .int dr, .ref m10, .ref m11, .int (nI lf), .int (nI yo), .int (nI ol), .ref m12, .long hh])), (m4, .inl (cI, 22, .inl (fun zz => nI (S1 zz))))] ∧ va_S A s.heap H locs ∧ (k ≤ t2 ∧ (t2 ≤ 7 ∨ t2 = k) ∧ (t2 = k ∨ tbl tFIR it = 3) ∧ (∀ x, S1 x = if 3 + k ≤ x ∧ x < 3 + t2 then 0 else S x))) k S (by exact ⟨lv_sub hl [2, 3, 4, 5, 0] rfl, hP.sub [0, 1] rfl, hD.sub [0, 1] (by decide) rfl, hS, by omega, by omega, Or.inl rfl, (fun x => by rw [if_neg (by omega)])⟩) (fun t2 S1 ls H locs hI ih => ?_)
              obtain ⟨hl, hP, hD, hS, hS4, hS5, hS3, hS1⟩ := hI
              have ih91 := ih
              refine lv_iload hx hb dX6_ends_91 (lv_at hl 4 rfl) ?_
              refine lv_bipush (v := nI 7) hx hb dX6_ends_93 (by decide) ?_
              refine ri_cge (tgt := 119) hx hb dX6_ends_95 (by decide) (by omega) (by omega) (fun c95 => ?_) (fun c95 => ?_)
              · refine lv_aload_n hx hb dX6_ends_119 rfl (lv_at hl 0 rfl) ?_
                refine lv_dup hx hb dX6_ends_120 rfl ?_
                refine va_get (D := (dC, dI)) (ci := 6) (v := .int (nI sp)) (C := RX6) (T := TX6) (N := 24) hx hb hts inlX6 hown hK hP 0 rfl rfl 7 (by decide) (hts _ qf_X6_84) (fun _ h9 => h9) rfl dX6_ends_121 ?_
                refine lv_iconst (v := nI 1) hx hb dX6_ends_124 (by decide) ?_
                refine ri_add hx hb dX6_ends_125 ?_
                refine va_put (D := (dC, dI)) (ci := 6) (v := .int (nI (sp + 1))) (ty := .int) (C := RX6) (T := TX6) (N := 24) hx hb hts inlX6 tyX6 tyX6_ok nmX6 hown hK hP hD hS 0 rfl rfl 7 (by decide) (hts _ qf_X6_84) (fun _ h9 => h9) rfl (by decide +kernel) rfl rfl (Nat.le_of_ble_eq_true rfl) dX6_ends_126 (fun H locs hP hD hS => ?_)
                have hP : va_P (dC, dI) vwCl [(m0, .inr (6, [.ref m1, .ref m2, .int (nI bm), .long un, .ref m3, .int (nI ty), .ref m4, .int (nI (sp + 1)), .int (nI fa), .int (nI fp), .int (nI kn), .ref m5, .ref m6, .ref m7, .ref m8, .ref m9, .int dr, .ref m10, .ref m11, .int (nI lf), .int (nI yo), .int (nI ol), .ref m12, .long hh])), (m4, .inl (cI, 22, .inl (fun zz => nI (S1 zz))))] H := hP
                have hD : va_D A [(m0, .inr (6, [.ref m1, .ref m2, .int (nI bm), .long un, .ref m3, .int (nI ty), .ref m4, .int (nI (sp + 1)), .int (nI fa), .int (nI fp), .int (nI kn), .ref m5, .ref m6, .ref m7, .ref m8, .ref m9, .int dr, .ref m10, .ref m11, .int (nI lf), .int (nI yo), .int (nI ol), .ref m12, .long hh])), (m4, .inl (cI, 22, .inl (fun zz => nI (S1 zz))))] := hD
                exact kqv (w1 := (fun u : Nat × Nat × (Nat → Nat) => [(m0, .inr (6, [.ref m1, .ref m2, .int (nI bm), .long un, .ref m3, .int (nI ty), .ref m4, .int (nI (sp + 1)), .int (nI u.1), .int (nI u.2.1), .int (nI kn), .ref m5, .ref m6, .ref m7, .ref m8, .ref m9, .int dr, .ref m10, .ref m11, .int (nI lf), .int (nI yo), .int (nI ol), .ref m12, .long hh])), (m4, .inl (cI, 22, .inl (fun zz => nI (u.2.2 zz))))])) Y hr hlocks hK hP hD hS [0, 1] (by decide) (fa, fp, S1) rfl ⟨Fut_en_ok hF h2 hch hit hnb (fun _ => en_S2 hit hS4 (fun q => hS3.resolve_right q) (fun q => ⟨by omega, by omega⟩) hS1 (by omega)), h4, (fun x hx9 => by show S1 x ≤ 99; rw [hS1 x]; split; exact Nat.zero_le _; exact hSb x hx9)⟩ dX6_ends_129
              · refine lv_iload_n hx hb dX6_ends_98 rfl (lv_at hl 1 rfl) ?_
                refine lv_iconst (v := nI 3) hx hb dX6_ends_99 (by decide) ?_
                refine ri_cne (tgt := 119) hx hb dX6_ends_100 (by decide) (by omega) (by omega) (fun c100 => ?_) (fun c100 => ?_)
                · refine lv_aload_n hx hb dX6_ends_119 rfl (lv_at hl 0 rfl) ?_
                  refine lv_dup hx hb dX6_ends_120 rfl ?_
                  refine va_get (D := (dC, dI)) (ci := 6) (v := .int (nI sp)) (C := RX6) (T := TX6) (N := 24) hx hb hts inlX6 hown hK hP 0 rfl rfl 7 (by decide) (hts _ qf_X6_84) (fun _ h9 => h9) rfl dX6_ends_121 ?_
                  refine lv_iconst (v := nI 1) hx hb dX6_ends_124 (by decide) ?_
                  refine ri_add hx hb dX6_ends_125 ?_
                  refine va_put (D := (dC, dI)) (ci := 6) (v := .int (nI (sp + 1))) (ty := .int) (C := RX6) (T := TX6) (N := 24) hx hb hts inlX6 tyX6 tyX6_ok nmX6 hown hK hP hD hS 0 rfl rfl 7 (by decide) (hts _ qf_X6_84) (fun _ h9 => h9) rfl (by decide +kernel) rfl rfl (Nat.le_of_ble_eq_true rfl) dX6_ends_126 (fun H locs hP hD hS => ?_)
                  have hP : va_P (dC, dI) vwCl [(m0, .inr (6, [.ref m1, .ref m2, .int (nI bm), .long un, .ref m3, .int (nI ty), .ref m4, .int (nI (sp + 1)), .int (nI fa), .int (nI fp), .int (nI kn), .ref m5, .ref m6, .ref m7, .ref m8, .ref m9, .int dr, .ref m10, .ref m11, .int (nI lf), .int (nI yo), .int (nI ol), .ref m12, .long hh])), (m4, .inl (cI, 22, .inl (fun zz => nI (S1 zz))))] H := hP
                  have hD : va_D A [(m0, .inr (6, [.ref m1, .ref m2, .int (nI bm), .long un, .ref m3, .int (nI ty), .ref m4, .int (nI (sp + 1)), .int (nI fa), .int (nI fp), .int (nI kn), .ref m5, .ref m6, .ref m7, .ref m8, .ref m9, .int dr, .ref m10, .ref m11, .int (nI lf), .int (nI yo), .int (nI ol), .ref m12, .long hh])), (m4, .inl (cI, 22, .inl (fun zz => nI (S1 zz))))] := hD
                  exact kqv (w1 := (fun u : Nat × Nat × (Nat → Nat) => [(m0, .inr (6, [.ref m1, .ref m2, .int (nI bm), .long un, .ref m3, .int (nI ty), .ref m4, .int (nI (sp + 1)), .int (nI u.1), .int (nI u.2.1), .int (nI kn), .ref m5, .ref m6, .ref m7, .ref m8, .ref m9, .int dr, .ref m10, .ref m11, .int (nI lf), .int (nI yo), .int (nI ol), .ref m12, .long hh])), (m4, .inl (cI, 22, .inl (fun zz => nI (u.2.2 zz))))])) Y hr hlocks hK hP hD hS [0, 1] (by decide) (fa, fp, S1) rfl ⟨Fut_en_ok hF h2 hch hit hnb (fun _ => en_S2 hit hS4 (fun q => hS3.resolve_right q) (fun q => absurd q c100) hS1 (by omega)), h4, (fun x hx9 => by show S1 x ≤ 99; rw [hS1 x]; split; exact Nat.zero_le _; exact hSb x hx9)⟩ dX6_ends_129
                · refine lv_aload_n hx hb dX6_ends_103 rfl (lv_at hl 0 rfl) ?_
                  refine va_get (D := (dC, dI)) (ci := 6) (v := .ref m4) (C := RX6) (T := TX6) (N := 24) hx hb hts inlX6 hown hK hP 0 rfl rfl 6 (by decide) (hts _ qf_X6_23) (fun _ h9 => h9) rfl dX6_ends_104 ?_
                  refine lv_iconst (v := nI 3) hx hb dX6_ends_107 (by decide) ?_
                  refine lv_iload hx hb dX6_ends_108 (lv_at hl 4 rfl) ?_
                  refine ri_add hx hb dX6_ends_110 ?_
                  refine lv_iconst (v := nI 0) hx hb dX6_ends_111 (by decide) ?_
                  refine ri_ast hx hb hK hP hD hS 1 0 (F := S1) rfl rfl dX6_ends_112 (by decide) (by omega) (fun H locs hP hD hS => ?_)
                  have hP : va_P (dC, dI) vwCl [(m0, .inr (6, [.ref m1, .ref m2, .int (nI bm), .long un, .ref m3, .int (nI ty), .ref m4, .int (nI sp), .int (nI fa), .int (nI fp), .int (nI kn), .ref m5, .ref m6, .ref m7, .ref m8, .ref m9, .int dr, .ref m10, .ref m11, .int (nI lf), .int (nI yo), .int (nI ol), .ref m12, .long hh])), (m4, .inl (cI, 22, .inl (fun zz => nI (updN S1 (3 + t2) 0 zz))))] H := hP
                  have hD : va_D A [(m0, .inr (6, [.ref m1, .ref m2, .int (nI bm), .long un, .ref m3, .int (nI ty), .ref m4, .int (nI sp), .int (nI fa), .int (nI fp), .int (nI kn), .ref m5, .ref m6, .ref m7, .ref m8, .ref m9, .int dr, .ref m10, .ref m11, .int (nI lf), .int (nI yo), .int (nI ol), .ref m12, .long hh])), (m4, .inl (cI, 22, .inl (fun zz => nI (updN S1 (3 + t2) 0 zz))))] := hD
                  refine lv_iinc (v := nI (t2 + 1)) (lv' := [(5, .int (nI (t2 + 1))), (0, .ref m0), (1, .int (nI (tbl tFIR it))), (2, .int (nI k)), (3, .int (nI sm))]) hx hb dX6_ends_113 hl (k := 4) rfl (inc1 _) (by decide) rfl (fun ls hl => ?_)
                  refine lv_goto (tgt := 91) hx hb dX6_ends_116 (by decide) ?_
                  exact ih91 (t2 + 1) (updN S1 (3 + t2) 0) _ _ _ (by show _ < _; omega) (by exact ⟨lv_sub hl [1, 2, 3, 4, 0] rfl, hP.sub [0, 1] rfl, hD.sub [0, 1] (by decide) rfl, hS, by omega, by omega, Or.inr c100, (fun x => by unfold updN; rw [hS1 x]; split <;> (try split) <;> (try split) <;> first | rfl | omega)⟩)
            · refine lv_aload_n hx hb dX6_ends_79 rfl (lv_at hl 1 rfl) ?_
              refine lv_iconst (v := nI 3) hx hb dX6_ends_80 (by decide) ?_
              refine lv_aload_n hx hb dX6_ends_81 rfl (lv_at hl 1 rfl) ?_
              refine va_get (D := (dC, dI)) (ci := 6) (v := .int (nI sp)) (C := RX6) (T := TX6) (N := 24) hx hb hts inlX6 hown hK hP 0 rfl rfl 7 (by decide) (hts _ qf_X6_84) (fun _ h9 => h9) rfl dX6_ends_82 ?_
              refine kQv (As := [.int (nI 3), .int (nI sp)]) (rest := []) (wr := [(m4, .inl (cI, 22, .inl (fun zz => nI (S zz))))]) Y m_X6_fails (c_X6_fails l dC dI _ cI cL m0 m1 m2 m3 m4 m5 m6 m7 m8 m9 m10 m11 m12 bm ty sp fa fp kn lf yo ol un hh dr 3 sp (by omega)) qm_X6_97 hP hD hS hA [0] [1] rfl rfl (by decide) (by decide) (kqV (ci := 6) hK hP hD hZ hS hA [0] [] rfl (by decide) rfl 0 rfl rfl rfl) rfl hl.1 rfl (Nat.le_of_ble_eq_true rfl) dX6_ends_85 ⟨Nat.le_of_ble_eq_true rfl, Nat.le_of_ble_eq_true rfl⟩ ⟨Nat.zero_le _, Nat.zero_le _⟩ (fun u85 H locs hr85 hP hD hS => ?_)
              obtain ⟨fa2_85, fp2_85⟩ := u85
              have hP : va_P (dC, dI) vwCl [(m4, .inl (cI, 22, .inl (fun zz => nI (S zz)))), (m0, .inr (6, [.ref m1, .ref m2, .int (nI bm), .long un, .ref m3, .int (nI ty), .ref m4, .int (nI sp), .int (nI fa2_85), .int (nI fp2_85), .int (nI kn), .ref m5, .ref m6, .ref m7, .ref m8, .ref m9, .int dr, .ref m10, .ref m11, .int (nI lf), .int (nI yo), .int (nI ol), .ref m12, .long hh]))] H := hP
              have hD : va_D A [(m4, .inl (cI, 22, .inl (fun zz => nI (S zz)))), (m0, .inr (6, [.ref m1, .ref m2, .int (nI bm), .long un, .ref m3, .int (nI ty), .ref m4, .int (nI sp), .int (nI fa2_85), .int (nI fp2_85), .int (nI kn), .ref m5, .ref m6, .ref m7, .ref m8, .ref m9, .int dr, .ref m10, .ref m11, .int (nI lf), .int (nI yo), .int (nI ol), .ref m12, .long hh]))] := hD
              have hr85 : fa2_85 = (if fa = 0 then 3 else fa) ∧ fp2_85 = (if fa = 0 then sp else fp) := hr85
              have hF2 : ∀ (sp' : Nat) (st : TSt), Fut g tx ty fa2_85 fp2_85 sp' st := fun sp' st => by rw [hr85.1, hr85.2]; exact Fut_en_bad hF h2 hch hit (Or.inr ⟨hm.2.2.2.2.1.mp c70, (fun q => c76 (hsw.trans q))⟩)
              have hfa9 : fa2_85 ≤ 3 := by rw [hr85.1]; split <;> omega
              have hfa8 : fa2_85 = 0 → False := by rw [hr85.1]; intro q; split at q <;> omega
              refine lv_iload_n hx hb dX6_ends_88 rfl (lv_at hl 3 rfl) ?_
              refine lv_istore (lv' := [(5, .int (nI k)), (4, .int (nI 0)), (0, .ref m0), (1, .int (nI (tbl tFIR it))), (2, .int (nI k)), (3, .int (nI sm))]) hx hb dX6_ends_89 hl (by decide) rfl (fun ls hl => ?_)
              refine wl2 (fun (t2 : Nat) (S1 : Nat → Nat) => 100 - t2) (fun (t2 : Nat) (S1 : Nat → Nat) (ls : Array Slot) (H : Heap) (locs : List Loc) => lv_has ls 6 [(0, .ref m0), (1, .int (nI (tbl tFIR it))), (2, .int (nI k)), (3, .int (nI sm)), (5, .int (nI t2))] ∧ va_P (dC, dI) vwCl [(m4, .inl (cI, 22, .inl (fun zz => nI (S1 zz)))), (m0, .inr (6, [.ref m1, .ref m2, .int (nI bm), .long un, .ref m3, .int (nI ty), .ref m4, .int (nI sp), .int (nI fa2_85), .int (nI fp2_85), .int (nI kn), .ref m5, .ref m6, .ref m7, .ref m8, .ref m9, .int dr, .ref m10, .ref m11, .int (nI lf), .int (nI yo), .int (nI ol), .ref m12, .long hh]))] H ∧ va_D A [(m4, .inl (cI, 22, .inl (fun zz => nI (S1 zz)))), (m0, .inr (6, [.ref m1, .ref m2, .int (nI bm), .long un, .ref m3, .int (nI ty), .ref m4, .int (nI sp), .int (nI fa2_85), .int (nI fp2_85), .int (nI kn), .ref m5, .ref m6, .ref m7, .ref m8, .ref m9, .int dr, .ref m10, .ref m11, .int (nI lf), .int (nI yo), .int (nI ol), .ref m12, .long hh]))] ∧ va_S A s.heap H locs ∧ (k ≤ t2 ∧ (t2 ≤ 7 ∨ t2 = k) ∧ (t2 = k ∨ tbl tFIR it = 3) ∧ (∀ x, S1 x = if 3 + k ≤ x ∧ x < 3 + t2 then 0 else S x))) k S (by exact ⟨lv_sub hl [2, 3, 4, 5, 0] rfl, hP.sub [0, 1] rfl, hD.sub [0, 1] (by decide) rfl, hS, by omega, by omega, Or.inl rfl, (fun x => by rw [if_neg (by omega)])⟩) (fun t2 S1 ls H locs hI ih => ?_)
              obtain ⟨hl, hP, hD, hS, hS4, hS5, hS3, hS1⟩ := hI
              have ih91 := ih
              refine lv_iload hx hb dX6_ends_91 (lv_at hl 4 rfl) ?_
              refine lv_bipush (v := nI 7) hx hb dX6_ends_93 (by decide) ?_
              refine ri_cge (tgt := 119) hx hb dX6_ends_95 (by decide) (by omega) (by omega) (fun c95 => ?_) (fun c95 => ?_)
              · refine lv_aload_n hx hb dX6_ends_119 rfl (lv_at hl 0 rfl) ?_
                refine lv_dup hx hb dX6_ends_120 rfl ?_
                refine va_get (D := (dC, dI)) (ci := 6) (v := .int (nI sp)) (C := RX6) (T := TX6) (N := 24) hx hb hts inlX6 hown hK hP 1 rfl rfl 7 (by decide) (hts _ qf_X6_84) (fun _ h9 => h9) rfl dX6_ends_121 ?_
                refine lv_iconst (v := nI 1) hx hb dX6_ends_124 (by decide) ?_
                refine ri_add hx hb dX6_ends_125 ?_
                refine va_put (D := (dC, dI)) (ci := 6) (v := .int (nI (sp + 1))) (ty := .int) (C := RX6) (T := TX6) (N := 24) hx hb hts inlX6 tyX6 tyX6_ok nmX6 hown hK hP hD hS 1 rfl rfl 7 (by decide) (hts _ qf_X6_84) (fun _ h9 => h9) rfl (by decide +kernel) rfl rfl (Nat.le_of_ble_eq_true rfl) dX6_ends_126 (fun H locs hP hD hS => ?_)
                have hP : va_P (dC, dI) vwCl [(m4, .inl (cI, 22, .inl (fun zz => nI (S1 zz)))), (m0, .inr (6, [.ref m1, .ref m2, .int (nI bm), .long un, .ref m3, .int (nI ty), .ref m4, .int (nI (sp + 1)), .int (nI fa2_85), .int (nI fp2_85), .int (nI kn), .ref m5, .ref m6, .ref m7, .ref m8, .ref m9, .int dr, .ref m10, .ref m11, .int (nI lf), .int (nI yo), .int (nI ol), .ref m12, .long hh]))] H := hP
                have hD : va_D A [(m4, .inl (cI, 22, .inl (fun zz => nI (S1 zz)))), (m0, .inr (6, [.ref m1, .ref m2, .int (nI bm), .long un, .ref m3, .int (nI ty), .ref m4, .int (nI (sp + 1)), .int (nI fa2_85), .int (nI fp2_85), .int (nI kn), .ref m5, .ref m6, .ref m7, .ref m8, .ref m9, .int dr, .ref m10, .ref m11, .int (nI lf), .int (nI yo), .int (nI ol), .ref m12, .long hh]))] := hD
                exact kqv (w1 := (fun u : Nat × Nat × (Nat → Nat) => [(m0, .inr (6, [.ref m1, .ref m2, .int (nI bm), .long un, .ref m3, .int (nI ty), .ref m4, .int (nI (sp + 1)), .int (nI u.1), .int (nI u.2.1), .int (nI kn), .ref m5, .ref m6, .ref m7, .ref m8, .ref m9, .int dr, .ref m10, .ref m11, .int (nI lf), .int (nI yo), .int (nI ol), .ref m12, .long hh])), (m4, .inl (cI, 22, .inl (fun zz => nI (u.2.2 zz))))])) Y hr hlocks hK hP hD hS [1, 0] (by decide) (fa2_85, fp2_85, S1) rfl ⟨hF2 _ _, hfa9, (fun x hx9 => by show S1 x ≤ 99; rw [hS1 x]; split; exact Nat.zero_le _; exact hSb x hx9)⟩ dX6_ends_129
              · refine lv_iload_n hx hb dX6_ends_98 rfl (lv_at hl 1 rfl) ?_
                refine lv_iconst (v := nI 3) hx hb dX6_ends_99 (by decide) ?_
                refine ri_cne (tgt := 119) hx hb dX6_ends_100 (by decide) (by omega) (by omega) (fun c100 => ?_) (fun c100 => ?_)
                · refine lv_aload_n hx hb dX6_ends_119 rfl (lv_at hl 0 rfl) ?_
                  refine lv_dup hx hb dX6_ends_120 rfl ?_
                  refine va_get (D := (dC, dI)) (ci := 6) (v := .int (nI sp)) (C := RX6) (T := TX6) (N := 24) hx hb hts inlX6 hown hK hP 1 rfl rfl 7 (by decide) (hts _ qf_X6_84) (fun _ h9 => h9) rfl dX6_ends_121 ?_
                  refine lv_iconst (v := nI 1) hx hb dX6_ends_124 (by decide) ?_
                  refine ri_add hx hb dX6_ends_125 ?_
                  refine va_put (D := (dC, dI)) (ci := 6) (v := .int (nI (sp + 1))) (ty := .int) (C := RX6) (T := TX6) (N := 24) hx hb hts inlX6 tyX6 tyX6_ok nmX6 hown hK hP hD hS 1 rfl rfl 7 (by decide) (hts _ qf_X6_84) (fun _ h9 => h9) rfl (by decide +kernel) rfl rfl (Nat.le_of_ble_eq_true rfl) dX6_ends_126 (fun H locs hP hD hS => ?_)
                  have hP : va_P (dC, dI) vwCl [(m4, .inl (cI, 22, .inl (fun zz => nI (S1 zz)))), (m0, .inr (6, [.ref m1, .ref m2, .int (nI bm), .long un, .ref m3, .int (nI ty), .ref m4, .int (nI (sp + 1)), .int (nI fa2_85), .int (nI fp2_85), .int (nI kn), .ref m5, .ref m6, .ref m7, .ref m8, .ref m9, .int dr, .ref m10, .ref m11, .int (nI lf), .int (nI yo), .int (nI ol), .ref m12, .long hh]))] H := hP
                  have hD : va_D A [(m4, .inl (cI, 22, .inl (fun zz => nI (S1 zz)))), (m0, .inr (6, [.ref m1, .ref m2, .int (nI bm), .long un, .ref m3, .int (nI ty), .ref m4, .int (nI (sp + 1)), .int (nI fa2_85), .int (nI fp2_85), .int (nI kn), .ref m5, .ref m6, .ref m7, .ref m8, .ref m9, .int dr, .ref m10, .ref m11, .int (nI lf), .int (nI yo), .int (nI ol), .ref m12, .long hh]))] := hD
                  exact kqv (w1 := (fun u : Nat × Nat × (Nat → Nat) => [(m0, .inr (6, [.ref m1, .ref m2, .int (nI bm), .long un, .ref m3, .int (nI ty), .ref m4, .int (nI (sp + 1)), .int (nI u.1), .int (nI u.2.1), .int (nI kn), .ref m5, .ref m6, .ref m7, .ref m8, .ref m9, .int dr, .ref m10, .ref m11, .int (nI lf), .int (nI yo), .int (nI ol), .ref m12, .long hh])), (m4, .inl (cI, 22, .inl (fun zz => nI (u.2.2 zz))))])) Y hr hlocks hK hP hD hS [1, 0] (by decide) (fa2_85, fp2_85, S1) rfl ⟨hF2 _ _, hfa9, (fun x hx9 => by show S1 x ≤ 99; rw [hS1 x]; split; exact Nat.zero_le _; exact hSb x hx9)⟩ dX6_ends_129
                · refine lv_aload_n hx hb dX6_ends_103 rfl (lv_at hl 0 rfl) ?_
                  refine va_get (D := (dC, dI)) (ci := 6) (v := .ref m4) (C := RX6) (T := TX6) (N := 24) hx hb hts inlX6 hown hK hP 1 rfl rfl 6 (by decide) (hts _ qf_X6_23) (fun _ h9 => h9) rfl dX6_ends_104 ?_
                  refine lv_iconst (v := nI 3) hx hb dX6_ends_107 (by decide) ?_
                  refine lv_iload hx hb dX6_ends_108 (lv_at hl 4 rfl) ?_
                  refine ri_add hx hb dX6_ends_110 ?_
                  refine lv_iconst (v := nI 0) hx hb dX6_ends_111 (by decide) ?_
                  refine ri_ast hx hb hK hP hD hS 0 0 (F := S1) rfl rfl dX6_ends_112 (by decide) (by omega) (fun H locs hP hD hS => ?_)
                  have hP : va_P (dC, dI) vwCl [(m4, .inl (cI, 22, .inl (fun zz => nI (updN S1 (3 + t2) 0 zz)))), (m0, .inr (6, [.ref m1, .ref m2, .int (nI bm), .long un, .ref m3, .int (nI ty), .ref m4, .int (nI sp), .int (nI fa2_85), .int (nI fp2_85), .int (nI kn), .ref m5, .ref m6, .ref m7, .ref m8, .ref m9, .int dr, .ref m10, .ref m11, .int (nI lf), .int (nI yo), .int (nI ol), .ref m12, .long hh]))] H := hP
                  have hD : va_D A [(m4, .inl (cI, 22, .inl (fun zz => nI (updN S1 (3 + t2) 0 zz)))), (m0, .inr (6, [.ref m1, .ref m2, .int (nI bm), .long un, .ref m3, .int (nI ty), .ref m4, .int (nI sp), .int (nI fa2_85), .int (nI fp2_85), .int (nI kn), .ref m5, .ref m6, .ref m7, .ref m8, .ref m9, .int dr, .ref m10, .ref m11, .int (nI lf), .int (nI yo), .int (nI ol), .ref m12, .long hh]))] := hD
                  refine lv_iinc (v := nI (t2 + 1)) (lv' := [(5, .int (nI (t2 + 1))), (0, .ref m0), (1, .int (nI (tbl tFIR it))), (2, .int (nI k)), (3, .int (nI sm))]) hx hb dX6_ends_113 hl (k := 4) rfl (inc1 _) (by decide) rfl (fun ls hl => ?_)
                  refine lv_goto (tgt := 91) hx hb dX6_ends_116 (by decide) ?_
                  exact ih91 (t2 + 1) (updN S1 (3 + t2) 0) _ _ _ (by show _ < _; omega) (by exact ⟨lv_sub hl [1, 2, 3, 4, 0] rfl, hP.sub [0, 1] rfl, hD.sub [0, 1] (by decide) rfl, hS, by omega, by omega, Or.inr c100, (fun x => by unfold updN; rw [hS1 x]; split <;> (try split) <;> (try split) <;> first | rfl | omega)⟩)
      · refine lv_iconst (v := nI 1) hx hb dX6_ends_39 (by decide) ?_
        refine lv_goto (tgt := 60) hx hb dX6_ends_40 (by decide) ?_
        refine lv_istore (lv' := [(4, .int (nI 1)), (0, .ref m0), (1, .int (nI (tbl tFIR it))), (2, .int (nI k)), (3, .int (nI sm))]) hx hb dX6_ends_60 hl (by decide) rfl (fun ls hl => ?_)
        refine lv_iload hx hb dX6_ends_62 (lv_at hl 0 rfl) ?_
        refine ri_zne (tgt := 79) hx hb dX6_ends_64 (by decide) (by omega) (fun c64 => ?_) (fun c64 => ?_)
        · refine lv_aload_n hx hb dX6_ends_79 rfl (lv_at hl 1 rfl) ?_
          refine lv_iconst (v := nI 3) hx hb dX6_ends_80 (by decide) ?_
          refine lv_aload_n hx hb dX6_ends_81 rfl (lv_at hl 1 rfl) ?_
          refine va_get (D := (dC, dI)) (ci := 6) (v := .int (nI sp)) (C := RX6) (T := TX6) (N := 24) hx hb hts inlX6 hown hK hP 0 rfl rfl 7 (by decide) (hts _ qf_X6_84) (fun _ h9 => h9) rfl dX6_ends_82 ?_
          refine kQv (As := [.int (nI 3), .int (nI sp)]) (rest := []) (wr := [(m4, .inl (cI, 22, .inl (fun zz => nI (S zz))))]) Y m_X6_fails (c_X6_fails l dC dI _ cI cL m0 m1 m2 m3 m4 m5 m6 m7 m8 m9 m10 m11 m12 bm ty sp fa fp kn lf yo ol un hh dr 3 sp (by omega)) qm_X6_97 hP hD hS hA [0] [1] rfl rfl (by decide) (by decide) (kqV (ci := 6) hK hP hD hZ hS hA [0] [] rfl (by decide) rfl 0 rfl rfl rfl) rfl hl.1 rfl (Nat.le_of_ble_eq_true rfl) dX6_ends_85 ⟨Nat.le_of_ble_eq_true rfl, Nat.le_of_ble_eq_true rfl⟩ ⟨Nat.zero_le _, Nat.zero_le _⟩ (fun u85 H locs hr85 hP hD hS => ?_)
          obtain ⟨fa2_85, fp2_85⟩ := u85
          have hP : va_P (dC, dI) vwCl [(m4, .inl (cI, 22, .inl (fun zz => nI (S zz)))), (m0, .inr (6, [.ref m1, .ref m2, .int (nI bm), .long un, .ref m3, .int (nI ty), .ref m4, .int (nI sp), .int (nI fa2_85), .int (nI fp2_85), .int (nI kn), .ref m5, .ref m6, .ref m7, .ref m8, .ref m9, .int dr, .ref m10, .ref m11, .int (nI lf), .int (nI yo), .int (nI ol), .ref m12, .long hh]))] H := hP
          have hD : va_D A [(m4, .inl (cI, 22, .inl (fun zz => nI (S zz)))), (m0, .inr (6, [.ref m1, .ref m2, .int (nI bm), .long un, .ref m3, .int (nI ty), .ref m4, .int (nI sp), .int (nI fa2_85), .int (nI fp2_85), .int (nI kn), .ref m5, .ref m6, .ref m7, .ref m8, .ref m9, .int dr, .ref m10, .ref m11, .int (nI lf), .int (nI yo), .int (nI ol), .ref m12, .long hh]))] := hD
          have hr85 : fa2_85 = (if fa = 0 then 3 else fa) ∧ fp2_85 = (if fa = 0 then sp else fp) := hr85
          have hF2 : ∀ (sp' : Nat) (st : TSt), Fut g tx ty fa2_85 fp2_85 sp' st := fun sp' st => by rw [hr85.1, hr85.2]; exact Fut_en_bad hF h2 hch hit (Or.inl ((en_few hit).mpr (by rw [if_pos c32]; omega)))
          have hfa9 : fa2_85 ≤ 3 := by rw [hr85.1]; split <;> omega
          have hfa8 : fa2_85 = 0 → False := by rw [hr85.1]; intro q; split at q <;> omega
          refine lv_iload_n hx hb dX6_ends_88 rfl (lv_at hl 3 rfl) ?_
          refine lv_istore (lv' := [(5, .int (nI k)), (4, .int (nI 1)), (0, .ref m0), (1, .int (nI (tbl tFIR it))), (2, .int (nI k)), (3, .int (nI sm))]) hx hb dX6_ends_89 hl (by decide) rfl (fun ls hl => ?_)
          refine wl2 (fun (t2 : Nat) (S1 : Nat → Nat) => 100 - t2) (fun (t2 : Nat) (S1 : Nat → Nat) (ls : Array Slot) (H : Heap) (locs : List Loc) => lv_has ls 6 [(0, .ref m0), (1, .int (nI (tbl tFIR it))), (2, .int (nI k)), (3, .int (nI sm)), (5, .int (nI t2))] ∧ va_P (dC, dI) vwCl [(m4, .inl (cI, 22, .inl (fun zz => nI (S1 zz)))), (m0, .inr (6, [.ref m1, .ref m2, .int (nI bm), .long un, .ref m3, .int (nI ty), .ref m4, .int (nI sp), .int (nI fa2_85), .int (nI fp2_85), .int (nI kn), .ref m5, .ref m6, .ref m7, .ref m8, .ref m9, .int dr, .ref m10, .ref m11, .int (nI lf), .int (nI yo), .int (nI ol), .ref m12, .long hh]))] H ∧ va_D A [(m4, .inl (cI, 22, .inl (fun zz => nI (S1 zz)))), (m0, .inr (6, [.ref m1, .ref m2, .int (nI bm), .long un, .ref m3, .int (nI ty), .ref m4, .int (nI sp), .int (nI fa2_85), .int (nI fp2_85), .int (nI kn), .ref m5, .ref m6, .ref m7, .ref m8, .ref m9, .int dr, .ref m10, .ref m11, .int (nI lf), .int (nI yo), .int (nI ol), .ref m12, .long hh]))] ∧ va_S A s.heap H locs ∧ (k ≤ t2 ∧ (t2 ≤ 7 ∨ t2 = k) ∧ (t2 = k ∨ tbl tFIR it = 3) ∧ (∀ x, S1 x = if 3 + k ≤ x ∧ x < 3 + t2 then 0 else S x))) k S (by exact ⟨lv_sub hl [2, 3, 4, 5, 0] rfl, hP.sub [0, 1] rfl, hD.sub [0, 1] (by decide) rfl, hS, by omega, by omega, Or.inl rfl, (fun x => by rw [if_neg (by omega)])⟩) (fun t2 S1 ls H locs hI ih => ?_)
          obtain ⟨hl, hP, hD, hS, hS4, hS5, hS3, hS1⟩ := hI
          have ih91 := ih
          refine lv_iload hx hb dX6_ends_91 (lv_at hl 4 rfl) ?_
          refine lv_bipush (v := nI 7) hx hb dX6_ends_93 (by decide) ?_
          refine ri_cge (tgt := 119) hx hb dX6_ends_95 (by decide) (by omega) (by omega) (fun c95 => ?_) (fun c95 => ?_)
          · refine lv_aload_n hx hb dX6_ends_119 rfl (lv_at hl 0 rfl) ?_
            refine lv_dup hx hb dX6_ends_120 rfl ?_
            refine va_get (D := (dC, dI)) (ci := 6) (v := .int (nI sp)) (C := RX6) (T := TX6) (N := 24) hx hb hts inlX6 hown hK hP 1 rfl rfl 7 (by decide) (hts _ qf_X6_84) (fun _ h9 => h9) rfl dX6_ends_121 ?_
            refine lv_iconst (v := nI 1) hx hb dX6_ends_124 (by decide) ?_
            refine ri_add hx hb dX6_ends_125 ?_
            refine va_put (D := (dC, dI)) (ci := 6) (v := .int (nI (sp + 1))) (ty := .int) (C := RX6) (T := TX6) (N := 24) hx hb hts inlX6 tyX6 tyX6_ok nmX6 hown hK hP hD hS 1 rfl rfl 7 (by decide) (hts _ qf_X6_84) (fun _ h9 => h9) rfl (by decide +kernel) rfl rfl (Nat.le_of_ble_eq_true rfl) dX6_ends_126 (fun H locs hP hD hS => ?_)
            have hP : va_P (dC, dI) vwCl [(m4, .inl (cI, 22, .inl (fun zz => nI (S1 zz)))), (m0, .inr (6, [.ref m1, .ref m2, .int (nI bm), .long un, .ref m3, .int (nI ty), .ref m4, .int (nI (sp + 1)), .int (nI fa2_85), .int (nI fp2_85), .int (nI kn), .ref m5, .ref m6, .ref m7, .ref m8, .ref m9, .int dr, .ref m10, .ref m11, .int (nI lf), .int (nI yo), .int (nI ol), .ref m12, .long hh]))] H := hP
            have hD : va_D A [(m4, .inl (cI, 22, .inl (fun zz => nI (S1 zz)))), (m0, .inr (6, [.ref m1, .ref m2, .int (nI bm), .long un, .ref m3, .int (nI ty), .ref m4, .int (nI (sp + 1)), .int (nI fa2_85), .int (nI fp2_85), .int (nI kn), .ref m5, .ref m6, .ref m7, .ref m8, .ref m9, .int dr, .ref m10, .ref m11, .int (nI lf), .int (nI yo), .int (nI ol), .ref m12, .long hh]))] := hD
            exact kqv (w1 := (fun u : Nat × Nat × (Nat → Nat) => [(m0, .inr (6, [.ref m1, .ref m2, .int (nI bm), .long un, .ref m3, .int (nI ty), .ref m4, .int (nI (sp + 1)), .int (nI u.1), .int (nI u.2.1), .int (nI kn), .ref m5, .ref m6, .ref m7, .ref m8, .ref m9, .int dr, .ref m10, .ref m11, .int (nI lf), .int (nI yo), .int (nI ol), .ref m12, .long hh])), (m4, .inl (cI, 22, .inl (fun zz => nI (u.2.2 zz))))])) Y hr hlocks hK hP hD hS [1, 0] (by decide) (fa2_85, fp2_85, S1) rfl ⟨hF2 _ _, hfa9, (fun x hx9 => by show S1 x ≤ 99; rw [hS1 x]; split; exact Nat.zero_le _; exact hSb x hx9)⟩ dX6_ends_129
          · refine lv_iload_n hx hb dX6_ends_98 rfl (lv_at hl 1 rfl) ?_
            refine lv_iconst (v := nI 3) hx hb dX6_ends_99 (by decide) ?_
            refine ri_cne (tgt := 119) hx hb dX6_ends_100 (by decide) (by omega) (by omega) (fun c100 => ?_) (fun c100 => ?_)
            · refine lv_aload_n hx hb dX6_ends_119 rfl (lv_at hl 0 rfl) ?_
              refine lv_dup hx hb dX6_ends_120 rfl ?_
              refine va_get (D := (dC, dI)) (ci := 6) (v := .int (nI sp)) (C := RX6) (T := TX6) (N := 24) hx hb hts inlX6 hown hK hP 1 rfl rfl 7 (by decide) (hts _ qf_X6_84) (fun _ h9 => h9) rfl dX6_ends_121 ?_
              refine lv_iconst (v := nI 1) hx hb dX6_ends_124 (by decide) ?_
              refine ri_add hx hb dX6_ends_125 ?_
              refine va_put (D := (dC, dI)) (ci := 6) (v := .int (nI (sp + 1))) (ty := .int) (C := RX6) (T := TX6) (N := 24) hx hb hts inlX6 tyX6 tyX6_ok nmX6 hown hK hP hD hS 1 rfl rfl 7 (by decide) (hts _ qf_X6_84) (fun _ h9 => h9) rfl (by decide +kernel) rfl rfl (Nat.le_of_ble_eq_true rfl) dX6_ends_126 (fun H locs hP hD hS => ?_)
              have hP : va_P (dC, dI) vwCl [(m4, .inl (cI, 22, .inl (fun zz => nI (S1 zz)))), (m0, .inr (6, [.ref m1, .ref m2, .int (nI bm), .long un, .ref m3, .int (nI ty), .ref m4, .int (nI (sp + 1)), .int (nI fa2_85), .int (nI fp2_85), .int (nI kn), .ref m5, .ref m6, .ref m7, .ref m8, .ref m9, .int dr, .ref m10, .ref m11, .int (nI lf), .int (nI yo), .int (nI ol), .ref m12, .long hh]))] H := hP
              have hD : va_D A [(m4, .inl (cI, 22, .inl (fun zz => nI (S1 zz)))), (m0, .inr (6, [.ref m1, .ref m2, .int (nI bm), .long un, .ref m3, .int (nI ty), .ref m4, .int (nI (sp + 1)), .int (nI fa2_85), .int (nI fp2_85), .int (nI kn), .ref m5, .ref m6, .ref m7, .ref m8, .ref m9, .int dr, .ref m10, .ref m11, .int (nI lf), .int (nI yo), .int (nI ol), .ref m12, .long hh]))] := hD
              exact kqv (w1 := (fun u : Nat × Nat × (Nat → Nat) => [(m0, .inr (6, [.ref m1, .ref m2, .int (nI bm), .long un, .ref m3, .int (nI ty), .ref m4, .int (nI (sp + 1)), .int (nI u.1), .int (nI u.2.1), .int (nI kn), .ref m5, .ref m6, .ref m7, .ref m8, .ref m9, .int dr, .ref m10, .ref m11, .int (nI lf), .int (nI yo), .int (nI ol), .ref m12, .long hh])), (m4, .inl (cI, 22, .inl (fun zz => nI (u.2.2 zz))))])) Y hr hlocks hK hP hD hS [1, 0] (by decide) (fa2_85, fp2_85, S1) rfl ⟨hF2 _ _, hfa9, (fun x hx9 => by show S1 x ≤ 99; rw [hS1 x]; split; exact Nat.zero_le _; exact hSb x hx9)⟩ dX6_ends_129
            · refine lv_aload_n hx hb dX6_ends_103 rfl (lv_at hl 0 rfl) ?_
              refine va_get (D := (dC, dI)) (ci := 6) (v := .ref m4) (C := RX6) (T := TX6) (N := 24) hx hb hts inlX6 hown hK hP 1 rfl rfl 6 (by decide) (hts _ qf_X6_23) (fun _ h9 => h9) rfl dX6_ends_104 ?_
              refine lv_iconst (v := nI 3) hx hb dX6_ends_107 (by decide) ?_
              refine lv_iload hx hb dX6_ends_108 (lv_at hl 4 rfl) ?_
              refine ri_add hx hb dX6_ends_110 ?_
              refine lv_iconst (v := nI 0) hx hb dX6_ends_111 (by decide) ?_
              refine ri_ast hx hb hK hP hD hS 0 0 (F := S1) rfl rfl dX6_ends_112 (by decide) (by omega) (fun H locs hP hD hS => ?_)
              have hP : va_P (dC, dI) vwCl [(m4, .inl (cI, 22, .inl (fun zz => nI (updN S1 (3 + t2) 0 zz)))), (m0, .inr (6, [.ref m1, .ref m2, .int (nI bm), .long un, .ref m3, .int (nI ty), .ref m4, .int (nI sp), .int (nI fa2_85), .int (nI fp2_85), .int (nI kn), .ref m5, .ref m6, .ref m7, .ref m8, .ref m9, .int dr, .ref m10, .ref m11, .int (nI lf), .int (nI yo), .int (nI ol), .ref m12, .long hh]))] H := hP
              have hD : va_D A [(m4, .inl (cI, 22, .inl (fun zz => nI (updN S1 (3 + t2) 0 zz)))), (m0, .inr (6, [.ref m1, .ref m2, .int (nI bm), .long un, .ref m3, .int (nI ty), .ref m4, .int (nI sp), .int (nI fa2_85), .int (nI fp2_85), .int (nI kn), .ref m5, .ref m6, .ref m7, .ref m8, .ref m9, .int dr, .ref m10, .ref m11, .int (nI lf), .int (nI yo), .int (nI ol), .ref m12, .long hh]))] := hD
              refine lv_iinc (v := nI (t2 + 1)) (lv' := [(5, .int (nI (t2 + 1))), (0, .ref m0), (1, .int (nI (tbl tFIR it))), (2, .int (nI k)), (3, .int (nI sm))]) hx hb dX6_ends_113 hl (k := 4) rfl (inc1 _) (by decide) rfl (fun ls hl => ?_)
              refine lv_goto (tgt := 91) hx hb dX6_ends_116 (by decide) ?_
              exact ih91 (t2 + 1) (updN S1 (3 + t2) 0) _ _ _ (by show _ < _; omega) (by exact ⟨lv_sub hl [1, 2, 3, 4, 0] rfl, hP.sub [0, 1] rfl, hD.sub [0, 1] (by decide) rfl, hS, by omega, by omega, Or.inr c100, (fun x => by unfold updN; rw [hS1 x]; split <;> (try split) <;> (try split) <;> first | rfl | omega)⟩)
        · exact absurd c64 (by decide)
  · refine lv_iload_n hx hb dX6_ends_11 rfl (lv_at hl 3 rfl) ?_
    refine lv_aload_n hx hb dX6_ends_12 rfl (lv_at hl 0 rfl) ?_
    refine va_get (D := (dC, dI)) (ci := 6) (v := .ref m4) (C := RX6) (T := TX6) (N := 24) hx hb hts inlX6 hown hK hP 0 rfl rfl 6 (by decide) (hts _ qf_X6_23) (fun _ h9 => h9) rfl dX6_ends_13 ?_
    refine lv_bipush (v := nI 15) hx hb dX6_ends_16 (by decide) ?_
    refine lv_iload hx hb dX6_ends_18 (lv_at hl 4 rfl) ?_
    refine ri_add hx hb dX6_ends_20 ?_
    have hst := hSb (15 + t) (by omega)
    refine ri_ald hx hb hK hP 1 0 (F := S) rfl rfl dX6_ends_21 (by decide) (by omega) ?_
    refine ri_add hx hb dX6_ends_22 ?_
    refine lv_istore_n (lv' := [(3, .int (nI (sm + (S (15 + t))))), (0, .ref m0), (1, .int (nI (tbl tFIR it))), (2, .int (nI k)), (4, .int (nI t))]) hx hb dX6_ends_23 rfl hl (by decide) rfl (fun ls hl => ?_)
    refine lv_iinc (v := nI (t + 1)) (lv' := [(4, .int (nI (t + 1))), (3, .int (nI (sm + (S (15 + t))))), (0, .ref m0), (1, .int (nI (tbl tFIR it))), (2, .int (nI k))]) hx hb dX6_ends_24 hl (k := 4) rfl (inc1 _) (by decide) rfl (fun ls hl => ?_)
    refine lv_goto (tgt := 5) hx hb dX6_ends_27 (by decide) ?_
    exact ih5 (t + 1) (sm + (S (15 + t))) _ _ _ (by show _ < _; omega) (by exact ⟨lv_sub hl [2, 3, 4, 1, 0] rfl, hP.sub [0, 1] rfl, hD.sub [0, 1] (by decide) rfl, hS, by omega, by omega, by rw [hsm]; rfl⟩)
