set_option maxHeartbeats 4000000 in
set_option maxRecDepth 100000 in
theorem c_X6_readsNumber (l : Launch) (dC : Nat → ClassId) (dI : Nat → Nat → Nat) (sz : Nat) (cI cL : ClassId) (m0 m1 m2 m3 m4 m5 m6 m7 m8 m9 m10 m11 m12 : Nat) (bm ty sp fa fp kn lf yo ol : Nat) (un hh : Int64) (dr : Int32) (tx S : Nat → Nat) (it k its : Nat) (g : TSt) (h1 : ty ≤ 60) (h2 : sp < ty) (htx : ∀ k, k < ty → 32 ≤ tx k ∧ tx k ≤ 126) (hdg : 48 ≤ tx sp ∧ tx sp ≤ 57) (hit : it < 7) (h3 : k ≤ tbl tMOR it) (hg : EQt g (goG tx ty sp (stB its it k S))) (hSb : ∀ x, x < 22 → S x ≤ 99) : Met l yX6_readsNumber (kw yX6_readsNumber cX6_readsNumber 5 none) (kR 2 43) (kPq (dC, dI) [.ref m0, .int (nI (tbl tFIR it)), .int (nI k)] sz [(m0, .inr (6, [.ref m1, .ref m2, .int (nI bm), .long un, .ref m3, .int (nI ty), .ref m4, .int (nI sp), .int (nI 0), .int (nI fp), .int (nI kn), .ref m5, .ref m6, .ref m7, .ref m8, .ref m9, .int dr, .ref m10, .ref m11, .int (nI lf), .int (nI yo), .int (nI ol), .ref m12, .long hh])), (m3, .inl (cI, 60, .inl (fun zz => nI (tx zz)))), (m4, .inl (cI, 22, .inl (fun zz => nI (S zz))))] [(cI, .int)]) (va_Qv (fun u : Nat × Nat × Nat × (Nat → Nat) => Fut g tx ty u.1 u.2.1 u.2.2.1 (stB its it (k + 1) u.2.2.2) ∧ sp < u.2.2.1 ∧ u.2.2.1 ≤ ty ∧ u.1 ≤ 3 ∧ (u.1 = 0 → k + 1 ≤ tbl tMOR it) ∧ (∀ x, x < 22 → u.2.2.2 x ≤ 99)) (fun u : Nat × Nat × Nat × (Nat → Nat) => kB (dC, dI) [(cI, .int)] (va_A [(m0, .inr (6, [.ref m1, .ref m2, .int (nI bm), .long un, .ref m3, .int (nI ty), .ref m4, .int (nI sp), .int (nI 0), .int (nI fp), .int (nI kn), .ref m5, .ref m6, .ref m7, .ref m8, .ref m9, .int dr, .ref m10, .ref m11, .int (nI lf), .int (nI yo), .int (nI ol), .ref m12, .long hh])), (m3, .inl (cI, 60, .inl (fun zz => nI (tx zz)))), (m4, .inl (cI, 22, .inl (fun zz => nI (S zz))))] sz) ([(m0, .inr (6, [.ref m1, .ref m2, .int (nI bm), .long un, .ref m3, .int (nI ty), .ref m4, .int (nI u.2.2.1), .int (nI u.1), .int (nI u.2.1), .int (nI kn), .ref m5, .ref m6, .ref m7, .ref m8, .ref m9, .int dr, .ref m10, .ref m11, .int (nI lf), .int (nI yo), .int (nI ol), .ref m12, .long hh])), (m3, .inl (cI, 60, .inl (fun zz => nI (tx zz)))), (m4, .inl (cI, 22, .inl (fun zz => nI (u.2.2.2 zz))))])) (va_A [(m0, .inr (6, [.ref m1, .ref m2, .int (nI bm), .long un, .ref m3, .int (nI ty), .ref m4, .int (nI sp), .int (nI 0), .int (nI fp), .int (nI kn), .ref m5, .ref m6, .ref m7, .ref m8, .ref m9, .int dr, .ref m10, .ref m11, .int (nI lf), .int (nI yo), .int (nI ol), .ref m12, .long hh])), (m3, .inl (cI, 60, .inl (fun zz => nI (tx zz)))), (m4, .inl (cI, 22, .inl (fun zz => nI (S zz))))] sz)) 0 0 (va_A [(m0, .inr (6, [.ref m1, .ref m2, .int (nI bm), .long un, .ref m3, .int (nI ty), .ref m4, .int (nI sp), .int (nI 0), .int (nI fp), .int (nI kn), .ref m5, .ref m6, .ref m7, .ref m8, .ref m9, .int dr, .ref m10, .ref m11, .int (nI lf), .int (nI yo), .int (nI ol), .ref m12, .long hh])), (m3, .inl (cI, 60, .inl (fun zz => nI (tx zz)))), (m4, .inl (cI, 22, .inl (fun zz => nI (S zz))))] sz) := by
  refine kmet (by decide) ?_
  intro p e s m args below meth c Y hr hlocks hin hv
  obtain ⟨rfl, A, hAe, hsz, hP, hK, hD, hZ, hA⟩ := kinQ hv
  rw [hAe]
  have hS : va_S A s.heap s.heap [] := va_S.rf
  have hx := Y.1
  have hb := Y.2.1
  have hml := Y.2.2.1
  have hown := Y.2.2.2.1
  have hts := Y.2.2.2.2
  have hl := lv_entry ([.ref m0, .int (nI (tbl tFIR it)), .int (nI k)]) (n := 5) (Nat.le_of_ble_eq_true rfl)
  rw [lg_entry_eq]
  generalize (lg_sl ([.ref m0, .int (nI (tbl tFIR it)), .int (nI k)]) ++ List.replicate (5 - (lg_sl ([.ref m0, .int (nI (tbl tFIR it)), .int (nI k)])).length) Slot.unset).toArray = ls at hl ⊢
  have hl : lv_has ls 5 [(0, .ref m0), (1, .int (nI (tbl tFIR it))), (2, .int (nI k))] := hl
  have hm := mor_le it hit
  have hme := nmO_e it hit
  refine lv_aload_n hx hb dX6_readsNumber_0 rfl (lv_at hl 0 rfl) ?_
  refine va_get (D := (dC, dI)) (ci := 6) (v := .int (nI sp)) (C := RX6) (T := TX6) (N := 24) hx hb hts inlX6 hown hK hP 0 rfl rfl 7 (by decide) (hts _ qf_X6_84) (fun _ h9 => h9) rfl dX6_readsNumber_1 ?_
  refine lv_istore_n (lv' := [(3, .int (nI sp)), (0, .ref m0), (1, .int (nI (tbl tFIR it))), (2, .int (nI k))]) hx hb dX6_readsNumber_4 rfl hl (by decide) rfl (fun ls hl => ?_)
  refine lv_aload_n hx hb dX6_readsNumber_5 rfl (lv_at hl 1 rfl) ?_
  refine kVi (As := []) (rest := []) Y m_X6_here (c_X6_here l dC dI cI cL m0 m1 m2 m3 m4 m5 m6 m7 m8 m9 m10 m11 m12 bm ty sp 0 fp kn lf yo ol un hh dr tx (by omega) (by omega)) qm_X6_87 (kpV (ci := 6) hK hP hZ hS [0, 1] [0] rfl rfl 0 rfl rfl rfl) rfl hl.1 rfl (Nat.le_of_ble_eq_true rfl) dX6_readsNumber_6 ⟨Nat.le_of_ble_eq_true rfl, Nat.le_of_ble_eq_true rfl⟩ ⟨Nat.zero_le _, Nat.zero_le _⟩ (fun r6 hr6 => ?_)
  obtain rfl : r6 = hrV tx ty sp := hr6
  refine ri_set hx hb (x' := nI (tx sp)) (hr_i h2) ?_
  refine lv_bipush (v := nI 48) hx hb dX6_readsNumber_9 (by decide) ?_
  refine ri_sub hx hb dX6_readsNumber_11 (by omega) ?_
  refine lv_istore (lv' := [(4, .int (nI ((tx sp) - 48))), (3, .int (nI sp)), (0, .ref m0), (1, .int (nI (tbl tFIR it))), (2, .int (nI k))]) hx hb dX6_readsNumber_12 hl (by decide) rfl (fun ls hl => ?_)
  refine lv_aload_n hx hb dX6_readsNumber_14 rfl (lv_at hl 2 rfl) ?_
  refine lv_dup hx hb dX6_readsNumber_15 rfl ?_
  refine va_get (D := (dC, dI)) (ci := 6) (v := .int (nI sp)) (C := RX6) (T := TX6) (N := 24) hx hb hts inlX6 hown hK hP 0 rfl rfl 7 (by decide) (hts _ qf_X6_84) (fun _ h9 => h9) rfl dX6_readsNumber_16 ?_
  refine lv_iconst (v := nI 1) hx hb dX6_readsNumber_19 (by decide) ?_
  refine ri_add hx hb dX6_readsNumber_20 ?_
  refine va_put (D := (dC, dI)) (ci := 6) (v := .int (nI (sp + 1))) (ty := .int) (C := RX6) (T := TX6) (N := 24) hx hb hts inlX6 tyX6 tyX6_ok nmX6 hown hK hP hD hS 0 rfl rfl 7 (by decide) (hts _ qf_X6_84) (fun _ h9 => h9) rfl (by decide +kernel) rfl rfl (Nat.le_of_ble_eq_true rfl) dX6_readsNumber_21 (fun H locs hP hD hS => ?_)
  have hP : va_P (dC, dI) vwCl [(m0, .inr (6, [.ref m1, .ref m2, .int (nI bm), .long un, .ref m3, .int (nI ty), .ref m4, .int (nI (sp + 1)), .int (nI 0), .int (nI fp), .int (nI kn), .ref m5, .ref m6, .ref m7, .ref m8, .ref m9, .int dr, .ref m10, .ref m11, .int (nI lf), .int (nI yo), .int (nI ol), .ref m12, .long hh])), (m3, .inl (cI, 60, .inl (fun zz => nI (tx zz)))), (m4, .inl (cI, 22, .inl (fun zz => nI (S zz))))] H := hP
  have hD : va_D A [(m0, .inr (6, [.ref m1, .ref m2, .int (nI bm), .long un, .ref m3, .int (nI ty), .ref m4, .int (nI (sp + 1)), .int (nI 0), .int (nI fp), .int (nI kn), .ref m5, .ref m6, .ref m7, .ref m8, .ref m9, .int dr, .ref m10, .ref m11, .int (nI lf), .int (nI yo), .int (nI ol), .ref m12, .long hh])), (m3, .inl (cI, 60, .inl (fun zz => nI (tx zz)))), (m4, .inl (cI, 22, .inl (fun zz => nI (S zz))))] := hD
  refine lv_aload_n hx hb dX6_readsNumber_24 rfl (lv_at hl 2 rfl) ?_
  refine kVi (As := []) (rest := []) Y m_X6_here (c_X6_here l dC dI cI cL m0 m1 m2 m3 m4 m5 m6 m7 m8 m9 m10 m11 m12 bm ty (sp + 1) 0 fp kn lf yo ol un hh dr tx (by omega) (by omega)) qm_X6_87 (kpV (ci := 6) hK hP hZ hS [0, 1] [0] rfl rfl 0 rfl rfl rfl) rfl hl.1 rfl (Nat.le_of_ble_eq_true rfl) dX6_readsNumber_25 ⟨Nat.le_of_ble_eq_true rfl, Nat.le_of_ble_eq_true rfl⟩ ⟨Nat.zero_le _, Nat.zero_le _⟩ (fun r25 hr25 => ?_)
  obtain rfl : r25 = hrV tx ty (sp + 1) := hr25
  refine lv_bipush (v := nI 48) hx hb dX6_readsNumber_28 (by decide) ?_
  refine lv_bipush (v := nI 57) hx hb dX6_readsNumber_30 (by decide) ?_
  refine kSi (As := [.int (hrV tx ty (sp + 1)), .int (nI 48), .int (nI 57)]) (rest := []) Y m_X6_in (c_X6_in l dC dI (hrV tx ty (sp + 1)) (nI 48) (nI 57) ) qm_X6_69 (kpS hK hP hZ hS [] [] rfl rfl) rfl hl.1 rfl (Nat.le_of_ble_eq_true rfl) dX6_readsNumber_32 ⟨Nat.le_of_ble_eq_true rfl, Nat.le_of_ble_eq_true rfl⟩ ⟨Nat.zero_le _, Nat.zero_le _⟩ (fun r32 hr32 => ?_)
  obtain rfl : r32 = b2i ((nI 48) ≤ (hrV tx ty (sp + 1)) ∧ (hrV tx ty (sp + 1)) ≤ (nI 57)) := hr32
  refine ri_beq (tgt := 63) hx hb dX6_readsNumber_35 (by decide) (fun c35 => ?_) (fun c35 => ?_)
  · refine lv_aload_n hx hb dX6_readsNumber_63 rfl (lv_at hl 2 rfl) ?_
    refine kVi (As := []) (rest := []) Y m_X6_here (c_X6_here l dC dI cI cL m0 m1 m2 m3 m4 m5 m6 m7 m8 m9 m10 m11 m12 bm ty (sp + 1) 0 fp kn lf yo ol un hh dr tx (by omega) (by omega)) qm_X6_87 (kpV (ci := 6) hK hP hZ hS [0, 1] [0] rfl rfl 0 rfl rfl rfl) rfl hl.1 rfl (Nat.le_of_ble_eq_true rfl) dX6_readsNumber_64 ⟨Nat.le_of_ble_eq_true rfl, Nat.le_of_ble_eq_true rfl⟩ ⟨Nat.zero_le _, Nat.zero_le _⟩ (fun r64 hr64 => ?_)
    obtain rfl : r64 = hrV tx ty (sp + 1) := hr64
    refine lv_bipush (v := nI 48) hx hb dX6_readsNumber_67 (by decide) ?_
    refine lv_bipush (v := nI 57) hx hb dX6_readsNumber_69 (by decide) ?_
    refine kSi (As := [.int (hrV tx ty (sp + 1)), .int (nI 48), .int (nI 57)]) (rest := []) Y m_X6_in (c_X6_in l dC dI (hrV tx ty (sp + 1)) (nI 48) (nI 57) ) qm_X6_69 (kpS hK hP hZ hS [] [] rfl rfl) rfl hl.1 rfl (Nat.le_of_ble_eq_true rfl) dX6_readsNumber_71 ⟨Nat.le_of_ble_eq_true rfl, Nat.le_of_ble_eq_true rfl⟩ ⟨Nat.zero_le _, Nat.zero_le _⟩ (fun r71 hr71 => ?_)
    obtain rfl : r71 = b2i ((nI 48) ≤ (hrV tx ty (sp + 1)) ∧ (hrV tx ty (sp + 1)) ≤ (nI 57)) := hr71
    refine ri_beq (tgt := 89) hx hb dX6_readsNumber_74 (by decide) (fun c74 => ?_) (fun c74 => ?_)
    · have hnd : ¬ (sp + 1 < ty ∧ 48 ≤ tx (sp + 1) ∧ tx (sp + 1) ≤ 57) := fun z => c74 ((hr_d htx).mpr z)
      refine lv_iload_n hx hb dX6_readsNumber_89 rfl (lv_at hl 4 rfl) ?_
      refine lv_iload_n hx hb dX6_readsNumber_90 rfl (lv_at hl 3 rfl) ?_
      refine kSi (As := [.int (nI (tbl tFIR it))]) (rest := [.int (nI k)]) Y m_X6_numbersOf (c_X6_numbersOf l dC dI (tbl tFIR it) (by omega)) qm_X6_101 (kpS hK hP hZ hS [] [] rfl rfl) rfl hl.1 rfl (Nat.le_of_ble_eq_true rfl) dX6_readsNumber_91 ⟨Nat.le_of_ble_eq_true rfl, Nat.le_of_ble_eq_true rfl⟩ ⟨Nat.zero_le _, Nat.zero_le _⟩ (fun r91 hr91 => ?_)
      obtain rfl : r91 = nI (nmO (tbl tFIR it)) := hr91
      refine ri_ceq (tgt := 106) hx hb dX6_readsNumber_94 (by decide) (by omega) (by omega) (fun c94 => ?_) (fun c94 => ?_)
      · refine lv_aload_n hx hb dX6_readsNumber_106 rfl (lv_at hl 2 rfl) ?_
        refine lv_iconst (v := nI 2) hx hb dX6_readsNumber_107 (by decide) ?_
        refine lv_iload_n hx hb dX6_readsNumber_108 rfl (lv_at hl 1 rfl) ?_
        refine kQv (As := [.int (nI 2), .int (nI sp)]) (rest := []) (wr := [(m3, .inl (cI, 60, .inl (fun zz => nI (tx zz)))), (m4, .inl (cI, 22, .inl (fun zz => nI (S zz))))]) Y m_X6_fails (c_X6_fails l dC dI _ cI cL m0 m1 m2 m3 m4 m5 m6 m7 m8 m9 m10 m11 m12 bm ty (sp + 1) 0 fp kn lf yo ol un hh dr 2 sp (by omega)) qm_X6_97 hP hD hS hA [0] [1, 2] rfl rfl (by decide) (by decide) (kqV (ci := 6) hK hP hD hZ hS hA [0] [] rfl (by decide) rfl 0 rfl rfl rfl) rfl hl.1 rfl (Nat.le_of_ble_eq_true rfl) dX6_readsNumber_109 ⟨Nat.le_of_ble_eq_true rfl, Nat.le_of_ble_eq_true rfl⟩ ⟨Nat.zero_le _, Nat.zero_le _⟩ (fun u109 H locs hr109 hP hD hS => ?_)
        obtain ⟨fa2_109, fp2_109⟩ := u109
        have hP : va_P (dC, dI) vwCl [(m3, .inl (cI, 60, .inl (fun zz => nI (tx zz)))), (m4, .inl (cI, 22, .inl (fun zz => nI (S zz)))), (m0, .inr (6, [.ref m1, .ref m2, .int (nI bm), .long un, .ref m3, .int (nI ty), .ref m4, .int (nI (sp + 1)), .int (nI fa2_109), .int (nI fp2_109), .int (nI kn), .ref m5, .ref m6, .ref m7, .ref m8, .ref m9, .int dr, .ref m10, .ref m11, .int (nI lf), .int (nI yo), .int (nI ol), .ref m12, .long hh]))] H := hP
        have hD : va_D A [(m3, .inl (cI, 60, .inl (fun zz => nI (tx zz)))), (m4, .inl (cI, 22, .inl (fun zz => nI (S zz)))), (m0, .inr (6, [.ref m1, .ref m2, .int (nI bm), .long un, .ref m3, .int (nI ty), .ref m4, .int (nI (sp + 1)), .int (nI fa2_109), .int (nI fp2_109), .int (nI kn), .ref m5, .ref m6, .ref m7, .ref m8, .ref m9, .int dr, .ref m10, .ref m11, .int (nI lf), .int (nI yo), .int (nI ol), .ref m12, .long hh]))] := hD
        have hr109 : fa2_109 = (if 0 = 0 then 2 else 0) ∧ fp2_109 = (if 0 = 0 then sp else fp) := hr109
        refine lv_goto (tgt := 125) hx hb dX6_readsNumber_112 (by decide) ?_
        obtain rfl : fa2_109 = 2 := hr109.1
        have hfp9 : sp = fp2_109 := hr109.2.symm
        exact kqv (w1 := (fun u : Nat × Nat × Nat × (Nat → Nat) => [(m0, .inr (6, [.ref m1, .ref m2, .int (nI bm), .long un, .ref m3, .int (nI ty), .ref m4, .int (nI u.2.2.1), .int (nI u.1), .int (nI u.2.1), .int (nI kn), .ref m5, .ref m6, .ref m7, .ref m8, .ref m9, .int dr, .ref m10, .ref m11, .int (nI lf), .int (nI yo), .int (nI ol), .ref m12, .long hh])), (m3, .inl (cI, 60, .inl (fun zz => nI (tx zz)))), (m4, .inl (cI, 22, .inl (fun zz => nI (u.2.2.2 zz))))])) Y hr hlocks hK hP hD hS [2, 0, 1] (by decide) (2, fp2_109, sp + 1, S) rfl ⟨Fut_b hg (show (2 : Nat) ≠ 0 by decide) (nm_bad (di := 1) (nm1 (its := its) (k := k) (S := S) h2 hdg hit) hnd (by decide) (Or.inl (c94.trans hme.1))).1 ((nm_bad (di := 1) (nm1 (its := its) (k := k) (S := S) h2 hdg hit) hnd (by decide) (Or.inl (c94.trans hme.1))).2.trans hfp9), (show sp < sp + 1 by omega), (show sp + 1 ≤ ty by omega), (show 2 ≤ 3 by omega), (fun z => absurd (show (2 : Nat) = 0 from z) (by decide)), hSb⟩ dX6_readsNumber_125
      · refine lv_iload_n hx hb dX6_readsNumber_97 rfl (lv_at hl 3 rfl) ?_
        refine lv_iload hx hb dX6_readsNumber_98 (lv_at hl 0 rfl) ?_
        refine kSi (As := [.int (nI (tbl tFIR it)), .int (nI ((tx sp) - 48))]) (rest := []) Y m_X6_isRight (c_X6_isRight l dC dI (tbl tFIR it) (nI ((tx sp) - 48)) (by omega)) qm_X6_73 (kpS hK hP hZ hS [] [] rfl rfl) rfl hl.1 rfl (Nat.le_of_ble_eq_true rfl) dX6_readsNumber_100 ⟨Nat.le_of_ble_eq_true rfl, Nat.le_of_ble_eq_true rfl⟩ ⟨Nat.zero_le _, Nat.zero_le _⟩ (fun r100 hr100 => ?_)
        obtain rfl : r100 = b2i (nI (lsO (tbl tFIR it)) ≤ (nI ((tx sp) - 48)) ∧ (nI ((tx sp) - 48)) ≤ nI (msO (tbl tFIR it))) := hr100
        refine ri_bne (tgt := 115) hx hb dX6_readsNumber_103 (by decide) (fun c103 => ?_) (fun c103 => ?_)
        · have hv9 := (in_iff (by have := lsO_b (tbl tFIR it); omega) (by omega) (by have := msO_b (tbl tFIR it); omega)).mp c103
          have hv8 := msO_b (tbl tFIR it)
          refine lv_aload_n hx hb dX6_readsNumber_115 rfl (lv_at hl 2 rfl) ?_
          refine va_get (D := (dC, dI)) (ci := 6) (v := .ref m4) (C := RX6) (T := TX6) (N := 24) hx hb hts inlX6 hown hK hP 0 rfl rfl 6 (by decide) (hts _ qf_X6_23) (fun _ h9 => h9) rfl dX6_readsNumber_116 ?_
          refine lv_iload_n hx hb dX6_readsNumber_119 rfl (lv_at hl 3 rfl) ?_
          refine lv_iload_n hx hb dX6_readsNumber_120 rfl (lv_at hl 4 rfl) ?_
          refine ri_add hx hb dX6_readsNumber_121 ?_
          refine lv_iload hx hb dX6_readsNumber_122 (lv_at hl 0 rfl) ?_
          refine ri_ast hx hb hK hP hD hS 2 0 (F := S) rfl rfl dX6_readsNumber_124 (by decide) (by omega) (fun H locs hP hD hS => ?_)
          have hP : va_P (dC, dI) vwCl [(m0, .inr (6, [.ref m1, .ref m2, .int (nI bm), .long un, .ref m3, .int (nI ty), .ref m4, .int (nI (sp + 1)), .int (nI 0), .int (nI fp), .int (nI kn), .ref m5, .ref m6, .ref m7, .ref m8, .ref m9, .int dr, .ref m10, .ref m11, .int (nI lf), .int (nI yo), .int (nI ol), .ref m12, .long hh])), (m3, .inl (cI, 60, .inl (fun zz => nI (tx zz)))), (m4, .inl (cI, 22, .inl (fun zz => nI (updN S ((tbl tFIR it) + k) ((tx sp) - 48) zz))))] H := hP
          have hD : va_D A [(m0, .inr (6, [.ref m1, .ref m2, .int (nI bm), .long un, .ref m3, .int (nI ty), .ref m4, .int (nI (sp + 1)), .int (nI 0), .int (nI fp), .int (nI kn), .ref m5, .ref m6, .ref m7, .ref m8, .ref m9, .int dr, .ref m10, .ref m11, .int (nI lf), .int (nI yo), .int (nI ol), .ref m12, .long hh])), (m3, .inl (cI, 60, .inl (fun zz => nI (tx zz)))), (m4, .inl (cI, 22, .inl (fun zz => nI (updN S ((tbl tFIR it) + k) ((tx sp) - 48) zz))))] := hD
          exact kqv (w1 := (fun u : Nat × Nat × Nat × (Nat → Nat) => [(m0, .inr (6, [.ref m1, .ref m2, .int (nI bm), .long un, .ref m3, .int (nI ty), .ref m4, .int (nI u.2.2.1), .int (nI u.1), .int (nI u.2.1), .int (nI kn), .ref m5, .ref m6, .ref m7, .ref m8, .ref m9, .int dr, .ref m10, .ref m11, .int (nI lf), .int (nI yo), .int (nI ol), .ref m12, .long hh])), (m3, .inl (cI, 60, .inl (fun zz => nI (tx zz)))), (m4, .inl (cI, 22, .inl (fun zz => nI (u.2.2.2 zz))))])) Y hr hlocks hK hP hD hS [0, 1, 2] (by decide) (0, fp, sp + 1, updN S ((tbl tFIR it) + k) ((tx sp) - 48)) rfl ⟨Or.inl ⟨rfl, EQ_t hg (nm_ok (di := 1) (nm1 (its := its) (k := k) (S := S) h2 hdg hit) hnd (by decide) ((rt_i (k := k) hit (by omega) (by omega)).mp c103))⟩, (show sp < sp + 1 by omega), (show sp + 1 ≤ ty by omega), (show 0 ≤ 3 by omega), (fun _ => by omega), updN_b hSb (by omega)⟩ dX6_readsNumber_125
        · refine lv_aload_n hx hb dX6_readsNumber_106 rfl (lv_at hl 2 rfl) ?_
          refine lv_iconst (v := nI 2) hx hb dX6_readsNumber_107 (by decide) ?_
          refine lv_iload_n hx hb dX6_readsNumber_108 rfl (lv_at hl 1 rfl) ?_
          refine kQv (As := [.int (nI 2), .int (nI sp)]) (rest := []) (wr := [(m3, .inl (cI, 60, .inl (fun zz => nI (tx zz)))), (m4, .inl (cI, 22, .inl (fun zz => nI (S zz))))]) Y m_X6_fails (c_X6_fails l dC dI _ cI cL m0 m1 m2 m3 m4 m5 m6 m7 m8 m9 m10 m11 m12 bm ty (sp + 1) 0 fp kn lf yo ol un hh dr 2 sp (by omega)) qm_X6_97 hP hD hS hA [0] [1, 2] rfl rfl (by decide) (by decide) (kqV (ci := 6) hK hP hD hZ hS hA [0] [] rfl (by decide) rfl 0 rfl rfl rfl) rfl hl.1 rfl (Nat.le_of_ble_eq_true rfl) dX6_readsNumber_109 ⟨Nat.le_of_ble_eq_true rfl, Nat.le_of_ble_eq_true rfl⟩ ⟨Nat.zero_le _, Nat.zero_le _⟩ (fun u109 H locs hr109 hP hD hS => ?_)
          obtain ⟨fa2_109, fp2_109⟩ := u109
          have hP : va_P (dC, dI) vwCl [(m3, .inl (cI, 60, .inl (fun zz => nI (tx zz)))), (m4, .inl (cI, 22, .inl (fun zz => nI (S zz)))), (m0, .inr (6, [.ref m1, .ref m2, .int (nI bm), .long un, .ref m3, .int (nI ty), .ref m4, .int (nI (sp + 1)), .int (nI fa2_109), .int (nI fp2_109), .int (nI kn), .ref m5, .ref m6, .ref m7, .ref m8, .ref m9, .int dr, .ref m10, .ref m11, .int (nI lf), .int (nI yo), .int (nI ol), .ref m12, .long hh]))] H := hP
          have hD : va_D A [(m3, .inl (cI, 60, .inl (fun zz => nI (tx zz)))), (m4, .inl (cI, 22, .inl (fun zz => nI (S zz)))), (m0, .inr (6, [.ref m1, .ref m2, .int (nI bm), .long un, .ref m3, .int (nI ty), .ref m4, .int (nI (sp + 1)), .int (nI fa2_109), .int (nI fp2_109), .int (nI kn), .ref m5, .ref m6, .ref m7, .ref m8, .ref m9, .int dr, .ref m10, .ref m11, .int (nI lf), .int (nI yo), .int (nI ol), .ref m12, .long hh]))] := hD
          have hr109 : fa2_109 = (if 0 = 0 then 2 else 0) ∧ fp2_109 = (if 0 = 0 then sp else fp) := hr109
          refine lv_goto (tgt := 125) hx hb dX6_readsNumber_112 (by decide) ?_
          obtain rfl : fa2_109 = 2 := hr109.1
          have hfp9 : sp = fp2_109 := hr109.2.symm
          exact kqv (w1 := (fun u : Nat × Nat × Nat × (Nat → Nat) => [(m0, .inr (6, [.ref m1, .ref m2, .int (nI bm), .long un, .ref m3, .int (nI ty), .ref m4, .int (nI u.2.2.1), .int (nI u.1), .int (nI u.2.1), .int (nI kn), .ref m5, .ref m6, .ref m7, .ref m8, .ref m9, .int dr, .ref m10, .ref m11, .int (nI lf), .int (nI yo), .int (nI ol), .ref m12, .long hh])), (m3, .inl (cI, 60, .inl (fun zz => nI (tx zz)))), (m4, .inl (cI, 22, .inl (fun zz => nI (u.2.2.2 zz))))])) Y hr hlocks hK hP hD hS [2, 0, 1] (by decide) (2, fp2_109, sp + 1, S) rfl ⟨Fut_b hg (show (2 : Nat) ≠ 0 by decide) (nm_bad (di := 1) (nm1 (its := its) (k := k) (S := S) h2 hdg hit) hnd (by decide) (Decidable.not_not.mp (fun z => c103 ((rt_i (k := k) hit (by omega) (by omega)).mpr z)))).1 ((nm_bad (di := 1) (nm1 (its := its) (k := k) (S := S) h2 hdg hit) hnd (by decide) (Decidable.not_not.mp (fun z => c103 ((rt_i (k := k) hit (by omega) (by omega)).mpr z)))).2.trans hfp9), (show sp < sp + 1 by omega), (show sp + 1 ≤ ty by omega), (show 2 ≤ 3 by omega), (fun z => absurd (show (2 : Nat) = 0 from z) (by decide)), hSb⟩ dX6_readsNumber_125
    · exact absurd c74 c35
  · have hd2 := (hr_d htx).mp c35
    refine lv_bipush (v := nI 10) hx hb dX6_readsNumber_38 (by decide) ?_
    refine lv_iload hx hb dX6_readsNumber_40 (lv_at hl 0 rfl) ?_
    refine ri_mul hx hb dX6_readsNumber_42 ?_
    refine lv_aload_n hx hb dX6_readsNumber_43 rfl (lv_at hl 2 rfl) ?_
    refine kVi (As := []) (rest := [.int (nI (10 * ((tx sp) - 48)))]) Y m_X6_here (c_X6_here l dC dI cI cL m0 m1 m2 m3 m4 m5 m6 m7 m8 m9 m10 m11 m12 bm ty (sp + 1) 0 fp kn lf yo ol un hh dr tx (by omega) (by omega)) qm_X6_87 (kpV (ci := 6) hK hP hZ hS [0, 1] [0] rfl rfl 0 rfl rfl rfl) rfl hl.1 rfl (Nat.le_of_ble_eq_true rfl) dX6_readsNumber_44 ⟨Nat.le_of_ble_eq_true rfl, Nat.le_of_ble_eq_true rfl⟩ ⟨Nat.zero_le _, Nat.zero_le _⟩ (fun r44 hr44 => ?_)
    obtain rfl : r44 = hrV tx ty (sp + 1) := hr44
    refine ri_set hx hb (x' := nI (tx (sp + 1))) (hr_i hd2.1) ?_
    refine ri_add hx hb dX6_readsNumber_47 ?_
    refine lv_bipush (v := nI 48) hx hb dX6_readsNumber_48 (by decide) ?_
    refine ri_sub hx hb dX6_readsNumber_50 (by omega) ?_
    refine lv_istore (lv' := [(4, .int (nI (((10 * ((tx sp) - 48)) + (tx (sp + 1))) - 48))), (3, .int (nI sp)), (0, .ref m0), (1, .int (nI (tbl tFIR it))), (2, .int (nI k))]) hx hb dX6_readsNumber_51 hl (by decide) rfl (fun ls hl => ?_)
    refine lv_aload_n hx hb dX6_readsNumber_53 rfl (lv_at hl 2 rfl) ?_
    refine lv_dup hx hb dX6_readsNumber_54 rfl ?_
    refine va_get (D := (dC, dI)) (ci := 6) (v := .int (nI (sp + 1))) (C := RX6) (T := TX6) (N := 24) hx hb hts inlX6 hown hK hP 0 rfl rfl 7 (by decide) (hts _ qf_X6_84) (fun _ h9 => h9) rfl dX6_readsNumber_55 ?_
    refine lv_iconst (v := nI 1) hx hb dX6_readsNumber_58 (by decide) ?_
    refine ri_add hx hb dX6_readsNumber_59 ?_
    refine va_put (D := (dC, dI)) (ci := 6) (v := .int (nI ((sp + 1) + 1))) (ty := .int) (C := RX6) (T := TX6) (N := 24) hx hb hts inlX6 tyX6 tyX6_ok nmX6 hown hK hP hD hS 0 rfl rfl 7 (by decide) (hts _ qf_X6_84) (fun _ h9 => h9) rfl (by decide +kernel) rfl rfl (Nat.le_of_ble_eq_true rfl) dX6_readsNumber_60 (fun H locs hP hD hS => ?_)
    have hP : va_P (dC, dI) vwCl [(m0, .inr (6, [.ref m1, .ref m2, .int (nI bm), .long un, .ref m3, .int (nI ty), .ref m4, .int (nI ((sp + 1) + 1)), .int (nI 0), .int (nI fp), .int (nI kn), .ref m5, .ref m6, .ref m7, .ref m8, .ref m9, .int dr, .ref m10, .ref m11, .int (nI lf), .int (nI yo), .int (nI ol), .ref m12, .long hh])), (m3, .inl (cI, 60, .inl (fun zz => nI (tx zz)))), (m4, .inl (cI, 22, .inl (fun zz => nI (S zz))))] H := hP
    have hD : va_D A [(m0, .inr (6, [.ref m1, .ref m2, .int (nI bm), .long un, .ref m3, .int (nI ty), .ref m4, .int (nI ((sp + 1) + 1)), .int (nI 0), .int (nI fp), .int (nI kn), .ref m5, .ref m6, .ref m7, .ref m8, .ref m9, .int dr, .ref m10, .ref m11, .int (nI lf), .int (nI yo), .int (nI ol), .ref m12, .long hh])), (m3, .inl (cI, 60, .inl (fun zz => nI (tx zz)))), (m4, .inl (cI, 22, .inl (fun zz => nI (S zz))))] := hD
    refine lv_aload_n hx hb dX6_readsNumber_63 rfl (lv_at hl 2 rfl) ?_
    refine kVi (As := []) (rest := []) Y m_X6_here (c_X6_here l dC dI cI cL m0 m1 m2 m3 m4 m5 m6 m7 m8 m9 m10 m11 m12 bm ty ((sp + 1) + 1) 0 fp kn lf yo ol un hh dr tx (by omega) (by omega)) qm_X6_87 (kpV (ci := 6) hK hP hZ hS [0, 1] [0] rfl rfl 0 rfl rfl rfl) rfl hl.1 rfl (Nat.le_of_ble_eq_true rfl) dX6_readsNumber_64 ⟨Nat.le_of_ble_eq_true rfl, Nat.le_of_ble_eq_true rfl⟩ ⟨Nat.zero_le _, Nat.zero_le _⟩ (fun r64 hr64 => ?_)
    obtain rfl : r64 = hrV tx ty ((sp + 1) + 1) := hr64
    refine lv_bipush (v := nI 48) hx hb dX6_readsNumber_67 (by decide) ?_
    refine lv_bipush (v := nI 57) hx hb dX6_readsNumber_69 (by decide) ?_
    refine kSi (As := [.int (hrV tx ty ((sp + 1) + 1)), .int (nI 48), .int (nI 57)]) (rest := []) Y m_X6_in (c_X6_in l dC dI (hrV tx ty ((sp + 1) + 1)) (nI 48) (nI 57) ) qm_X6_69 (kpS hK hP hZ hS [] [] rfl rfl) rfl hl.1 rfl (Nat.le_of_ble_eq_true rfl) dX6_readsNumber_71 ⟨Nat.le_of_ble_eq_true rfl, Nat.le_of_ble_eq_true rfl⟩ ⟨Nat.zero_le _, Nat.zero_le _⟩ (fun r71 hr71 => ?_)
    obtain rfl : r71 = b2i ((nI 48) ≤ (hrV tx ty ((sp + 1) + 1)) ∧ (hrV tx ty ((sp + 1) + 1)) ≤ (nI 57)) := hr71
    refine ri_beq (tgt := 89) hx hb dX6_readsNumber_74 (by decide) (fun c74 => ?_) (fun c74 => ?_)
    · have hnd : ¬ (sp + 1 + 1 < ty ∧ 48 ≤ tx (sp + 1 + 1) ∧ tx (sp + 1 + 1) ≤ 57) := fun z => c74 ((hr_d htx).mpr z)
      refine lv_iload_n hx hb dX6_readsNumber_89 rfl (lv_at hl 4 rfl) ?_
      refine lv_iload_n hx hb dX6_readsNumber_90 rfl (lv_at hl 3 rfl) ?_
      refine kSi (As := [.int (nI (tbl tFIR it))]) (rest := [.int (nI k)]) Y m_X6_numbersOf (c_X6_numbersOf l dC dI (tbl tFIR it) (by omega)) qm_X6_101 (kpS hK hP hZ hS [] [] rfl rfl) rfl hl.1 rfl (Nat.le_of_ble_eq_true rfl) dX6_readsNumber_91 ⟨Nat.le_of_ble_eq_true rfl, Nat.le_of_ble_eq_true rfl⟩ ⟨Nat.zero_le _, Nat.zero_le _⟩ (fun r91 hr91 => ?_)
      obtain rfl : r91 = nI (nmO (tbl tFIR it)) := hr91
      refine ri_ceq (tgt := 106) hx hb dX6_readsNumber_94 (by decide) (by omega) (by omega) (fun c94 => ?_) (fun c94 => ?_)
      · refine lv_aload_n hx hb dX6_readsNumber_106 rfl (lv_at hl 2 rfl) ?_
        refine lv_iconst (v := nI 2) hx hb dX6_readsNumber_107 (by decide) ?_
        refine lv_iload_n hx hb dX6_readsNumber_108 rfl (lv_at hl 1 rfl) ?_
        refine kQv (As := [.int (nI 2), .int (nI sp)]) (rest := []) (wr := [(m3, .inl (cI, 60, .inl (fun zz => nI (tx zz)))), (m4, .inl (cI, 22, .inl (fun zz => nI (S zz))))]) Y m_X6_fails (c_X6_fails l dC dI _ cI cL m0 m1 m2 m3 m4 m5 m6 m7 m8 m9 m10 m11 m12 bm ty ((sp + 1) + 1) 0 fp kn lf yo ol un hh dr 2 sp (by omega)) qm_X6_97 hP hD hS hA [0] [1, 2] rfl rfl (by decide) (by decide) (kqV (ci := 6) hK hP hD hZ hS hA [0] [] rfl (by decide) rfl 0 rfl rfl rfl) rfl hl.1 rfl (Nat.le_of_ble_eq_true rfl) dX6_readsNumber_109 ⟨Nat.le_of_ble_eq_true rfl, Nat.le_of_ble_eq_true rfl⟩ ⟨Nat.zero_le _, Nat.zero_le _⟩ (fun u109 H locs hr109 hP hD hS => ?_)
        obtain ⟨fa2_109, fp2_109⟩ := u109
        have hP : va_P (dC, dI) vwCl [(m3, .inl (cI, 60, .inl (fun zz => nI (tx zz)))), (m4, .inl (cI, 22, .inl (fun zz => nI (S zz)))), (m0, .inr (6, [.ref m1, .ref m2, .int (nI bm), .long un, .ref m3, .int (nI ty), .ref m4, .int (nI ((sp + 1) + 1)), .int (nI fa2_109), .int (nI fp2_109), .int (nI kn), .ref m5, .ref m6, .ref m7, .ref m8, .ref m9, .int dr, .ref m10, .ref m11, .int (nI lf), .int (nI yo), .int (nI ol), .ref m12, .long hh]))] H := hP
        have hD : va_D A [(m3, .inl (cI, 60, .inl (fun zz => nI (tx zz)))), (m4, .inl (cI, 22, .inl (fun zz => nI (S zz)))), (m0, .inr (6, [.ref m1, .ref m2, .int (nI bm), .long un, .ref m3, .int (nI ty), .ref m4, .int (nI ((sp + 1) + 1)), .int (nI fa2_109), .int (nI fp2_109), .int (nI kn), .ref m5, .ref m6, .ref m7, .ref m8, .ref m9, .int dr, .ref m10, .ref m11, .int (nI lf), .int (nI yo), .int (nI ol), .ref m12, .long hh]))] := hD
        have hr109 : fa2_109 = (if 0 = 0 then 2 else 0) ∧ fp2_109 = (if 0 = 0 then sp else fp) := hr109
        refine lv_goto (tgt := 125) hx hb dX6_readsNumber_112 (by decide) ?_
        obtain rfl : fa2_109 = 2 := hr109.1
        have hfp9 : sp = fp2_109 := hr109.2.symm
        exact kqv (w1 := (fun u : Nat × Nat × Nat × (Nat → Nat) => [(m0, .inr (6, [.ref m1, .ref m2, .int (nI bm), .long un, .ref m3, .int (nI ty), .ref m4, .int (nI u.2.2.1), .int (nI u.1), .int (nI u.2.1), .int (nI kn), .ref m5, .ref m6, .ref m7, .ref m8, .ref m9, .int dr, .ref m10, .ref m11, .int (nI lf), .int (nI yo), .int (nI ol), .ref m12, .long hh])), (m3, .inl (cI, 60, .inl (fun zz => nI (tx zz)))), (m4, .inl (cI, 22, .inl (fun zz => nI (u.2.2.2 zz))))])) Y hr hlocks hK hP hD hS [2, 0, 1] (by decide) (2, fp2_109, (sp + 1) + 1, S) rfl ⟨Fut_b hg (show (2 : Nat) ≠ 0 by decide) (nm_bad (di := 2) (nm2 (its := its) (k := k) (S := S) h2 hdg hit hd2.1 hd2.2) hnd (by decide) (Or.inl (c94.trans hme.1))).1 ((nm_bad (di := 2) (nm2 (its := its) (k := k) (S := S) h2 hdg hit hd2.1 hd2.2) hnd (by decide) (Or.inl (c94.trans hme.1))).2.trans hfp9), (show sp < sp + 1 + 1 by omega), (show sp + 1 + 1 ≤ ty by omega), (show 2 ≤ 3 by omega), (fun z => absurd (show (2 : Nat) = 0 from z) (by decide)), hSb⟩ dX6_readsNumber_125
      · refine lv_iload_n hx hb dX6_readsNumber_97 rfl (lv_at hl 3 rfl) ?_
        refine lv_iload hx hb dX6_readsNumber_98 (lv_at hl 0 rfl) ?_
        refine kSi (As := [.int (nI (tbl tFIR it)), .int (nI (((10 * ((tx sp) - 48)) + (tx (sp + 1))) - 48))]) (rest := []) Y m_X6_isRight (c_X6_isRight l dC dI (tbl tFIR it) (nI (((10 * ((tx sp) - 48)) + (tx (sp + 1))) - 48)) (by omega)) qm_X6_73 (kpS hK hP hZ hS [] [] rfl rfl) rfl hl.1 rfl (Nat.le_of_ble_eq_true rfl) dX6_readsNumber_100 ⟨Nat.le_of_ble_eq_true rfl, Nat.le_of_ble_eq_true rfl⟩ ⟨Nat.zero_le _, Nat.zero_le _⟩ (fun r100 hr100 => ?_)
        obtain rfl : r100 = b2i (nI (lsO (tbl tFIR it)) ≤ (nI (((10 * ((tx sp) - 48)) + (tx (sp + 1))) - 48)) ∧ (nI (((10 * ((tx sp) - 48)) + (tx (sp + 1))) - 48)) ≤ nI (msO (tbl tFIR it))) := hr100
        refine ri_bne (tgt := 115) hx hb dX6_readsNumber_103 (by decide) (fun c103 => ?_) (fun c103 => ?_)
        · have hv9 := (in_iff (by have := lsO_b (tbl tFIR it); omega) (by omega) (by have := msO_b (tbl tFIR it); omega)).mp c103
          have hv8 := msO_b (tbl tFIR it)
          refine lv_aload_n hx hb dX6_readsNumber_115 rfl (lv_at hl 2 rfl) ?_
          refine va_get (D := (dC, dI)) (ci := 6) (v := .ref m4) (C := RX6) (T := TX6) (N := 24) hx hb hts inlX6 hown hK hP 0 rfl rfl 6 (by decide) (hts _ qf_X6_23) (fun _ h9 => h9) rfl dX6_readsNumber_116 ?_
          refine lv_iload_n hx hb dX6_readsNumber_119 rfl (lv_at hl 3 rfl) ?_
          refine lv_iload_n hx hb dX6_readsNumber_120 rfl (lv_at hl 4 rfl) ?_
          refine ri_add hx hb dX6_readsNumber_121 ?_
          refine lv_iload hx hb dX6_readsNumber_122 (lv_at hl 0 rfl) ?_
          refine ri_ast hx hb hK hP hD hS 2 0 (F := S) rfl rfl dX6_readsNumber_124 (by decide) (by omega) (fun H locs hP hD hS => ?_)
          have hP : va_P (dC, dI) vwCl [(m0, .inr (6, [.ref m1, .ref m2, .int (nI bm), .long un, .ref m3, .int (nI ty), .ref m4, .int (nI ((sp + 1) + 1)), .int (nI 0), .int (nI fp), .int (nI kn), .ref m5, .ref m6, .ref m7, .ref m8, .ref m9, .int dr, .ref m10, .ref m11, .int (nI lf), .int (nI yo), .int (nI ol), .ref m12, .long hh])), (m3, .inl (cI, 60, .inl (fun zz => nI (tx zz)))), (m4, .inl (cI, 22, .inl (fun zz => nI (updN S ((tbl tFIR it) + k) (((10 * ((tx sp) - 48)) + (tx (sp + 1))) - 48) zz))))] H := hP
          have hD : va_D A [(m0, .inr (6, [.ref m1, .ref m2, .int (nI bm), .long un, .ref m3, .int (nI ty), .ref m4, .int (nI ((sp + 1) + 1)), .int (nI 0), .int (nI fp), .int (nI kn), .ref m5, .ref m6, .ref m7, .ref m8, .ref m9, .int dr, .ref m10, .ref m11, .int (nI lf), .int (nI yo), .int (nI ol), .ref m12, .long hh])), (m3, .inl (cI, 60, .inl (fun zz => nI (tx zz)))), (m4, .inl (cI, 22, .inl (fun zz => nI (updN S ((tbl tFIR it) + k) (((10 * ((tx sp) - 48)) + (tx (sp + 1))) - 48) zz))))] := hD
          exact kqv (w1 := (fun u : Nat × Nat × Nat × (Nat → Nat) => [(m0, .inr (6, [.ref m1, .ref m2, .int (nI bm), .long un, .ref m3, .int (nI ty), .ref m4, .int (nI u.2.2.1), .int (nI u.1), .int (nI u.2.1), .int (nI kn), .ref m5, .ref m6, .ref m7, .ref m8, .ref m9, .int dr, .ref m10, .ref m11, .int (nI lf), .int (nI yo), .int (nI ol), .ref m12, .long hh])), (m3, .inl (cI, 60, .inl (fun zz => nI (tx zz)))), (m4, .inl (cI, 22, .inl (fun zz => nI (u.2.2.2 zz))))])) Y hr hlocks hK hP hD hS [0, 1, 2] (by decide) (0, fp, (sp + 1) + 1, updN S ((tbl tFIR it) + k) (((10 * ((tx sp) - 48)) + (tx (sp + 1))) - 48)) rfl ⟨Or.inl ⟨rfl, EQ_t hg (nm_ok (di := 2) (nm2 (its := its) (k := k) (S := S) h2 hdg hit hd2.1 hd2.2) hnd (by decide) ((rt_i (k := k) hit (by omega) (by omega)).mp c103))⟩, (show sp < sp + 1 + 1 by omega), (show sp + 1 + 1 ≤ ty by omega), (show 0 ≤ 3 by omega), (fun _ => by omega), updN_b hSb (by omega)⟩ dX6_readsNumber_125
        · refine lv_aload_n hx hb dX6_readsNumber_106 rfl (lv_at hl 2 rfl) ?_
          refine lv_iconst (v := nI 2) hx hb dX6_readsNumber_107 (by decide) ?_
          refine lv_iload_n hx hb dX6_readsNumber_108 rfl (lv_at hl 1 rfl) ?_
          refine kQv (As := [.int (nI 2), .int (nI sp)]) (rest := []) (wr := [(m3, .inl (cI, 60, .inl (fun zz => nI (tx zz)))), (m4, .inl (cI, 22, .inl (fun zz => nI (S zz))))]) Y m_X6_fails (c_X6_fails l dC dI _ cI cL m0 m1 m2 m3 m4 m5 m6 m7 m8 m9 m10 m11 m12 bm ty ((sp + 1) + 1) 0 fp kn lf yo ol un hh dr 2 sp (by omega)) qm_X6_97 hP hD hS hA [0] [1, 2] rfl rfl (by decide) (by decide) (kqV (ci := 6) hK hP hD hZ hS hA [0] [] rfl (by decide) rfl 0 rfl rfl rfl) rfl hl.1 rfl (Nat.le_of_ble_eq_true rfl) dX6_readsNumber_109 ⟨Nat.le_of_ble_eq_true rfl, Nat.le_of_ble_eq_true rfl⟩ ⟨Nat.zero_le _, Nat.zero_le _⟩ (fun u109 H locs hr109 hP hD hS => ?_)
          obtain ⟨fa2_109, fp2_109⟩ := u109
          have hP : va_P (dC, dI) vwCl [(m3, .inl (cI, 60, .inl (fun zz => nI (tx zz)))), (m4, .inl (cI, 22, .inl (fun zz => nI (S zz)))), (m0, .inr (6, [.ref m1, .ref m2, .int (nI bm), .long un, .ref m3, .int (nI ty), .ref m4, .int (nI ((sp + 1) + 1)), .int (nI fa2_109), .int (nI fp2_109), .int (nI kn), .ref m5, .ref m6, .ref m7, .ref m8, .ref m9, .int dr, .ref m10, .ref m11, .int (nI lf), .int (nI yo), .int (nI ol), .ref m12, .long hh]))] H := hP
          have hD : va_D A [(m3, .inl (cI, 60, .inl (fun zz => nI (tx zz)))), (m4, .inl (cI, 22, .inl (fun zz => nI (S zz)))), (m0, .inr (6, [.ref m1, .ref m2, .int (nI bm), .long un, .ref m3, .int (nI ty), .ref m4, .int (nI ((sp + 1) + 1)), .int (nI fa2_109), .int (nI fp2_109), .int (nI kn), .ref m5, .ref m6, .ref m7, .ref m8, .ref m9, .int dr, .ref m10, .ref m11, .int (nI lf), .int (nI yo), .int (nI ol), .ref m12, .long hh]))] := hD
          have hr109 : fa2_109 = (if 0 = 0 then 2 else 0) ∧ fp2_109 = (if 0 = 0 then sp else fp) := hr109
          refine lv_goto (tgt := 125) hx hb dX6_readsNumber_112 (by decide) ?_
          obtain rfl : fa2_109 = 2 := hr109.1
          have hfp9 : sp = fp2_109 := hr109.2.symm
          exact kqv (w1 := (fun u : Nat × Nat × Nat × (Nat → Nat) => [(m0, .inr (6, [.ref m1, .ref m2, .int (nI bm), .long un, .ref m3, .int (nI ty), .ref m4, .int (nI u.2.2.1), .int (nI u.1), .int (nI u.2.1), .int (nI kn), .ref m5, .ref m6, .ref m7, .ref m8, .ref m9, .int dr, .ref m10, .ref m11, .int (nI lf), .int (nI yo), .int (nI ol), .ref m12, .long hh])), (m3, .inl (cI, 60, .inl (fun zz => nI (tx zz)))), (m4, .inl (cI, 22, .inl (fun zz => nI (u.2.2.2 zz))))])) Y hr hlocks hK hP hD hS [2, 0, 1] (by decide) (2, fp2_109, (sp + 1) + 1, S) rfl ⟨Fut_b hg (show (2 : Nat) ≠ 0 by decide) (nm_bad (di := 2) (nm2 (its := its) (k := k) (S := S) h2 hdg hit hd2.1 hd2.2) hnd (by decide) (Decidable.not_not.mp (fun z => c103 ((rt_i (k := k) hit (by omega) (by omega)).mpr z)))).1 ((nm_bad (di := 2) (nm2 (its := its) (k := k) (S := S) h2 hdg hit hd2.1 hd2.2) hnd (by decide) (Decidable.not_not.mp (fun z => c103 ((rt_i (k := k) hit (by omega) (by omega)).mpr z)))).2.trans hfp9), (show sp < sp + 1 + 1 by omega), (show sp + 1 + 1 ≤ ty by omega), (show 2 ≤ 3 by omega), (fun z => absurd (show (2 : Nat) = 0 from z) (by decide)), hSb⟩ dX6_readsNumber_125
    · have hd3 := (hr_d htx).mp c74
      refine lv_aload_n hx hb dX6_readsNumber_77 rfl (lv_at hl 2 rfl) ?_
      refine lv_iconst (v := nI 1) hx hb dX6_readsNumber_78 (by decide) ?_
      refine lv_aload_n hx hb dX6_readsNumber_79 rfl (lv_at hl 2 rfl) ?_
      refine va_get (D := (dC, dI)) (ci := 6) (v := .int (nI ((sp + 1) + 1))) (C := RX6) (T := TX6) (N := 24) hx hb hts inlX6 hown hK hP 0 rfl rfl 7 (by decide) (hts _ qf_X6_84) (fun _ h9 => h9) rfl dX6_readsNumber_80 ?_
      refine kQv (As := [.int (nI 1), .int (nI ((sp + 1) + 1))]) (rest := []) (wr := [(m3, .inl (cI, 60, .inl (fun zz => nI (tx zz)))), (m4, .inl (cI, 22, .inl (fun zz => nI (S zz))))]) Y m_X6_fails (c_X6_fails l dC dI _ cI cL m0 m1 m2 m3 m4 m5 m6 m7 m8 m9 m10 m11 m12 bm ty ((sp + 1) + 1) 0 fp kn lf yo ol un hh dr 1 ((sp + 1) + 1) (by omega)) qm_X6_97 hP hD hS hA [0] [1, 2] rfl rfl (by decide) (by decide) (kqV (ci := 6) hK hP hD hZ hS hA [0] [] rfl (by decide) rfl 0 rfl rfl rfl) rfl hl.1 rfl (Nat.le_of_ble_eq_true rfl) dX6_readsNumber_83 ⟨Nat.le_of_ble_eq_true rfl, Nat.le_of_ble_eq_true rfl⟩ ⟨Nat.zero_le _, Nat.zero_le _⟩ (fun u83 H locs hr83 hP hD hS => ?_)
      obtain ⟨fa2_83, fp2_83⟩ := u83
      have hP : va_P (dC, dI) vwCl [(m3, .inl (cI, 60, .inl (fun zz => nI (tx zz)))), (m4, .inl (cI, 22, .inl (fun zz => nI (S zz)))), (m0, .inr (6, [.ref m1, .ref m2, .int (nI bm), .long un, .ref m3, .int (nI ty), .ref m4, .int (nI ((sp + 1) + 1)), .int (nI fa2_83), .int (nI fp2_83), .int (nI kn), .ref m5, .ref m6, .ref m7, .ref m8, .ref m9, .int dr, .ref m10, .ref m11, .int (nI lf), .int (nI yo), .int (nI ol), .ref m12, .long hh]))] H := hP
      have hD : va_D A [(m3, .inl (cI, 60, .inl (fun zz => nI (tx zz)))), (m4, .inl (cI, 22, .inl (fun zz => nI (S zz)))), (m0, .inr (6, [.ref m1, .ref m2, .int (nI bm), .long un, .ref m3, .int (nI ty), .ref m4, .int (nI ((sp + 1) + 1)), .int (nI fa2_83), .int (nI fp2_83), .int (nI kn), .ref m5, .ref m6, .ref m7, .ref m8, .ref m9, .int dr, .ref m10, .ref m11, .int (nI lf), .int (nI yo), .int (nI ol), .ref m12, .long hh]))] := hD
      have hr83 : fa2_83 = (if 0 = 0 then 1 else 0) ∧ fp2_83 = (if 0 = 0 then ((sp + 1) + 1) else fp) := hr83
      refine lv_goto (tgt := 125) hx hb dX6_readsNumber_86 (by decide) ?_
      obtain rfl : fa2_83 = 1 := hr83.1
      have hfp9 : sp + 1 + 1 = fp2_83 := hr83.2.symm
      have hd4 := hd3.1
      exact kqv (w1 := (fun u : Nat × Nat × Nat × (Nat → Nat) => [(m0, .inr (6, [.ref m1, .ref m2, .int (nI bm), .long un, .ref m3, .int (nI ty), .ref m4, .int (nI u.2.2.1), .int (nI u.1), .int (nI u.2.1), .int (nI kn), .ref m5, .ref m6, .ref m7, .ref m8, .ref m9, .int dr, .ref m10, .ref m11, .int (nI lf), .int (nI yo), .int (nI ol), .ref m12, .long hh])), (m3, .inl (cI, 60, .inl (fun zz => nI (tx zz)))), (m4, .inl (cI, 22, .inl (fun zz => nI (u.2.2.2 zz))))])) Y hr hlocks hK hP hD hS [2, 0, 1] (by decide) (1, fp2_83, (sp + 1) + 1, S) rfl ⟨Fut_b hg (show (1 : Nat) ≠ 0 by decide) (nm3 (nm2 (its := its) (k := k) (S := S) h2 hdg hit hd2.1 hd2.2) hd3.1 hd3.2).1 ((nm3 (nm2 (its := its) (k := k) (S := S) h2 hdg hit hd2.1 hd2.2) hd3.1 hd3.2).2.trans hfp9), (show sp < sp + 1 + 1 by omega), (show sp + 1 + 1 ≤ ty by omega), (show 1 ≤ 3 by omega), (fun z => absurd (show (1 : Nat) = 0 from z) (by decide)), hSb⟩ dX6_readsNumber_125
