set_option maxHeartbeats 4000000 in
set_option maxRecDepth 100000 in
theorem c_X6_skips_ (l : Launch) (dC : Nat → ClassId) (dI : Nat → Nat → Nat) (sz : Nat) (cI cL : ClassId) (m0 m1 m2 m3 m4 m5 m6 m7 m8 m9 m10 m11 m12 : Nat) (bm ty sp fa fp kn lf yo ol : Nat) (un hh : Int64) (dr : Int32) (P ww rv : Nat → Nat) (xe : Nat → Int64) (s0 : Nat) (h1 : s0 ≤ 7) (hPI : PI P) (hMR : MR P ww rv) : Met l yX6_skips_ (kw yX6_skips_ cX6_skips_ 8 (some .long)) (kR 1 21) (kPq (dC, dI) [.ref m0, .int (nI s0)] sz [(m0, .inr (6, [.ref m1, .ref m2, .int (nI bm), .long un, .ref m3, .int (nI ty), .ref m4, .int (nI sp), .int (nI fa), .int (nI fp), .int (nI kn), .ref m5, .ref m6, .ref m7, .ref m8, .ref m9, .int dr, .ref m10, .ref m11, .int (nI lf), .int (nI yo), .int (nI ol), .ref m12, .long hh])), (m1, .inl (cI, 22, .inl (fun zz => nI (P zz)))), (m5, .inl (cL, 72, .inr (.inl (fun zz => lN (ww zz))))), (m6, .inl (cL, 40, .inr (.inl (fun zz => lN (rv zz))))), (m9, .inl (cL, 40, .inr (.inl xe)))] [(cI, .int), (cL, .long)]) (va_Ql (fun (res : Int64) (u : Nat → Int64) => res = iN (SK P s0 (P 0) (P 1))) (fun u : Nat → Int64 => kB (dC, dI) [(cI, .int), (cL, .long)] (va_A [(m0, .inr (6, [.ref m1, .ref m2, .int (nI bm), .long un, .ref m3, .int (nI ty), .ref m4, .int (nI sp), .int (nI fa), .int (nI fp), .int (nI kn), .ref m5, .ref m6, .ref m7, .ref m8, .ref m9, .int dr, .ref m10, .ref m11, .int (nI lf), .int (nI yo), .int (nI ol), .ref m12, .long hh])), (m1, .inl (cI, 22, .inl (fun zz => nI (P zz)))), (m5, .inl (cL, 72, .inr (.inl (fun zz => lN (ww zz))))), (m6, .inl (cL, 40, .inr (.inl (fun zz => lN (rv zz))))), (m9, .inl (cL, 40, .inr (.inl xe)))] sz) ([(m0, .inr (6, [.ref m1, .ref m2, .int (nI bm), .long un, .ref m3, .int (nI ty), .ref m4, .int (nI sp), .int (nI fa), .int (nI fp), .int (nI kn), .ref m5, .ref m6, .ref m7, .ref m8, .ref m9, .int dr, .ref m10, .ref m11, .int (nI lf), .int (nI yo), .int (nI ol), .ref m12, .long hh])), (m1, .inl (cI, 22, .inl (fun zz => nI (P zz)))), (m5, .inl (cL, 72, .inr (.inl (fun zz => lN (ww zz))))), (m6, .inl (cL, 40, .inr (.inl (fun zz => lN (rv zz))))), (m9, .inl (cL, 40, .inr (.inl u)))])) (va_A [(m0, .inr (6, [.ref m1, .ref m2, .int (nI bm), .long un, .ref m3, .int (nI ty), .ref m4, .int (nI sp), .int (nI fa), .int (nI fp), .int (nI kn), .ref m5, .ref m6, .ref m7, .ref m8, .ref m9, .int dr, .ref m10, .ref m11, .int (nI lf), .int (nI yo), .int (nI ol), .ref m12, .long hh])), (m1, .inl (cI, 22, .inl (fun zz => nI (P zz)))), (m5, .inl (cL, 72, .inr (.inl (fun zz => lN (ww zz))))), (m6, .inl (cL, 40, .inr (.inl (fun zz => lN (rv zz))))), (m9, .inl (cL, 40, .inr (.inl xe)))] sz)) 0 0 (va_A [(m0, .inr (6, [.ref m1, .ref m2, .int (nI bm), .long un, .ref m3, .int (nI ty), .ref m4, .int (nI sp), .int (nI fa), .int (nI fp), .int (nI kn), .ref m5, .ref m6, .ref m7, .ref m8, .ref m9, .int dr, .ref m10, .ref m11, .int (nI lf), .int (nI yo), .int (nI ol), .ref m12, .long hh])), (m1, .inl (cI, 22, .inl (fun zz => nI (P zz)))), (m5, .inl (cL, 72, .inr (.inl (fun zz => lN (ww zz))))), (m6, .inl (cL, 40, .inr (.inl (fun zz => lN (rv zz))))), (m9, .inl (cL, 40, .inr (.inl xe)))] sz) := by
  refine kmet (by decide) ?_
  intro p e s m args below meth c Y hr hlocks hin hv
  obtain ⟨rfl, A, hAe, hsz, hP, hK, hD, hZ, hA⟩ := kinQ hv
  rw [hAe]
  have hS : va_S A s.heap s.heap [] := va_S.rf
  have hx := Y.1
  have hb := Y.2.1
  have hml := Y.2.2.1
  have hown := Y.2.2.2.1
  have hts := Y.2.2.2.2
  have hl := lv_entry ([.ref m0, .int (nI s0)]) (n := 8) (Nat.le_of_ble_eq_true rfl)
  rw [lg_entry_eq]
  generalize (lg_sl ([.ref m0, .int (nI s0)]) ++ List.replicate (8 - (lg_sl ([.ref m0, .int (nI s0)])).length) Slot.unset).toArray = ls at hl ⊢
  have hl : lv_has ls 8 [(0, .ref m0), (1, .int (nI s0))] := hl
  have hp0 := hPI.1
  have hp1 := hPI.2.1
  have hp2 := hPI.2.2.1
  refine lv_aload_n hx hb dX6_skips__0 rfl (lv_at hl 0 rfl) ?_
  refine kVi (As := []) (rest := []) Y m_X6_n (c_X6_n l dC dI cI cL m0 m1 m2 m3 m4 m5 m6 m7 m8 m9 m10 m11 m12 bm ty sp fa fp kn lf yo ol un hh dr P ) qm_X6_123 (kpV (ci := 6) hK hP hZ hS [0, 1] [0] rfl rfl 0 rfl rfl rfl) rfl hl.1 rfl (Nat.le_of_ble_eq_true rfl) dX6_skips__1 ⟨Nat.le_of_ble_eq_true rfl, Nat.le_of_ble_eq_true rfl⟩ ⟨Nat.zero_le _, Nat.zero_le _⟩ (fun r1 hr1 => ?_)
  obtain rfl : r1 = nI (P 0) := hr1
  refine lv_iconst (v := nI 1) hx hb dX6_skips__4 (by decide) ?_
  refine ri_add hx hb dX6_skips__5 ?_
  refine lv_istore_n (lv' := [(2, .int (nI ((P 0) + 1))), (0, .ref m0), (1, .int (nI s0))]) hx hb dX6_skips__6 rfl hl (by decide) rfl (fun ls hl => ?_)
  refine wl2 (fun (i : Nat) (x1 : Nat → Int64) => i) (fun (i : Nat) (x1 : Nat → Int64) (ls : Array Slot) (H : Heap) (locs : List Loc) => lv_has ls 8 [(0, .ref m0), (1, .int (nI s0)), (2, .int (nI i))] ∧ va_P (dC, dI) vwCl [(m0, .inr (6, [.ref m1, .ref m2, .int (nI bm), .long un, .ref m3, .int (nI ty), .ref m4, .int (nI sp), .int (nI fa), .int (nI fp), .int (nI kn), .ref m5, .ref m6, .ref m7, .ref m8, .ref m9, .int dr, .ref m10, .ref m11, .int (nI lf), .int (nI yo), .int (nI ol), .ref m12, .long hh])), (m1, .inl (cI, 22, .inl (fun zz => nI (P zz)))), (m5, .inl (cL, 72, .inr (.inl (fun zz => lN (ww zz))))), (m6, .inl (cL, 40, .inr (.inl (fun zz => lN (rv zz))))), (m9, .inl (cL, 40, .inr (.inl x1)))] H ∧ va_D A [(m0, .inr (6, [.ref m1, .ref m2, .int (nI bm), .long un, .ref m3, .int (nI ty), .ref m4, .int (nI sp), .int (nI fa), .int (nI fp), .int (nI kn), .ref m5, .ref m6, .ref m7, .ref m8, .ref m9, .int dr, .ref m10, .ref m11, .int (nI lf), .int (nI yo), .int (nI ol), .ref m12, .long hh])), (m1, .inl (cI, 22, .inl (fun zz => nI (P zz)))), (m5, .inl (cL, 72, .inr (.inl (fun zz => lN (ww zz))))), (m6, .inl (cL, 40, .inr (.inl (fun zz => lN (rv zz))))), (m9, .inl (cL, 40, .inr (.inl x1)))] ∧ va_S A s.heap H locs ∧ (i ≤ P 0 + 1 ∧ MX P (K1 P s0) x1 i 0)) ((P 0) + 1) xe (by exact ⟨lv_sub hl [1, 2, 0] rfl, hP.sub [0, 1, 2, 3, 4] rfl, hD.sub [0, 1, 2, 3, 4] (by decide) rfl, hS, by omega, MX_0⟩) (fun i x1 ls H locs hI ih => ?_)
  obtain ⟨hl, hP, hD, hS, hi, hX1⟩ := hI
  have ih7 := ih
  refine lv_iload_n hx hb dX6_skips__7 rfl (lv_at hl 2 rfl) ?_
  refine ri_zle (tgt := 139) hx hb dX6_skips__8 (by decide) (by omega) (fun c8 => ?_) (fun c8 => ?_)
  · obtain rfl : i = 0 := by omega
    refine lv_aload_n hx hb dX6_skips__139 rfl (lv_at hl 0 rfl) ?_
    refine va_get (D := (dC, dI)) (ci := 6) (v := .ref m9) (C := RX6) (T := TX6) (N := 24) hx hb hts inlX6 hown hK hP 0 rfl rfl 15 (by decide) (hts _ qf_X6_39) (fun _ h9 => h9) rfl dX6_skips__140 ?_
    refine lv_iconst (v := nI 1) hx hb dX6_skips__143 (by decide) ?_
    refine lv_aload_n hx hb dX6_skips__144 rfl (lv_at hl 0 rfl) ?_
    refine kVi (As := []) (rest := [.int (nI 1), .ref m9]) Y m_X6_k (c_X6_k l dC dI cI cL m0 m1 m2 m3 m4 m5 m6 m7 m8 m9 m10 m11 m12 bm ty sp fa fp kn lf yo ol un hh dr P ) qm_X6_184 (kpV (ci := 6) hK hP hZ hS [0, 1] [0] rfl rfl 0 rfl rfl rfl) rfl hl.1 rfl (Nat.le_of_ble_eq_true rfl) dX6_skips__145 ⟨Nat.le_of_ble_eq_true rfl, Nat.le_of_ble_eq_true rfl⟩ ⟨Nat.zero_le _, Nat.zero_le _⟩ (fun r145 hr145 => ?_)
    obtain rfl : r145 = nI (P 1) := hr145
    refine kSi (As := [.int (nI 1), .int (nI (P 1))]) (rest := [.ref m9]) Y m_X6_at (c_X6_at l dC dI 1 (P 1) ) qm_X6_138 (kpS hK hP hZ hS [] [] rfl rfl) rfl hl.1 rfl (Nat.le_of_ble_eq_true rfl) dX6_skips__148 ⟨Nat.le_of_ble_eq_true rfl, Nat.le_of_ble_eq_true rfl⟩ ⟨Nat.zero_le _, Nat.zero_le _⟩ (fun r148 hr148 => ?_)
    obtain rfl : r148 = nI (4 * 1 + (P 1)) := hr148
    refine rl_ald hx hb hK hP 4 1 (F := x1) rfl rfl dX6_skips__151 (by decide) (by omega) ?_
    refine rl_set (x' := iN (SK P s0 (P 0) (P 1))) (MX_e hX1 rfl) ?_
    exact kql (w1 := (fun u : Nat → Int64 => [(m0, .inr (6, [.ref m1, .ref m2, .int (nI bm), .long un, .ref m3, .int (nI ty), .ref m4, .int (nI sp), .int (nI fa), .int (nI fp), .int (nI kn), .ref m5, .ref m6, .ref m7, .ref m8, .ref m9, .int dr, .ref m10, .ref m11, .int (nI lf), .int (nI yo), .int (nI ol), .ref m12, .long hh])), (m1, .inl (cI, 22, .inl (fun zz => nI (P zz)))), (m5, .inl (cL, 72, .inr (.inl (fun zz => lN (ww zz))))), (m6, .inl (cL, 40, .inr (.inl (fun zz => lN (rv zz))))), (m9, .inl (cL, 40, .inr (.inl u)))])) (v := iN (SK P s0 (P 0) (P 1))) Y hr hlocks hK hP hD hS [0, 1, 2, 3, 4] (by decide) (x1) rfl rfl dX6_skips__152
  · refine lv_iconst (v := nI 0) hx hb dX6_skips__11 (by decide) ?_
    refine lv_istore_n (lv' := [(3, .int (nI 0)), (0, .ref m0), (1, .int (nI s0)), (2, .int (nI i))]) hx hb dX6_skips__12 rfl hl (by decide) rfl (fun ls hl => ?_)
    refine wl2 (fun (j : Nat) (x3 : Nat → Int64) => P 1 + 1 - j) (fun (j : Nat) (x3 : Nat → Int64) (ls : Array Slot) (H : Heap) (locs : List Loc) => lv_has ls 8 [(0, .ref m0), (1, .int (nI s0)), (2, .int (nI i)), (3, .int (nI j))] ∧ va_P (dC, dI) vwCl [(m0, .inr (6, [.ref m1, .ref m2, .int (nI bm), .long un, .ref m3, .int (nI ty), .ref m4, .int (nI sp), .int (nI fa), .int (nI fp), .int (nI kn), .ref m5, .ref m6, .ref m7, .ref m8, .ref m9, .int dr, .ref m10, .ref m11, .int (nI lf), .int (nI yo), .int (nI ol), .ref m12, .long hh])), (m1, .inl (cI, 22, .inl (fun zz => nI (P zz)))), (m5, .inl (cL, 72, .inr (.inl (fun zz => lN (ww zz))))), (m6, .inl (cL, 40, .inr (.inl (fun zz => lN (rv zz))))), (m9, .inl (cL, 40, .inr (.inl x3)))] H ∧ va_D A [(m0, .inr (6, [.ref m1, .ref m2, .int (nI bm), .long un, .ref m3, .int (nI ty), .ref m4, .int (nI sp), .int (nI fa), .int (nI fp), .int (nI kn), .ref m5, .ref m6, .ref m7, .ref m8, .ref m9, .int dr, .ref m10, .ref m11, .int (nI lf), .int (nI yo), .int (nI ol), .ref m12, .long hh])), (m1, .inl (cI, 22, .inl (fun zz => nI (P zz)))), (m5, .inl (cL, 72, .inr (.inl (fun zz => lN (ww zz))))), (m6, .inl (cL, 40, .inr (.inl (fun zz => lN (rv zz))))), (m9, .inl (cL, 40, .inr (.inl x3)))] ∧ va_S A s.heap H locs ∧ (j ≤ P 1 + 1 ∧ MX P (K1 P s0) x3 i j)) 0 x1 (by exact ⟨lv_sub hl [1, 2, 3, 0] rfl, hP.sub [0, 1, 2, 3, 4] rfl, hD.sub [0, 1, 2, 3, 4] (by decide) rfl, hS, by omega, hX1⟩) (fun j x3 ls H locs hI ih => ?_)
    obtain ⟨hl, hP, hD, hS, hj, hX3⟩ := hI
    have ih13 := ih
    refine lv_iload_n hx hb dX6_skips__13 rfl (lv_at hl 3 rfl) ?_
    refine lv_aload_n hx hb dX6_skips__14 rfl (lv_at hl 0 rfl) ?_
    refine kVi (As := []) (rest := [.int (nI j)]) Y m_X6_k (c_X6_k l dC dI cI cL m0 m1 m2 m3 m4 m5 m6 m7 m8 m9 m10 m11 m12 bm ty sp fa fp kn lf yo ol un hh dr P ) qm_X6_184 (kpV (ci := 6) hK hP hZ hS [0, 1] [0] rfl rfl 0 rfl rfl rfl) rfl hl.1 rfl (Nat.le_of_ble_eq_true rfl) dX6_skips__15 ⟨Nat.le_of_ble_eq_true rfl, Nat.le_of_ble_eq_true rfl⟩ ⟨Nat.zero_le _, Nat.zero_le _⟩ (fun r15 hr15 => ?_)
    obtain rfl : r15 = nI (P 1) := hr15
    refine ri_cgt (tgt := 133) hx hb dX6_skips__18 (by decide) (by omega) (by omega) (fun c18 => ?_) (fun c18 => ?_)
    · refine lv_iinc (v := nI (i - 1)) (lv' := [(2, .int (nI (i - 1))), (0, .ref m0), (1, .int (nI s0)), (3, .int (nI j))]) hx hb dX6_skips__133 hl (k := 2) rfl (dec1 (by omega)) (by decide) rfl (fun ls hl => ?_)
      refine lv_goto (tgt := 7) hx hb dX6_skips__136 (by decide) ?_
      exact ih7 (i - 1) x3 _ _ _ (by show _ < _; omega) (by exact ⟨lv_sub hl [1, 2, 0] rfl, hP.sub [0, 1, 2, 3, 4] rfl, hD.sub [0, 1, 2, 3, 4] (by decide) rfl, hS, by omega, MX_next hX3 (by omega)⟩)
    · refine lv_lconst (v := lN 0) hx hb dX6_skips__21 rfl ?_
      refine lv_lstore (lv' := [(4, .long (lN 0)), (0, .ref m0), (1, .int (nI s0)), (2, .int (nI i)), (3, .int (nI j))]) hx hb dX6_skips__22 hl (by decide) rfl (fun ls hl => ?_)
      refine lv_iload_n hx hb dX6_skips__24 rfl (lv_at hl 4 rfl) ?_
      refine ri_zle (tgt := 115) hx hb dX6_skips__25 (by decide) (by omega) (fun c25 => ?_) (fun c25 => ?_)
      · refine lv_aload_n hx hb dX6_skips__115 rfl (lv_at hl 1 rfl) ?_
        refine va_get (D := (dC, dI)) (ci := 6) (v := .ref m9) (C := RX6) (T := TX6) (N := 24) hx hb hts inlX6 hown hK hP 0 rfl rfl 15 (by decide) (hts _ qf_X6_39) (fun _ h9 => h9) rfl dX6_skips__116 ?_
        refine lv_iload_n hx hb dX6_skips__119 rfl (lv_at hl 3 rfl) ?_
        refine lv_iload_n hx hb dX6_skips__120 rfl (lv_at hl 4 rfl) ?_
        refine kSi (As := [.int (nI i), .int (nI j)]) (rest := [.ref m9]) Y m_X6_at (c_X6_at l dC dI i j ) qm_X6_138 (kpS hK hP hZ hS [] [] rfl rfl) rfl hl.1 rfl (Nat.le_of_ble_eq_true rfl) dX6_skips__121 ⟨Nat.le_of_ble_eq_true rfl, Nat.le_of_ble_eq_true rfl⟩ ⟨Nat.zero_le _, Nat.zero_le _⟩ (fun r121 hr121 => ?_)
        obtain rfl : r121 = nI (4 * i + j) := hr121
        refine lv_lload hx hb dX6_skips__124 (lv_at hl 0 rfl) ?_
        refine rl_set (x' := iN (SK P s0 (P 0 + 1 - i) j)) (skZ (Or.inl (by omega))) ?_
        refine rl_ast hx hb hK hP hD hS 4 1 (F := x3) rfl rfl dX6_skips__126 (by decide) (by omega) (fun H locs hP hD hS => ?_)
        have hP : va_P (dC, dI) vwCl [(m0, .inr (6, [.ref m1, .ref m2, .int (nI bm), .long un, .ref m3, .int (nI ty), .ref m4, .int (nI sp), .int (nI fa), .int (nI fp), .int (nI kn), .ref m5, .ref m6, .ref m7, .ref m8, .ref m9, .int dr, .ref m10, .ref m11, .int (nI lf), .int (nI yo), .int (nI ol), .ref m12, .long hh])), (m1, .inl (cI, 22, .inl (fun zz => nI (P zz)))), (m5, .inl (cL, 72, .inr (.inl (fun zz => lN (ww zz))))), (m6, .inl (cL, 40, .inr (.inl (fun zz => lN (rv zz))))), (m9, .inl (cL, 40, .inr (.inl (updL x3 (4 * i + j) (iN (SK P s0 (P 0 + 1 - i) j))))))] H := hP
        have hD : va_D A [(m0, .inr (6, [.ref m1, .ref m2, .int (nI bm), .long un, .ref m3, .int (nI ty), .ref m4, .int (nI sp), .int (nI fa), .int (nI fp), .int (nI kn), .ref m5, .ref m6, .ref m7, .ref m8, .ref m9, .int dr, .ref m10, .ref m11, .int (nI lf), .int (nI yo), .int (nI ol), .ref m12, .long hh])), (m1, .inl (cI, 22, .inl (fun zz => nI (P zz)))), (m5, .inl (cL, 72, .inr (.inl (fun zz => lN (ww zz))))), (m6, .inl (cL, 40, .inr (.inl (fun zz => lN (rv zz))))), (m9, .inl (cL, 40, .inr (.inl (updL x3 (4 * i + j) (iN (SK P s0 (P 0 + 1 - i) j))))))] := hD
        refine lv_iinc (v := nI (j + 1)) (lv' := [(3, .int (nI (j + 1))), (4, .long (lN 0)), (0, .ref m0), (1, .int (nI s0)), (2, .int (nI i))]) hx hb dX6_skips__127 hl (k := 4) rfl (inc1 _) (by decide) rfl (fun ls hl => ?_)
        refine lv_goto (tgt := 13) hx hb dX6_skips__130 (by decide) ?_
        exact ih13 (j + 1) (updL x3 (4 * i + j) (iN (SK P s0 (P 0 + 1 - i) j))) _ _ _ (by show _ < _; omega) (by exact ⟨lv_sub hl [2, 3, 4, 0] rfl, hP.sub [0, 1, 2, 3, 4] rfl, hD.sub [0, 1, 2, 3, 4] (by decide) rfl, hS, by omega, MX_put hX3 (by omega) (by omega) rfl⟩)
      · refine lv_iload_n hx hb dX6_skips__28 rfl (lv_at hl 3 rfl) ?_
        refine lv_aload_n hx hb dX6_skips__29 rfl (lv_at hl 1 rfl) ?_
        refine kVi (As := []) (rest := [.int (nI i)]) Y m_X6_n (c_X6_n l dC dI cI cL m0 m1 m2 m3 m4 m5 m6 m7 m8 m9 m10 m11 m12 bm ty sp fa fp kn lf yo ol un hh dr P ) qm_X6_123 (kpV (ci := 6) hK hP hZ hS [0, 1] [0] rfl rfl 0 rfl rfl rfl) rfl hl.1 rfl (Nat.le_of_ble_eq_true rfl) dX6_skips__30 ⟨Nat.le_of_ble_eq_true rfl, Nat.le_of_ble_eq_true rfl⟩ ⟨Nat.zero_le _, Nat.zero_le _⟩ (fun r30 hr30 => ?_)
        obtain rfl : r30 = nI (P 0) := hr30
        refine ri_cgt (tgt := 115) hx hb dX6_skips__33 (by decide) (by omega) (by omega) (fun c33 => ?_) (fun c33 => ?_)
        · refine lv_aload_n hx hb dX6_skips__115 rfl (lv_at hl 1 rfl) ?_
          refine va_get (D := (dC, dI)) (ci := 6) (v := .ref m9) (C := RX6) (T := TX6) (N := 24) hx hb hts inlX6 hown hK hP 0 rfl rfl 15 (by decide) (hts _ qf_X6_39) (fun _ h9 => h9) rfl dX6_skips__116 ?_
          refine lv_iload_n hx hb dX6_skips__119 rfl (lv_at hl 3 rfl) ?_
          refine lv_iload_n hx hb dX6_skips__120 rfl (lv_at hl 4 rfl) ?_
          refine kSi (As := [.int (nI i), .int (nI j)]) (rest := [.ref m9]) Y m_X6_at (c_X6_at l dC dI i j ) qm_X6_138 (kpS hK hP hZ hS [] [] rfl rfl) rfl hl.1 rfl (Nat.le_of_ble_eq_true rfl) dX6_skips__121 ⟨Nat.le_of_ble_eq_true rfl, Nat.le_of_ble_eq_true rfl⟩ ⟨Nat.zero_le _, Nat.zero_le _⟩ (fun r121 hr121 => ?_)
          obtain rfl : r121 = nI (4 * i + j) := hr121
          refine lv_lload hx hb dX6_skips__124 (lv_at hl 0 rfl) ?_
          refine rl_set (x' := iN (SK P s0 (P 0 + 1 - i) j)) (skZ (Or.inr (by omega))) ?_
          refine rl_ast hx hb hK hP hD hS 4 1 (F := x3) rfl rfl dX6_skips__126 (by decide) (by omega) (fun H locs hP hD hS => ?_)
          have hP : va_P (dC, dI) vwCl [(m0, .inr (6, [.ref m1, .ref m2, .int (nI bm), .long un, .ref m3, .int (nI ty), .ref m4, .int (nI sp), .int (nI fa), .int (nI fp), .int (nI kn), .ref m5, .ref m6, .ref m7, .ref m8, .ref m9, .int dr, .ref m10, .ref m11, .int (nI lf), .int (nI yo), .int (nI ol), .ref m12, .long hh])), (m1, .inl (cI, 22, .inl (fun zz => nI (P zz)))), (m5, .inl (cL, 72, .inr (.inl (fun zz => lN (ww zz))))), (m6, .inl (cL, 40, .inr (.inl (fun zz => lN (rv zz))))), (m9, .inl (cL, 40, .inr (.inl (updL x3 (4 * i + j) (iN (SK P s0 (P 0 + 1 - i) j))))))] H := hP
          have hD : va_D A [(m0, .inr (6, [.ref m1, .ref m2, .int (nI bm), .long un, .ref m3, .int (nI ty), .ref m4, .int (nI sp), .int (nI fa), .int (nI fp), .int (nI kn), .ref m5, .ref m6, .ref m7, .ref m8, .ref m9, .int dr, .ref m10, .ref m11, .int (nI lf), .int (nI yo), .int (nI ol), .ref m12, .long hh])), (m1, .inl (cI, 22, .inl (fun zz => nI (P zz)))), (m5, .inl (cL, 72, .inr (.inl (fun zz => lN (ww zz))))), (m6, .inl (cL, 40, .inr (.inl (fun zz => lN (rv zz))))), (m9, .inl (cL, 40, .inr (.inl (updL x3 (4 * i + j) (iN (SK P s0 (P 0 + 1 - i) j))))))] := hD
          refine lv_iinc (v := nI (j + 1)) (lv' := [(3, .int (nI (j + 1))), (4, .long (lN 0)), (0, .ref m0), (1, .int (nI s0)), (2, .int (nI i))]) hx hb dX6_skips__127 hl (k := 4) rfl (inc1 _) (by decide) rfl (fun ls hl => ?_)
          refine lv_goto (tgt := 13) hx hb dX6_skips__130 (by decide) ?_
          exact ih13 (j + 1) (updL x3 (4 * i + j) (iN (SK P s0 (P 0 + 1 - i) j))) _ _ _ (by show _ < _; omega) (by exact ⟨lv_sub hl [2, 3, 4, 0] rfl, hP.sub [0, 1, 2, 3, 4] rfl, hD.sub [0, 1, 2, 3, 4] (by decide) rfl, hS, by omega, MX_put hX3 (by omega) (by omega) rfl⟩)
        · refine lv_aload_n hx hb dX6_skips__36 rfl (lv_at hl 1 rfl) ?_
          refine va_get (D := (dC, dI)) (ci := 6) (v := .ref m9) (C := RX6) (T := TX6) (N := 24) hx hb hts inlX6 hown hK hP 0 rfl rfl 15 (by decide) (hts _ qf_X6_39) (fun _ h9 => h9) rfl dX6_skips__37 ?_
          refine lv_iload_n hx hb dX6_skips__40 rfl (lv_at hl 3 rfl) ?_
          refine lv_iconst (v := nI 1) hx hb dX6_skips__41 (by decide) ?_
          refine ri_add hx hb dX6_skips__42 ?_
          refine lv_iload_n hx hb dX6_skips__43 rfl (lv_at hl 4 rfl) ?_
          refine kSi (As := [.int (nI (i + 1)), .int (nI j)]) (rest := [.ref m9]) Y m_X6_at (c_X6_at l dC dI (i + 1) j ) qm_X6_138 (kpS hK hP hZ hS [] [] rfl rfl) rfl hl.1 rfl (Nat.le_of_ble_eq_true rfl) dX6_skips__44 ⟨Nat.le_of_ble_eq_true rfl, Nat.le_of_ble_eq_true rfl⟩ ⟨Nat.zero_le _, Nat.zero_le _⟩ (fun r44 hr44 => ?_)
          obtain rfl : r44 = nI (4 * (i + 1) + j) := hr44
          refine rl_ald hx hb hK hP 4 1 (F := x3) rfl rfl dX6_skips__47 (by decide) (by omega) ?_
          refine rl_set (x' := iN (SK P s0 (P 0 - i) j)) (MX_up (T := K1 P s0) hX3 (by omega) (by omega)) ?_
          refine lv_lstore (lv' := [(6, .long (iN (SK P s0 (P 0 - i) j))), (4, .long (lN 0)), (0, .ref m0), (1, .int (nI s0)), (2, .int (nI i)), (3, .int (nI j))]) hx hb dX6_skips__48 hl (by decide) rfl (fun ls hl => ?_)
          refine lv_iload_n hx hb dX6_skips__50 rfl (lv_at hl 4 rfl) ?_
          refine lv_iload_n hx hb dX6_skips__51 rfl (lv_at hl 3 rfl) ?_
          refine ri_cgt (tgt := 60) hx hb dX6_skips__52 (by decide) (by omega) (by omega) (fun c52 => ?_) (fun c52 => ?_)
          · refine lv_aload_n hx hb dX6_skips__60 rfl (lv_at hl 2 rfl) ?_
            refine va_get (D := (dC, dI)) (ci := 6) (v := .ref m5) (C := RX6) (T := TX6) (N := 24) hx hb hts inlX6 hown hK hP 0 rfl rfl 11 (by decide) (hts _ qf_X6_26) (fun _ h9 => h9) rfl dX6_skips__61 ?_
            refine lv_bipush (v := nI 8) hx hb dX6_skips__64 (by decide) ?_
            refine lv_iload_n hx hb dX6_skips__66 rfl (lv_at hl 4 rfl) ?_
            refine ri_mul hx hb dX6_skips__67 ?_
            refine lv_iconst (v := nI 1) hx hb dX6_skips__68 (by decide) ?_
            refine ri_add hx hb dX6_skips__69 ?_
            refine rm_ald hx hb hK hP 2 1 (F := ww) rfl rfl dX6_skips__70 (by decide) (by omega) ?_
            refine rl_set (x' := lN (Wo P i 1)) (congrArg lN (hMR.1 i 1 (by omega) (by omega) (by omega) (by omega))) ?_
            refine lv_aload_n hx hb dX6_skips__71 rfl (lv_at hl 2 rfl) ?_
            refine va_get (D := (dC, dI)) (ci := 6) (v := .ref m9) (C := RX6) (T := TX6) (N := 24) hx hb hts inlX6 hown hK hP 0 rfl rfl 15 (by decide) (hts _ qf_X6_39) (fun _ h9 => h9) rfl dX6_skips__72 ?_
            refine lv_iload_n hx hb dX6_skips__75 rfl (lv_at hl 4 rfl) ?_
            refine lv_iconst (v := nI 1) hx hb dX6_skips__76 (by decide) ?_
            refine ri_add hx hb dX6_skips__77 ?_
            refine lv_iload_n hx hb dX6_skips__78 rfl (lv_at hl 5 rfl) ?_
            refine lv_iconst (v := nI 1) hx hb dX6_skips__79 (by decide) ?_
            refine ri_sub hx hb dX6_skips__80 (by omega) ?_
            refine kSi (As := [.int (nI (i + 1)), .int (nI (j - 1))]) (rest := [.ref m9, .long (lN (Wo P i 1))]) Y m_X6_at (c_X6_at l dC dI (i + 1) (j - 1) ) qm_X6_138 (kpS hK hP hZ hS [] [] rfl rfl) rfl hl.1 rfl (Nat.le_of_ble_eq_true rfl) dX6_skips__81 ⟨Nat.le_of_ble_eq_true rfl, Nat.le_of_ble_eq_true rfl⟩ ⟨Nat.zero_le _, Nat.zero_le _⟩ (fun r81 hr81 => ?_)
            obtain rfl : r81 = nI (4 * (i + 1) + (j - 1)) := hr81
            refine rl_ald hx hb hK hP 4 1 (F := x3) rfl rfl dX6_skips__84 (by decide) (by omega) ?_
            refine rl_set (x' := iN (SK P s0 (P 0 - i) (j - 1))) (MX_up (T := K1 P s0) hX3 (by omega) (by omega)) ?_
            refine lv_ladd hx hb dX6_skips__85 ?_
            refine lv_iload_n hx hb dX6_skips__86 rfl (lv_at hl 4 rfl) ?_
            refine lv_iconst (v := nI 1) hx hb dX6_skips__87 (by decide) ?_
            refine ri_sub hx hb dX6_skips__88 (by omega) ?_
            refine ri_i2l hx hb dX6_skips__89 (by omega) ?_
            refine lv_lload hx hb dX6_skips__90 (lv_at hl 0 rfl) ?_
            refine lv_lmul hx hb dX6_skips__92 ?_
            refine lv_ladd hx hb dX6_skips__93 ?_
            refine lv_iload_n hx hb dX6_skips__94 rfl (lv_at hl 4 rfl) ?_
            refine ri_i2l hx hb dX6_skips__95 (by omega) ?_
            refine lv_ldiv hx hb dX6_skips__96 (lN_z (by omega) (by omega)) ?_
            refine lv_lstore (lv' := [(4, .long ((((lN (Wo P i 1)) + (iN (SK P s0 (P 0 - i) (j - 1)))) + ((lN (i - 1)) * (iN (SK P s0 (P 0 - i) j)))) / (lN i))), (6, .long (iN (SK P s0 (P 0 - i) j))), (0, .ref m0), (1, .int (nI s0)), (2, .int (nI i)), (3, .int (nI j))]) hx hb dX6_skips__97 hl (by decide) rfl (fun ls hl => ?_)
            refine lv_lload hx hb dX6_skips__99 (lv_at hl 0 rfl) ?_
            refine lv_ldc2 (v := lN 5040) hx hb hown (hts _ ql_X6_130) dX6_skips__101 ?_
            refine lv_aload_n hx hb dX6_skips__104 rfl (lv_at hl 2 rfl) ?_
            refine va_get (D := (dC, dI)) (ci := 6) (v := .ref m1) (C := RX6) (T := TX6) (N := 24) hx hb hts inlX6 hown hK hP 0 rfl rfl 0 (by decide) (hts _ qf_X6_7) (fun _ h9 => h9) rfl dX6_skips__105 ?_
            refine lv_iconst (v := nI 2) hx hb dX6_skips__108 (by decide) ?_
            refine ri_ald hx hb hK hP 1 0 (F := P) rfl rfl dX6_skips__109 (by decide) (by omega) ?_
            refine ri_i2l hx hb dX6_skips__110 (by omega) ?_
            refine rl_muln hx hb dX6_skips__111 ?_
            refine lv_lsub hx hb dX6_skips__112 ?_
            refine rl_set (x' := iN (SK P s0 (P 0 + 1 - i) j)) (skB hPI (by omega) (by omega) (by omega) (by omega) (by omega)) ?_
            refine lv_lstore (lv' := [(4, .long (iN (SK P s0 (P 0 + 1 - i) j))), (6, .long (iN (SK P s0 (P 0 - i) j))), (0, .ref m0), (1, .int (nI s0)), (2, .int (nI i)), (3, .int (nI j))]) hx hb dX6_skips__113 hl (by decide) rfl (fun ls hl => ?_)
            refine lv_aload_n hx hb dX6_skips__115 rfl (lv_at hl 2 rfl) ?_
            refine va_get (D := (dC, dI)) (ci := 6) (v := .ref m9) (C := RX6) (T := TX6) (N := 24) hx hb hts inlX6 hown hK hP 0 rfl rfl 15 (by decide) (hts _ qf_X6_39) (fun _ h9 => h9) rfl dX6_skips__116 ?_
            refine lv_iload_n hx hb dX6_skips__119 rfl (lv_at hl 4 rfl) ?_
            refine lv_iload_n hx hb dX6_skips__120 rfl (lv_at hl 5 rfl) ?_
            refine kSi (As := [.int (nI i), .int (nI j)]) (rest := [.ref m9]) Y m_X6_at (c_X6_at l dC dI i j ) qm_X6_138 (kpS hK hP hZ hS [] [] rfl rfl) rfl hl.1 rfl (Nat.le_of_ble_eq_true rfl) dX6_skips__121 ⟨Nat.le_of_ble_eq_true rfl, Nat.le_of_ble_eq_true rfl⟩ ⟨Nat.zero_le _, Nat.zero_le _⟩ (fun r121 hr121 => ?_)
            obtain rfl : r121 = nI (4 * i + j) := hr121
            refine lv_lload hx hb dX6_skips__124 (lv_at hl 0 rfl) ?_
            refine rl_ast hx hb hK hP hD hS 4 1 (F := x3) rfl rfl dX6_skips__126 (by decide) (by omega) (fun H locs hP hD hS => ?_)
            have hP : va_P (dC, dI) vwCl [(m0, .inr (6, [.ref m1, .ref m2, .int (nI bm), .long un, .ref m3, .int (nI ty), .ref m4, .int (nI sp), .int (nI fa), .int (nI fp), .int (nI kn), .ref m5, .ref m6, .ref m7, .ref m8, .ref m9, .int dr, .ref m10, .ref m11, .int (nI lf), .int (nI yo), .int (nI ol), .ref m12, .long hh])), (m1, .inl (cI, 22, .inl (fun zz => nI (P zz)))), (m5, .inl (cL, 72, .inr (.inl (fun zz => lN (ww zz))))), (m6, .inl (cL, 40, .inr (.inl (fun zz => lN (rv zz))))), (m9, .inl (cL, 40, .inr (.inl (updL x3 (4 * i + j) (iN (SK P s0 (P 0 + 1 - i) j))))))] H := hP
            have hD : va_D A [(m0, .inr (6, [.ref m1, .ref m2, .int (nI bm), .long un, .ref m3, .int (nI ty), .ref m4, .int (nI sp), .int (nI fa), .int (nI fp), .int (nI kn), .ref m5, .ref m6, .ref m7, .ref m8, .ref m9, .int dr, .ref m10, .ref m11, .int (nI lf), .int (nI yo), .int (nI ol), .ref m12, .long hh])), (m1, .inl (cI, 22, .inl (fun zz => nI (P zz)))), (m5, .inl (cL, 72, .inr (.inl (fun zz => lN (ww zz))))), (m6, .inl (cL, 40, .inr (.inl (fun zz => lN (rv zz))))), (m9, .inl (cL, 40, .inr (.inl (updL x3 (4 * i + j) (iN (SK P s0 (P 0 + 1 - i) j))))))] := hD
            refine lv_iinc (v := nI (j + 1)) (lv' := [(3, .int (nI (j + 1))), (4, .long (iN (SK P s0 (P 0 + 1 - i) j))), (6, .long (iN (SK P s0 (P 0 - i) j))), (0, .ref m0), (1, .int (nI s0)), (2, .int (nI i))]) hx hb dX6_skips__127 hl (k := 5) rfl (inc1 _) (by decide) rfl (fun ls hl => ?_)
            refine lv_goto (tgt := 13) hx hb dX6_skips__130 (by decide) ?_
            exact ih13 (j + 1) (updL x3 (4 * i + j) (iN (SK P s0 (P 0 + 1 - i) j))) _ _ _ (by show _ < _; omega) (by exact ⟨lv_sub hl [3, 4, 5, 0] rfl, hP.sub [0, 1, 2, 3, 4] rfl, hD.sub [0, 1, 2, 3, 4] (by decide) rfl, hS, by omega, MX_put hX3 (by omega) (by omega) rfl⟩)
          · refine lv_lload hx hb dX6_skips__55 (lv_at hl 0 rfl) ?_
            refine lv_goto (tgt := 97) hx hb dX6_skips__57 (by decide) ?_
            refine lv_lstore (lv' := [(4, .long (iN (SK P s0 (P 0 - i) j))), (6, .long (iN (SK P s0 (P 0 - i) j))), (0, .ref m0), (1, .int (nI s0)), (2, .int (nI i)), (3, .int (nI j))]) hx hb dX6_skips__97 hl (by decide) rfl (fun ls hl => ?_)
            refine lv_lload hx hb dX6_skips__99 (lv_at hl 0 rfl) ?_
            refine lv_ldc2 (v := lN 5040) hx hb hown (hts _ ql_X6_130) dX6_skips__101 ?_
            refine lv_aload_n hx hb dX6_skips__104 rfl (lv_at hl 2 rfl) ?_
            refine va_get (D := (dC, dI)) (ci := 6) (v := .ref m1) (C := RX6) (T := TX6) (N := 24) hx hb hts inlX6 hown hK hP 0 rfl rfl 0 (by decide) (hts _ qf_X6_7) (fun _ h9 => h9) rfl dX6_skips__105 ?_
            refine lv_iconst (v := nI 2) hx hb dX6_skips__108 (by decide) ?_
            refine ri_ald hx hb hK hP 1 0 (F := P) rfl rfl dX6_skips__109 (by decide) (by omega) ?_
            refine ri_i2l hx hb dX6_skips__110 (by omega) ?_
            refine rl_muln hx hb dX6_skips__111 ?_
            refine lv_lsub hx hb dX6_skips__112 ?_
            refine rl_set (x' := iN (SK P s0 (P 0 + 1 - i) j)) (skA hPI (by omega) (by omega) (by omega) (by omega) (by omega)) ?_
            refine lv_lstore (lv' := [(4, .long (iN (SK P s0 (P 0 + 1 - i) j))), (6, .long (iN (SK P s0 (P 0 - i) j))), (0, .ref m0), (1, .int (nI s0)), (2, .int (nI i)), (3, .int (nI j))]) hx hb dX6_skips__113 hl (by decide) rfl (fun ls hl => ?_)
            refine lv_aload_n hx hb dX6_skips__115 rfl (lv_at hl 2 rfl) ?_
            refine va_get (D := (dC, dI)) (ci := 6) (v := .ref m9) (C := RX6) (T := TX6) (N := 24) hx hb hts inlX6 hown hK hP 0 rfl rfl 15 (by decide) (hts _ qf_X6_39) (fun _ h9 => h9) rfl dX6_skips__116 ?_
            refine lv_iload_n hx hb dX6_skips__119 rfl (lv_at hl 4 rfl) ?_
            refine lv_iload_n hx hb dX6_skips__120 rfl (lv_at hl 5 rfl) ?_
            refine kSi (As := [.int (nI i), .int (nI j)]) (rest := [.ref m9]) Y m_X6_at (c_X6_at l dC dI i j ) qm_X6_138 (kpS hK hP hZ hS [] [] rfl rfl) rfl hl.1 rfl (Nat.le_of_ble_eq_true rfl) dX6_skips__121 ⟨Nat.le_of_ble_eq_true rfl, Nat.le_of_ble_eq_true rfl⟩ ⟨Nat.zero_le _, Nat.zero_le _⟩ (fun r121 hr121 => ?_)
            obtain rfl : r121 = nI (4 * i + j) := hr121
            refine lv_lload hx hb dX6_skips__124 (lv_at hl 0 rfl) ?_
            refine rl_ast hx hb hK hP hD hS 4 1 (F := x3) rfl rfl dX6_skips__126 (by decide) (by omega) (fun H locs hP hD hS => ?_)
            have hP : va_P (dC, dI) vwCl [(m0, .inr (6, [.ref m1, .ref m2, .int (nI bm), .long un, .ref m3, .int (nI ty), .ref m4, .int (nI sp), .int (nI fa), .int (nI fp), .int (nI kn), .ref m5, .ref m6, .ref m7, .ref m8, .ref m9, .int dr, .ref m10, .ref m11, .int (nI lf), .int (nI yo), .int (nI ol), .ref m12, .long hh])), (m1, .inl (cI, 22, .inl (fun zz => nI (P zz)))), (m5, .inl (cL, 72, .inr (.inl (fun zz => lN (ww zz))))), (m6, .inl (cL, 40, .inr (.inl (fun zz => lN (rv zz))))), (m9, .inl (cL, 40, .inr (.inl (updL x3 (4 * i + j) (iN (SK P s0 (P 0 + 1 - i) j))))))] H := hP
            have hD : va_D A [(m0, .inr (6, [.ref m1, .ref m2, .int (nI bm), .long un, .ref m3, .int (nI ty), .ref m4, .int (nI sp), .int (nI fa), .int (nI fp), .int (nI kn), .ref m5, .ref m6, .ref m7, .ref m8, .ref m9, .int dr, .ref m10, .ref m11, .int (nI lf), .int (nI yo), .int (nI ol), .ref m12, .long hh])), (m1, .inl (cI, 22, .inl (fun zz => nI (P zz)))), (m5, .inl (cL, 72, .inr (.inl (fun zz => lN (ww zz))))), (m6, .inl (cL, 40, .inr (.inl (fun zz => lN (rv zz))))), (m9, .inl (cL, 40, .inr (.inl (updL x3 (4 * i + j) (iN (SK P s0 (P 0 + 1 - i) j))))))] := hD
            refine lv_iinc (v := nI (j + 1)) (lv' := [(3, .int (nI (j + 1))), (4, .long (iN (SK P s0 (P 0 + 1 - i) j))), (6, .long (iN (SK P s0 (P 0 - i) j))), (0, .ref m0), (1, .int (nI s0)), (2, .int (nI i))]) hx hb dX6_skips__127 hl (k := 5) rfl (inc1 _) (by decide) rfl (fun ls hl => ?_)
            refine lv_goto (tgt := 13) hx hb dX6_skips__130 (by decide) ?_
            exact ih13 (j + 1) (updL x3 (4 * i + j) (iN (SK P s0 (P 0 + 1 - i) j))) _ _ _ (by show _ < _; omega) (by exact ⟨lv_sub hl [3, 4, 5, 0] rfl, hP.sub [0, 1, 2, 3, 4] rfl, hD.sub [0, 1, 2, 3, 4] (by decide) rfl, hS, by omega, MX_put hX3 (by omega) (by omega) rfl⟩)
