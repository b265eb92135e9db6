set_option maxHeartbeats 4000000 in
set_option maxRecDepth 100000 in
theorem c_X6_findsRanks (l : Launch) (dC : Nat → ClassId) (dI : Nat → Nat → Nat) (sz : Nat) (cI cL : ClassId) (m0 m1 m2 m3 m4 m5 m6 m7 m8 m9 m10 m11 m12 : Nat) (bm ty sp fa fp kn lf yo ol : Nat) (un hh : Int64) (dr : Int32) (P ww rv : Nat → Nat) (hPI : PI P) : Met l yX6_findsRanks (kw yX6_findsRanks cX6_findsRanks 5 none) (kR 2 50) (kPq (dC, dI) [.ref m0] sz [(m0, .inr (6, [.ref m1, .ref m2, .int (nI bm), .long un, .ref m3, .int (nI ty), .ref m4, .int (nI sp), .int (nI fa), .int (nI fp), .int (nI kn), .ref m5, .ref m6, .ref m7, .ref m8, .ref m9, .int dr, .ref m10, .ref m11, .int (nI lf), .int (nI yo), .int (nI ol), .ref m12, .long hh])), (m1, .inl (cI, 22, .inl (fun zz => nI (P zz)))), (m5, .inl (cL, 72, .inr (.inl (fun zz => lN (ww zz))))), (m6, .inl (cL, 40, .inr (.inl (fun zz => lN (rv zz)))))] [(cI, .int), (cL, .long)]) (va_Qv (fun u : (Nat → Nat) × (Nat → Nat) => MR P u.1 u.2) (fun u : (Nat → Nat) × (Nat → Nat) => kB (dC, dI) [(cI, .int), (cL, .long)] (va_A [(m0, .inr (6, [.ref m1, .ref m2, .int (nI bm), .long un, .ref m3, .int (nI ty), .ref m4, .int (nI sp), .int (nI fa), .int (nI fp), .int (nI kn), .ref m5, .ref m6, .ref m7, .ref m8, .ref m9, .int dr, .ref m10, .ref m11, .int (nI lf), .int (nI yo), .int (nI ol), .ref m12, .long hh])), (m1, .inl (cI, 22, .inl (fun zz => nI (P zz)))), (m5, .inl (cL, 72, .inr (.inl (fun zz => lN (ww zz))))), (m6, .inl (cL, 40, .inr (.inl (fun zz => lN (rv zz)))))] sz) ([(m0, .inr (6, [.ref m1, .ref m2, .int (nI bm), .long un, .ref m3, .int (nI ty), .ref m4, .int (nI sp), .int (nI fa), .int (nI fp), .int (nI kn), .ref m5, .ref m6, .ref m7, .ref m8, .ref m9, .int dr, .ref m10, .ref m11, .int (nI lf), .int (nI yo), .int (nI ol), .ref m12, .long hh])), (m1, .inl (cI, 22, .inl (fun zz => nI (P zz)))), (m5, .inl (cL, 72, .inr (.inl (fun zz => lN (u.1 zz))))), (m6, .inl (cL, 40, .inr (.inl (fun zz => lN (u.2 zz)))))])) (va_A [(m0, .inr (6, [.ref m1, .ref m2, .int (nI bm), .long un, .ref m3, .int (nI ty), .ref m4, .int (nI sp), .int (nI fa), .int (nI fp), .int (nI kn), .ref m5, .ref m6, .ref m7, .ref m8, .ref m9, .int dr, .ref m10, .ref m11, .int (nI lf), .int (nI yo), .int (nI ol), .ref m12, .long hh])), (m1, .inl (cI, 22, .inl (fun zz => nI (P zz)))), (m5, .inl (cL, 72, .inr (.inl (fun zz => lN (ww zz))))), (m6, .inl (cL, 40, .inr (.inl (fun zz => lN (rv zz)))))] sz)) 0 0 (va_A [(m0, .inr (6, [.ref m1, .ref m2, .int (nI bm), .long un, .ref m3, .int (nI ty), .ref m4, .int (nI sp), .int (nI fa), .int (nI fp), .int (nI kn), .ref m5, .ref m6, .ref m7, .ref m8, .ref m9, .int dr, .ref m10, .ref m11, .int (nI lf), .int (nI yo), .int (nI ol), .ref m12, .long hh])), (m1, .inl (cI, 22, .inl (fun zz => nI (P zz)))), (m5, .inl (cL, 72, .inr (.inl (fun zz => lN (ww zz))))), (m6, .inl (cL, 40, .inr (.inl (fun zz => lN (rv zz)))))] sz) := by
  refine kmet (by decide) ?_
  intro p e s m args below meth c Y hr hlocks hin hv
  obtain ⟨rfl, A, hAe, hsz, hP, hK, hD, hZ, hA⟩ := kinQ hv
  rw [hAe]
  have hS : va_S A s.heap s.heap [] := va_S.rf
  have hx := Y.1
  have hb := Y.2.1
  have hml := Y.2.2.1
  have hown := Y.2.2.2.1
  have hts := Y.2.2.2.2
  have hl := lv_entry ([.ref m0]) (n := 5) (Nat.le_of_ble_eq_true rfl)
  rw [lg_entry_eq]
  generalize (lg_sl ([.ref m0]) ++ List.replicate (5 - (lg_sl ([.ref m0])).length) Slot.unset).toArray = ls at hl ⊢
  have hl : lv_has ls 5 [(0, .ref m0)] := hl
  have hp0 := hPI.1
  have hp1 := hPI.2.1
  have hp2 := hPI.2.2.1
  refine lv_aload_n hx hb dX6_findsRanks_0 rfl (lv_at hl 0 rfl) ?_
  refine kVi (As := []) (rest := []) Y m_X6_n (c_X6_n l dC dI cI cL m0 m1 m2 m3 m4 m5 m6 m7 m8 m9 m10 m11 m12 bm ty sp fa fp kn lf yo ol un hh dr P ) qm_X6_123 (kpV (ci := 6) hK hP hZ hS [0, 1] [0] rfl rfl 0 rfl rfl rfl) rfl hl.1 rfl (Nat.le_of_ble_eq_true rfl) dX6_findsRanks_1 ⟨Nat.le_of_ble_eq_true rfl, Nat.le_of_ble_eq_true rfl⟩ ⟨Nat.zero_le _, Nat.zero_le _⟩ (fun r1 hr1 => ?_)
  obtain rfl : r1 = nI (P 0) := hr1
  refine lv_iconst (v := nI 1) hx hb dX6_findsRanks_4 (by decide) ?_
  refine ri_add hx hb dX6_findsRanks_5 ?_
  refine lv_istore_n (lv' := [(1, .int (nI ((P 0) + 1))), (0, .ref m0)]) hx hb dX6_findsRanks_6 rfl hl (by decide) rfl (fun ls hl => ?_)
  refine wl3 (fun (i : Nat) (w9 : Nat → Nat) (v9 : Nat → Nat) => i) (fun (i : Nat) (w9 : Nat → Nat) (v9 : Nat → Nat) (ls : Array Slot) (H : Heap) (locs : List Loc) => lv_has ls 5 [(0, .ref m0), (1, .int (nI i))] ∧ va_P (dC, dI) vwCl [(m0, .inr (6, [.ref m1, .ref m2, .int (nI bm), .long un, .ref m3, .int (nI ty), .ref m4, .int (nI sp), .int (nI fa), .int (nI fp), .int (nI kn), .ref m5, .ref m6, .ref m7, .ref m8, .ref m9, .int dr, .ref m10, .ref m11, .int (nI lf), .int (nI yo), .int (nI ol), .ref m12, .long hh])), (m1, .inl (cI, 22, .inl (fun zz => nI (P zz)))), (m5, .inl (cL, 72, .inr (.inl (fun zz => lN (w9 zz))))), (m6, .inl (cL, 40, .inr (.inl (fun zz => lN (v9 zz)))))] H ∧ va_D A [(m0, .inr (6, [.ref m1, .ref m2, .int (nI bm), .long un, .ref m3, .int (nI ty), .ref m4, .int (nI sp), .int (nI fa), .int (nI fp), .int (nI kn), .ref m5, .ref m6, .ref m7, .ref m8, .ref m9, .int dr, .ref m10, .ref m11, .int (nI lf), .int (nI yo), .int (nI ol), .ref m12, .long hh])), (m1, .inl (cI, 22, .inl (fun zz => nI (P zz)))), (m5, .inl (cL, 72, .inr (.inl (fun zz => lN (w9 zz))))), (m6, .inl (cL, 40, .inr (.inl (fun zz => lN (v9 zz)))))] ∧ va_S A s.heap H locs ∧ (i ≤ P 0 + 1 ∧ MW P w9 i 1 ∧ MV P v9 i 0)) ((P 0) + 1) ww rv (by exact ⟨lv_sub hl [1, 0] rfl, hP.sub [0, 1, 2, 3] rfl, hD.sub [0, 1, 2, 3] (by decide) rfl, hS, by omega, MW_0, MV_0⟩) (fun i w9 v9 ls H locs hI ih => ?_)
  obtain ⟨hl, hP, hD, hS, hi, hW9, hV9⟩ := hI
  have ih7 := ih
  refine lv_iload_n hx hb dX6_findsRanks_7 rfl (lv_at hl 1 rfl) ?_
  refine ri_zle (tgt := 124) hx hb dX6_findsRanks_8 (by decide) (by omega) (fun c8 => ?_) (fun c8 => ?_)
  · obtain rfl : i = 0 := by omega
    exact kqv (w1 := (fun u : (Nat → Nat) × (Nat → Nat) => [(m0, .inr (6, [.ref m1, .ref m2, .int (nI bm), .long un, .ref m3, .int (nI ty), .ref m4, .int (nI sp), .int (nI fa), .int (nI fp), .int (nI kn), .ref m5, .ref m6, .ref m7, .ref m8, .ref m9, .int dr, .ref m10, .ref m11, .int (nI lf), .int (nI yo), .int (nI ol), .ref m12, .long hh])), (m1, .inl (cI, 22, .inl (fun zz => nI (P zz)))), (m5, .inl (cL, 72, .inr (.inl (fun zz => lN (u.1 zz))))), (m6, .inl (cL, 40, .inr (.inl (fun zz => lN (u.2 zz)))))])) Y hr hlocks hK hP hD hS [0, 1, 2, 3] (by decide) (w9, v9) rfl (MR_e hW9 hV9) dX6_findsRanks_124
  · refine lv_iconst (v := nI 1) hx hb dX6_findsRanks_11 (by decide) ?_
    refine lv_istore_n (lv' := [(2, .int (nI 1)), (0, .ref m0), (1, .int (nI i))]) hx hb dX6_findsRanks_12 rfl hl (by decide) rfl (fun ls hl => ?_)
    refine wl2 (fun (r : Nat) (w8 : Nat → Nat) => i + 1 - r) (fun (r : Nat) (w8 : Nat → Nat) (ls : Array Slot) (H : Heap) (locs : List Loc) => lv_has ls 5 [(0, .ref m0), (1, .int (nI i)), (2, .int (nI r))] ∧ va_P (dC, dI) vwCl [(m0, .inr (6, [.ref m1, .ref m2, .int (nI bm), .long un, .ref m3, .int (nI ty), .ref m4, .int (nI sp), .int (nI fa), .int (nI fp), .int (nI kn), .ref m5, .ref m6, .ref m7, .ref m8, .ref m9, .int dr, .ref m10, .ref m11, .int (nI lf), .int (nI yo), .int (nI ol), .ref m12, .long hh])), (m1, .inl (cI, 22, .inl (fun zz => nI (P zz)))), (m5, .inl (cL, 72, .inr (.inl (fun zz => lN (w8 zz))))), (m6, .inl (cL, 40, .inr (.inl (fun zz => lN (v9 zz)))))] H ∧ va_D A [(m0, .inr (6, [.ref m1, .ref m2, .int (nI bm), .long un, .ref m3, .int (nI ty), .ref m4, .int (nI sp), .int (nI fa), .int (nI fp), .int (nI kn), .ref m5, .ref m6, .ref m7, .ref m8, .ref m9, .int dr, .ref m10, .ref m11, .int (nI lf), .int (nI yo), .int (nI ol), .ref m12, .long hh])), (m1, .inl (cI, 22, .inl (fun zz => nI (P zz)))), (m5, .inl (cL, 72, .inr (.inl (fun zz => lN (w8 zz))))), (m6, .inl (cL, 40, .inr (.inl (fun zz => lN (v9 zz)))))] ∧ va_S A s.heap H locs ∧ (1 ≤ r ∧ r ≤ i + 1 ∧ MW P w8 i r)) 1 w9 (by exact ⟨lv_sub hl [1, 2, 0] rfl, hP.sub [0, 1, 2, 3] rfl, hD.sub [0, 1, 2, 3] (by decide) rfl, hS, by omega, by omega, hW9⟩) (fun r w8 ls H locs hI ih => ?_)
    obtain ⟨hl, hP, hD, hS, hr1, hr2, hW8⟩ := hI
    have ih13 := ih
    refine lv_iload_n hx hb dX6_findsRanks_13 rfl (lv_at hl 2 rfl) ?_
    refine lv_iload_n hx hb dX6_findsRanks_14 rfl (lv_at hl 1 rfl) ?_
    refine ri_cgt (tgt := 49) hx hb dX6_findsRanks_15 (by decide) (by omega) (by omega) (fun c15 => ?_) (fun c15 => ?_)
    · refine lv_iconst (v := nI 0) hx hb dX6_findsRanks_49 (by decide) ?_
      refine lv_istore_n (lv' := [(2, .int (nI 0)), (0, .ref m0), (1, .int (nI i))]) hx hb dX6_findsRanks_50 rfl hl (by decide) rfl (fun ls hl => ?_)
      refine wl2 (fun (j : Nat) (v7 : Nat → Nat) => 4 - j) (fun (j : Nat) (v7 : Nat → Nat) (ls : Array Slot) (H : Heap) (locs : List Loc) => lv_has ls 5 [(0, .ref m0), (1, .int (nI i)), (2, .int (nI j))] ∧ va_P (dC, dI) vwCl [(m0, .inr (6, [.ref m1, .ref m2, .int (nI bm), .long un, .ref m3, .int (nI ty), .ref m4, .int (nI sp), .int (nI fa), .int (nI fp), .int (nI kn), .ref m5, .ref m6, .ref m7, .ref m8, .ref m9, .int dr, .ref m10, .ref m11, .int (nI lf), .int (nI yo), .int (nI ol), .ref m12, .long hh])), (m1, .inl (cI, 22, .inl (fun zz => nI (P zz)))), (m5, .inl (cL, 72, .inr (.inl (fun zz => lN (w8 zz))))), (m6, .inl (cL, 40, .inr (.inl (fun zz => lN (v7 zz)))))] H ∧ va_D A [(m0, .inr (6, [.ref m1, .ref m2, .int (nI bm), .long un, .ref m3, .int (nI ty), .ref m4, .int (nI sp), .int (nI fa), .int (nI fp), .int (nI kn), .ref m5, .ref m6, .ref m7, .ref m8, .ref m9, .int dr, .ref m10, .ref m11, .int (nI lf), .int (nI yo), .int (nI ol), .ref m12, .long hh])), (m1, .inl (cI, 22, .inl (fun zz => nI (P zz)))), (m5, .inl (cL, 72, .inr (.inl (fun zz => lN (w8 zz))))), (m6, .inl (cL, 40, .inr (.inl (fun zz => lN (v7 zz)))))] ∧ va_S A s.heap H locs ∧ (j ≤ 4 ∧ MV P v7 i j)) 0 v9 (by exact ⟨lv_sub hl [1, 2, 0] rfl, hP.sub [0, 1, 2, 3] rfl, hD.sub [0, 1, 2, 3] (by decide) rfl, hS, by omega, hV9⟩) (fun j v7 ls H locs hI ih => ?_)
      obtain ⟨hl, hP, hD, hS, hj, hV7⟩ := hI
      have ih51 := ih
      refine lv_iload_n hx hb dX6_findsRanks_51 rfl (lv_at hl 2 rfl) ?_
      refine lv_iconst (v := nI 3) hx hb dX6_findsRanks_52 (by decide) ?_
      refine ri_cgt (tgt := 118) hx hb dX6_findsRanks_53 (by decide) (by omega) (by omega) (fun c53 => ?_) (fun c53 => ?_)
      · refine lv_iinc (v := nI (i - 1)) (lv' := [(1, .int (nI (i - 1))), (0, .ref m0), (2, .int (nI j))]) hx hb dX6_findsRanks_118 hl (k := 1) rfl (dec1 (by omega)) (by decide) rfl (fun ls hl => ?_)
        refine lv_goto (tgt := 7) hx hb dX6_findsRanks_121 (by decide) ?_
        exact ih7 (i - 1) w8 v7 _ _ _ (by show _ < _; omega) (by exact ⟨lv_sub hl [1, 0] rfl, hP.sub [0, 1, 2, 3] rfl, hD.sub [0, 1, 2, 3] (by decide) rfl, hS, by omega, MW_next hW8 (by omega), MV_next hV7 (by omega)⟩)
      · refine lv_iload_n hx hb dX6_findsRanks_56 rfl (lv_at hl 2 rfl) ?_
        refine ri_zeq (tgt := 68) hx hb dX6_findsRanks_57 (by decide) (by omega) (fun c57 => ?_) (fun c57 => ?_)
        · refine lv_lconst (v := lN 0) hx hb dX6_findsRanks_68 rfl ?_
          refine lv_goto (tgt := 90) hx hb dX6_findsRanks_69 (by decide) ?_
          refine lv_lstore_n (lv' := [(3, .long (lN 0)), (0, .ref m0), (1, .int (nI i)), (2, .int (nI j))]) hx hb dX6_findsRanks_90 rfl hl (by decide) rfl (fun ls hl => ?_)
          refine lv_aload_n hx hb dX6_findsRanks_91 rfl (lv_at hl 1 rfl) ?_
          refine va_get (D := (dC, dI)) (ci := 6) (v := .ref m6) (C := RX6) (T := TX6) (N := 24) hx hb hts inlX6 hown hK hP 0 rfl rfl 12 (by decide) (hts _ qf_X6_30) (fun _ h9 => h9) rfl dX6_findsRanks_92 ?_
          refine lv_iload_n hx hb dX6_findsRanks_95 rfl (lv_at hl 2 rfl) ?_
          refine lv_iload_n hx hb dX6_findsRanks_96 rfl (lv_at hl 3 rfl) ?_
          refine kSi (As := [.int (nI i), .int (nI j)]) (rest := [.ref m6]) Y m_X6_at (c_X6_at l dC dI i j ) qm_X6_138 (kpS hK hP hZ hS [] [] rfl rfl) rfl hl.1 rfl (Nat.le_of_ble_eq_true rfl) dX6_findsRanks_97 ⟨Nat.le_of_ble_eq_true rfl, Nat.le_of_ble_eq_true rfl⟩ ⟨Nat.zero_le _, Nat.zero_le _⟩ (fun r97 hr97 => ?_)
          obtain rfl : r97 = nI (4 * i + j) := hr97
          refine lv_lload_n hx hb dX6_findsRanks_100 rfl (lv_at hl 0 rfl) ?_
          refine lv_lconst (v := lN 0) hx hb dX6_findsRanks_101 rfl ?_
          refine rl_len (tgt := 110) hx hb dX6_findsRanks_102 dX6_findsRanks_103 (by decide) (by omega) (by omega) (fun c102 => ?_) (fun c102 => ?_)
          · refine lv_lconst (v := lN 0) hx hb dX6_findsRanks_110 rfl ?_
            refine rl_set (x' := lN (VR P (P 0 + 1 - i) j)) (congrArg lN (VR_n (Or.inl c57))) ?_
            refine rm_ast hx hb hK hP hD hS 3 1 (F := v7) rfl rfl dX6_findsRanks_111 (by decide) (by omega) (fun H locs hP hD hS => ?_)
            have hP : va_P (dC, dI) vwCl [(m0, .inr (6, [.ref m1, .ref m2, .int (nI bm), .long un, .ref m3, .int (nI ty), .ref m4, .int (nI sp), .int (nI fa), .int (nI fp), .int (nI kn), .ref m5, .ref m6, .ref m7, .ref m8, .ref m9, .int dr, .ref m10, .ref m11, .int (nI lf), .int (nI yo), .int (nI ol), .ref m12, .long hh])), (m1, .inl (cI, 22, .inl (fun zz => nI (P zz)))), (m5, .inl (cL, 72, .inr (.inl (fun zz => lN (w8 zz))))), (m6, .inl (cL, 40, .inr (.inl (fun zz => lN (updN v7 (4 * i + j) (VR P (P 0 + 1 - i) j) zz)))))] H := hP
            have hD : va_D A [(m0, .inr (6, [.ref m1, .ref m2, .int (nI bm), .long un, .ref m3, .int (nI ty), .ref m4, .int (nI sp), .int (nI fa), .int (nI fp), .int (nI kn), .ref m5, .ref m6, .ref m7, .ref m8, .ref m9, .int dr, .ref m10, .ref m11, .int (nI lf), .int (nI yo), .int (nI ol), .ref m12, .long hh])), (m1, .inl (cI, 22, .inl (fun zz => nI (P zz)))), (m5, .inl (cL, 72, .inr (.inl (fun zz => lN (w8 zz))))), (m6, .inl (cL, 40, .inr (.inl (fun zz => lN (updN v7 (4 * i + j) (VR P (P 0 + 1 - i) j) zz)))))] := hD
            refine lv_iinc (v := nI (j + 1)) (lv' := [(2, .int (nI (j + 1))), (3, .long (lN 0)), (0, .ref m0), (1, .int (nI i))]) hx hb dX6_findsRanks_112 hl (k := 3) rfl (inc1 _) (by decide) rfl (fun ls hl => ?_)
            refine lv_goto (tgt := 51) hx hb dX6_findsRanks_115 (by decide) ?_
            exact ih51 (j + 1) (updN v7 (4 * i + j) (VR P (P 0 + 1 - i) j)) _ _ _ (by show _ < _; omega) (by exact ⟨lv_sub hl [2, 3, 0] rfl, hP.sub [0, 1, 2, 3] rfl, hD.sub [0, 1, 2, 3] (by decide) rfl, hS, by omega, MV_put hV7 (by omega) rfl⟩)
          · refine lv_lload_n hx hb dX6_findsRanks_106 rfl (lv_at hl 0 rfl) ?_
            refine lv_goto (tgt := 111) hx hb dX6_findsRanks_107 (by decide) ?_
            refine rl_set (x' := lN (VR P (P 0 + 1 - i) j)) (congrArg lN (VR_n (Or.inl c57))) ?_
            refine rm_ast hx hb hK hP hD hS 3 1 (F := v7) rfl rfl dX6_findsRanks_111 (by decide) (by omega) (fun H locs hP hD hS => ?_)
            have hP : va_P (dC, dI) vwCl [(m0, .inr (6, [.ref m1, .ref m2, .int (nI bm), .long un, .ref m3, .int (nI ty), .ref m4, .int (nI sp), .int (nI fa), .int (nI fp), .int (nI kn), .ref m5, .ref m6, .ref m7, .ref m8, .ref m9, .int dr, .ref m10, .ref m11, .int (nI lf), .int (nI yo), .int (nI ol), .ref m12, .long hh])), (m1, .inl (cI, 22, .inl (fun zz => nI (P zz)))), (m5, .inl (cL, 72, .inr (.inl (fun zz => lN (w8 zz))))), (m6, .inl (cL, 40, .inr (.inl (fun zz => lN (updN v7 (4 * i + j) (VR P (P 0 + 1 - i) j) zz)))))] H := hP
            have hD : va_D A [(m0, .inr (6, [.ref m1, .ref m2, .int (nI bm), .long un, .ref m3, .int (nI ty), .ref m4, .int (nI sp), .int (nI fa), .int (nI fp), .int (nI kn), .ref m5, .ref m6, .ref m7, .ref m8, .ref m9, .int dr, .ref m10, .ref m11, .int (nI lf), .int (nI yo), .int (nI ol), .ref m12, .long hh])), (m1, .inl (cI, 22, .inl (fun zz => nI (P zz)))), (m5, .inl (cL, 72, .inr (.inl (fun zz => lN (w8 zz))))), (m6, .inl (cL, 40, .inr (.inl (fun zz => lN (updN v7 (4 * i + j) (VR P (P 0 + 1 - i) j) zz)))))] := hD
            refine lv_iinc (v := nI (j + 1)) (lv' := [(2, .int (nI (j + 1))), (3, .long (lN 0)), (0, .ref m0), (1, .int (nI i))]) hx hb dX6_findsRanks_112 hl (k := 3) rfl (inc1 _) (by decide) rfl (fun ls hl => ?_)
            refine lv_goto (tgt := 51) hx hb dX6_findsRanks_115 (by decide) ?_
            exact ih51 (j + 1) (updN v7 (4 * i + j) (VR P (P 0 + 1 - i) j)) _ _ _ (by show _ < _; omega) (by exact ⟨lv_sub hl [2, 3, 0] rfl, hP.sub [0, 1, 2, 3] rfl, hD.sub [0, 1, 2, 3] (by decide) rfl, hS, by omega, MV_put hV7 (by omega) rfl⟩)
        · refine lv_iload_n hx hb dX6_findsRanks_60 rfl (lv_at hl 1 rfl) ?_
          refine lv_aload_n hx hb dX6_findsRanks_61 rfl (lv_at hl 0 rfl) ?_
          refine kVi (As := []) (rest := [.int (nI i)]) Y m_X6_n (c_X6_n l dC dI cI cL m0 m1 m2 m3 m4 m5 m6 m7 m8 m9 m10 m11 m12 bm ty sp fa fp kn lf yo ol un hh dr P ) qm_X6_123 (kpV (ci := 6) hK hP hZ hS [0, 1] [0] rfl rfl 0 rfl rfl rfl) rfl hl.1 rfl (Nat.le_of_ble_eq_true rfl) dX6_findsRanks_62 ⟨Nat.le_of_ble_eq_true rfl, Nat.le_of_ble_eq_true rfl⟩ ⟨Nat.zero_le _, Nat.zero_le _⟩ (fun r62 hr62 => ?_)
          obtain rfl : r62 = nI (P 0) := hr62
          refine ri_cle (tgt := 72) hx hb dX6_findsRanks_65 (by decide) (by omega) (by omega) (fun c65 => ?_) (fun c65 => ?_)
          · refine lv_aload_n hx hb dX6_findsRanks_72 rfl (lv_at hl 0 rfl) ?_
            refine lv_iload_n hx hb dX6_findsRanks_73 rfl (lv_at hl 1 rfl) ?_
            refine lv_iload_n hx hb dX6_findsRanks_74 rfl (lv_at hl 2 rfl) ?_
            refine kVl (As := [.int (nI i), .int (nI j)]) (rest := []) Y m_X6_meanAt (c_X6_meanAt l dC dI cI cL m0 m1 m2 m3 m4 m5 m6 m7 m8 m9 m10 m11 m12 bm ty sp fa fp kn lf yo ol un hh dr P w8 v7 i j (by omega) (by omega) (by omega) (by omega) hPI (fun r a b => hW8 i r (by omega) (by omega) a b (by omega)) ((hV7 (i + 1) j (by omega) (by omega) (by omega) (by omega)).trans (by rw [show P 0 + 1 - (i + 1) = P 0 - i by omega])) ((hV7 (i + 1) (j - 1) (by omega) (by omega) (by omega) (by omega)).trans (by rw [show P 0 + 1 - (i + 1) = P 0 - i by omega]))) qm_X6_135 (kpV (ci := 6) hK hP hZ hS [0, 1, 2, 3] [0, 1] rfl rfl 0 rfl rfl rfl) rfl hl.1 rfl (Nat.le_of_ble_eq_true rfl) dX6_findsRanks_75 ⟨Nat.le_of_ble_eq_true rfl, Nat.le_of_ble_eq_true rfl⟩ ⟨Nat.zero_le _, Nat.zero_le _⟩ (fun r75 hr75 => ?_)
            obtain rfl : r75 = lN (VMp P (P 0 - i) j i i / i) := hr75
            refine lv_ldc2 (v := lN 5040) hx hb hown (hts _ ql_X6_130) dX6_findsRanks_78 ?_
            refine lv_aload_n hx hb dX6_findsRanks_81 rfl (lv_at hl 0 rfl) ?_
            refine va_get (D := (dC, dI)) (ci := 6) (v := .ref m1) (C := RX6) (T := TX6) (N := 24) hx hb hts inlX6 hown hK hP 0 rfl rfl 0 (by decide) (hts _ qf_X6_7) (fun _ h9 => h9) rfl dX6_findsRanks_82 ?_
            refine lv_iconst (v := nI 2) hx hb dX6_findsRanks_85 (by decide) ?_
            refine ri_ald hx hb hK hP 1 0 (F := P) rfl rfl dX6_findsRanks_86 (by decide) (by omega) ?_
            refine ri_i2l hx hb dX6_findsRanks_87 (by omega) ?_
            refine rl_muln hx hb dX6_findsRanks_88 ?_
            refine lv_lsub hx hb dX6_findsRanks_89 ?_
            refine lv_lstore_n (lv' := [(3, .long ((lN (VMp P (P 0 - i) j i i / i)) - (lN (5040 * (P 2))))), (0, .ref m0), (1, .int (nI i)), (2, .int (nI j))]) hx hb dX6_findsRanks_90 rfl hl (by decide) rfl (fun ls hl => ?_)
            refine lv_aload_n hx hb dX6_findsRanks_91 rfl (lv_at hl 1 rfl) ?_
            refine va_get (D := (dC, dI)) (ci := 6) (v := .ref m6) (C := RX6) (T := TX6) (N := 24) hx hb hts inlX6 hown hK hP 0 rfl rfl 12 (by decide) (hts _ qf_X6_30) (fun _ h9 => h9) rfl dX6_findsRanks_92 ?_
            refine lv_iload_n hx hb dX6_findsRanks_95 rfl (lv_at hl 2 rfl) ?_
            refine lv_iload_n hx hb dX6_findsRanks_96 rfl (lv_at hl 3 rfl) ?_
            refine kSi (As := [.int (nI i), .int (nI j)]) (rest := [.ref m6]) Y m_X6_at (c_X6_at l dC dI i j ) qm_X6_138 (kpS hK hP hZ hS [] [] rfl rfl) rfl hl.1 rfl (Nat.le_of_ble_eq_true rfl) dX6_findsRanks_97 ⟨Nat.le_of_ble_eq_true rfl, Nat.le_of_ble_eq_true rfl⟩ ⟨Nat.zero_le _, Nat.zero_le _⟩ (fun r97 hr97 => ?_)
            obtain rfl : r97 = nI (4 * i + j) := hr97
            refine lv_lload_n hx hb dX6_findsRanks_100 rfl (lv_at hl 0 rfl) ?_
            refine lv_lconst (v := lN 0) hx hb dX6_findsRanks_101 rfl ?_
            refine rl_le (tgt := 110) hx hb dX6_findsRanks_102 dX6_findsRanks_103 (by decide) (fun c102 => ?_) (fun c102 => ?_)
            · refine lv_lconst (v := lN 0) hx hb dX6_findsRanks_110 rfl ?_
              have hvb := VMp_b hPI (i := i) (j := j) (by omega) (by omega) (by omega)
              refine rl_set (x' := lN (VR P (P 0 + 1 - i) j)) ((cut_f (by omega) (by omega) (Int64.not_lt.mpr c102)).trans (congrArg lN (VR_t (by omega) (by omega) (by omega)))) ?_
              refine rm_ast hx hb hK hP hD hS 3 1 (F := v7) rfl rfl dX6_findsRanks_111 (by decide) (by omega) (fun H locs hP hD hS => ?_)
              have hP : va_P (dC, dI) vwCl [(m0, .inr (6, [.ref m1, .ref m2, .int (nI bm), .long un, .ref m3, .int (nI ty), .ref m4, .int (nI sp), .int (nI fa), .int (nI fp), .int (nI kn), .ref m5, .ref m6, .ref m7, .ref m8, .ref m9, .int dr, .ref m10, .ref m11, .int (nI lf), .int (nI yo), .int (nI ol), .ref m12, .long hh])), (m1, .inl (cI, 22, .inl (fun zz => nI (P zz)))), (m5, .inl (cL, 72, .inr (.inl (fun zz => lN (w8 zz))))), (m6, .inl (cL, 40, .inr (.inl (fun zz => lN (updN v7 (4 * i + j) (VR P (P 0 + 1 - i) j) zz)))))] H := hP
              have hD : va_D A [(m0, .inr (6, [.ref m1, .ref m2, .int (nI bm), .long un, .ref m3, .int (nI ty), .ref m4, .int (nI sp), .int (nI fa), .int (nI fp), .int (nI kn), .ref m5, .ref m6, .ref m7, .ref m8, .ref m9, .int dr, .ref m10, .ref m11, .int (nI lf), .int (nI yo), .int (nI ol), .ref m12, .long hh])), (m1, .inl (cI, 22, .inl (fun zz => nI (P zz)))), (m5, .inl (cL, 72, .inr (.inl (fun zz => lN (w8 zz))))), (m6, .inl (cL, 40, .inr (.inl (fun zz => lN (updN v7 (4 * i + j) (VR P (P 0 + 1 - i) j) zz)))))] := hD
              refine lv_iinc (v := nI (j + 1)) (lv' := [(2, .int (nI (j + 1))), (3, .long ((lN (VMp P (P 0 - i) j i i / i)) - (lN (5040 * (P 2))))), (0, .ref m0), (1, .int (nI i))]) hx hb dX6_findsRanks_112 hl (k := 3) rfl (inc1 _) (by decide) rfl (fun ls hl => ?_)
              refine lv_goto (tgt := 51) hx hb dX6_findsRanks_115 (by decide) ?_
              exact ih51 (j + 1) (updN v7 (4 * i + j) (VR P (P 0 + 1 - i) j)) _ _ _ (by show _ < _; omega) (by exact ⟨lv_sub hl [2, 3, 0] rfl, hP.sub [0, 1, 2, 3] rfl, hD.sub [0, 1, 2, 3] (by decide) rfl, hS, by omega, MV_put hV7 (by omega) rfl⟩)
            · refine lv_lload_n hx hb dX6_findsRanks_106 rfl (lv_at hl 0 rfl) ?_
              refine lv_goto (tgt := 111) hx hb dX6_findsRanks_107 (by decide) ?_
              have hvb := VMp_b hPI (i := i) (j := j) (by omega) (by omega) (by omega)
              refine rl_set (x' := lN (VR P (P 0 + 1 - i) j)) ((cut_t (by omega) (by omega) (Int64.not_le.mp c102)).trans (congrArg lN (VR_t (by omega) (by omega) (by omega)))) ?_
              refine rm_ast hx hb hK hP hD hS 3 1 (F := v7) rfl rfl dX6_findsRanks_111 (by decide) (by omega) (fun H locs hP hD hS => ?_)
              have hP : va_P (dC, dI) vwCl [(m0, .inr (6, [.ref m1, .ref m2, .int (nI bm), .long un, .ref m3, .int (nI ty), .ref m4, .int (nI sp), .int (nI fa), .int (nI fp), .int (nI kn), .ref m5, .ref m6, .ref m7, .ref m8, .ref m9, .int dr, .ref m10, .ref m11, .int (nI lf), .int (nI yo), .int (nI ol), .ref m12, .long hh])), (m1, .inl (cI, 22, .inl (fun zz => nI (P zz)))), (m5, .inl (cL, 72, .inr (.inl (fun zz => lN (w8 zz))))), (m6, .inl (cL, 40, .inr (.inl (fun zz => lN (updN v7 (4 * i + j) (VR P (P 0 + 1 - i) j) zz)))))] H := hP
              have hD : va_D A [(m0, .inr (6, [.ref m1, .ref m2, .int (nI bm), .long un, .ref m3, .int (nI ty), .ref m4, .int (nI sp), .int (nI fa), .int (nI fp), .int (nI kn), .ref m5, .ref m6, .ref m7, .ref m8, .ref m9, .int dr, .ref m10, .ref m11, .int (nI lf), .int (nI yo), .int (nI ol), .ref m12, .long hh])), (m1, .inl (cI, 22, .inl (fun zz => nI (P zz)))), (m5, .inl (cL, 72, .inr (.inl (fun zz => lN (w8 zz))))), (m6, .inl (cL, 40, .inr (.inl (fun zz => lN (updN v7 (4 * i + j) (VR P (P 0 + 1 - i) j) zz)))))] := hD
              refine lv_iinc (v := nI (j + 1)) (lv' := [(2, .int (nI (j + 1))), (3, .long ((lN (VMp P (P 0 - i) j i i / i)) - (lN (5040 * (P 2))))), (0, .ref m0), (1, .int (nI i))]) hx hb dX6_findsRanks_112 hl (k := 3) rfl (inc1 _) (by decide) rfl (fun ls hl => ?_)
              refine lv_goto (tgt := 51) hx hb dX6_findsRanks_115 (by decide) ?_
              exact ih51 (j + 1) (updN v7 (4 * i + j) (VR P (P 0 + 1 - i) j)) _ _ _ (by show _ < _; omega) (by exact ⟨lv_sub hl [2, 3, 0] rfl, hP.sub [0, 1, 2, 3] rfl, hD.sub [0, 1, 2, 3] (by decide) rfl, hS, by omega, MV_put hV7 (by omega) rfl⟩)
          · refine lv_lconst (v := lN 0) hx hb dX6_findsRanks_68 rfl ?_
            refine lv_goto (tgt := 90) hx hb dX6_findsRanks_69 (by decide) ?_
            refine lv_lstore_n (lv' := [(3, .long (lN 0)), (0, .ref m0), (1, .int (nI i)), (2, .int (nI j))]) hx hb dX6_findsRanks_90 rfl hl (by decide) rfl (fun ls hl => ?_)
            refine lv_aload_n hx hb dX6_findsRanks_91 rfl (lv_at hl 1 rfl) ?_
            refine va_get (D := (dC, dI)) (ci := 6) (v := .ref m6) (C := RX6) (T := TX6) (N := 24) hx hb hts inlX6 hown hK hP 0 rfl rfl 12 (by decide) (hts _ qf_X6_30) (fun _ h9 => h9) rfl dX6_findsRanks_92 ?_
            refine lv_iload_n hx hb dX6_findsRanks_95 rfl (lv_at hl 2 rfl) ?_
            refine lv_iload_n hx hb dX6_findsRanks_96 rfl (lv_at hl 3 rfl) ?_
            refine kSi (As := [.int (nI i), .int (nI j)]) (rest := [.ref m6]) Y m_X6_at (c_X6_at l dC dI i j ) qm_X6_138 (kpS hK hP hZ hS [] [] rfl rfl) rfl hl.1 rfl (Nat.le_of_ble_eq_true rfl) dX6_findsRanks_97 ⟨Nat.le_of_ble_eq_true rfl, Nat.le_of_ble_eq_true rfl⟩ ⟨Nat.zero_le _, Nat.zero_le _⟩ (fun r97 hr97 => ?_)
            obtain rfl : r97 = nI (4 * i + j) := hr97
            refine lv_lload_n hx hb dX6_findsRanks_100 rfl (lv_at hl 0 rfl) ?_
            refine lv_lconst (v := lN 0) hx hb dX6_findsRanks_101 rfl ?_
            refine rl_len (tgt := 110) hx hb dX6_findsRanks_102 dX6_findsRanks_103 (by decide) (by omega) (by omega) (fun c102 => ?_) (fun c102 => ?_)
            · refine lv_lconst (v := lN 0) hx hb dX6_findsRanks_110 rfl ?_
              refine rl_set (x' := lN (VR P (P 0 + 1 - i) j)) (congrArg lN (VR_n (Or.inr (by omega)))) ?_
              refine rm_ast hx hb hK hP hD hS 3 1 (F := v7) rfl rfl dX6_findsRanks_111 (by decide) (by omega) (fun H locs hP hD hS => ?_)
              have hP : va_P (dC, dI) vwCl [(m0, .inr (6, [.ref m1, .ref m2, .int (nI bm), .long un, .ref m3, .int (nI ty), .ref m4, .int (nI sp), .int (nI fa), .int (nI fp), .int (nI kn), .ref m5, .ref m6, .ref m7, .ref m8, .ref m9, .int dr, .ref m10, .ref m11, .int (nI lf), .int (nI yo), .int (nI ol), .ref m12, .long hh])), (m1, .inl (cI, 22, .inl (fun zz => nI (P zz)))), (m5, .inl (cL, 72, .inr (.inl (fun zz => lN (w8 zz))))), (m6, .inl (cL, 40, .inr (.inl (fun zz => lN (updN v7 (4 * i + j) (VR P (P 0 + 1 - i) j) zz)))))] H := hP
              have hD : va_D A [(m0, .inr (6, [.ref m1, .ref m2, .int (nI bm), .long un, .ref m3, .int (nI ty), .ref m4, .int (nI sp), .int (nI fa), .int (nI fp), .int (nI kn), .ref m5, .ref m6, .ref m7, .ref m8, .ref m9, .int dr, .ref m10, .ref m11, .int (nI lf), .int (nI yo), .int (nI ol), .ref m12, .long hh])), (m1, .inl (cI, 22, .inl (fun zz => nI (P zz)))), (m5, .inl (cL, 72, .inr (.inl (fun zz => lN (w8 zz))))), (m6, .inl (cL, 40, .inr (.inl (fun zz => lN (updN v7 (4 * i + j) (VR P (P 0 + 1 - i) j) zz)))))] := hD
              refine lv_iinc (v := nI (j + 1)) (lv' := [(2, .int (nI (j + 1))), (3, .long (lN 0)), (0, .ref m0), (1, .int (nI i))]) hx hb dX6_findsRanks_112 hl (k := 3) rfl (inc1 _) (by decide) rfl (fun ls hl => ?_)
              refine lv_goto (tgt := 51) hx hb dX6_findsRanks_115 (by decide) ?_
              exact ih51 (j + 1) (updN v7 (4 * i + j) (VR P (P 0 + 1 - i) j)) _ _ _ (by show _ < _; omega) (by exact ⟨lv_sub hl [2, 3, 0] rfl, hP.sub [0, 1, 2, 3] rfl, hD.sub [0, 1, 2, 3] (by decide) rfl, hS, by omega, MV_put hV7 (by omega) rfl⟩)
            · refine lv_lload_n hx hb dX6_findsRanks_106 rfl (lv_at hl 0 rfl) ?_
              refine lv_goto (tgt := 111) hx hb dX6_findsRanks_107 (by decide) ?_
              refine rl_set (x' := lN (VR P (P 0 + 1 - i) j)) (congrArg lN (VR_n (Or.inr (by omega)))) ?_
              refine rm_ast hx hb hK hP hD hS 3 1 (F := v7) rfl rfl dX6_findsRanks_111 (by decide) (by omega) (fun H locs hP hD hS => ?_)
              have hP : va_P (dC, dI) vwCl [(m0, .inr (6, [.ref m1, .ref m2, .int (nI bm), .long un, .ref m3, .int (nI ty), .ref m4, .int (nI sp), .int (nI fa), .int (nI fp), .int (nI kn), .ref m5, .ref m6, .ref m7, .ref m8, .ref m9, .int dr, .ref m10, .ref m11, .int (nI lf), .int (nI yo), .int (nI ol), .ref m12, .long hh])), (m1, .inl (cI, 22, .inl (fun zz => nI (P zz)))), (m5, .inl (cL, 72, .inr (.inl (fun zz => lN (w8 zz))))), (m6, .inl (cL, 40, .inr (.inl (fun zz => lN (updN v7 (4 * i + j) (VR P (P 0 + 1 - i) j) zz)))))] H := hP
              have hD : va_D A [(m0, .inr (6, [.ref m1, .ref m2, .int (nI bm), .long un, .ref m3, .int (nI ty), .ref m4, .int (nI sp), .int (nI fa), .int (nI fp), .int (nI kn), .ref m5, .ref m6, .ref m7, .ref m8, .ref m9, .int dr, .ref m10, .ref m11, .int (nI lf), .int (nI yo), .int (nI ol), .ref m12, .long hh])), (m1, .inl (cI, 22, .inl (fun zz => nI (P zz)))), (m5, .inl (cL, 72, .inr (.inl (fun zz => lN (w8 zz))))), (m6, .inl (cL, 40, .inr (.inl (fun zz => lN (updN v7 (4 * i + j) (VR P (P 0 + 1 - i) j) zz)))))] := hD
              refine lv_iinc (v := nI (j + 1)) (lv' := [(2, .int (nI (j + 1))), (3, .long (lN 0)), (0, .ref m0), (1, .int (nI i))]) hx hb dX6_findsRanks_112 hl (k := 3) rfl (inc1 _) (by decide) rfl (fun ls hl => ?_)
              refine lv_goto (tgt := 51) hx hb dX6_findsRanks_115 (by decide) ?_
              exact ih51 (j + 1) (updN v7 (4 * i + j) (VR P (P 0 + 1 - i) j)) _ _ _ (by show _ < _; omega) (by exact ⟨lv_sub hl [2, 3, 0] rfl, hP.sub [0, 1, 2, 3] rfl, hD.sub [0, 1, 2, 3] (by decide) rfl, hS, by omega, MV_put hV7 (by omega) rfl⟩)
    · refine lv_iload_n hx hb dX6_findsRanks_18 rfl (lv_at hl 1 rfl) ?_
      refine lv_aload_n hx hb dX6_findsRanks_19 rfl (lv_at hl 0 rfl) ?_
      refine kVi (As := []) (rest := [.int (nI i)]) Y m_X6_n (c_X6_n l dC dI cI cL m0 m1 m2 m3 m4 m5 m6 m7 m8 m9 m10 m11 m12 bm ty sp fa fp kn lf yo ol un hh dr P ) qm_X6_123 (kpV (ci := 6) hK hP hZ hS [0, 1] [0] rfl rfl 0 rfl rfl rfl) rfl hl.1 rfl (Nat.le_of_ble_eq_true rfl) dX6_findsRanks_20 ⟨Nat.le_of_ble_eq_true rfl, Nat.le_of_ble_eq_true rfl⟩ ⟨Nat.zero_le _, Nat.zero_le _⟩ (fun r20 hr20 => ?_)
      obtain rfl : r20 = nI (P 0) := hr20
      refine ri_cgt (tgt := 49) hx hb dX6_findsRanks_23 (by decide) (by omega) (by omega) (fun c23 => ?_) (fun c23 => ?_)
      · refine lv_iconst (v := nI 0) hx hb dX6_findsRanks_49 (by decide) ?_
        refine lv_istore_n (lv' := [(2, .int (nI 0)), (0, .ref m0), (1, .int (nI i))]) hx hb dX6_findsRanks_50 rfl hl (by decide) rfl (fun ls hl => ?_)
        refine wl2 (fun (j : Nat) (v7 : Nat → Nat) => 4 - j) (fun (j : Nat) (v7 : Nat → Nat) (ls : Array Slot) (H : Heap) (locs : List Loc) => lv_has ls 5 [(0, .ref m0), (1, .int (nI i)), (2, .int (nI j))] ∧ va_P (dC, dI) vwCl [(m0, .inr (6, [.ref m1, .ref m2, .int (nI bm), .long un, .ref m3, .int (nI ty), .ref m4, .int (nI sp), .int (nI fa), .int (nI fp), .int (nI kn), .ref m5, .ref m6, .ref m7, .ref m8, .ref m9, .int dr, .ref m10, .ref m11, .int (nI lf), .int (nI yo), .int (nI ol), .ref m12, .long hh])), (m1, .inl (cI, 22, .inl (fun zz => nI (P zz)))), (m5, .inl (cL, 72, .inr (.inl (fun zz => lN (w8 zz))))), (m6, .inl (cL, 40, .inr (.inl (fun zz => lN (v7 zz)))))] H ∧ va_D A [(m0, .inr (6, [.ref m1, .ref m2, .int (nI bm), .long un, .ref m3, .int (nI ty), .ref m4, .int (nI sp), .int (nI fa), .int (nI fp), .int (nI kn), .ref m5, .ref m6, .ref m7, .ref m8, .ref m9, .int dr, .ref m10, .ref m11, .int (nI lf), .int (nI yo), .int (nI ol), .ref m12, .long hh])), (m1, .inl (cI, 22, .inl (fun zz => nI (P zz)))), (m5, .inl (cL, 72, .inr (.inl (fun zz => lN (w8 zz))))), (m6, .inl (cL, 40, .inr (.inl (fun zz => lN (v7 zz)))))] ∧ va_S A s.heap H locs ∧ (j ≤ 4 ∧ MV P v7 i j)) 0 v9 (by exact ⟨lv_sub hl [1, 2, 0] rfl, hP.sub [0, 1, 2, 3] rfl, hD.sub [0, 1, 2, 3] (by decide) rfl, hS, by omega, hV9⟩) (fun j v7 ls H locs hI ih => ?_)
        obtain ⟨hl, hP, hD, hS, hj, hV7⟩ := hI
        have ih51 := ih
        refine lv_iload_n hx hb dX6_findsRanks_51 rfl (lv_at hl 2 rfl) ?_
        refine lv_iconst (v := nI 3) hx hb dX6_findsRanks_52 (by decide) ?_
        refine ri_cgt (tgt := 118) hx hb dX6_findsRanks_53 (by decide) (by omega) (by omega) (fun c53 => ?_) (fun c53 => ?_)
        · refine lv_iinc (v := nI (i - 1)) (lv' := [(1, .int (nI (i - 1))), (0, .ref m0), (2, .int (nI j))]) hx hb dX6_findsRanks_118 hl (k := 1) rfl (dec1 (by omega)) (by decide) rfl (fun ls hl => ?_)
          refine lv_goto (tgt := 7) hx hb dX6_findsRanks_121 (by decide) ?_
          exact ih7 (i - 1) w8 v7 _ _ _ (by show _ < _; omega) (by exact ⟨lv_sub hl [1, 0] rfl, hP.sub [0, 1, 2, 3] rfl, hD.sub [0, 1, 2, 3] (by decide) rfl, hS, by omega, MW_next hW8 (by omega), MV_next hV7 (by omega)⟩)
        · refine lv_iload_n hx hb dX6_findsRanks_56 rfl (lv_at hl 2 rfl) ?_
          refine ri_zeq (tgt := 68) hx hb dX6_findsRanks_57 (by decide) (by omega) (fun c57 => ?_) (fun c57 => ?_)
          · refine lv_lconst (v := lN 0) hx hb dX6_findsRanks_68 rfl ?_
            refine lv_goto (tgt := 90) hx hb dX6_findsRanks_69 (by decide) ?_
            refine lv_lstore_n (lv' := [(3, .long (lN 0)), (0, .ref m0), (1, .int (nI i)), (2, .int (nI j))]) hx hb dX6_findsRanks_90 rfl hl (by decide) rfl (fun ls hl => ?_)
            refine lv_aload_n hx hb dX6_findsRanks_91 rfl (lv_at hl 1 rfl) ?_
            refine va_get (D := (dC, dI)) (ci := 6) (v := .ref m6) (C := RX6) (T := TX6) (N := 24) hx hb hts inlX6 hown hK hP 0 rfl rfl 12 (by decide) (hts _ qf_X6_30) (fun _ h9 => h9) rfl dX6_findsRanks_92 ?_
            refine lv_iload_n hx hb dX6_findsRanks_95 rfl (lv_at hl 2 rfl) ?_
            refine lv_iload_n hx hb dX6_findsRanks_96 rfl (lv_at hl 3 rfl) ?_
            refine kSi (As := [.int (nI i), .int (nI j)]) (rest := [.ref m6]) Y m_X6_at (c_X6_at l dC dI i j ) qm_X6_138 (kpS hK hP hZ hS [] [] rfl rfl) rfl hl.1 rfl (Nat.le_of_ble_eq_true rfl) dX6_findsRanks_97 ⟨Nat.le_of_ble_eq_true rfl, Nat.le_of_ble_eq_true rfl⟩ ⟨Nat.zero_le _, Nat.zero_le _⟩ (fun r97 hr97 => ?_)
            obtain rfl : r97 = nI (4 * i + j) := hr97
            refine lv_lload_n hx hb dX6_findsRanks_100 rfl (lv_at hl 0 rfl) ?_
            refine lv_lconst (v := lN 0) hx hb dX6_findsRanks_101 rfl ?_
            refine rl_len (tgt := 110) hx hb dX6_findsRanks_102 dX6_findsRanks_103 (by decide) (by omega) (by omega) (fun c102 => ?_) (fun c102 => ?_)
            · refine lv_lconst (v := lN 0) hx hb dX6_findsRanks_110 rfl ?_
              refine rl_set (x' := lN (VR P (P 0 + 1 - i) j)) (congrArg lN (VR_n (Or.inl c57))) ?_
              refine rm_ast hx hb hK hP hD hS 3 1 (F := v7) rfl rfl dX6_findsRanks_111 (by decide) (by omega) (fun H locs hP hD hS => ?_)
              have hP : va_P (dC, dI) vwCl [(m0, .inr (6, [.ref m1, .ref m2, .int (nI bm), .long un, .ref m3, .int (nI ty), .ref m4, .int (nI sp), .int (nI fa), .int (nI fp), .int (nI kn), .ref m5, .ref m6, .ref m7, .ref m8, .ref m9, .int dr, .ref m10, .ref m11, .int (nI lf), .int (nI yo), .int (nI ol), .ref m12, .long hh])), (m1, .inl (cI, 22, .inl (fun zz => nI (P zz)))), (m5, .inl (cL, 72, .inr (.inl (fun zz => lN (w8 zz))))), (m6, .inl (cL, 40, .inr (.inl (fun zz => lN (updN v7 (4 * i + j) (VR P (P 0 + 1 - i) j) zz)))))] H := hP
              have hD : va_D A [(m0, .inr (6, [.ref m1, .ref m2, .int (nI bm), .long un, .ref m3, .int (nI ty), .ref m4, .int (nI sp), .int (nI fa), .int (nI fp), .int (nI kn), .ref m5, .ref m6, .ref m7, .ref m8, .ref m9, .int dr, .ref m10, .ref m11, .int (nI lf), .int (nI yo), .int (nI ol), .ref m12, .long hh])), (m1, .inl (cI, 22, .inl (fun zz => nI (P zz)))), (m5, .inl (cL, 72, .inr (.inl (fun zz => lN (w8 zz))))), (m6, .inl (cL, 40, .inr (.inl (fun zz => lN (updN v7 (4 * i + j) (VR P (P 0 + 1 - i) j) zz)))))] := hD
              refine lv_iinc (v := nI (j + 1)) (lv' := [(2, .int (nI (j + 1))), (3, .long (lN 0)), (0, .ref m0), (1, .int (nI i))]) hx hb dX6_findsRanks_112 hl (k := 3) rfl (inc1 _) (by decide) rfl (fun ls hl => ?_)
              refine lv_goto (tgt := 51) hx hb dX6_findsRanks_115 (by decide) ?_
              exact ih51 (j + 1) (updN v7 (4 * i + j) (VR P (P 0 + 1 - i) j)) _ _ _ (by show _ < _; omega) (by exact ⟨lv_sub hl [2, 3, 0] rfl, hP.sub [0, 1, 2, 3] rfl, hD.sub [0, 1, 2, 3] (by decide) rfl, hS, by omega, MV_put hV7 (by omega) rfl⟩)
            · refine lv_lload_n hx hb dX6_findsRanks_106 rfl (lv_at hl 0 rfl) ?_
              refine lv_goto (tgt := 111) hx hb dX6_findsRanks_107 (by decide) ?_
              refine rl_set (x' := lN (VR P (P 0 + 1 - i) j)) (congrArg lN (VR_n (Or.inl c57))) ?_
              refine rm_ast hx hb hK hP hD hS 3 1 (F := v7) rfl rfl dX6_findsRanks_111 (by decide) (by omega) (fun H locs hP hD hS => ?_)
              have hP : va_P (dC, dI) vwCl [(m0, .inr (6, [.ref m1, .ref m2, .int (nI bm), .long un, .ref m3, .int (nI ty), .ref m4, .int (nI sp), .int (nI fa), .int (nI fp), .int (nI kn), .ref m5, .ref m6, .ref m7, .ref m8, .ref m9, .int dr, .ref m10, .ref m11, .int (nI lf), .int (nI yo), .int (nI ol), .ref m12, .long hh])), (m1, .inl (cI, 22, .inl (fun zz => nI (P zz)))), (m5, .inl (cL, 72, .inr (.inl (fun zz => lN (w8 zz))))), (m6, .inl (cL, 40, .inr (.inl (fun zz => lN (updN v7 (4 * i + j) (VR P (P 0 + 1 - i) j) zz)))))] H := hP
              have hD : va_D A [(m0, .inr (6, [.ref m1, .ref m2, .int (nI bm), .long un, .ref m3, .int (nI ty), .ref m4, .int (nI sp), .int (nI fa), .int (nI fp), .int (nI kn), .ref m5, .ref m6, .ref m7, .ref m8, .ref m9, .int dr, .ref m10, .ref m11, .int (nI lf), .int (nI yo), .int (nI ol), .ref m12, .long hh])), (m1, .inl (cI, 22, .inl (fun zz => nI (P zz)))), (m5, .inl (cL, 72, .inr (.inl (fun zz => lN (w8 zz))))), (m6, .inl (cL, 40, .inr (.inl (fun zz => lN (updN v7 (4 * i + j) (VR P (P 0 + 1 - i) j) zz)))))] := hD
              refine lv_iinc (v := nI (j + 1)) (lv' := [(2, .int (nI (j + 1))), (3, .long (lN 0)), (0, .ref m0), (1, .int (nI i))]) hx hb dX6_findsRanks_112 hl (k := 3) rfl (inc1 _) (by decide) rfl (fun ls hl => ?_)
              refine lv_goto (tgt := 51) hx hb dX6_findsRanks_115 (by decide) ?_
              exact ih51 (j + 1) (updN v7 (4 * i + j) (VR P (P 0 + 1 - i) j)) _ _ _ (by show _ < _; omega) (by exact ⟨lv_sub hl [2, 3, 0] rfl, hP.sub [0, 1, 2, 3] rfl, hD.sub [0, 1, 2, 3] (by decide) rfl, hS, by omega, MV_put hV7 (by omega) rfl⟩)
          · refine lv_iload_n hx hb dX6_findsRanks_60 rfl (lv_at hl 1 rfl) ?_
            refine lv_aload_n hx hb dX6_findsRanks_61 rfl (lv_at hl 0 rfl) ?_
            refine kVi (As := []) (rest := [.int (nI i)]) Y m_X6_n (c_X6_n l dC dI cI cL m0 m1 m2 m3 m4 m5 m6 m7 m8 m9 m10 m11 m12 bm ty sp fa fp kn lf yo ol un hh dr P ) qm_X6_123 (kpV (ci := 6) hK hP hZ hS [0, 1] [0] rfl rfl 0 rfl rfl rfl) rfl hl.1 rfl (Nat.le_of_ble_eq_true rfl) dX6_findsRanks_62 ⟨Nat.le_of_ble_eq_true rfl, Nat.le_of_ble_eq_true rfl⟩ ⟨Nat.zero_le _, Nat.zero_le _⟩ (fun r62 hr62 => ?_)
            obtain rfl : r62 = nI (P 0) := hr62
            refine ri_cle (tgt := 72) hx hb dX6_findsRanks_65 (by decide) (by omega) (by omega) (fun c65 => ?_) (fun c65 => ?_)
            · refine lv_aload_n hx hb dX6_findsRanks_72 rfl (lv_at hl 0 rfl) ?_
              refine lv_iload_n hx hb dX6_findsRanks_73 rfl (lv_at hl 1 rfl) ?_
              refine lv_iload_n hx hb dX6_findsRanks_74 rfl (lv_at hl 2 rfl) ?_
              refine kVl (As := [.int (nI i), .int (nI j)]) (rest := []) Y m_X6_meanAt (c_X6_meanAt l dC dI cI cL m0 m1 m2 m3 m4 m5 m6 m7 m8 m9 m10 m11 m12 bm ty sp fa fp kn lf yo ol un hh dr P w8 v7 i j (by omega) (by omega) (by omega) (by omega) hPI (fun r a b => hW8 i r (by omega) (by omega) a b (by omega)) ((hV7 (i + 1) j (by omega) (by omega) (by omega) (by omega)).trans (by rw [show P 0 + 1 - (i + 1) = P 0 - i by omega])) ((hV7 (i + 1) (j - 1) (by omega) (by omega) (by omega) (by omega)).trans (by rw [show P 0 + 1 - (i + 1) = P 0 - i by omega]))) qm_X6_135 (kpV (ci := 6) hK hP hZ hS [0, 1, 2, 3] [0, 1] rfl rfl 0 rfl rfl rfl) rfl hl.1 rfl (Nat.le_of_ble_eq_true rfl) dX6_findsRanks_75 ⟨Nat.le_of_ble_eq_true rfl, Nat.le_of_ble_eq_true rfl⟩ ⟨Nat.zero_le _, Nat.zero_le _⟩ (fun r75 hr75 => ?_)
              obtain rfl : r75 = lN (VMp P (P 0 - i) j i i / i) := hr75
              refine lv_ldc2 (v := lN 5040) hx hb hown (hts _ ql_X6_130) dX6_findsRanks_78 ?_
              refine lv_aload_n hx hb dX6_findsRanks_81 rfl (lv_at hl 0 rfl) ?_
              refine va_get (D := (dC, dI)) (ci := 6) (v := .ref m1) (C := RX6) (T := TX6) (N := 24) hx hb hts inlX6 hown hK hP 0 rfl rfl 0 (by decide) (hts _ qf_X6_7) (fun _ h9 => h9) rfl dX6_findsRanks_82 ?_
              refine lv_iconst (v := nI 2) hx hb dX6_findsRanks_85 (by decide) ?_
              refine ri_ald hx hb hK hP 1 0 (F := P) rfl rfl dX6_findsRanks_86 (by decide) (by omega) ?_
              refine ri_i2l hx hb dX6_findsRanks_87 (by omega) ?_
              refine rl_muln hx hb dX6_findsRanks_88 ?_
              refine lv_lsub hx hb dX6_findsRanks_89 ?_
              refine lv_lstore_n (lv' := [(3, .long ((lN (VMp P (P 0 - i) j i i / i)) - (lN (5040 * (P 2))))), (0, .ref m0), (1, .int (nI i)), (2, .int (nI j))]) hx hb dX6_findsRanks_90 rfl hl (by decide) rfl (fun ls hl => ?_)
              refine lv_aload_n hx hb dX6_findsRanks_91 rfl (lv_at hl 1 rfl) ?_
              refine va_get (D := (dC, dI)) (ci := 6) (v := .ref m6) (C := RX6) (T := TX6) (N := 24) hx hb hts inlX6 hown hK hP 0 rfl rfl 12 (by decide) (hts _ qf_X6_30) (fun _ h9 => h9) rfl dX6_findsRanks_92 ?_
              refine lv_iload_n hx hb dX6_findsRanks_95 rfl (lv_at hl 2 rfl) ?_
              refine lv_iload_n hx hb dX6_findsRanks_96 rfl (lv_at hl 3 rfl) ?_
              refine kSi (As := [.int (nI i), .int (nI j)]) (rest := [.ref m6]) Y m_X6_at (c_X6_at l dC dI i j ) qm_X6_138 (kpS hK hP hZ hS [] [] rfl rfl) rfl hl.1 rfl (Nat.le_of_ble_eq_true rfl) dX6_findsRanks_97 ⟨Nat.le_of_ble_eq_true rfl, Nat.le_of_ble_eq_true rfl⟩ ⟨Nat.zero_le _, Nat.zero_le _⟩ (fun r97 hr97 => ?_)
              obtain rfl : r97 = nI (4 * i + j) := hr97
              refine lv_lload_n hx hb dX6_findsRanks_100 rfl (lv_at hl 0 rfl) ?_
              refine lv_lconst (v := lN 0) hx hb dX6_findsRanks_101 rfl ?_
              refine rl_le (tgt := 110) hx hb dX6_findsRanks_102 dX6_findsRanks_103 (by decide) (fun c102 => ?_) (fun c102 => ?_)
              · refine lv_lconst (v := lN 0) hx hb dX6_findsRanks_110 rfl ?_
                have hvb := VMp_b hPI (i := i) (j := j) (by omega) (by omega) (by omega)
                refine rl_set (x' := lN (VR P (P 0 + 1 - i) j)) ((cut_f (by omega) (by omega) (Int64.not_lt.mpr c102)).trans (congrArg lN (VR_t (by omega) (by omega) (by omega)))) ?_
                refine rm_ast hx hb hK hP hD hS 3 1 (F := v7) rfl rfl dX6_findsRanks_111 (by decide) (by omega) (fun H locs hP hD hS => ?_)
                have hP : va_P (dC, dI) vwCl [(m0, .inr (6, [.ref m1, .ref m2, .int (nI bm), .long un, .ref m3, .int (nI ty), .ref m4, .int (nI sp), .int (nI fa), .int (nI fp), .int (nI kn), .ref m5, .ref m6, .ref m7, .ref m8, .ref m9, .int dr, .ref m10, .ref m11, .int (nI lf), .int (nI yo), .int (nI ol), .ref m12, .long hh])), (m1, .inl (cI, 22, .inl (fun zz => nI (P zz)))), (m5, .inl (cL, 72, .inr (.inl (fun zz => lN (w8 zz))))), (m6, .inl (cL, 40, .inr (.inl (fun zz => lN (updN v7 (4 * i + j) (VR P (P 0 + 1 - i) j) zz)))))] H := hP
                have hD : va_D A [(m0, .inr (6, [.ref m1, .ref m2, .int (nI bm), .long un, .ref m3, .int (nI ty), .ref m4, .int (nI sp), .int (nI fa), .int (nI fp), .int (nI kn), .ref m5, .ref m6, .ref m7, .ref m8, .ref m9, .int dr, .ref m10, .ref m11, .int (nI lf), .int (nI yo), .int (nI ol), .ref m12, .long hh])), (m1, .inl (cI, 22, .inl (fun zz => nI (P zz)))), (m5, .inl (cL, 72, .inr (.inl (fun zz => lN (w8 zz))))), (m6, .inl (cL, 40, .inr (.inl (fun zz => lN (updN v7 (4 * i + j) (VR P (P 0 + 1 - i) j) zz)))))] := hD
                refine lv_iinc (v := nI (j + 1)) (lv' := [(2, .int (nI (j + 1))), (3, .long ((lN (VMp P (P 0 - i) j i i / i)) - (lN (5040 * (P 2))))), (0, .ref m0), (1, .int (nI i))]) hx hb dX6_findsRanks_112 hl (k := 3) rfl (inc1 _) (by decide) rfl (fun ls hl => ?_)
                refine lv_goto (tgt := 51) hx hb dX6_findsRanks_115 (by decide) ?_
                exact ih51 (j + 1) (updN v7 (4 * i + j) (VR P (P 0 + 1 - i) j)) _ _ _ (by show _ < _; omega) (by exact ⟨lv_sub hl [2, 3, 0] rfl, hP.sub [0, 1, 2, 3] rfl, hD.sub [0, 1, 2, 3] (by decide) rfl, hS, by omega, MV_put hV7 (by omega) rfl⟩)
              · refine lv_lload_n hx hb dX6_findsRanks_106 rfl (lv_at hl 0 rfl) ?_
                refine lv_goto (tgt := 111) hx hb dX6_findsRanks_107 (by decide) ?_
                have hvb := VMp_b hPI (i := i) (j := j) (by omega) (by omega) (by omega)
                refine rl_set (x' := lN (VR P (P 0 + 1 - i) j)) ((cut_t (by omega) (by omega) (Int64.not_le.mp c102)).trans (congrArg lN (VR_t (by omega) (by omega) (by omega)))) ?_
                refine rm_ast hx hb hK hP hD hS 3 1 (F := v7) rfl rfl dX6_findsRanks_111 (by decide) (by omega) (fun H locs hP hD hS => ?_)
                have hP : va_P (dC, dI) vwCl [(m0, .inr (6, [.ref m1, .ref m2, .int (nI bm), .long un, .ref m3, .int (nI ty), .ref m4, .int (nI sp), .int (nI fa), .int (nI fp), .int (nI kn), .ref m5, .ref m6, .ref m7, .ref m8, .ref m9, .int dr, .ref m10, .ref m11, .int (nI lf), .int (nI yo), .int (nI ol), .ref m12, .long hh])), (m1, .inl (cI, 22, .inl (fun zz => nI (P zz)))), (m5, .inl (cL, 72, .inr (.inl (fun zz => lN (w8 zz))))), (m6, .inl (cL, 40, .inr (.inl (fun zz => lN (updN v7 (4 * i + j) (VR P (P 0 + 1 - i) j) zz)))))] H := hP
                have hD : va_D A [(m0, .inr (6, [.ref m1, .ref m2, .int (nI bm), .long un, .ref m3, .int (nI ty), .ref m4, .int (nI sp), .int (nI fa), .int (nI fp), .int (nI kn), .ref m5, .ref m6, .ref m7, .ref m8, .ref m9, .int dr, .ref m10, .ref m11, .int (nI lf), .int (nI yo), .int (nI ol), .ref m12, .long hh])), (m1, .inl (cI, 22, .inl (fun zz => nI (P zz)))), (m5, .inl (cL, 72, .inr (.inl (fun zz => lN (w8 zz))))), (m6, .inl (cL, 40, .inr (.inl (fun zz => lN (updN v7 (4 * i + j) (VR P (P 0 + 1 - i) j) zz)))))] := hD
                refine lv_iinc (v := nI (j + 1)) (lv' := [(2, .int (nI (j + 1))), (3, .long ((lN (VMp P (P 0 - i) j i i / i)) - (lN (5040 * (P 2))))), (0, .ref m0), (1, .int (nI i))]) hx hb dX6_findsRanks_112 hl (k := 3) rfl (inc1 _) (by decide) rfl (fun ls hl => ?_)
                refine lv_goto (tgt := 51) hx hb dX6_findsRanks_115 (by decide) ?_
                exact ih51 (j + 1) (updN v7 (4 * i + j) (VR P (P 0 + 1 - i) j)) _ _ _ (by show _ < _; omega) (by exact ⟨lv_sub hl [2, 3, 0] rfl, hP.sub [0, 1, 2, 3] rfl, hD.sub [0, 1, 2, 3] (by decide) rfl, hS, by omega, MV_put hV7 (by omega) rfl⟩)
            · refine lv_lconst (v := lN 0) hx hb dX6_findsRanks_68 rfl ?_
              refine lv_goto (tgt := 90) hx hb dX6_findsRanks_69 (by decide) ?_
              refine lv_lstore_n (lv' := [(3, .long (lN 0)), (0, .ref m0), (1, .int (nI i)), (2, .int (nI j))]) hx hb dX6_findsRanks_90 rfl hl (by decide) rfl (fun ls hl => ?_)
              refine lv_aload_n hx hb dX6_findsRanks_91 rfl (lv_at hl 1 rfl) ?_
              refine va_get (D := (dC, dI)) (ci := 6) (v := .ref m6) (C := RX6) (T := TX6) (N := 24) hx hb hts inlX6 hown hK hP 0 rfl rfl 12 (by decide) (hts _ qf_X6_30) (fun _ h9 => h9) rfl dX6_findsRanks_92 ?_
              refine lv_iload_n hx hb dX6_findsRanks_95 rfl (lv_at hl 2 rfl) ?_
              refine lv_iload_n hx hb dX6_findsRanks_96 rfl (lv_at hl 3 rfl) ?_
              refine kSi (As := [.int (nI i), .int (nI j)]) (rest := [.ref m6]) Y m_X6_at (c_X6_at l dC dI i j ) qm_X6_138 (kpS hK hP hZ hS [] [] rfl rfl) rfl hl.1 rfl (Nat.le_of_ble_eq_true rfl) dX6_findsRanks_97 ⟨Nat.le_of_ble_eq_true rfl, Nat.le_of_ble_eq_true rfl⟩ ⟨Nat.zero_le _, Nat.zero_le _⟩ (fun r97 hr97 => ?_)
              obtain rfl : r97 = nI (4 * i + j) := hr97
              refine lv_lload_n hx hb dX6_findsRanks_100 rfl (lv_at hl 0 rfl) ?_
              refine lv_lconst (v := lN 0) hx hb dX6_findsRanks_101 rfl ?_
              refine rl_len (tgt := 110) hx hb dX6_findsRanks_102 dX6_findsRanks_103 (by decide) (by omega) (by omega) (fun c102 => ?_) (fun c102 => ?_)
              · refine lv_lconst (v := lN 0) hx hb dX6_findsRanks_110 rfl ?_
                refine rl_set (x' := lN (VR P (P 0 + 1 - i) j)) (congrArg lN (VR_n (Or.inr (by omega)))) ?_
                refine rm_ast hx hb hK hP hD hS 3 1 (F := v7) rfl rfl dX6_findsRanks_111 (by decide) (by omega) (fun H locs hP hD hS => ?_)
                have hP : va_P (dC, dI) vwCl [(m0, .inr (6, [.ref m1, .ref m2, .int (nI bm), .long un, .ref m3, .int (nI ty), .ref m4, .int (nI sp), .int (nI fa), .int (nI fp), .int (nI kn), .ref m5, .ref m6, .ref m7, .ref m8, .ref m9, .int dr, .ref m10, .ref m11, .int (nI lf), .int (nI yo), .int (nI ol), .ref m12, .long hh])), (m1, .inl (cI, 22, .inl (fun zz => nI (P zz)))), (m5, .inl (cL, 72, .inr (.inl (fun zz => lN (w8 zz))))), (m6, .inl (cL, 40, .inr (.inl (fun zz => lN (updN v7 (4 * i + j) (VR P (P 0 + 1 - i) j) zz)))))] H := hP
                have hD : va_D A [(m0, .inr (6, [.ref m1, .ref m2, .int (nI bm), .long un, .ref m3, .int (nI ty), .ref m4, .int (nI sp), .int (nI fa), .int (nI fp), .int (nI kn), .ref m5, .ref m6, .ref m7, .ref m8, .ref m9, .int dr, .ref m10, .ref m11, .int (nI lf), .int (nI yo), .int (nI ol), .ref m12, .long hh])), (m1, .inl (cI, 22, .inl (fun zz => nI (P zz)))), (m5, .inl (cL, 72, .inr (.inl (fun zz => lN (w8 zz))))), (m6, .inl (cL, 40, .inr (.inl (fun zz => lN (updN v7 (4 * i + j) (VR P (P 0 + 1 - i) j) zz)))))] := hD
                refine lv_iinc (v := nI (j + 1)) (lv' := [(2, .int (nI (j + 1))), (3, .long (lN 0)), (0, .ref m0), (1, .int (nI i))]) hx hb dX6_findsRanks_112 hl (k := 3) rfl (inc1 _) (by decide) rfl (fun ls hl => ?_)
                refine lv_goto (tgt := 51) hx hb dX6_findsRanks_115 (by decide) ?_
                exact ih51 (j + 1) (updN v7 (4 * i + j) (VR P (P 0 + 1 - i) j)) _ _ _ (by show _ < _; omega) (by exact ⟨lv_sub hl [2, 3, 0] rfl, hP.sub [0, 1, 2, 3] rfl, hD.sub [0, 1, 2, 3] (by decide) rfl, hS, by omega, MV_put hV7 (by omega) rfl⟩)
              · refine lv_lload_n hx hb dX6_findsRanks_106 rfl (lv_at hl 0 rfl) ?_
                refine lv_goto (tgt := 111) hx hb dX6_findsRanks_107 (by decide) ?_
                refine rl_set (x' := lN (VR P (P 0 + 1 - i) j)) (congrArg lN (VR_n (Or.inr (by omega)))) ?_
                refine rm_ast hx hb hK hP hD hS 3 1 (F := v7) rfl rfl dX6_findsRanks_111 (by decide) (by omega) (fun H locs hP hD hS => ?_)
                have hP : va_P (dC, dI) vwCl [(m0, .inr (6, [.ref m1, .ref m2, .int (nI bm), .long un, .ref m3, .int (nI ty), .ref m4, .int (nI sp), .int (nI fa), .int (nI fp), .int (nI kn), .ref m5, .ref m6, .ref m7, .ref m8, .ref m9, .int dr, .ref m10, .ref m11, .int (nI lf), .int (nI yo), .int (nI ol), .ref m12, .long hh])), (m1, .inl (cI, 22, .inl (fun zz => nI (P zz)))), (m5, .inl (cL, 72, .inr (.inl (fun zz => lN (w8 zz))))), (m6, .inl (cL, 40, .inr (.inl (fun zz => lN (updN v7 (4 * i + j) (VR P (P 0 + 1 - i) j) zz)))))] H := hP
                have hD : va_D A [(m0, .inr (6, [.ref m1, .ref m2, .int (nI bm), .long un, .ref m3, .int (nI ty), .ref m4, .int (nI sp), .int (nI fa), .int (nI fp), .int (nI kn), .ref m5, .ref m6, .ref m7, .ref m8, .ref m9, .int dr, .ref m10, .ref m11, .int (nI lf), .int (nI yo), .int (nI ol), .ref m12, .long hh])), (m1, .inl (cI, 22, .inl (fun zz => nI (P zz)))), (m5, .inl (cL, 72, .inr (.inl (fun zz => lN (w8 zz))))), (m6, .inl (cL, 40, .inr (.inl (fun zz => lN (updN v7 (4 * i + j) (VR P (P 0 + 1 - i) j) zz)))))] := hD
                refine lv_iinc (v := nI (j + 1)) (lv' := [(2, .int (nI (j + 1))), (3, .long (lN 0)), (0, .ref m0), (1, .int (nI i))]) hx hb dX6_findsRanks_112 hl (k := 3) rfl (inc1 _) (by decide) rfl (fun ls hl => ?_)
                refine lv_goto (tgt := 51) hx hb dX6_findsRanks_115 (by decide) ?_
                exact ih51 (j + 1) (updN v7 (4 * i + j) (VR P (P 0 + 1 - i) j)) _ _ _ (by show _ < _; omega) (by exact ⟨lv_sub hl [2, 3, 0] rfl, hP.sub [0, 1, 2, 3] rfl, hD.sub [0, 1, 2, 3] (by decide) rfl, hS, by omega, MV_put hV7 (by omega) rfl⟩)
      · refine lv_aload_n hx hb dX6_findsRanks_26 rfl (lv_at hl 0 rfl) ?_
        refine va_get (D := (dC, dI)) (ci := 6) (v := .ref m5) (C := RX6) (T := TX6) (N := 24) hx hb hts inlX6 hown hK hP 0 rfl rfl 11 (by decide) (hts _ qf_X6_26) (fun _ h9 => h9) rfl dX6_findsRanks_27 ?_
        refine lv_bipush (v := nI 8) hx hb dX6_findsRanks_30 (by decide) ?_
        refine lv_iload_n hx hb dX6_findsRanks_32 rfl (lv_at hl 1 rfl) ?_
        refine ri_mul hx hb dX6_findsRanks_33 ?_
        refine lv_iload_n hx hb dX6_findsRanks_34 rfl (lv_at hl 2 rfl) ?_
        refine ri_add hx hb dX6_findsRanks_35 ?_
        refine lv_aload_n hx hb dX6_findsRanks_36 rfl (lv_at hl 0 rfl) ?_
        refine lv_iload_n hx hb dX6_findsRanks_37 rfl (lv_at hl 1 rfl) ?_
        refine lv_iload_n hx hb dX6_findsRanks_38 rfl (lv_at hl 2 rfl) ?_
        refine kVl (As := [.int (nI i), .int (nI r)]) (rest := [.int (nI ((8 * i) + r)), .ref m5]) Y m_X6_worthOf (c_X6_worthOf l dC dI cI cL m0 m1 m2 m3 m4 m5 m6 m7 m8 m9 m10 m11 m12 bm ty sp fa fp kn lf yo ol un hh dr P i r (by omega) (by omega) (by omega) (by omega) hPI) qm_X6_132 (kpV (ci := 6) hK hP hZ hS [0, 1] [0] rfl rfl 0 rfl rfl rfl) rfl hl.1 rfl (Nat.le_of_ble_eq_true rfl) dX6_findsRanks_39 ⟨Nat.le_of_ble_eq_true rfl, Nat.le_of_ble_eq_true rfl⟩ ⟨Nat.zero_le _, Nat.zero_le _⟩ (fun r39 hr39 => ?_)
        obtain rfl : r39 = lN (Wo P i r) := hr39
        refine rm_ast hx hb hK hP hD hS 2 1 (F := w8) rfl rfl dX6_findsRanks_42 (by decide) (by omega) (fun H locs hP hD hS => ?_)
        have hP : va_P (dC, dI) vwCl [(m0, .inr (6, [.ref m1, .ref m2, .int (nI bm), .long un, .ref m3, .int (nI ty), .ref m4, .int (nI sp), .int (nI fa), .int (nI fp), .int (nI kn), .ref m5, .ref m6, .ref m7, .ref m8, .ref m9, .int dr, .ref m10, .ref m11, .int (nI lf), .int (nI yo), .int (nI ol), .ref m12, .long hh])), (m1, .inl (cI, 22, .inl (fun zz => nI (P zz)))), (m5, .inl (cL, 72, .inr (.inl (fun zz => lN (updN w8 ((8 * i) + r) (Wo P i r) zz))))), (m6, .inl (cL, 40, .inr (.inl (fun zz => lN (v9 zz)))))] H := hP
        have hD : va_D A [(m0, .inr (6, [.ref m1, .ref m2, .int (nI bm), .long un, .ref m3, .int (nI ty), .ref m4, .int (nI sp), .int (nI fa), .int (nI fp), .int (nI kn), .ref m5, .ref m6, .ref m7, .ref m8, .ref m9, .int dr, .ref m10, .ref m11, .int (nI lf), .int (nI yo), .int (nI ol), .ref m12, .long hh])), (m1, .inl (cI, 22, .inl (fun zz => nI (P zz)))), (m5, .inl (cL, 72, .inr (.inl (fun zz => lN (updN w8 ((8 * i) + r) (Wo P i r) zz))))), (m6, .inl (cL, 40, .inr (.inl (fun zz => lN (v9 zz)))))] := hD
        refine lv_iinc (v := nI (r + 1)) (lv' := [(2, .int (nI (r + 1))), (0, .ref m0), (1, .int (nI i))]) hx hb dX6_findsRanks_43 hl (k := 2) rfl (inc1 _) (by decide) rfl (fun ls hl => ?_)
        refine lv_goto (tgt := 13) hx hb dX6_findsRanks_46 (by decide) ?_
        exact ih13 (r + 1) (updN w8 ((8 * i) + r) (Wo P i r)) _ _ _ (by show _ < _; omega) (by exact ⟨lv_sub hl [1, 2, 0] rfl, hP.sub [0, 1, 2, 3] rfl, hD.sub [0, 1, 2, 3] (by decide) rfl, hS, by omega, by omega, MW_put (by omega) hW8 (by omega) (by omega) rfl⟩)
