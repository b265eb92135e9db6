set_option maxHeartbeats 4000000 in
set_option maxRecDepth 100000 in
theorem c_X6_fixedAt (l : Launch) (dC : Nat → ClassId) (dI : Nat → Nat → Nat) (sz : Nat) (cI cL : ClassId) (m0 m1 m2 m3 m4 m5 m6 m7 m8 m9 m10 m11 m12 : Nat) (bm ty sp fa fp kn lf yo ol : Nat) (un hh : Int64) (dr : Int32) (P : Nat → Nat) (xe : Nat → Int64) (h0 : Nat) (h1 : h0 ≤ 99) (hPI : PI P) : Met l yX6_fixedAt (kw yX6_fixedAt cX6_fixedAt 9 (some .long)) (kR 1 21) (kPq (dC, dI) [.ref m0, .int (nI h0)] sz [(m0, .inr (6, [.ref m1, .ref m2, .int (nI bm), .long un, .ref m3, .int (nI ty), .ref m4, .int (nI sp), .int (nI fa), .int (nI fp), .int (nI kn), .ref m5, .ref m6, .ref m7, .ref m8, .ref m9, .int dr, .ref m10, .ref m11, .int (nI lf), .int (nI yo), .int (nI ol), .ref m12, .long hh])), (m1, .inl (cI, 22, .inl (fun zz => nI (P zz)))), (m9, .inl (cL, 40, .inr (.inl xe)))] [(cI, .int), (cL, .long)]) (va_Ql (fun (res : Int64) (u : Nat → Int64) => res = iN (FX P h0 (P 0) (P 1))) (fun u : Nat → Int64 => kB (dC, dI) [(cI, .int), (cL, .long)] (va_A [(m0, .inr (6, [.ref m1, .ref m2, .int (nI bm), .long un, .ref m3, .int (nI ty), .ref m4, .int (nI sp), .int (nI fa), .int (nI fp), .int (nI kn), .ref m5, .ref m6, .ref m7, .ref m8, .ref m9, .int dr, .ref m10, .ref m11, .int (nI lf), .int (nI yo), .int (nI ol), .ref m12, .long hh])), (m1, .inl (cI, 22, .inl (fun zz => nI (P zz)))), (m9, .inl (cL, 40, .inr (.inl xe)))] sz) ([(m0, .inr (6, [.ref m1, .ref m2, .int (nI bm), .long un, .ref m3, .int (nI ty), .ref m4, .int (nI sp), .int (nI fa), .int (nI fp), .int (nI kn), .ref m5, .ref m6, .ref m7, .ref m8, .ref m9, .int dr, .ref m10, .ref m11, .int (nI lf), .int (nI yo), .int (nI ol), .ref m12, .long hh])), (m1, .inl (cI, 22, .inl (fun zz => nI (P zz)))), (m9, .inl (cL, 40, .inr (.inl u)))])) (va_A [(m0, .inr (6, [.ref m1, .ref m2, .int (nI bm), .long un, .ref m3, .int (nI ty), .ref m4, .int (nI sp), .int (nI fa), .int (nI fp), .int (nI kn), .ref m5, .ref m6, .ref m7, .ref m8, .ref m9, .int dr, .ref m10, .ref m11, .int (nI lf), .int (nI yo), .int (nI ol), .ref m12, .long hh])), (m1, .inl (cI, 22, .inl (fun zz => nI (P zz)))), (m9, .inl (cL, 40, .inr (.inl xe)))] sz)) 0 0 (va_A [(m0, .inr (6, [.ref m1, .ref m2, .int (nI bm), .long un, .ref m3, .int (nI ty), .ref m4, .int (nI sp), .int (nI fa), .int (nI fp), .int (nI kn), .ref m5, .ref m6, .ref m7, .ref m8, .ref m9, .int dr, .ref m10, .ref m11, .int (nI lf), .int (nI yo), .int (nI ol), .ref m12, .long hh])), (m1, .inl (cI, 22, .inl (fun zz => nI (P zz)))), (m9, .inl (cL, 40, .inr (.inl xe)))] sz) := by
  refine kmet (by decide) ?_
  intro p e s m args below meth c Y hr hlocks hin hv
  obtain ⟨rfl, A, hAe, hsz, hP, hK, hD, hZ, hA⟩ := kinQ hv
  rw [hAe]
  have hS : va_S A s.heap s.heap [] := va_S.rf
  have hx := Y.1
  have hb := Y.2.1
  have hml := Y.2.2.1
  have hown := Y.2.2.2.1
  have hts := Y.2.2.2.2
  have hl := lv_entry ([.ref m0, .int (nI h0)]) (n := 9) (Nat.le_of_ble_eq_true rfl)
  rw [lg_entry_eq]
  generalize (lg_sl ([.ref m0, .int (nI h0)]) ++ List.replicate (9 - (lg_sl ([.ref m0, .int (nI h0)])).length) Slot.unset).toArray = ls at hl ⊢
  have hl : lv_has ls 9 [(0, .ref m0), (1, .int (nI h0))] := hl
  have hp0 := hPI.1
  have hp1 := hPI.2.1
  have hp2 := hPI.2.2.1
  refine lv_aload_n hx hb dX6_fixedAt_0 rfl (lv_at hl 0 rfl) ?_
  refine kVi (As := []) (rest := []) Y m_X6_n (c_X6_n l dC dI cI cL m0 m1 m2 m3 m4 m5 m6 m7 m8 m9 m10 m11 m12 bm ty sp fa fp kn lf yo ol un hh dr P ) qm_X6_123 (kpV (ci := 6) hK hP hZ hS [0, 1] [0] rfl rfl 0 rfl rfl rfl) rfl hl.1 rfl (Nat.le_of_ble_eq_true rfl) dX6_fixedAt_1 ⟨Nat.le_of_ble_eq_true rfl, Nat.le_of_ble_eq_true rfl⟩ ⟨Nat.zero_le _, Nat.zero_le _⟩ (fun r1 hr1 => ?_)
  obtain rfl : r1 = nI (P 0) := hr1
  refine lv_iconst (v := nI 1) hx hb dX6_fixedAt_4 (by decide) ?_
  refine ri_add hx hb dX6_fixedAt_5 ?_
  refine lv_istore_n (lv' := [(2, .int (nI ((P 0) + 1))), (0, .ref m0), (1, .int (nI h0))]) hx hb dX6_fixedAt_6 rfl hl (by decide) rfl (fun ls hl => ?_)
  refine wl2 (fun (i : Nat) (x1 : Nat → Int64) => i) (fun (i : Nat) (x1 : Nat → Int64) (ls : Array Slot) (H : Heap) (locs : List Loc) => lv_has ls 9 [(0, .ref m0), (1, .int (nI h0)), (2, .int (nI i))] ∧ va_P (dC, dI) vwCl [(m0, .inr (6, [.ref m1, .ref m2, .int (nI bm), .long un, .ref m3, .int (nI ty), .ref m4, .int (nI sp), .int (nI fa), .int (nI fp), .int (nI kn), .ref m5, .ref m6, .ref m7, .ref m8, .ref m9, .int dr, .ref m10, .ref m11, .int (nI lf), .int (nI yo), .int (nI ol), .ref m12, .long hh])), (m1, .inl (cI, 22, .inl (fun zz => nI (P zz)))), (m9, .inl (cL, 40, .inr (.inl x1)))] H ∧ va_D A [(m0, .inr (6, [.ref m1, .ref m2, .int (nI bm), .long un, .ref m3, .int (nI ty), .ref m4, .int (nI sp), .int (nI fa), .int (nI fp), .int (nI kn), .ref m5, .ref m6, .ref m7, .ref m8, .ref m9, .int dr, .ref m10, .ref m11, .int (nI lf), .int (nI yo), .int (nI ol), .ref m12, .long hh])), (m1, .inl (cI, 22, .inl (fun zz => nI (P zz)))), (m9, .inl (cL, 40, .inr (.inl x1)))] ∧ va_S A s.heap H locs ∧ (i ≤ P 0 + 1 ∧ MX P (FT P h0) x1 i 0)) ((P 0) + 1) xe (by exact ⟨lv_sub hl [1, 2, 0] rfl, hP.sub [0, 1, 2] rfl, hD.sub [0, 1, 2] (by decide) rfl, hS, by omega, MX_0⟩) (fun i x1 ls H locs hI ih => ?_)
  obtain ⟨hl, hP, hD, hS, hi, hX1⟩ := hI
  have ih7 := ih
  refine lv_iload_n hx hb dX6_fixedAt_7 rfl (lv_at hl 2 rfl) ?_
  refine ri_zle (tgt := 192) hx hb dX6_fixedAt_8 (by decide) (by omega) (fun c8 => ?_) (fun c8 => ?_)
  · obtain rfl : i = 0 := by omega
    refine lv_aload_n hx hb dX6_fixedAt_192 rfl (lv_at hl 0 rfl) ?_
    refine va_get (D := (dC, dI)) (ci := 6) (v := .ref m9) (C := RX6) (T := TX6) (N := 24) hx hb hts inlX6 hown hK hP 0 rfl rfl 15 (by decide) (hts _ qf_X6_39) (fun _ h9 => h9) rfl dX6_fixedAt_193 ?_
    refine lv_iconst (v := nI 1) hx hb dX6_fixedAt_196 (by decide) ?_
    refine lv_aload_n hx hb dX6_fixedAt_197 rfl (lv_at hl 0 rfl) ?_
    refine kVi (As := []) (rest := [.int (nI 1), .ref m9]) Y m_X6_k (c_X6_k l dC dI cI cL m0 m1 m2 m3 m4 m5 m6 m7 m8 m9 m10 m11 m12 bm ty sp fa fp kn lf yo ol un hh dr P ) qm_X6_184 (kpV (ci := 6) hK hP hZ hS [0, 1] [0] rfl rfl 0 rfl rfl rfl) rfl hl.1 rfl (Nat.le_of_ble_eq_true rfl) dX6_fixedAt_198 ⟨Nat.le_of_ble_eq_true rfl, Nat.le_of_ble_eq_true rfl⟩ ⟨Nat.zero_le _, Nat.zero_le _⟩ (fun r198 hr198 => ?_)
    obtain rfl : r198 = nI (P 1) := hr198
    refine kSi (As := [.int (nI 1), .int (nI (P 1))]) (rest := [.ref m9]) Y m_X6_at (c_X6_at l dC dI 1 (P 1) ) qm_X6_138 (kpS hK hP hZ hS [] [] rfl rfl) rfl hl.1 rfl (Nat.le_of_ble_eq_true rfl) dX6_fixedAt_201 ⟨Nat.le_of_ble_eq_true rfl, Nat.le_of_ble_eq_true rfl⟩ ⟨Nat.zero_le _, Nat.zero_le _⟩ (fun r201 hr201 => ?_)
    obtain rfl : r201 = nI (4 * 1 + (P 1)) := hr201
    refine rl_ald hx hb hK hP 2 1 (F := x1) rfl rfl dX6_fixedAt_204 (by decide) (by omega) ?_
    refine rl_set (x' := iN (FX P h0 (P 0) (P 1))) (MX_e hX1 rfl) ?_
    exact kql (w1 := (fun u : Nat → Int64 => [(m0, .inr (6, [.ref m1, .ref m2, .int (nI bm), .long un, .ref m3, .int (nI ty), .ref m4, .int (nI sp), .int (nI fa), .int (nI fp), .int (nI kn), .ref m5, .ref m6, .ref m7, .ref m8, .ref m9, .int dr, .ref m10, .ref m11, .int (nI lf), .int (nI yo), .int (nI ol), .ref m12, .long hh])), (m1, .inl (cI, 22, .inl (fun zz => nI (P zz)))), (m9, .inl (cL, 40, .inr (.inl u)))])) (v := iN (FX P h0 (P 0) (P 1))) Y hr hlocks hK hP hD hS [0, 1, 2] (by decide) (x1) rfl rfl dX6_fixedAt_205
  · refine lv_iconst (v := nI 0) hx hb dX6_fixedAt_11 (by decide) ?_
    refine lv_istore_n (lv' := [(3, .int (nI 0)), (0, .ref m0), (1, .int (nI h0)), (2, .int (nI i))]) hx hb dX6_fixedAt_12 rfl hl (by decide) rfl (fun ls hl => ?_)
    refine wl2 (fun (j : Nat) (x3 : Nat → Int64) => P 1 + 1 - j) (fun (j : Nat) (x3 : Nat → Int64) (ls : Array Slot) (H : Heap) (locs : List Loc) => lv_has ls 9 [(0, .ref m0), (1, .int (nI h0)), (2, .int (nI i)), (3, .int (nI j))] ∧ va_P (dC, dI) vwCl [(m0, .inr (6, [.ref m1, .ref m2, .int (nI bm), .long un, .ref m3, .int (nI ty), .ref m4, .int (nI sp), .int (nI fa), .int (nI fp), .int (nI kn), .ref m5, .ref m6, .ref m7, .ref m8, .ref m9, .int dr, .ref m10, .ref m11, .int (nI lf), .int (nI yo), .int (nI ol), .ref m12, .long hh])), (m1, .inl (cI, 22, .inl (fun zz => nI (P zz)))), (m9, .inl (cL, 40, .inr (.inl x3)))] H ∧ va_D A [(m0, .inr (6, [.ref m1, .ref m2, .int (nI bm), .long un, .ref m3, .int (nI ty), .ref m4, .int (nI sp), .int (nI fa), .int (nI fp), .int (nI kn), .ref m5, .ref m6, .ref m7, .ref m8, .ref m9, .int dr, .ref m10, .ref m11, .int (nI lf), .int (nI yo), .int (nI ol), .ref m12, .long hh])), (m1, .inl (cI, 22, .inl (fun zz => nI (P zz)))), (m9, .inl (cL, 40, .inr (.inl x3)))] ∧ va_S A s.heap H locs ∧ (j ≤ P 1 + 1 ∧ MX P (FT P h0) x3 i j)) 0 x1 (by exact ⟨lv_sub hl [1, 2, 3, 0] rfl, hP.sub [0, 1, 2] rfl, hD.sub [0, 1, 2] (by decide) rfl, hS, by omega, hX1⟩) (fun j x3 ls H locs hI ih => ?_)
    obtain ⟨hl, hP, hD, hS, hj, hX3⟩ := hI
    have ih13 := ih
    refine lv_iload_n hx hb dX6_fixedAt_13 rfl (lv_at hl 3 rfl) ?_
    refine lv_aload_n hx hb dX6_fixedAt_14 rfl (lv_at hl 0 rfl) ?_
    refine kVi (As := []) (rest := [.int (nI j)]) Y m_X6_k (c_X6_k l dC dI cI cL m0 m1 m2 m3 m4 m5 m6 m7 m8 m9 m10 m11 m12 bm ty sp fa fp kn lf yo ol un hh dr P ) qm_X6_184 (kpV (ci := 6) hK hP hZ hS [0, 1] [0] rfl rfl 0 rfl rfl rfl) rfl hl.1 rfl (Nat.le_of_ble_eq_true rfl) dX6_fixedAt_15 ⟨Nat.le_of_ble_eq_true rfl, Nat.le_of_ble_eq_true rfl⟩ ⟨Nat.zero_le _, Nat.zero_le _⟩ (fun r15 hr15 => ?_)
    obtain rfl : r15 = nI (P 1) := hr15
    refine ri_cgt (tgt := 186) hx hb dX6_fixedAt_18 (by decide) (by omega) (by omega) (fun c18 => ?_) (fun c18 => ?_)
    · refine lv_iinc (v := nI (i - 1)) (lv' := [(2, .int (nI (i - 1))), (0, .ref m0), (1, .int (nI h0)), (3, .int (nI j))]) hx hb dX6_fixedAt_186 hl (k := 2) rfl (dec1 (by omega)) (by decide) rfl (fun ls hl => ?_)
      refine lv_goto (tgt := 7) hx hb dX6_fixedAt_189 (by decide) ?_
      exact ih7 (i - 1) x3 _ _ _ (by show _ < _; omega) (by exact ⟨lv_sub hl [1, 2, 0] rfl, hP.sub [0, 1, 2] rfl, hD.sub [0, 1, 2] (by decide) rfl, hS, by omega, MX_next hX3 (by omega)⟩)
    · refine lv_lconst (v := lN 0) hx hb dX6_fixedAt_21 rfl ?_
      refine lv_lstore (lv' := [(4, .long (lN 0)), (0, .ref m0), (1, .int (nI h0)), (2, .int (nI i)), (3, .int (nI j))]) hx hb dX6_fixedAt_22 hl (by decide) rfl (fun ls hl => ?_)
      refine lv_iload_n hx hb dX6_fixedAt_24 rfl (lv_at hl 4 rfl) ?_
      refine ri_zle (tgt := 40) hx hb dX6_fixedAt_25 (by decide) (by omega) (fun c25 => ?_) (fun c25 => ?_)
      · refine lv_iconst (v := nI 0) hx hb dX6_fixedAt_40 (by decide) ?_
        refine lv_istore (lv' := [(6, .int (nI 0)), (4, .long (lN 0)), (0, .ref m0), (1, .int (nI h0)), (2, .int (nI i)), (3, .int (nI j))]) hx hb dX6_fixedAt_41 hl (by decide) rfl (fun ls hl => ?_)
        refine lv_iconst (v := nI 0) hx hb dX6_fixedAt_43 (by decide) ?_
        refine lv_istore (lv' := [(7, .int (nI 0)), (6, .int (nI 0)), (4, .long (lN 0)), (0, .ref m0), (1, .int (nI h0)), (2, .int (nI i)), (3, .int (nI j))]) hx hb dX6_fixedAt_44 hl (by decide) rfl (fun ls hl => ?_)
        refine lv_iload hx hb dX6_fixedAt_46 (lv_at hl 0 rfl) ?_
        refine lv_iconst (v := nI 5) hx hb dX6_fixedAt_48 (by decide) ?_
        refine ri_cge (tgt := 143) hx hb dX6_fixedAt_49 (by decide) (by omega) (by omega) (fun c49 => ?_) (fun c49 => ?_)
        · exact absurd c49 (by decide)
        · refine lv_iload hx hb dX6_fixedAt_52 (lv_at hl 1 rfl) ?_
          refine ri_zeq (tgt := 143) hx hb dX6_fixedAt_54 (by decide) (by omega) (fun c54 => ?_) (fun c54 => ?_)
          · refine lv_aload_n hx hb dX6_fixedAt_143 rfl (lv_at hl 3 rfl) ?_
            refine va_get (D := (dC, dI)) (ci := 6) (v := .ref m9) (C := RX6) (T := TX6) (N := 24) hx hb hts inlX6 hown hK hP 0 rfl rfl 15 (by decide) (hts _ qf_X6_39) (fun _ h9 => h9) rfl dX6_fixedAt_144 ?_
            refine lv_iload_n hx hb dX6_fixedAt_147 rfl (lv_at hl 5 rfl) ?_
            refine lv_iload_n hx hb dX6_fixedAt_148 rfl (lv_at hl 6 rfl) ?_
            refine kSi (As := [.int (nI i), .int (nI j)]) (rest := [.ref m9]) Y m_X6_at (c_X6_at l dC dI i j ) qm_X6_138 (kpS hK hP hZ hS [] [] rfl rfl) rfl hl.1 rfl (Nat.le_of_ble_eq_true rfl) dX6_fixedAt_149 ⟨Nat.le_of_ble_eq_true rfl, Nat.le_of_ble_eq_true rfl⟩ ⟨Nat.zero_le _, Nat.zero_le _⟩ (fun r149 hr149 => ?_)
            obtain rfl : r149 = nI (4 * i + j) := hr149
            refine lv_iload hx hb dX6_fixedAt_152 (lv_at hl 1 rfl) ?_
            refine ri_zeq (tgt := 178) hx hb dX6_fixedAt_154 (by decide) (by omega) (fun c154 => ?_) (fun c154 => ?_)
            · refine lv_lconst (v := lN 0) hx hb dX6_fixedAt_178 rfl ?_
              refine rl_set (x' := iN (FX P h0 (P 0 + 1 - i) j)) (fxZ (Or.inl (by omega))) ?_
              refine rl_ast hx hb hK hP hD hS 2 1 (F := x3) rfl rfl dX6_fixedAt_179 (by decide) (by omega) (fun H locs hP hD hS => ?_)
              have hP : va_P (dC, dI) vwCl [(m0, .inr (6, [.ref m1, .ref m2, .int (nI bm), .long un, .ref m3, .int (nI ty), .ref m4, .int (nI sp), .int (nI fa), .int (nI fp), .int (nI kn), .ref m5, .ref m6, .ref m7, .ref m8, .ref m9, .int dr, .ref m10, .ref m11, .int (nI lf), .int (nI yo), .int (nI ol), .ref m12, .long hh])), (m1, .inl (cI, 22, .inl (fun zz => nI (P zz)))), (m9, .inl (cL, 40, .inr (.inl (updL x3 (4 * i + j) (iN (FX P h0 (P 0 + 1 - i) j))))))] H := hP
              have hD : va_D A [(m0, .inr (6, [.ref m1, .ref m2, .int (nI bm), .long un, .ref m3, .int (nI ty), .ref m4, .int (nI sp), .int (nI fa), .int (nI fp), .int (nI kn), .ref m5, .ref m6, .ref m7, .ref m8, .ref m9, .int dr, .ref m10, .ref m11, .int (nI lf), .int (nI yo), .int (nI ol), .ref m12, .long hh])), (m1, .inl (cI, 22, .inl (fun zz => nI (P zz)))), (m9, .inl (cL, 40, .inr (.inl (updL x3 (4 * i + j) (iN (FX P h0 (P 0 + 1 - i) j))))))] := hD
              refine lv_iinc (v := nI (j + 1)) (lv' := [(3, .int (nI (j + 1))), (7, .int (nI 0)), (6, .int (nI 0)), (4, .long (lN 0)), (0, .ref m0), (1, .int (nI h0)), (2, .int (nI i))]) hx hb dX6_fixedAt_180 hl (k := 6) rfl (inc1 _) (by decide) rfl (fun ls hl => ?_)
              refine lv_goto (tgt := 13) hx hb dX6_fixedAt_183 (by decide) ?_
              exact ih13 (j + 1) (updL x3 (4 * i + j) (iN (FX P h0 (P 0 + 1 - i) j))) _ _ _ (by show _ < _; omega) (by exact ⟨lv_sub hl [4, 5, 6, 0] rfl, hP.sub [0, 1, 2] rfl, hD.sub [0, 1, 2] (by decide) rfl, hS, by omega, MX_put hX3 (by omega) (by omega) rfl⟩)
            · exact absurd c154 (by decide)
          · exact absurd c54 (by decide)
      · refine lv_iload_n hx hb dX6_fixedAt_28 rfl (lv_at hl 3 rfl) ?_
        refine lv_aload_n hx hb dX6_fixedAt_29 rfl (lv_at hl 1 rfl) ?_
        refine kVi (As := []) (rest := [.int (nI i)]) Y m_X6_n (c_X6_n l dC dI cI cL m0 m1 m2 m3 m4 m5 m6 m7 m8 m9 m10 m11 m12 bm ty sp fa fp kn lf yo ol un hh dr P ) qm_X6_123 (kpV (ci := 6) hK hP hZ hS [0, 1] [0] rfl rfl 0 rfl rfl rfl) rfl hl.1 rfl (Nat.le_of_ble_eq_true rfl) dX6_fixedAt_30 ⟨Nat.le_of_ble_eq_true rfl, Nat.le_of_ble_eq_true rfl⟩ ⟨Nat.zero_le _, Nat.zero_le _⟩ (fun r30 hr30 => ?_)
        obtain rfl : r30 = nI (P 0) := hr30
        refine ri_cgt (tgt := 40) hx hb dX6_fixedAt_33 (by decide) (by omega) (by omega) (fun c33 => ?_) (fun c33 => ?_)
        · refine lv_iconst (v := nI 0) hx hb dX6_fixedAt_40 (by decide) ?_
          refine lv_istore (lv' := [(6, .int (nI 0)), (4, .long (lN 0)), (0, .ref m0), (1, .int (nI h0)), (2, .int (nI i)), (3, .int (nI j))]) hx hb dX6_fixedAt_41 hl (by decide) rfl (fun ls hl => ?_)
          refine lv_iconst (v := nI 0) hx hb dX6_fixedAt_43 (by decide) ?_
          refine lv_istore (lv' := [(7, .int (nI 0)), (6, .int (nI 0)), (4, .long (lN 0)), (0, .ref m0), (1, .int (nI h0)), (2, .int (nI i)), (3, .int (nI j))]) hx hb dX6_fixedAt_44 hl (by decide) rfl (fun ls hl => ?_)
          refine lv_iload hx hb dX6_fixedAt_46 (lv_at hl 0 rfl) ?_
          refine lv_iconst (v := nI 5) hx hb dX6_fixedAt_48 (by decide) ?_
          refine ri_cge (tgt := 143) hx hb dX6_fixedAt_49 (by decide) (by omega) (by omega) (fun c49 => ?_) (fun c49 => ?_)
          · exact absurd c49 (by decide)
          · refine lv_iload hx hb dX6_fixedAt_52 (lv_at hl 1 rfl) ?_
            refine ri_zeq (tgt := 143) hx hb dX6_fixedAt_54 (by decide) (by omega) (fun c54 => ?_) (fun c54 => ?_)
            · refine lv_aload_n hx hb dX6_fixedAt_143 rfl (lv_at hl 3 rfl) ?_
              refine va_get (D := (dC, dI)) (ci := 6) (v := .ref m9) (C := RX6) (T := TX6) (N := 24) hx hb hts inlX6 hown hK hP 0 rfl rfl 15 (by decide) (hts _ qf_X6_39) (fun _ h9 => h9) rfl dX6_fixedAt_144 ?_
              refine lv_iload_n hx hb dX6_fixedAt_147 rfl (lv_at hl 5 rfl) ?_
              refine lv_iload_n hx hb dX6_fixedAt_148 rfl (lv_at hl 6 rfl) ?_
              refine kSi (As := [.int (nI i), .int (nI j)]) (rest := [.ref m9]) Y m_X6_at (c_X6_at l dC dI i j ) qm_X6_138 (kpS hK hP hZ hS [] [] rfl rfl) rfl hl.1 rfl (Nat.le_of_ble_eq_true rfl) dX6_fixedAt_149 ⟨Nat.le_of_ble_eq_true rfl, Nat.le_of_ble_eq_true rfl⟩ ⟨Nat.zero_le _, Nat.zero_le _⟩ (fun r149 hr149 => ?_)
              obtain rfl : r149 = nI (4 * i + j) := hr149
              refine lv_iload hx hb dX6_fixedAt_152 (lv_at hl 1 rfl) ?_
              refine ri_zeq (tgt := 178) hx hb dX6_fixedAt_154 (by decide) (by omega) (fun c154 => ?_) (fun c154 => ?_)
              · refine lv_lconst (v := lN 0) hx hb dX6_fixedAt_178 rfl ?_
                refine rl_set (x' := iN (FX P h0 (P 0 + 1 - i) j)) (fxZ (Or.inr (by omega))) ?_
                refine rl_ast hx hb hK hP hD hS 2 1 (F := x3) rfl rfl dX6_fixedAt_179 (by decide) (by omega) (fun H locs hP hD hS => ?_)
                have hP : va_P (dC, dI) vwCl [(m0, .inr (6, [.ref m1, .ref m2, .int (nI bm), .long un, .ref m3, .int (nI ty), .ref m4, .int (nI sp), .int (nI fa), .int (nI fp), .int (nI kn), .ref m5, .ref m6, .ref m7, .ref m8, .ref m9, .int dr, .ref m10, .ref m11, .int (nI lf), .int (nI yo), .int (nI ol), .ref m12, .long hh])), (m1, .inl (cI, 22, .inl (fun zz => nI (P zz)))), (m9, .inl (cL, 40, .inr (.inl (updL x3 (4 * i + j) (iN (FX P h0 (P 0 + 1 - i) j))))))] H := hP
                have hD : va_D A [(m0, .inr (6, [.ref m1, .ref m2, .int (nI bm), .long un, .ref m3, .int (nI ty), .ref m4, .int (nI sp), .int (nI fa), .int (nI fp), .int (nI kn), .ref m5, .ref m6, .ref m7, .ref m8, .ref m9, .int dr, .ref m10, .ref m11, .int (nI lf), .int (nI yo), .int (nI ol), .ref m12, .long hh])), (m1, .inl (cI, 22, .inl (fun zz => nI (P zz)))), (m9, .inl (cL, 40, .inr (.inl (updL x3 (4 * i + j) (iN (FX P h0 (P 0 + 1 - i) j))))))] := hD
                refine lv_iinc (v := nI (j + 1)) (lv' := [(3, .int (nI (j + 1))), (7, .int (nI 0)), (6, .int (nI 0)), (4, .long (lN 0)), (0, .ref m0), (1, .int (nI h0)), (2, .int (nI i))]) hx hb dX6_fixedAt_180 hl (k := 6) rfl (inc1 _) (by decide) rfl (fun ls hl => ?_)
                refine lv_goto (tgt := 13) hx hb dX6_fixedAt_183 (by decide) ?_
                exact ih13 (j + 1) (updL x3 (4 * i + j) (iN (FX P h0 (P 0 + 1 - i) j))) _ _ _ (by show _ < _; omega) (by exact ⟨lv_sub hl [4, 5, 6, 0] rfl, hP.sub [0, 1, 2] rfl, hD.sub [0, 1, 2] (by decide) rfl, hS, by omega, MX_put hX3 (by omega) (by omega) rfl⟩)
              · exact absurd c154 (by decide)
            · exact absurd c54 (by decide)
        · refine lv_iconst (v := nI 1) hx hb dX6_fixedAt_36 (by decide) ?_
          refine lv_goto (tgt := 41) hx hb dX6_fixedAt_37 (by decide) ?_
          refine lv_istore (lv' := [(6, .int (nI 1)), (4, .long (lN 0)), (0, .ref m0), (1, .int (nI h0)), (2, .int (nI i)), (3, .int (nI j))]) hx hb dX6_fixedAt_41 hl (by decide) rfl (fun ls hl => ?_)
          refine lv_iconst (v := nI 0) hx hb dX6_fixedAt_43 (by decide) ?_
          refine lv_istore (lv' := [(7, .int (nI 0)), (6, .int (nI 1)), (4, .long (lN 0)), (0, .ref m0), (1, .int (nI h0)), (2, .int (nI i)), (3, .int (nI j))]) hx hb dX6_fixedAt_44 hl (by decide) rfl (fun ls hl => ?_)
          refine wl2 (fun (t : Nat) (sm : Int64) => 5 - t) (fun (t : Nat) (sm : Int64) (ls : Array Slot) (H : Heap) (locs : List Loc) => lv_has ls 9 [(0, .ref m0), (1, .int (nI h0)), (2, .int (nI i)), (3, .int (nI j)), (4, .long sm), (6, .int (nI 1)), (7, .int (nI t))] ∧ va_P (dC, dI) vwCl [(m0, .inr (6, [.ref m1, .ref m2, .int (nI bm), .long un, .ref m3, .int (nI ty), .ref m4, .int (nI sp), .int (nI fa), .int (nI fp), .int (nI kn), .ref m5, .ref m6, .ref m7, .ref m8, .ref m9, .int dr, .ref m10, .ref m11, .int (nI lf), .int (nI yo), .int (nI ol), .ref m12, .long hh])), (m1, .inl (cI, 22, .inl (fun zz => nI (P zz)))), (m9, .inl (cL, 40, .inr (.inl x3)))] H ∧ va_D A [(m0, .inr (6, [.ref m1, .ref m2, .int (nI bm), .long un, .ref m3, .int (nI ty), .ref m4, .int (nI sp), .int (nI fa), .int (nI fp), .int (nI kn), .ref m5, .ref m6, .ref m7, .ref m8, .ref m9, .int dr, .ref m10, .ref m11, .int (nI lf), .int (nI yo), .int (nI ol), .ref m12, .long hh])), (m1, .inl (cI, 22, .inl (fun zz => nI (P zz)))), (m9, .inl (cL, 40, .inr (.inl x3)))] ∧ va_S A s.heap H locs ∧ (t ≤ 5 ∧ sm = sgL (mFX P h0 i j) t)) 0 (lN 0) (by exact ⟨lv_sub hl [3, 4, 5, 6, 2, 1, 0] rfl, hP.sub [0, 1, 2] rfl, hD.sub [0, 1, 2] (by decide) rfl, hS, by omega, rfl⟩) (fun t sm ls H locs hI ih => ?_)
          obtain ⟨hl, hP, hD, hS, ht, hsm⟩ := hI
          have ih46 := ih
          refine lv_iload hx hb dX6_fixedAt_46 (lv_at hl 6 rfl) ?_
          refine lv_iconst (v := nI 5) hx hb dX6_fixedAt_48 (by decide) ?_
          refine ri_cge (tgt := 143) hx hb dX6_fixedAt_49 (by decide) (by omega) (by omega) (fun c49 => ?_) (fun c49 => ?_)
          · refine lv_aload_n hx hb dX6_fixedAt_143 rfl (lv_at hl 0 rfl) ?_
            refine va_get (D := (dC, dI)) (ci := 6) (v := .ref m9) (C := RX6) (T := TX6) (N := 24) hx hb hts inlX6 hown hK hP 0 rfl rfl 15 (by decide) (hts _ qf_X6_39) (fun _ h9 => h9) rfl dX6_fixedAt_144 ?_
            refine lv_iload_n hx hb dX6_fixedAt_147 rfl (lv_at hl 2 rfl) ?_
            refine lv_iload_n hx hb dX6_fixedAt_148 rfl (lv_at hl 3 rfl) ?_
            refine kSi (As := [.int (nI i), .int (nI j)]) (rest := [.ref m9]) Y m_X6_at (c_X6_at l dC dI i j ) qm_X6_138 (kpS hK hP hZ hS [] [] rfl rfl) rfl hl.1 rfl (Nat.le_of_ble_eq_true rfl) dX6_fixedAt_149 ⟨Nat.le_of_ble_eq_true rfl, Nat.le_of_ble_eq_true rfl⟩ ⟨Nat.zero_le _, Nat.zero_le _⟩ (fun r149 hr149 => ?_)
            obtain rfl : r149 = nI (4 * i + j) := hr149
            refine lv_iload hx hb dX6_fixedAt_152 (lv_at hl 5 rfl) ?_
            refine ri_zeq (tgt := 178) hx hb dX6_fixedAt_154 (by decide) (by omega) (fun c154 => ?_) (fun c154 => ?_)
            · exact absurd c154 (by decide)
            · refine lv_lload hx hb dX6_fixedAt_157 (lv_at hl 4 rfl) ?_
              refine lv_ldc2 (v := lN 10) hx hb hown (hts _ ql_X6_152) dX6_fixedAt_159 ?_
              refine lv_ldiv hx hb dX6_fixedAt_162 (by decide) ?_
              refine lv_ldc2 (v := lN 1000000000000000) hx hb hown (hts _ ql_X6_146) dX6_fixedAt_163 ?_
              refine lv_aload_n hx hb dX6_fixedAt_166 rfl (lv_at hl 0 rfl) ?_
              refine va_get (D := (dC, dI)) (ci := 6) (v := .ref m1) (C := RX6) (T := TX6) (N := 24) hx hb hts inlX6 hown hK hP 0 rfl rfl 0 (by decide) (hts _ qf_X6_7) (fun _ h9 => h9) rfl dX6_fixedAt_167 ?_
              refine lv_iconst (v := nI 2) hx hb dX6_fixedAt_170 (by decide) ?_
              refine ri_ald hx hb hK hP 1 0 (F := P) rfl rfl dX6_fixedAt_171 (by decide) (by omega) ?_
              refine ri_i2l hx hb dX6_fixedAt_172 (by omega) ?_
              refine rl_muln hx hb dX6_fixedAt_173 ?_
              refine lv_lsub hx hb dX6_fixedAt_174 ?_
              refine lv_goto (tgt := 179) hx hb dX6_fixedAt_175 (by decide) ?_
              refine rl_set (x' := iN (FX P h0 (P 0 + 1 - i) j)) (by rw [hsm, show t = 5 by omega]; exact mfx_e hPI (by omega) (by omega) (by omega)) ?_
              refine rl_ast hx hb hK hP hD hS 2 1 (F := x3) rfl rfl dX6_fixedAt_179 (by decide) (by omega) (fun H locs hP hD hS => ?_)
              have hP : va_P (dC, dI) vwCl [(m0, .inr (6, [.ref m1, .ref m2, .int (nI bm), .long un, .ref m3, .int (nI ty), .ref m4, .int (nI sp), .int (nI fa), .int (nI fp), .int (nI kn), .ref m5, .ref m6, .ref m7, .ref m8, .ref m9, .int dr, .ref m10, .ref m11, .int (nI lf), .int (nI yo), .int (nI ol), .ref m12, .long hh])), (m1, .inl (cI, 22, .inl (fun zz => nI (P zz)))), (m9, .inl (cL, 40, .inr (.inl (updL x3 (4 * i + j) (iN (FX P h0 (P 0 + 1 - i) j))))))] H := hP
              have hD : va_D A [(m0, .inr (6, [.ref m1, .ref m2, .int (nI bm), .long un, .ref m3, .int (nI ty), .ref m4, .int (nI sp), .int (nI fa), .int (nI fp), .int (nI kn), .ref m5, .ref m6, .ref m7, .ref m8, .ref m9, .int dr, .ref m10, .ref m11, .int (nI lf), .int (nI yo), .int (nI ol), .ref m12, .long hh])), (m1, .inl (cI, 22, .inl (fun zz => nI (P zz)))), (m9, .inl (cL, 40, .inr (.inl (updL x3 (4 * i + j) (iN (FX P h0 (P 0 + 1 - i) j))))))] := hD
              refine lv_iinc (v := nI (j + 1)) (lv' := [(3, .int (nI (j + 1))), (0, .ref m0), (1, .int (nI h0)), (2, .int (nI i)), (4, .long sm), (6, .int (nI 1)), (7, .int (nI t))]) hx hb dX6_fixedAt_180 hl (k := 3) rfl (inc1 _) (by decide) rfl (fun ls hl => ?_)
              refine lv_goto (tgt := 13) hx hb dX6_fixedAt_183 (by decide) ?_
              exact ih13 (j + 1) (updL x3 (4 * i + j) (iN (FX P h0 (P 0 + 1 - i) j))) _ _ _ (by show _ < _; omega) (by exact ⟨lv_sub hl [1, 2, 3, 0] rfl, hP.sub [0, 1, 2] rfl, hD.sub [0, 1, 2] (by decide) rfl, hS, by omega, MX_put hX3 (by omega) (by omega) rfl⟩)
          · refine lv_iload hx hb dX6_fixedAt_52 (lv_at hl 5 rfl) ?_
            refine ri_zeq (tgt := 143) hx hb dX6_fixedAt_54 (by decide) (by omega) (fun c54 => ?_) (fun c54 => ?_)
            · exact absurd c54 (by decide)
            · have hpt := hPI.le (k := 10 + t) (by omega)
              have hpw := hPI.le (k := 15 + t) (by omega)
              refine lv_aload_n hx hb dX6_fixedAt_57 rfl (lv_at hl 0 rfl) ?_
              refine lv_iload hx hb dX6_fixedAt_58 (lv_at hl 6 rfl) ?_
              refine kVi (As := [.int (nI t)]) (rest := []) Y m_X6_valueOf (c_X6_valueOf l dC dI cI cL m0 m1 m2 m3 m4 m5 m6 m7 m8 m9 m10 m11 m12 bm ty sp fa fp kn lf yo ol un hh dr P t (by omega)) qm_X6_143 (kpV (ci := 6) hK hP hZ hS [0, 1] [0] rfl rfl 0 rfl rfl rfl) rfl hl.1 rfl (Nat.le_of_ble_eq_true rfl) dX6_fixedAt_60 ⟨Nat.le_of_ble_eq_true rfl, Nat.le_of_ble_eq_true rfl⟩ ⟨Nat.zero_le _, Nat.zero_le _⟩ (fun r60 hr60 => ?_)
              obtain rfl : r60 = nI (P (10 + t)) := hr60
              refine lv_iload_n hx hb dX6_fixedAt_63 rfl (lv_at hl 1 rfl) ?_
              refine ri_clt (tgt := 71) hx hb dX6_fixedAt_64 (by decide) (by omega) (by omega) (fun c64 => ?_) (fun c64 => ?_)
              · refine lv_iconst (v := nI 0) hx hb dX6_fixedAt_71 (by decide) ?_
                refine lv_istore (lv' := [(8, .int (nI 0)), (0, .ref m0), (1, .int (nI h0)), (2, .int (nI i)), (3, .int (nI j)), (4, .long sm), (6, .int (nI 1)), (7, .int (nI t))]) hx hb dX6_fixedAt_72 hl (by decide) rfl (fun ls hl => ?_)
                refine lv_lload hx hb dX6_fixedAt_74 (lv_at hl 5 rfl) ?_
                refine lv_aload_n hx hb dX6_fixedAt_76 rfl (lv_at hl 1 rfl) ?_
                refine va_get (D := (dC, dI)) (ci := 6) (v := .ref m1) (C := RX6) (T := TX6) (N := 24) hx hb hts inlX6 hown hK hP 0 rfl rfl 0 (by decide) (hts _ qf_X6_7) (fun _ h9 => h9) rfl dX6_fixedAt_77 ?_
                refine lv_bipush (v := nI 15) hx hb dX6_fixedAt_80 (by decide) ?_
                refine lv_iload hx hb dX6_fixedAt_82 (lv_at hl 7 rfl) ?_
                refine ri_add hx hb dX6_fixedAt_84 ?_
                refine ri_ald hx hb hK hP 1 0 (F := P) rfl rfl dX6_fixedAt_85 (by decide) (by omega) ?_
                refine ri_i2l hx hb dX6_fixedAt_86 (by omega) ?_
                refine lv_iload hx hb dX6_fixedAt_87 (lv_at hl 0 rfl) ?_
                refine ri_zeq (tgt := 121) hx hb dX6_fixedAt_89 (by decide) (by omega) (fun c89 => ?_) (fun c89 => ?_)
                · refine lv_aload_n hx hb dX6_fixedAt_121 rfl (lv_at hl 1 rfl) ?_
                  refine va_get (D := (dC, dI)) (ci := 6) (v := .ref m9) (C := RX6) (T := TX6) (N := 24) hx hb hts inlX6 hown hK hP 0 rfl rfl 15 (by decide) (hts _ qf_X6_39) (fun _ h9 => h9) rfl dX6_fixedAt_122 ?_
                  refine lv_iload_n hx hb dX6_fixedAt_125 rfl (lv_at hl 3 rfl) ?_
                  refine lv_iconst (v := nI 1) hx hb dX6_fixedAt_126 (by decide) ?_
                  refine ri_add hx hb dX6_fixedAt_127 ?_
                  refine lv_iload_n hx hb dX6_fixedAt_128 rfl (lv_at hl 4 rfl) ?_
                  refine kSi (As := [.int (nI (i + 1)), .int (nI j)]) (rest := [.ref m9, .long (lN (P (15 + t))), .long sm]) Y m_X6_at (c_X6_at l dC dI (i + 1) j ) qm_X6_138 (kpS hK hP hZ hS [] [] rfl rfl) rfl hl.1 rfl (Nat.le_of_ble_eq_true rfl) dX6_fixedAt_129 ⟨Nat.le_of_ble_eq_true rfl, Nat.le_of_ble_eq_true rfl⟩ ⟨Nat.zero_le _, Nat.zero_le _⟩ (fun r129 hr129 => ?_)
                  obtain rfl : r129 = nI (4 * (i + 1) + j) := hr129
                  refine rl_ald hx hb hK hP 2 1 (F := x3) rfl rfl dX6_fixedAt_132 (by decide) (by omega) ?_
                  refine rl_set (x' := iN (FX P h0 (P 0 - i) j)) (MX_up (T := FT P h0) hX3 (by omega) (by omega)) ?_
                  refine lv_lmul hx hb dX6_fixedAt_133 ?_
                  refine lv_ladd hx hb dX6_fixedAt_134 ?_
                  refine lv_lstore (lv' := [(4, .long (sm + ((lN (P (15 + t))) * (iN (FX P h0 (P 0 - i) j))))), (8, .int (nI 0)), (0, .ref m0), (1, .int (nI h0)), (2, .int (nI i)), (3, .int (nI j)), (6, .int (nI 1)), (7, .int (nI t))]) hx hb dX6_fixedAt_135 hl (by decide) rfl (fun ls hl => ?_)
                  refine lv_iinc (v := nI (t + 1)) (lv' := [(7, .int (nI (t + 1))), (4, .long (sm + ((lN (P (15 + t))) * (iN (FX P h0 (P 0 - i) j))))), (8, .int (nI 0)), (0, .ref m0), (1, .int (nI h0)), (2, .int (nI i)), (3, .int (nI j)), (6, .int (nI 1))]) hx hb dX6_fixedAt_137 hl (k := 7) rfl (inc1 _) (by decide) rfl (fun ls hl => ?_)
                  refine lv_goto (tgt := 46) hx hb dX6_fixedAt_140 (by decide) ?_
                  exact ih46 (t + 1) (sm + ((lN (P (15 + t))) * (iN (FX P h0 (P 0 - i) j)))) _ _ _ (by show _ < _; omega) (by exact ⟨lv_sub hl [3, 4, 5, 6, 1, 7, 0] rfl, hP.sub [0, 1, 2] rfl, hD.sub [0, 1, 2] (by decide) rfl, hS, by omega, by rw [hsm]; show _ = sgL _ _ + mFX P h0 i j t; rw [mfx_f (by omega)]⟩)
                · exact absurd c89 (by decide)
              · refine lv_iconst (v := nI 1) hx hb dX6_fixedAt_67 (by decide) ?_
                refine lv_goto (tgt := 72) hx hb dX6_fixedAt_68 (by decide) ?_
                refine lv_istore (lv' := [(8, .int (nI 1)), (0, .ref m0), (1, .int (nI h0)), (2, .int (nI i)), (3, .int (nI j)), (4, .long sm), (6, .int (nI 1)), (7, .int (nI t))]) hx hb dX6_fixedAt_72 hl (by decide) rfl (fun ls hl => ?_)
                refine lv_lload hx hb dX6_fixedAt_74 (lv_at hl 5 rfl) ?_
                refine lv_aload_n hx hb dX6_fixedAt_76 rfl (lv_at hl 1 rfl) ?_
                refine va_get (D := (dC, dI)) (ci := 6) (v := .ref m1) (C := RX6) (T := TX6) (N := 24) hx hb hts inlX6 hown hK hP 0 rfl rfl 0 (by decide) (hts _ qf_X6_7) (fun _ h9 => h9) rfl dX6_fixedAt_77 ?_
                refine lv_bipush (v := nI 15) hx hb dX6_fixedAt_80 (by decide) ?_
                refine lv_iload hx hb dX6_fixedAt_82 (lv_at hl 7 rfl) ?_
                refine ri_add hx hb dX6_fixedAt_84 ?_
                refine ri_ald hx hb hK hP 1 0 (F := P) rfl rfl dX6_fixedAt_85 (by decide) (by omega) ?_
                refine ri_i2l hx hb dX6_fixedAt_86 (by omega) ?_
                refine lv_iload hx hb dX6_fixedAt_87 (lv_at hl 0 rfl) ?_
                refine ri_zeq (tgt := 121) hx hb dX6_fixedAt_89 (by decide) (by omega) (fun c89 => ?_) (fun c89 => ?_)
                · exact absurd c89 (by decide)
                · refine lv_aload_n hx hb dX6_fixedAt_92 rfl (lv_at hl 1 rfl) ?_
                  refine lv_iload hx hb dX6_fixedAt_93 (lv_at hl 7 rfl) ?_
                  refine kVi (As := [.int (nI t)]) (rest := [.long (lN (P (15 + t))), .long sm]) Y m_X6_valueOf (c_X6_valueOf l dC dI cI cL m0 m1 m2 m3 m4 m5 m6 m7 m8 m9 m10 m11 m12 bm ty sp fa fp kn lf yo ol un hh dr P t (by omega)) qm_X6_143 (kpV (ci := 6) hK hP hZ hS [0, 1] [0] rfl rfl 0 rfl rfl rfl) rfl hl.1 rfl (Nat.le_of_ble_eq_true rfl) dX6_fixedAt_95 ⟨Nat.le_of_ble_eq_true rfl, Nat.le_of_ble_eq_true rfl⟩ ⟨Nat.zero_le _, Nat.zero_le _⟩ (fun r95 hr95 => ?_)
                  obtain rfl : r95 = nI (P (10 + t)) := hr95
                  refine ri_i2l hx hb dX6_fixedAt_98 (by omega) ?_
                  refine lv_ldc2 (v := lN 1000000000000000) hx hb hown (hts _ ql_X6_146) dX6_fixedAt_99 ?_
                  refine rl_muln hx hb dX6_fixedAt_102 ?_
                  refine lv_aload_n hx hb dX6_fixedAt_103 rfl (lv_at hl 1 rfl) ?_
                  refine va_get (D := (dC, dI)) (ci := 6) (v := .ref m9) (C := RX6) (T := TX6) (N := 24) hx hb hts inlX6 hown hK hP 0 rfl rfl 15 (by decide) (hts _ qf_X6_39) (fun _ h9 => h9) rfl dX6_fixedAt_104 ?_
                  refine lv_iload_n hx hb dX6_fixedAt_107 rfl (lv_at hl 3 rfl) ?_
                  refine lv_iconst (v := nI 1) hx hb dX6_fixedAt_108 (by decide) ?_
                  refine ri_add hx hb dX6_fixedAt_109 ?_
                  refine lv_iload_n hx hb dX6_fixedAt_110 rfl (lv_at hl 4 rfl) ?_
                  refine lv_iconst (v := nI 1) hx hb dX6_fixedAt_111 (by decide) ?_
                  refine ri_sub hx hb dX6_fixedAt_112 (by omega) ?_
                  refine kSi (As := [.int (nI (i + 1)), .int (nI (j - 1))]) (rest := [.ref m9, .long (lN ((P (10 + t)) * 1000000000000000)), .long (lN (P (15 + t))), .long sm]) Y m_X6_at (c_X6_at l dC dI (i + 1) (j - 1) ) qm_X6_138 (kpS hK hP hZ hS [] [] rfl rfl) rfl hl.1 rfl (Nat.le_of_ble_eq_true rfl) dX6_fixedAt_113 ⟨Nat.le_of_ble_eq_true rfl, Nat.le_of_ble_eq_true rfl⟩ ⟨Nat.zero_le _, Nat.zero_le _⟩ (fun r113 hr113 => ?_)
                  obtain rfl : r113 = nI (4 * (i + 1) + (j - 1)) := hr113
                  refine rl_ald hx hb hK hP 2 1 (F := x3) rfl rfl dX6_fixedAt_116 (by decide) (by omega) ?_
                  refine rl_set (x' := iN (FX P h0 (P 0 - i) (j - 1))) (MX_up (T := FT P h0) hX3 (by omega) (by omega)) ?_
                  refine lv_ladd hx hb dX6_fixedAt_117 ?_
                  refine lv_goto (tgt := 133) hx hb dX6_fixedAt_118 (by decide) ?_
                  refine lv_lmul hx hb dX6_fixedAt_133 ?_
                  refine lv_ladd hx hb dX6_fixedAt_134 ?_
                  refine lv_lstore (lv' := [(4, .long (sm + ((lN (P (15 + t))) * ((lN ((P (10 + t)) * 1000000000000000)) + (iN (FX P h0 (P 0 - i) (j - 1))))))), (8, .int (nI 1)), (0, .ref m0), (1, .int (nI h0)), (2, .int (nI i)), (3, .int (nI j)), (6, .int (nI 1)), (7, .int (nI t))]) hx hb dX6_fixedAt_135 hl (by decide) rfl (fun ls hl => ?_)
                  refine lv_iinc (v := nI (t + 1)) (lv' := [(7, .int (nI (t + 1))), (4, .long (sm + ((lN (P (15 + t))) * ((lN ((P (10 + t)) * 1000000000000000)) + (iN (FX P h0 (P 0 - i) (j - 1))))))), (8, .int (nI 1)), (0, .ref m0), (1, .int (nI h0)), (2, .int (nI i)), (3, .int (nI j)), (6, .int (nI 1))]) hx hb dX6_fixedAt_137 hl (k := 7) rfl (inc1 _) (by decide) rfl (fun ls hl => ?_)
                  refine lv_goto (tgt := 46) hx hb dX6_fixedAt_140 (by decide) ?_
                  exact ih46 (t + 1) (sm + ((lN (P (15 + t))) * ((lN ((P (10 + t)) * 1000000000000000)) + (iN (FX P h0 (P 0 - i) (j - 1)))))) _ _ _ (by show _ < _; omega) (by exact ⟨lv_sub hl [3, 4, 5, 6, 1, 7, 0] rfl, hP.sub [0, 1, 2] rfl, hD.sub [0, 1, 2] (by decide) rfl, hS, by omega, by rw [hsm]; show _ = sgL _ _ + mFX P h0 i j t; rw [mfx_t (by omega)]⟩)
