theorem tp_put {F : Nat → Nat → Nat} {bf : Nat → Nat} {i j m v : Nat} (h : ∀ a b, a ≤ 5 → b ≤ 5 → a * 6 + b < m → bf (pB i j a b) = F a b) (hv : v = F (m / 6) (m % 6)) : ∀ a b, a ≤ 5 → b ≤ 5 → a * 6 + b < m + 1 → updN bf (pB i j (m / 6) (m % 6)) v (pB i j a b) = F a b := fun a b ha hb hm => by
  unfold updN
  split
  · rename_i q
    unfold pB at q
    obtain ⟨rfl, rfl⟩ : a = m / 6 ∧ b = m % 6 := by omega
    exact hv
  · rename_i q
    refine h a b ha hb ?_
    rcases Nat.lt_or_ge (a * 6 + b) m with z | z
    · exact z
    · exact absurd (by rw [show m / 6 = a by omega, show m % 6 = b by omega]) q
theorem QV_n {P : Nat → Nat} {c1 c2 i j a : Nat} (h : j = 0 ∨ P 0 < i) : 0 = QV P c1 c2 (P 0 + 1 - i) j a := by
  rcases h with rfl | h
  · cases P 0 + 1 - i with
    | zero => rfl
    | succ d => exact (if_pos (rfl : (0 : Nat) = 0) : qOf P (sOf P c1 c2 (QV P c1 c2 d)) 0 a = 0).symm
  · rw [show P 0 + 1 - i = 0 by omega]; rfl
theorem QV_t {P : Nat → Nat} {c1 c2 i j a : Nat} (h2 : i ≤ P 0) (h3 : 1 ≤ j) : DMs P (SV P c1 c2 (P 0 - i)) j a 5 / 10 - 1000000000000000 * P 2 = QV P c1 c2 (P 0 + 1 - i) j a := by
  rw [show P 0 + 1 - i = (P 0 - i) + 1 by omega, Nat.mul_comm]
  exact (if_neg (show ¬ j = 0 by omega)).symm
theorem SV_n {P : Nat → Nat} {c1 c2 d j a b : Nat} (h : j = 0) : 0 = SV P c1 c2 d j a b := (if_pos h).symm
theorem DMd_b {P : Nat → Nat} (h : PI P) {c1 c2 d j a : Nat} (h1 : c1 ≤ 10) (h2 : c2 ≤ 10) (hj : 1 ≤ j) (hj3 : j ≤ 3) (ha : a ≤ 5) : DMs P (SV P c1 c2 d) j a 5 / 10 ≤ 297000000000000000 := Nat.div_le_of_le_mul (Nat.le_trans (DMs_b h h1 h2 hj hj3 ha) (Nat.le_of_ble_eq_true rfl))
theorem c20' {P : Nat → Nat} (h : PI P) : 1000000000000000 * P 2 ≤ 20000000000000000 := by rw [Nat.mul_comm]; exact h.c20

set_option maxHeartbeats 4000000 in
set_option maxRecDepth 100000 in
theorem c_X6_findsValues (l : Launch) (dC : Nat → ClassId) (dI : Nat → Nat → Nat) (sz : Nat) (cI cL : ClassId) (m0 m1 m2 m3 m4 m5 m6 m7 m8 m9 m10 m11 m12 : Nat) (bm ty sp fa fp kn lf yo ol : Nat) (un hh : Int64) (dr : Int32) (P sy gz : Nat → Nat) (hPI : PI P) : Met l yX6_findsValues (kw yX6_findsValues cX6_findsValues 6 none) (kR 3 82) (kPq (dC, dI) [.ref m0] sz [(m0, .inr (6, [.ref m1, .ref m2, .int (nI bm), .long un, .ref m3, .int (nI ty), .ref m4, .int (nI sp), .int (nI fa), .int (nI fp), .int (nI kn), .ref m5, .ref m6, .ref m7, .ref m8, .ref m9, .int dr, .ref m10, .ref m11, .int (nI lf), .int (nI yo), .int (nI ol), .ref m12, .long hh])), (m1, .inl (cI, 22, .inl (fun zz => nI (P zz)))), (m7, .inl (cL, 1152, .inr (.inl (fun zz => lN (sy zz))))), (m8, .inl (cL, 1152, .inr (.inl (fun zz => lN (gz zz)))))] [(cI, .int), (cL, .long)]) (va_Qv (fun u : (Nat → Nat) × (Nat → Nat) => MZ P u.1 u.2) (fun u : (Nat → Nat) × (Nat → Nat) => kB (dC, dI) [(cI, .int), (cL, .long)] (va_A [(m0, .inr (6, [.ref m1, .ref m2, .int (nI bm), .long un, .ref m3, .int (nI ty), .ref m4, .int (nI sp), .int (nI fa), .int (nI fp), .int (nI kn), .ref m5, .ref m6, .ref m7, .ref m8, .ref m9, .int dr, .ref m10, .ref m11, .int (nI lf), .int (nI yo), .int (nI ol), .ref m12, .long hh])), (m1, .inl (cI, 22, .inl (fun zz => nI (P zz)))), (m7, .inl (cL, 1152, .inr (.inl (fun zz => lN (sy zz))))), (m8, .inl (cL, 1152, .inr (.inl (fun zz => lN (gz zz)))))] sz) ([(m0, .inr (6, [.ref m1, .ref m2, .int (nI bm), .long un, .ref m3, .int (nI ty), .ref m4, .int (nI sp), .int (nI fa), .int (nI fp), .int (nI kn), .ref m5, .ref m6, .ref m7, .ref m8, .ref m9, .int dr, .ref m10, .ref m11, .int (nI lf), .int (nI yo), .int (nI ol), .ref m12, .long hh])), (m1, .inl (cI, 22, .inl (fun zz => nI (P zz)))), (m7, .inl (cL, 1152, .inr (.inl (fun zz => lN (u.1 zz))))), (m8, .inl (cL, 1152, .inr (.inl (fun zz => lN (u.2 zz)))))])) (va_A [(m0, .inr (6, [.ref m1, .ref m2, .int (nI bm), .long un, .ref m3, .int (nI ty), .ref m4, .int (nI sp), .int (nI fa), .int (nI fp), .int (nI kn), .ref m5, .ref m6, .ref m7, .ref m8, .ref m9, .int dr, .ref m10, .ref m11, .int (nI lf), .int (nI yo), .int (nI ol), .ref m12, .long hh])), (m1, .inl (cI, 22, .inl (fun zz => nI (P zz)))), (m7, .inl (cL, 1152, .inr (.inl (fun zz => lN (sy zz))))), (m8, .inl (cL, 1152, .inr (.inl (fun zz => lN (gz zz)))))] sz)) 0 0 (va_A [(m0, .inr (6, [.ref m1, .ref m2, .int (nI bm), .long un, .ref m3, .int (nI ty), .ref m4, .int (nI sp), .int (nI fa), .int (nI fp), .int (nI kn), .ref m5, .ref m6, .ref m7, .ref m8, .ref m9, .int dr, .ref m10, .ref m11, .int (nI lf), .int (nI yo), .int (nI ol), .ref m12, .long hh])), (m1, .inl (cI, 22, .inl (fun zz => nI (P zz)))), (m7, .inl (cL, 1152, .inr (.inl (fun zz => lN (sy zz))))), (m8, .inl (cL, 1152, .inr (.inl (fun zz => lN (gz zz)))))] sz) := by
  refine kmet (by decide) ?_
  intro p e s m args below meth c Y hr hlocks hin hv
  obtain ⟨rfl, A, hAe, hsz, hP, hK, hD, hZ, hA⟩ := kinQ hv
  rw [hAe]
  have hS : va_S A s.heap s.heap [] := va_S.rf
  have hx := Y.1
  have hb := Y.2.1
  have hml := Y.2.2.1
  have hown := Y.2.2.2.1
  have hts := Y.2.2.2.2
  have hl := lv_entry ([.ref m0]) (n := 6) (Nat.le_of_ble_eq_true rfl)
  rw [lg_entry_eq]
  generalize (lg_sl ([.ref m0]) ++ List.replicate (6 - (lg_sl ([.ref m0])).length) Slot.unset).toArray = ls at hl ⊢
  have hl : lv_has ls 6 [(0, .ref m0)] := hl
  have hp0 := hPI.1
  have hp1 := hPI.2.1
  have hp2 := hPI.2.2.1
  have hc1 := hPI.2.2.2.2.2.2.1
  have hc2 := hPI.2.2.2.2.2.2.2
  have hcb := c20' hPI
  refine lv_aload_n hx hb dX6_findsValues_0 rfl (lv_at hl 0 rfl) ?_
  refine kVi (As := []) (rest := []) Y m_X6_n (c_X6_n l dC dI cI cL m0 m1 m2 m3 m4 m5 m6 m7 m8 m9 m10 m11 m12 bm ty sp fa fp kn lf yo ol un hh dr P ) qm_X6_123 (kpV (ci := 6) hK hP hZ hS [0, 1] [0] rfl rfl 0 rfl rfl rfl) rfl hl.1 rfl (Nat.le_of_ble_eq_true rfl) dX6_findsValues_1 ⟨Nat.le_of_ble_eq_true rfl, Nat.le_of_ble_eq_true rfl⟩ ⟨Nat.zero_le _, Nat.zero_le _⟩ (fun r1 hr1 => ?_)
  obtain rfl : r1 = nI (P 0) := hr1
  refine lv_iconst (v := nI 1) hx hb dX6_findsValues_4 (by decide) ?_
  refine ri_add hx hb dX6_findsValues_5 ?_
  refine lv_istore_n (lv' := [(1, .int (nI ((P 0) + 1))), (0, .ref m0)]) hx hb dX6_findsValues_6 rfl hl (by decide) rfl (fun ls hl => ?_)
  refine wl3 (fun (i : Nat) (s9 : Nat → Nat) (g9 : Nat → Nat) => i) (fun (i : Nat) (s9 : Nat → Nat) (g9 : Nat → Nat) (ls : Array Slot) (H : Heap) (locs : List Loc) => lv_has ls 6 [(0, .ref m0), (1, .int (nI i))] ∧ va_P (dC, dI) vwCl [(m0, .inr (6, [.ref m1, .ref m2, .int (nI bm), .long un, .ref m3, .int (nI ty), .ref m4, .int (nI sp), .int (nI fa), .int (nI fp), .int (nI kn), .ref m5, .ref m6, .ref m7, .ref m8, .ref m9, .int dr, .ref m10, .ref m11, .int (nI lf), .int (nI yo), .int (nI ol), .ref m12, .long hh])), (m1, .inl (cI, 22, .inl (fun zz => nI (P zz)))), (m7, .inl (cL, 1152, .inr (.inl (fun zz => lN (s9 zz))))), (m8, .inl (cL, 1152, .inr (.inl (fun zz => lN (g9 zz)))))] H ∧ va_D A [(m0, .inr (6, [.ref m1, .ref m2, .int (nI bm), .long un, .ref m3, .int (nI ty), .ref m4, .int (nI sp), .int (nI fa), .int (nI fp), .int (nI kn), .ref m5, .ref m6, .ref m7, .ref m8, .ref m9, .int dr, .ref m10, .ref m11, .int (nI lf), .int (nI yo), .int (nI ol), .ref m12, .long hh])), (m1, .inl (cI, 22, .inl (fun zz => nI (P zz)))), (m7, .inl (cL, 1152, .inr (.inl (fun zz => lN (s9 zz))))), (m8, .inl (cL, 1152, .inr (.inl (fun zz => lN (g9 zz)))))] ∧ va_S A s.heap H locs ∧ (i ≤ P 0 + 1 ∧ TB (P 0) (SV P (P 20) (P 21)) s9 i 0 ∧ TB (P 0) (QG P (P 20) (P 21)) g9 i 0)) ((P 0) + 1) sy gz (by exact ⟨lv_sub hl [1, 0] rfl, hP.sub [0, 1, 2, 3] rfl, hD.sub [0, 1, 2, 3] (by decide) rfl, hS, by omega, (fun i1 j1 a1 b1 x1 x2 x3 x4 x5 x6 => by omega), (fun i1 j1 a1 b1 x1 x2 x3 x4 x5 x6 => by omega)⟩) (fun i s9 g9 ls H locs hI ih => ?_)
  obtain ⟨hl, hP, hD, hS, hi, hS7, hG7⟩ := hI
  have ih7 := ih
  refine lv_iload_n hx hb dX6_findsValues_7 rfl (lv_at hl 1 rfl) ?_
  refine ri_zle (tgt := 169) hx hb dX6_findsValues_8 (by decide) (by omega) (fun c8 => ?_) (fun c8 => ?_)
  · obtain rfl : i = 0 := by omega
    exact kqv (w1 := (fun u : (Nat → Nat) × (Nat → Nat) => [(m0, .inr (6, [.ref m1, .ref m2, .int (nI bm), .long un, .ref m3, .int (nI ty), .ref m4, .int (nI sp), .int (nI fa), .int (nI fp), .int (nI kn), .ref m5, .ref m6, .ref m7, .ref m8, .ref m9, .int dr, .ref m10, .ref m11, .int (nI lf), .int (nI yo), .int (nI ol), .ref m12, .long hh])), (m1, .inl (cI, 22, .inl (fun zz => nI (P zz)))), (m7, .inl (cL, 1152, .inr (.inl (fun zz => lN (u.1 zz))))), (m8, .inl (cL, 1152, .inr (.inl (fun zz => lN (u.2 zz)))))])) Y hr hlocks hK hP hD hS [0, 1, 2, 3] (by decide) (s9, g9) rfl ⟨hS7, hG7⟩ dX6_findsValues_169
  · refine lv_iconst (v := nI 0) hx hb dX6_findsValues_11 (by decide) ?_
    refine lv_istore_n (lv' := [(2, .int (nI 0)), (0, .ref m0), (1, .int (nI i))]) hx hb dX6_findsValues_12 rfl hl (by decide) rfl (fun ls hl => ?_)
    refine wl3 (fun (j : Nat) (s8 : Nat → Nat) (g8 : Nat → Nat) => 4 - j) (fun (j : Nat) (s8 : Nat → Nat) (g8 : Nat → Nat) (ls : Array Slot) (H : Heap) (locs : List Loc) => lv_has ls 6 [(0, .ref m0), (1, .int (nI i)), (2, .int (nI j))] ∧ va_P (dC, dI) vwCl [(m0, .inr (6, [.ref m1, .ref m2, .int (nI bm), .long un, .ref m3, .int (nI ty), .ref m4, .int (nI sp), .int (nI fa), .int (nI fp), .int (nI kn), .ref m5, .ref m6, .ref m7, .ref m8, .ref m9, .int dr, .ref m10, .ref m11, .int (nI lf), .int (nI yo), .int (nI ol), .ref m12, .long hh])), (m1, .inl (cI, 22, .inl (fun zz => nI (P zz)))), (m7, .inl (cL, 1152, .inr (.inl (fun zz => lN (s8 zz))))), (m8, .inl (cL, 1152, .inr (.inl (fun zz => lN (g8 zz)))))] H ∧ va_D A [(m0, .inr (6, [.ref m1, .ref m2, .int (nI bm), .long un, .ref m3, .int (nI ty), .ref m4, .int (nI sp), .int (nI fa), .int (nI fp), .int (nI kn), .ref m5, .ref m6, .ref m7, .ref m8, .ref m9, .int dr, .ref m10, .ref m11, .int (nI lf), .int (nI yo), .int (nI ol), .ref m12, .long hh])), (m1, .inl (cI, 22, .inl (fun zz => nI (P zz)))), (m7, .inl (cL, 1152, .inr (.inl (fun zz => lN (s8 zz))))), (m8, .inl (cL, 1152, .inr (.inl (fun zz => lN (g8 zz)))))] ∧ va_S A s.heap H locs ∧ (j ≤ 4 ∧ TB (P 0) (SV P (P 20) (P 21)) s8 i j ∧ TB (P 0) (QG P (P 20) (P 21)) g8 i j)) 0 s9 g9 (by exact ⟨lv_sub hl [1, 2, 0] rfl, hP.sub [0, 1, 2, 3] rfl, hD.sub [0, 1, 2, 3] (by decide) rfl, hS, by omega, hS7, hG7⟩) (fun j s8 g8 ls H locs hI ih => ?_)
    obtain ⟨hl, hP, hD, hS, hj, hS8, hG8⟩ := hI
    have ih13 := ih
    refine lv_iload_n hx hb dX6_findsValues_13 rfl (lv_at hl 2 rfl) ?_
    refine lv_iconst (v := nI 3) hx hb dX6_findsValues_14 (by decide) ?_
    refine ri_cgt (tgt := 163) hx hb dX6_findsValues_15 (by decide) (by omega) (by omega) (fun c15 => ?_) (fun c15 => ?_)
    · refine lv_iinc (v := nI (i - 1)) (lv' := [(1, .int (nI (i - 1))), (0, .ref m0), (2, .int (nI j))]) hx hb dX6_findsValues_163 hl (k := 1) rfl (dec1 (by omega)) (by decide) rfl (fun ls hl => ?_)
      refine lv_goto (tgt := 7) hx hb dX6_findsValues_166 (by decide) ?_
      exact ih7 (i - 1) s8 g8 _ _ _ (by show _ < _; omega) (by exact ⟨lv_sub hl [1, 0] rfl, hP.sub [0, 1, 2, 3] rfl, hD.sub [0, 1, 2, 3] (by decide) rfl, hS, by omega, TB_next hS8 (by omega), TB_next hG8 (by omega)⟩)
    · refine lv_iconst (v := nI 0) hx hb dX6_findsValues_18 (by decide) ?_
      refine lv_istore_n (lv' := [(3, .int (nI 0)), (0, .ref m0), (1, .int (nI i)), (2, .int (nI j))]) hx hb dX6_findsValues_19 rfl hl (by decide) rfl (fun ls hl => ?_)
      refine wl2 (fun (mm : Nat) (g7 : Nat → Nat) => 36 - mm) (fun (mm : Nat) (g7 : Nat → Nat) (ls : Array Slot) (H : Heap) (locs : List Loc) => lv_has ls 6 [(0, .ref m0), (1, .int (nI i)), (2, .int (nI j)), (3, .int (nI mm))] ∧ va_P (dC, dI) vwCl [(m0, .inr (6, [.ref m1, .ref m2, .int (nI bm), .long un, .ref m3, .int (nI ty), .ref m4, .int (nI sp), .int (nI fa), .int (nI fp), .int (nI kn), .ref m5, .ref m6, .ref m7, .ref m8, .ref m9, .int dr, .ref m10, .ref m11, .int (nI lf), .int (nI yo), .int (nI ol), .ref m12, .long hh])), (m1, .inl (cI, 22, .inl (fun zz => nI (P zz)))), (m7, .inl (cL, 1152, .inr (.inl (fun zz => lN (s8 zz))))), (m8, .inl (cL, 1152, .inr (.inl (fun zz => lN (g7 zz)))))] H ∧ va_D A [(m0, .inr (6, [.ref m1, .ref m2, .int (nI bm), .long un, .ref m3, .int (nI ty), .ref m4, .int (nI sp), .int (nI fa), .int (nI fp), .int (nI kn), .ref m5, .ref m6, .ref m7, .ref m8, .ref m9, .int dr, .ref m10, .ref m11, .int (nI lf), .int (nI yo), .int (nI ol), .ref m12, .long hh])), (m1, .inl (cI, 22, .inl (fun zz => nI (P zz)))), (m7, .inl (cL, 1152, .inr (.inl (fun zz => lN (s8 zz))))), (m8, .inl (cL, 1152, .inr (.inl (fun zz => lN (g7 zz)))))] ∧ va_S A s.heap H locs ∧ (mm ≤ 36 ∧ (∀ a b, a ≤ 5 → b ≤ 5 → a * 6 + b < mm → g7 (pB i j a b) = (QG P (P 20) (P 21)) (P 0 + 1 - i) j a b) ∧ (∀ k, (∀ a b, a ≤ 5 → b ≤ 5 → k ≠ pB i j a b) → g7 k = g8 k))) 0 g8 (by exact ⟨lv_sub hl [1, 2, 3, 0] rfl, hP.sub [0, 1, 2, 3] rfl, hD.sub [0, 1, 2, 3] (by decide) rfl, hS, by omega, (fun a b x1 x2 x3 => by omega), (fun k x1 => rfl)⟩) (fun mm g7 ls H locs hI ih => ?_)
      obtain ⟨hl, hP, hD, hS, hm, hg7, hg7o⟩ := hI
      have ih20 := ih
      refine lv_iload_n hx hb dX6_findsValues_20 rfl (lv_at hl 3 rfl) ?_
      refine lv_bipush (v := nI 36) hx hb dX6_findsValues_21 (by decide) ?_
      refine ri_cge (tgt := 103) hx hb dX6_findsValues_23 (by decide) (by omega) (by omega) (fun c23 => ?_) (fun c23 => ?_)
      · have hG9 : TB (P 0) (QG P (P 20) (P 21)) g7 i (j + 1) := TB_step hG8 (by omega) (by omega) hg7o (fun a b ha hb => hg7 a b ha hb (by omega))
        refine lv_iconst (v := nI 0) hx hb dX6_findsValues_103 (by decide) ?_
        refine lv_istore_n (lv' := [(3, .int (nI 0)), (0, .ref m0), (1, .int (nI i)), (2, .int (nI j))]) hx hb dX6_findsValues_104 rfl hl (by decide) rfl (fun ls hl => ?_)
        refine wl2 (fun (mm : Nat) (s6 : Nat → Nat) => 36 - mm) (fun (mm : Nat) (s6 : Nat → Nat) (ls : Array Slot) (H : Heap) (locs : List Loc) => lv_has ls 6 [(0, .ref m0), (1, .int (nI i)), (2, .int (nI j)), (3, .int (nI mm))] ∧ va_P (dC, dI) vwCl [(m0, .inr (6, [.ref m1, .ref m2, .int (nI bm), .long un, .ref m3, .int (nI ty), .ref m4, .int (nI sp), .int (nI fa), .int (nI fp), .int (nI kn), .ref m5, .ref m6, .ref m7, .ref m8, .ref m9, .int dr, .ref m10, .ref m11, .int (nI lf), .int (nI yo), .int (nI ol), .ref m12, .long hh])), (m1, .inl (cI, 22, .inl (fun zz => nI (P zz)))), (m7, .inl (cL, 1152, .inr (.inl (fun zz => lN (s6 zz))))), (m8, .inl (cL, 1152, .inr (.inl (fun zz => lN (g7 zz)))))] H ∧ va_D A [(m0, .inr (6, [.ref m1, .ref m2, .int (nI bm), .long un, .ref m3, .int (nI ty), .ref m4, .int (nI sp), .int (nI fa), .int (nI fp), .int (nI kn), .ref m5, .ref m6, .ref m7, .ref m8, .ref m9, .int dr, .ref m10, .ref m11, .int (nI lf), .int (nI yo), .int (nI ol), .ref m12, .long hh])), (m1, .inl (cI, 22, .inl (fun zz => nI (P zz)))), (m7, .inl (cL, 1152, .inr (.inl (fun zz => lN (s6 zz))))), (m8, .inl (cL, 1152, .inr (.inl (fun zz => lN (g7 zz)))))] ∧ va_S A s.heap H locs ∧ (mm ≤ 36 ∧ (∀ a b, a ≤ 5 → b ≤ 5 → a * 6 + b < mm → s6 (pB i j a b) = (SV P (P 20) (P 21)) (P 0 + 1 - i) j a b) ∧ (∀ k, (∀ a b, a ≤ 5 → b ≤ 5 → k ≠ pB i j a b) → s6 k = s8 k))) 0 s8 (by exact ⟨lv_sub hl [1, 2, 3, 0] rfl, hP.sub [0, 1, 2, 3] rfl, hD.sub [0, 1, 2, 3] (by decide) rfl, hS, by omega, (fun a b x1 x2 x3 => by omega), (fun k x1 => rfl)⟩) (fun mm s6 ls H locs hI ih => ?_)
        obtain ⟨hl, hP, hD, hS, hm6, hs6, hs6o⟩ := hI
        have ih105 := ih
        refine lv_iload_n hx hb dX6_findsValues_105 rfl (lv_at hl 3 rfl) ?_
        refine lv_bipush (v := nI 36) hx hb dX6_findsValues_106 (by decide) ?_
        refine ri_cge (tgt := 157) hx hb dX6_findsValues_108 (by decide) (by omega) (by omega) (fun c108 => ?_) (fun c108 => ?_)
        · have hS9 : TB (P 0) (SV P (P 20) (P 21)) s6 i (j + 1) := TB_step hS8 (by omega) (by omega) hs6o (fun a b ha hb => hs6 a b ha hb (by omega))
          refine lv_iinc (v := nI (j + 1)) (lv' := [(2, .int (nI (j + 1))), (0, .ref m0), (1, .int (nI i)), (3, .int (nI mm))]) hx hb dX6_findsValues_157 hl (k := 2) rfl (inc1 _) (by decide) rfl (fun ls hl => ?_)
          refine lv_goto (tgt := 13) hx hb dX6_findsValues_160 (by decide) ?_
          exact ih13 (j + 1) s6 g7 _ _ _ (by show _ < _; omega) (by exact ⟨lv_sub hl [1, 2, 0] rfl, hP.sub [0, 1, 2, 3] rfl, hD.sub [0, 1, 2, 3] (by decide) rfl, hS, by omega, hS9, hG9⟩)
        · refine lv_aload_n hx hb dX6_findsValues_111 rfl (lv_at hl 0 rfl) ?_
          refine va_get (D := (dC, dI)) (ci := 6) (v := .ref m7) (C := RX6) (T := TX6) (N := 24) hx hb hts inlX6 hown hK hP 0 rfl rfl 13 (by decide) (hts _ qf_X6_33) (fun _ h9 => h9) rfl dX6_findsValues_112 ?_
          refine lv_iload_n hx hb dX6_findsValues_115 rfl (lv_at hl 1 rfl) ?_
          refine lv_iload_n hx hb dX6_findsValues_116 rfl (lv_at hl 2 rfl) ?_
          refine lv_iload_n hx hb dX6_findsValues_117 rfl (lv_at hl 3 rfl) ?_
          refine lv_bipush (v := nI 6) hx hb dX6_findsValues_118 (by decide) ?_
          refine ri_div hx hb dX6_findsValues_120 (by omega) (by omega) (by omega) ?_
          refine lv_iload_n hx hb dX6_findsValues_121 rfl (lv_at hl 3 rfl) ?_
          refine lv_bipush (v := nI 6) hx hb dX6_findsValues_122 (by decide) ?_
          refine ri_rem hx hb dX6_findsValues_124 (by omega) (by omega) (by omega) ?_
          refine kSi (As := [.int (nI i), .int (nI j), .int (nI (mm / 6)), .int (nI (mm % 6))]) (rest := [.ref m7]) Y m_X6_spotOf (c_X6_spotOf l dC dI i j (mm / 6) (mm % 6) (by omega)) qm_X6_148 (kpS hK hP hZ hS [] [] rfl rfl) rfl hl.1 rfl (Nat.le_of_ble_eq_true rfl) dX6_findsValues_125 ⟨Nat.le_of_ble_eq_true rfl, Nat.le_of_ble_eq_true rfl⟩ ⟨Nat.zero_le _, Nat.zero_le _⟩ (fun r125 hr125 => ?_)
          obtain rfl : r125 = nI (pB i j (mm / 6) (mm % 6)) := hr125
          refine lv_iload_n hx hb dX6_findsValues_128 rfl (lv_at hl 2 rfl) ?_
          refine ri_zne (tgt := 136) hx hb dX6_findsValues_129 (by decide) (by omega) (fun c129 => ?_) (fun c129 => ?_)
          · refine lv_aload_n hx hb dX6_findsValues_136 rfl (lv_at hl 0 rfl) ?_
            refine lv_iload_n hx hb dX6_findsValues_137 rfl (lv_at hl 1 rfl) ?_
            refine lv_iload_n hx hb dX6_findsValues_138 rfl (lv_at hl 2 rfl) ?_
            refine lv_iload_n hx hb dX6_findsValues_139 rfl (lv_at hl 3 rfl) ?_
            refine lv_bipush (v := nI 6) hx hb dX6_findsValues_140 (by decide) ?_
            refine ri_div hx hb dX6_findsValues_142 (by omega) (by omega) (by omega) ?_
            refine lv_iload_n hx hb dX6_findsValues_143 rfl (lv_at hl 3 rfl) ?_
            refine lv_bipush (v := nI 6) hx hb dX6_findsValues_144 (by decide) ?_
            refine ri_rem hx hb dX6_findsValues_146 (by omega) (by omega) (by omega) ?_
            refine kVl (As := [.int (nI i), .int (nI j), .int (nI (mm / 6)), .int (nI (mm % 6))]) (rest := [.int (nI (pB i j (mm / 6) (mm % 6))), .ref m7]) Y m_X6_bestAt (c_X6_bestAt l dC dI cI cL m0 m1 m2 m3 m4 m5 m6 m7 m8 m9 m10 m11 m12 bm ty sp fa fp kn lf yo ol un hh dr P g7 (P 0 + 1 - i) i j (mm / 6) (mm % 6) (by omega) (by omega) (by omega) (by omega) (by omega) (by omega) hPI (fun x y z a b c e => hG9 i x y z (by omega) (by omega) (by omega) c e (by omega))) qm_X6_158 (kpV (ci := 6) hK hP hZ hS [0, 1, 3] [0, 1] rfl rfl 0 rfl rfl rfl) rfl hl.1 rfl (Nat.le_of_ble_eq_true rfl) dX6_findsValues_147 ⟨Nat.le_of_ble_eq_true rfl, Nat.le_of_ble_eq_true rfl⟩ ⟨Nat.zero_le _, Nat.zero_le _⟩ (fun r147 hr147 => ?_)
            obtain rfl : r147 = lN (SV P (P 20) (P 21) (P 0 + 1 - i) j (mm / 6) (mm % 6)) := hr147
            refine rm_ast hx hb hK hP hD hS 2 1 (F := s6) rfl rfl dX6_findsValues_150 (by decide) (pB_lt (by omega) (by omega) (by omega) (by omega)) (fun H locs hP hD hS => ?_)
            have hP : va_P (dC, dI) vwCl [(m0, .inr (6, [.ref m1, .ref m2, .int (nI bm), .long un, .ref m3, .int (nI ty), .ref m4, .int (nI sp), .int (nI fa), .int (nI fp), .int (nI kn), .ref m5, .ref m6, .ref m7, .ref m8, .ref m9, .int dr, .ref m10, .ref m11, .int (nI lf), .int (nI yo), .int (nI ol), .ref m12, .long hh])), (m1, .inl (cI, 22, .inl (fun zz => nI (P zz)))), (m7, .inl (cL, 1152, .inr (.inl (fun zz => lN (updN s6 (pB i j (mm / 6) (mm % 6)) (SV P (P 20) (P 21) (P 0 + 1 - i) j (mm / 6) (mm % 6)) zz))))), (m8, .inl (cL, 1152, .inr (.inl (fun zz => lN (g7 zz)))))] H := hP
            have hD : va_D A [(m0, .inr (6, [.ref m1, .ref m2, .int (nI bm), .long un, .ref m3, .int (nI ty), .ref m4, .int (nI sp), .int (nI fa), .int (nI fp), .int (nI kn), .ref m5, .ref m6, .ref m7, .ref m8, .ref m9, .int dr, .ref m10, .ref m11, .int (nI lf), .int (nI yo), .int (nI ol), .ref m12, .long hh])), (m1, .inl (cI, 22, .inl (fun zz => nI (P zz)))), (m7, .inl (cL, 1152, .inr (.inl (fun zz => lN (updN s6 (pB i j (mm / 6) (mm % 6)) (SV P (P 20) (P 21) (P 0 + 1 - i) j (mm / 6) (mm % 6)) zz))))), (m8, .inl (cL, 1152, .inr (.inl (fun zz => lN (g7 zz)))))] := hD
            refine lv_iinc (v := nI (mm + 1)) (lv' := [(3, .int (nI (mm + 1))), (0, .ref m0), (1, .int (nI i)), (2, .int (nI j))]) hx hb dX6_findsValues_151 hl (k := 3) rfl (inc1 _) (by decide) rfl (fun ls hl => ?_)
            refine lv_goto (tgt := 105) hx hb dX6_findsValues_154 (by decide) ?_
            exact ih105 (mm + 1) (updN s6 (pB i j (mm / 6) (mm % 6)) (SV P (P 20) (P 21) (P 0 + 1 - i) j (mm / 6) (mm % 6))) _ _ _ (by show _ < _; omega) (by exact ⟨lv_sub hl [1, 2, 3, 0] rfl, hP.sub [0, 1, 2, 3] rfl, hD.sub [0, 1, 2, 3] (by decide) rfl, hS, by omega, tp_put hs6 rfl, sb_oth (by omega) (by omega) hs6o⟩)
          · refine lv_lconst (v := lN 0) hx hb dX6_findsValues_132 rfl ?_
            refine lv_goto (tgt := 150) hx hb dX6_findsValues_133 (by decide) ?_
            refine rl_set (x' := lN (SV P (P 20) (P 21) (P 0 + 1 - i) j (mm / 6) (mm % 6))) (congrArg lN (SV_n (by omega))) ?_
            refine rm_ast hx hb hK hP hD hS 2 1 (F := s6) rfl rfl dX6_findsValues_150 (by decide) (pB_lt (by omega) (by omega) (by omega) (by omega)) (fun H locs hP hD hS => ?_)
            have hP : va_P (dC, dI) vwCl [(m0, .inr (6, [.ref m1, .ref m2, .int (nI bm), .long un, .ref m3, .int (nI ty), .ref m4, .int (nI sp), .int (nI fa), .int (nI fp), .int (nI kn), .ref m5, .ref m6, .ref m7, .ref m8, .ref m9, .int dr, .ref m10, .ref m11, .int (nI lf), .int (nI yo), .int (nI ol), .ref m12, .long hh])), (m1, .inl (cI, 22, .inl (fun zz => nI (P zz)))), (m7, .inl (cL, 1152, .inr (.inl (fun zz => lN (updN s6 (pB i j (mm / 6) (mm % 6)) (SV P (P 20) (P 21) (P 0 + 1 - i) j (mm / 6) (mm % 6)) zz))))), (m8, .inl (cL, 1152, .inr (.inl (fun zz => lN (g7 zz)))))] H := hP
            have hD : va_D A [(m0, .inr (6, [.ref m1, .ref m2, .int (nI bm), .long un, .ref m3, .int (nI ty), .ref m4, .int (nI sp), .int (nI fa), .int (nI fp), .int (nI kn), .ref m5, .ref m6, .ref m7, .ref m8, .ref m9, .int dr, .ref m10, .ref m11, .int (nI lf), .int (nI yo), .int (nI ol), .ref m12, .long hh])), (m1, .inl (cI, 22, .inl (fun zz => nI (P zz)))), (m7, .inl (cL, 1152, .inr (.inl (fun zz => lN (updN s6 (pB i j (mm / 6) (mm % 6)) (SV P (P 20) (P 21) (P 0 + 1 - i) j (mm / 6) (mm % 6)) zz))))), (m8, .inl (cL, 1152, .inr (.inl (fun zz => lN (g7 zz)))))] := hD
            refine lv_iinc (v := nI (mm + 1)) (lv' := [(3, .int (nI (mm + 1))), (0, .ref m0), (1, .int (nI i)), (2, .int (nI j))]) hx hb dX6_findsValues_151 hl (k := 3) rfl (inc1 _) (by decide) rfl (fun ls hl => ?_)
            refine lv_goto (tgt := 105) hx hb dX6_findsValues_154 (by decide) ?_
            exact ih105 (mm + 1) (updN s6 (pB i j (mm / 6) (mm % 6)) (SV P (P 20) (P 21) (P 0 + 1 - i) j (mm / 6) (mm % 6))) _ _ _ (by show _ < _; omega) (by exact ⟨lv_sub hl [1, 2, 3, 0] rfl, hP.sub [0, 1, 2, 3] rfl, hD.sub [0, 1, 2, 3] (by decide) rfl, hS, by omega, tp_put hs6 rfl, sb_oth (by omega) (by omega) hs6o⟩)
      · refine lv_iload_n hx hb dX6_findsValues_26 rfl (lv_at hl 2 rfl) ?_
        refine ri_zeq (tgt := 38) hx hb dX6_findsValues_27 (by decide) (by omega) (fun c27 => ?_) (fun c27 => ?_)
        · refine lv_lconst (v := lN 0) hx hb dX6_findsValues_38 rfl ?_
          refine lv_goto (tgt := 64) hx hb dX6_findsValues_39 (by decide) ?_
          refine lv_lstore (lv' := [(4, .long (lN 0)), (0, .ref m0), (1, .int (nI i)), (2, .int (nI j)), (3, .int (nI mm))]) hx hb dX6_findsValues_64 hl (by decide) rfl (fun ls hl => ?_)
          refine lv_aload_n hx hb dX6_findsValues_66 rfl (lv_at hl 1 rfl) ?_
          refine va_get (D := (dC, dI)) (ci := 6) (v := .ref m8) (C := RX6) (T := TX6) (N := 24) hx hb hts inlX6 hown hK hP 0 rfl rfl 14 (by decide) (hts _ qf_X6_36) (fun _ h9 => h9) rfl dX6_findsValues_67 ?_
          refine lv_iload_n hx hb dX6_findsValues_70 rfl (lv_at hl 2 rfl) ?_
          refine lv_iload_n hx hb dX6_findsValues_71 rfl (lv_at hl 3 rfl) ?_
          refine lv_iload_n hx hb dX6_findsValues_72 rfl (lv_at hl 4 rfl) ?_
          refine lv_bipush (v := nI 6) hx hb dX6_findsValues_73 (by decide) ?_
          refine ri_div hx hb dX6_findsValues_75 (by omega) (by omega) (by omega) ?_
          refine lv_iload_n hx hb dX6_findsValues_76 rfl (lv_at hl 4 rfl) ?_
          refine lv_bipush (v := nI 6) hx hb dX6_findsValues_77 (by decide) ?_
          refine ri_rem hx hb dX6_findsValues_79 (by omega) (by omega) (by omega) ?_
          refine kSi (As := [.int (nI i), .int (nI j), .int (nI (mm / 6)), .int (nI (mm % 6))]) (rest := [.ref m8]) Y m_X6_spotOf (c_X6_spotOf l dC dI i j (mm / 6) (mm % 6) (by omega)) qm_X6_148 (kpS hK hP hZ hS [] [] rfl rfl) rfl hl.1 rfl (Nat.le_of_ble_eq_true rfl) dX6_findsValues_80 ⟨Nat.le_of_ble_eq_true rfl, Nat.le_of_ble_eq_true rfl⟩ ⟨Nat.zero_le _, Nat.zero_le _⟩ (fun r80 hr80 => ?_)
          obtain rfl : r80 = nI (pB i j (mm / 6) (mm % 6)) := hr80
          refine lv_lload hx hb dX6_findsValues_83 (lv_at hl 0 rfl) ?_
          refine lv_lconst (v := lN 0) hx hb dX6_findsValues_85 rfl ?_
          refine rl_len (tgt := 95) hx hb dX6_findsValues_86 dX6_findsValues_87 (by decide) (by omega) (by omega) (fun c86 => ?_) (fun c86 => ?_)
          · refine lv_lconst (v := lN 0) hx hb dX6_findsValues_95 rfl ?_
            refine rl_set (x' := lN (QV P (P 20) (P 21) (P 0 + 1 - i) j (mm / 6))) (congrArg lN (QV_n (Or.inl c27))) ?_
            refine rm_ast hx hb hK hP hD hS 3 1 (F := g7) rfl rfl dX6_findsValues_96 (by decide) (pB_lt (by omega) (by omega) (by omega) (by omega)) (fun H locs hP hD hS => ?_)
            have hP : va_P (dC, dI) vwCl [(m0, .inr (6, [.ref m1, .ref m2, .int (nI bm), .long un, .ref m3, .int (nI ty), .ref m4, .int (nI sp), .int (nI fa), .int (nI fp), .int (nI kn), .ref m5, .ref m6, .ref m7, .ref m8, .ref m9, .int dr, .ref m10, .ref m11, .int (nI lf), .int (nI yo), .int (nI ol), .ref m12, .long hh])), (m1, .inl (cI, 22, .inl (fun zz => nI (P zz)))), (m7, .inl (cL, 1152, .inr (.inl (fun zz => lN (s8 zz))))), (m8, .inl (cL, 1152, .inr (.inl (fun zz => lN (updN g7 (pB i j (mm / 6) (mm % 6)) (QV P (P 20) (P 21) (P 0 + 1 - i) j (mm / 6)) zz)))))] H := hP
            have hD : va_D A [(m0, .inr (6, [.ref m1, .ref m2, .int (nI bm), .long un, .ref m3, .int (nI ty), .ref m4, .int (nI sp), .int (nI fa), .int (nI fp), .int (nI kn), .ref m5, .ref m6, .ref m7, .ref m8, .ref m9, .int dr, .ref m10, .ref m11, .int (nI lf), .int (nI yo), .int (nI ol), .ref m12, .long hh])), (m1, .inl (cI, 22, .inl (fun zz => nI (P zz)))), (m7, .inl (cL, 1152, .inr (.inl (fun zz => lN (s8 zz))))), (m8, .inl (cL, 1152, .inr (.inl (fun zz => lN (updN g7 (pB i j (mm / 6) (mm % 6)) (QV P (P 20) (P 21) (P 0 + 1 - i) j (mm / 6)) zz)))))] := hD
            refine lv_iinc (v := nI (mm + 1)) (lv' := [(3, .int (nI (mm + 1))), (4, .long (lN 0)), (0, .ref m0), (1, .int (nI i)), (2, .int (nI j))]) hx hb dX6_findsValues_97 hl (k := 4) rfl (inc1 _) (by decide) rfl (fun ls hl => ?_)
            refine lv_goto (tgt := 20) hx hb dX6_findsValues_100 (by decide) ?_
            exact ih20 (mm + 1) (updN g7 (pB i j (mm / 6) (mm % 6)) (QV P (P 20) (P 21) (P 0 + 1 - i) j (mm / 6))) _ _ _ (by show _ < _; omega) (by exact ⟨lv_sub hl [2, 3, 4, 0] rfl, hP.sub [0, 1, 2, 3] rfl, hD.sub [0, 1, 2, 3] (by decide) rfl, hS, by omega, tp_put hg7 rfl, sb_oth (by omega) (by omega) hg7o⟩)
          · refine lv_lload hx hb dX6_findsValues_90 (lv_at hl 0 rfl) ?_
            refine lv_goto (tgt := 96) hx hb dX6_findsValues_92 (by decide) ?_
            refine rl_set (x' := lN (QV P (P 20) (P 21) (P 0 + 1 - i) j (mm / 6))) (congrArg lN (QV_n (Or.inl c27))) ?_
            refine rm_ast hx hb hK hP hD hS 3 1 (F := g7) rfl rfl dX6_findsValues_96 (by decide) (pB_lt (by omega) (by omega) (by omega) (by omega)) (fun H locs hP hD hS => ?_)
            have hP : va_P (dC, dI) vwCl [(m0, .inr (6, [.ref m1, .ref m2, .int (nI bm), .long un, .ref m3, .int (nI ty), .ref m4, .int (nI sp), .int (nI fa), .int (nI fp), .int (nI kn), .ref m5, .ref m6, .ref m7, .ref m8, .ref m9, .int dr, .ref m10, .ref m11, .int (nI lf), .int (nI yo), .int (nI ol), .ref m12, .long hh])), (m1, .inl (cI, 22, .inl (fun zz => nI (P zz)))), (m7, .inl (cL, 1152, .inr (.inl (fun zz => lN (s8 zz))))), (m8, .inl (cL, 1152, .inr (.inl (fun zz => lN (updN g7 (pB i j (mm / 6) (mm % 6)) (QV P (P 20) (P 21) (P 0 + 1 - i) j (mm / 6)) zz)))))] H := hP
            have hD : va_D A [(m0, .inr (6, [.ref m1, .ref m2, .int (nI bm), .long un, .ref m3, .int (nI ty), .ref m4, .int (nI sp), .int (nI fa), .int (nI fp), .int (nI kn), .ref m5, .ref m6, .ref m7, .ref m8, .ref m9, .int dr, .ref m10, .ref m11, .int (nI lf), .int (nI yo), .int (nI ol), .ref m12, .long hh])), (m1, .inl (cI, 22, .inl (fun zz => nI (P zz)))), (m7, .inl (cL, 1152, .inr (.inl (fun zz => lN (s8 zz))))), (m8, .inl (cL, 1152, .inr (.inl (fun zz => lN (updN g7 (pB i j (mm / 6) (mm % 6)) (QV P (P 20) (P 21) (P 0 + 1 - i) j (mm / 6)) zz)))))] := hD
            refine lv_iinc (v := nI (mm + 1)) (lv' := [(3, .int (nI (mm + 1))), (4, .long (lN 0)), (0, .ref m0), (1, .int (nI i)), (2, .int (nI j))]) hx hb dX6_findsValues_97 hl (k := 4) rfl (inc1 _) (by decide) rfl (fun ls hl => ?_)
            refine lv_goto (tgt := 20) hx hb dX6_findsValues_100 (by decide) ?_
            exact ih20 (mm + 1) (updN g7 (pB i j (mm / 6) (mm % 6)) (QV P (P 20) (P 21) (P 0 + 1 - i) j (mm / 6))) _ _ _ (by show _ < _; omega) (by exact ⟨lv_sub hl [2, 3, 4, 0] rfl, hP.sub [0, 1, 2, 3] rfl, hD.sub [0, 1, 2, 3] (by decide) rfl, hS, by omega, tp_put hg7 rfl, sb_oth (by omega) (by omega) hg7o⟩)
        · refine lv_iload_n hx hb dX6_findsValues_30 rfl (lv_at hl 1 rfl) ?_
          refine lv_aload_n hx hb dX6_findsValues_31 rfl (lv_at hl 0 rfl) ?_
          refine kVi (As := []) (rest := [.int (nI i)]) Y m_X6_n (c_X6_n l dC dI cI cL m0 m1 m2 m3 m4 m5 m6 m7 m8 m9 m10 m11 m12 bm ty sp fa fp kn lf yo ol un hh dr P ) qm_X6_123 (kpV (ci := 6) hK hP hZ hS [0, 1] [0] rfl rfl 0 rfl rfl rfl) rfl hl.1 rfl (Nat.le_of_ble_eq_true rfl) dX6_findsValues_32 ⟨Nat.le_of_ble_eq_true rfl, Nat.le_of_ble_eq_true rfl⟩ ⟨Nat.zero_le _, Nat.zero_le _⟩ (fun r32 hr32 => ?_)
          obtain rfl : r32 = nI (P 0) := hr32
          refine ri_cle (tgt := 42) hx hb dX6_findsValues_35 (by decide) (by omega) (by omega) (fun c35 => ?_) (fun c35 => ?_)
          · refine lv_aload_n hx hb dX6_findsValues_42 rfl (lv_at hl 0 rfl) ?_
            refine lv_iload_n hx hb dX6_findsValues_43 rfl (lv_at hl 1 rfl) ?_
            refine lv_iload_n hx hb dX6_findsValues_44 rfl (lv_at hl 2 rfl) ?_
            refine lv_iload_n hx hb dX6_findsValues_45 rfl (lv_at hl 3 rfl) ?_
            refine lv_bipush (v := nI 6) hx hb dX6_findsValues_46 (by decide) ?_
            refine ri_div hx hb dX6_findsValues_48 (by omega) (by omega) (by omega) ?_
            refine kVl (As := [.int (nI i), .int (nI j), .int (nI (mm / 6))]) (rest := []) Y m_X6_drawnAt (c_X6_drawnAt l dC dI cI cL m0 m1 m2 m3 m4 m5 m6 m7 m8 m9 m10 m11 m12 bm ty sp fa fp kn lf yo ol un hh dr P s8 (P 0 - i) i j (mm / 6) (by omega) (by omega) (by omega) (by omega) (by omega) hPI (fun x y z a b c e => (hS8 (i + 1) x y z (by omega) (by omega) (by omega) c e (by omega)).trans (by rw [show P 0 + 1 - (i + 1) = P 0 - i by omega]))) qm_X6_154 (kpV (ci := 6) hK hP hZ hS [0, 1, 2] [0, 1] rfl rfl 0 rfl rfl rfl) rfl hl.1 rfl (Nat.le_of_ble_eq_true rfl) dX6_findsValues_49 ⟨Nat.le_of_ble_eq_true rfl, Nat.le_of_ble_eq_true rfl⟩ ⟨Nat.zero_le _, Nat.zero_le _⟩ (fun r49 hr49 => ?_)
            obtain rfl : r49 = lN (DMs P (SV P (P 20) (P 21) (P 0 - i)) j (mm / 6) 5 / 10) := hr49
            refine lv_ldc2 (v := lN 1000000000000000) hx hb hown (hts _ ql_X6_146) dX6_findsValues_52 ?_
            refine lv_aload_n hx hb dX6_findsValues_55 rfl (lv_at hl 0 rfl) ?_
            refine va_get (D := (dC, dI)) (ci := 6) (v := .ref m1) (C := RX6) (T := TX6) (N := 24) hx hb hts inlX6 hown hK hP 0 rfl rfl 0 (by decide) (hts _ qf_X6_7) (fun _ h9 => h9) rfl dX6_findsValues_56 ?_
            refine lv_iconst (v := nI 2) hx hb dX6_findsValues_59 (by decide) ?_
            refine ri_ald hx hb hK hP 1 0 (F := P) rfl rfl dX6_findsValues_60 (by decide) (by omega) ?_
            refine ri_i2l hx hb dX6_findsValues_61 (by omega) ?_
            refine rl_muln hx hb dX6_findsValues_62 ?_
            refine lv_lsub hx hb dX6_findsValues_63 ?_
            refine lv_lstore (lv' := [(4, .long ((lN (DMs P (SV P (P 20) (P 21) (P 0 - i)) j (mm / 6) 5 / 10)) - (lN (1000000000000000 * (P 2))))), (0, .ref m0), (1, .int (nI i)), (2, .int (nI j)), (3, .int (nI mm))]) hx hb dX6_findsValues_64 hl (by decide) rfl (fun ls hl => ?_)
            refine lv_aload_n hx hb dX6_findsValues_66 rfl (lv_at hl 1 rfl) ?_
            refine va_get (D := (dC, dI)) (ci := 6) (v := .ref m8) (C := RX6) (T := TX6) (N := 24) hx hb hts inlX6 hown hK hP 0 rfl rfl 14 (by decide) (hts _ qf_X6_36) (fun _ h9 => h9) rfl dX6_findsValues_67 ?_
            refine lv_iload_n hx hb dX6_findsValues_70 rfl (lv_at hl 2 rfl) ?_
            refine lv_iload_n hx hb dX6_findsValues_71 rfl (lv_at hl 3 rfl) ?_
            refine lv_iload_n hx hb dX6_findsValues_72 rfl (lv_at hl 4 rfl) ?_
            refine lv_bipush (v := nI 6) hx hb dX6_findsValues_73 (by decide) ?_
            refine ri_div hx hb dX6_findsValues_75 (by omega) (by omega) (by omega) ?_
            refine lv_iload_n hx hb dX6_findsValues_76 rfl (lv_at hl 4 rfl) ?_
            refine lv_bipush (v := nI 6) hx hb dX6_findsValues_77 (by decide) ?_
            refine ri_rem hx hb dX6_findsValues_79 (by omega) (by omega) (by omega) ?_
            refine kSi (As := [.int (nI i), .int (nI j), .int (nI (mm / 6)), .int (nI (mm % 6))]) (rest := [.ref m8]) Y m_X6_spotOf (c_X6_spotOf l dC dI i j (mm / 6) (mm % 6) (by omega)) qm_X6_148 (kpS hK hP hZ hS [] [] rfl rfl) rfl hl.1 rfl (Nat.le_of_ble_eq_true rfl) dX6_findsValues_80 ⟨Nat.le_of_ble_eq_true rfl, Nat.le_of_ble_eq_true rfl⟩ ⟨Nat.zero_le _, Nat.zero_le _⟩ (fun r80 hr80 => ?_)
            obtain rfl : r80 = nI (pB i j (mm / 6) (mm % 6)) := hr80
            refine lv_lload hx hb dX6_findsValues_83 (lv_at hl 0 rfl) ?_
            refine lv_lconst (v := lN 0) hx hb dX6_findsValues_85 rfl ?_
            refine rl_le (tgt := 95) hx hb dX6_findsValues_86 dX6_findsValues_87 (by decide) (fun c86 => ?_) (fun c86 => ?_)
            · refine lv_lconst (v := lN 0) hx hb dX6_findsValues_95 rfl ?_
              have hdb := DMd_b hPI (c1 := P 20) (c2 := P 21) (d := P 0 - i) (j := j) (a := mm / 6) hc1 hc2 (by omega) (by omega) (by omega)
              refine rl_set (x' := lN (QV P (P 20) (P 21) (P 0 + 1 - i) j (mm / 6))) ((cut_f (Nat.lt_of_le_of_lt hdb (Nat.le_of_ble_eq_true rfl)) (Nat.lt_of_le_of_lt hcb (Nat.le_of_ble_eq_true rfl)) (Int64.not_lt.mpr c86)).trans (congrArg lN (QV_t (by omega) (by omega)))) ?_
              refine rm_ast hx hb hK hP hD hS 3 1 (F := g7) rfl rfl dX6_findsValues_96 (by decide) (pB_lt (by omega) (by omega) (by omega) (by omega)) (fun H locs hP hD hS => ?_)
              have hP : va_P (dC, dI) vwCl [(m0, .inr (6, [.ref m1, .ref m2, .int (nI bm), .long un, .ref m3, .int (nI ty), .ref m4, .int (nI sp), .int (nI fa), .int (nI fp), .int (nI kn), .ref m5, .ref m6, .ref m7, .ref m8, .ref m9, .int dr, .ref m10, .ref m11, .int (nI lf), .int (nI yo), .int (nI ol), .ref m12, .long hh])), (m1, .inl (cI, 22, .inl (fun zz => nI (P zz)))), (m7, .inl (cL, 1152, .inr (.inl (fun zz => lN (s8 zz))))), (m8, .inl (cL, 1152, .inr (.inl (fun zz => lN (updN g7 (pB i j (mm / 6) (mm % 6)) (QV P (P 20) (P 21) (P 0 + 1 - i) j (mm / 6)) zz)))))] H := hP
              have hD : va_D A [(m0, .inr (6, [.ref m1, .ref m2, .int (nI bm), .long un, .ref m3, .int (nI ty), .ref m4, .int (nI sp), .int (nI fa), .int (nI fp), .int (nI kn), .ref m5, .ref m6, .ref m7, .ref m8, .ref m9, .int dr, .ref m10, .ref m11, .int (nI lf), .int (nI yo), .int (nI ol), .ref m12, .long hh])), (m1, .inl (cI, 22, .inl (fun zz => nI (P zz)))), (m7, .inl (cL, 1152, .inr (.inl (fun zz => lN (s8 zz))))), (m8, .inl (cL, 1152, .inr (.inl (fun zz => lN (updN g7 (pB i j (mm / 6) (mm % 6)) (QV P (P 20) (P 21) (P 0 + 1 - i) j (mm / 6)) zz)))))] := hD
              refine lv_iinc (v := nI (mm + 1)) (lv' := [(3, .int (nI (mm + 1))), (4, .long ((lN (DMs P (SV P (P 20) (P 21) (P 0 - i)) j (mm / 6) 5 / 10)) - (lN (1000000000000000 * (P 2))))), (0, .ref m0), (1, .int (nI i)), (2, .int (nI j))]) hx hb dX6_findsValues_97 hl (k := 4) rfl (inc1 _) (by decide) rfl (fun ls hl => ?_)
              refine lv_goto (tgt := 20) hx hb dX6_findsValues_100 (by decide) ?_
              exact ih20 (mm + 1) (updN g7 (pB i j (mm / 6) (mm % 6)) (QV P (P 20) (P 21) (P 0 + 1 - i) j (mm / 6))) _ _ _ (by show _ < _; omega) (by exact ⟨lv_sub hl [2, 3, 4, 0] rfl, hP.sub [0, 1, 2, 3] rfl, hD.sub [0, 1, 2, 3] (by decide) rfl, hS, by omega, tp_put hg7 rfl, sb_oth (by omega) (by omega) hg7o⟩)
            · refine lv_lload hx hb dX6_findsValues_90 (lv_at hl 0 rfl) ?_
              refine lv_goto (tgt := 96) hx hb dX6_findsValues_92 (by decide) ?_
              have hdb := DMd_b hPI (c1 := P 20) (c2 := P 21) (d := P 0 - i) (j := j) (a := mm / 6) hc1 hc2 (by omega) (by omega) (by omega)
              refine rl_set (x' := lN (QV P (P 20) (P 21) (P 0 + 1 - i) j (mm / 6))) ((cut_t (Nat.lt_of_le_of_lt hdb (Nat.le_of_ble_eq_true rfl)) (Nat.lt_of_le_of_lt hcb (Nat.le_of_ble_eq_true rfl)) (Int64.not_le.mp c86)).trans (congrArg lN (QV_t (by omega) (by omega)))) ?_
              refine rm_ast hx hb hK hP hD hS 3 1 (F := g7) rfl rfl dX6_findsValues_96 (by decide) (pB_lt (by omega) (by omega) (by omega) (by omega)) (fun H locs hP hD hS => ?_)
              have hP : va_P (dC, dI) vwCl [(m0, .inr (6, [.ref m1, .ref m2, .int (nI bm), .long un, .ref m3, .int (nI ty), .ref m4, .int (nI sp), .int (nI fa), .int (nI fp), .int (nI kn), .ref m5, .ref m6, .ref m7, .ref m8, .ref m9, .int dr, .ref m10, .ref m11, .int (nI lf), .int (nI yo), .int (nI ol), .ref m12, .long hh])), (m1, .inl (cI, 22, .inl (fun zz => nI (P zz)))), (m7, .inl (cL, 1152, .inr (.inl (fun zz => lN (s8 zz))))), (m8, .inl (cL, 1152, .inr (.inl (fun zz => lN (updN g7 (pB i j (mm / 6) (mm % 6)) (QV P (P 20) (P 21) (P 0 + 1 - i) j (mm / 6)) zz)))))] H := hP
              have hD : va_D A [(m0, .inr (6, [.ref m1, .ref m2, .int (nI bm), .long un, .ref m3, .int (nI ty), .ref m4, .int (nI sp), .int (nI fa), .int (nI fp), .int (nI kn), .ref m5, .ref m6, .ref m7, .ref m8, .ref m9, .int dr, .ref m10, .ref m11, .int (nI lf), .int (nI yo), .int (nI ol), .ref m12, .long hh])), (m1, .inl (cI, 22, .inl (fun zz => nI (P zz)))), (m7, .inl (cL, 1152, .inr (.inl (fun zz => lN (s8 zz))))), (m8, .inl (cL, 1152, .inr (.inl (fun zz => lN (updN g7 (pB i j (mm / 6) (mm % 6)) (QV P (P 20) (P 21) (P 0 + 1 - i) j (mm / 6)) zz)))))] := hD
              refine lv_iinc (v := nI (mm + 1)) (lv' := [(3, .int (nI (mm + 1))), (4, .long ((lN (DMs P (SV P (P 20) (P 21) (P 0 - i)) j (mm / 6) 5 / 10)) - (lN (1000000000000000 * (P 2))))), (0, .ref m0), (1, .int (nI i)), (2, .int (nI j))]) hx hb dX6_findsValues_97 hl (k := 4) rfl (inc1 _) (by decide) rfl (fun ls hl => ?_)
              refine lv_goto (tgt := 20) hx hb dX6_findsValues_100 (by decide) ?_
              exact ih20 (mm + 1) (updN g7 (pB i j (mm / 6) (mm % 6)) (QV P (P 20) (P 21) (P 0 + 1 - i) j (mm / 6))) _ _ _ (by show _ < _; omega) (by exact ⟨lv_sub hl [2, 3, 4, 0] rfl, hP.sub [0, 1, 2, 3] rfl, hD.sub [0, 1, 2, 3] (by decide) rfl, hS, by omega, tp_put hg7 rfl, sb_oth (by omega) (by omega) hg7o⟩)
          · refine lv_lconst (v := lN 0) hx hb dX6_findsValues_38 rfl ?_
            refine lv_goto (tgt := 64) hx hb dX6_findsValues_39 (by decide) ?_
            refine lv_lstore (lv' := [(4, .long (lN 0)), (0, .ref m0), (1, .int (nI i)), (2, .int (nI j)), (3, .int (nI mm))]) hx hb dX6_findsValues_64 hl (by decide) rfl (fun ls hl => ?_)
            refine lv_aload_n hx hb dX6_findsValues_66 rfl (lv_at hl 1 rfl) ?_
            refine va_get (D := (dC, dI)) (ci := 6) (v := .ref m8) (C := RX6) (T := TX6) (N := 24) hx hb hts inlX6 hown hK hP 0 rfl rfl 14 (by decide) (hts _ qf_X6_36) (fun _ h9 => h9) rfl dX6_findsValues_67 ?_
            refine lv_iload_n hx hb dX6_findsValues_70 rfl (lv_at hl 2 rfl) ?_
            refine lv_iload_n hx hb dX6_findsValues_71 rfl (lv_at hl 3 rfl) ?_
            refine lv_iload_n hx hb dX6_findsValues_72 rfl (lv_at hl 4 rfl) ?_
            refine lv_bipush (v := nI 6) hx hb dX6_findsValues_73 (by decide) ?_
            refine ri_div hx hb dX6_findsValues_75 (by omega) (by omega) (by omega) ?_
            refine lv_iload_n hx hb dX6_findsValues_76 rfl (lv_at hl 4 rfl) ?_
            refine lv_bipush (v := nI 6) hx hb dX6_findsValues_77 (by decide) ?_
            refine ri_rem hx hb dX6_findsValues_79 (by omega) (by omega) (by omega) ?_
            refine kSi (As := [.int (nI i), .int (nI j), .int (nI (mm / 6)), .int (nI (mm % 6))]) (rest := [.ref m8]) Y m_X6_spotOf (c_X6_spotOf l dC dI i j (mm / 6) (mm % 6) (by omega)) qm_X6_148 (kpS hK hP hZ hS [] [] rfl rfl) rfl hl.1 rfl (Nat.le_of_ble_eq_true rfl) dX6_findsValues_80 ⟨Nat.le_of_ble_eq_true rfl, Nat.le_of_ble_eq_true rfl⟩ ⟨Nat.zero_le _, Nat.zero_le _⟩ (fun r80 hr80 => ?_)
            obtain rfl : r80 = nI (pB i j (mm / 6) (mm % 6)) := hr80
            refine lv_lload hx hb dX6_findsValues_83 (lv_at hl 0 rfl) ?_
            refine lv_lconst (v := lN 0) hx hb dX6_findsValues_85 rfl ?_
            refine rl_len (tgt := 95) hx hb dX6_findsValues_86 dX6_findsValues_87 (by decide) (by omega) (by omega) (fun c86 => ?_) (fun c86 => ?_)
            · refine lv_lconst (v := lN 0) hx hb dX6_findsValues_95 rfl ?_
              refine rl_set (x' := lN (QV P (P 20) (P 21) (P 0 + 1 - i) j (mm / 6))) (congrArg lN (QV_n (Or.inr (by omega)))) ?_
              refine rm_ast hx hb hK hP hD hS 3 1 (F := g7) rfl rfl dX6_findsValues_96 (by decide) (pB_lt (by omega) (by omega) (by omega) (by omega)) (fun H locs hP hD hS => ?_)
              have hP : va_P (dC, dI) vwCl [(m0, .inr (6, [.ref m1, .ref m2, .int (nI bm), .long un, .ref m3, .int (nI ty), .ref m4, .int (nI sp), .int (nI fa), .int (nI fp), .int (nI kn), .ref m5, .ref m6, .ref m7, .ref m8, .ref m9, .int dr, .ref m10, .ref m11, .int (nI lf), .int (nI yo), .int (nI ol), .ref m12, .long hh])), (m1, .inl (cI, 22, .inl (fun zz => nI (P zz)))), (m7, .inl (cL, 1152, .inr (.inl (fun zz => lN (s8 zz))))), (m8, .inl (cL, 1152, .inr (.inl (fun zz => lN (updN g7 (pB i j (mm / 6) (mm % 6)) (QV P (P 20) (P 21) (P 0 + 1 - i) j (mm / 6)) zz)))))] H := hP
              have hD : va_D A [(m0, .inr (6, [.ref m1, .ref m2, .int (nI bm), .long un, .ref m3, .int (nI ty), .ref m4, .int (nI sp), .int (nI fa), .int (nI fp), .int (nI kn), .ref m5, .ref m6, .ref m7, .ref m8, .ref m9, .int dr, .ref m10, .ref m11, .int (nI lf), .int (nI yo), .int (nI ol), .ref m12, .long hh])), (m1, .inl (cI, 22, .inl (fun zz => nI (P zz)))), (m7, .inl (cL, 1152, .inr (.inl (fun zz => lN (s8 zz))))), (m8, .inl (cL, 1152, .inr (.inl (fun zz => lN (updN g7 (pB i j (mm / 6) (mm % 6)) (QV P (P 20) (P 21) (P 0 + 1 - i) j (mm / 6)) zz)))))] := hD
              refine lv_iinc (v := nI (mm + 1)) (lv' := [(3, .int (nI (mm + 1))), (4, .long (lN 0)), (0, .ref m0), (1, .int (nI i)), (2, .int (nI j))]) hx hb dX6_findsValues_97 hl (k := 4) rfl (inc1 _) (by decide) rfl (fun ls hl => ?_)
              refine lv_goto (tgt := 20) hx hb dX6_findsValues_100 (by decide) ?_
              exact ih20 (mm + 1) (updN g7 (pB i j (mm / 6) (mm % 6)) (QV P (P 20) (P 21) (P 0 + 1 - i) j (mm / 6))) _ _ _ (by show _ < _; omega) (by exact ⟨lv_sub hl [2, 3, 4, 0] rfl, hP.sub [0, 1, 2, 3] rfl, hD.sub [0, 1, 2, 3] (by decide) rfl, hS, by omega, tp_put hg7 rfl, sb_oth (by omega) (by omega) hg7o⟩)
            · refine lv_lload hx hb dX6_findsValues_90 (lv_at hl 0 rfl) ?_
              refine lv_goto (tgt := 96) hx hb dX6_findsValues_92 (by decide) ?_
              refine rl_set (x' := lN (QV P (P 20) (P 21) (P 0 + 1 - i) j (mm / 6))) (congrArg lN (QV_n (Or.inr (by omega)))) ?_
              refine rm_ast hx hb hK hP hD hS 3 1 (F := g7) rfl rfl dX6_findsValues_96 (by decide) (pB_lt (by omega) (by omega) (by omega) (by omega)) (fun H locs hP hD hS => ?_)
              have hP : va_P (dC, dI) vwCl [(m0, .inr (6, [.ref m1, .ref m2, .int (nI bm), .long un, .ref m3, .int (nI ty), .ref m4, .int (nI sp), .int (nI fa), .int (nI fp), .int (nI kn), .ref m5, .ref m6, .ref m7, .ref m8, .ref m9, .int dr, .ref m10, .ref m11, .int (nI lf), .int (nI yo), .int (nI ol), .ref m12, .long hh])), (m1, .inl (cI, 22, .inl (fun zz => nI (P zz)))), (m7, .inl (cL, 1152, .inr (.inl (fun zz => lN (s8 zz))))), (m8, .inl (cL, 1152, .inr (.inl (fun zz => lN (updN g7 (pB i j (mm / 6) (mm % 6)) (QV P (P 20) (P 21) (P 0 + 1 - i) j (mm / 6)) zz)))))] H := hP
              have hD : va_D A [(m0, .inr (6, [.ref m1, .ref m2, .int (nI bm), .long un, .ref m3, .int (nI ty), .ref m4, .int (nI sp), .int (nI fa), .int (nI fp), .int (nI kn), .ref m5, .ref m6, .ref m7, .ref m8, .ref m9, .int dr, .ref m10, .ref m11, .int (nI lf), .int (nI yo), .int (nI ol), .ref m12, .long hh])), (m1, .inl (cI, 22, .inl (fun zz => nI (P zz)))), (m7, .inl (cL, 1152, .inr (.inl (fun zz => lN (s8 zz))))), (m8, .inl (cL, 1152, .inr (.inl (fun zz => lN (updN g7 (pB i j (mm / 6) (mm % 6)) (QV P (P 20) (P 21) (P 0 + 1 - i) j (mm / 6)) zz)))))] := hD
              refine lv_iinc (v := nI (mm + 1)) (lv' := [(3, .int (nI (mm + 1))), (4, .long (lN 0)), (0, .ref m0), (1, .int (nI i)), (2, .int (nI j))]) hx hb dX6_findsValues_97 hl (k := 4) rfl (inc1 _) (by decide) rfl (fun ls hl => ?_)
              refine lv_goto (tgt := 20) hx hb dX6_findsValues_100 (by decide) ?_
              exact ih20 (mm + 1) (updN g7 (pB i j (mm / 6) (mm % 6)) (QV P (P 20) (P 21) (P 0 + 1 - i) j (mm / 6))) _ _ _ (by show _ < _; omega) (by exact ⟨lv_sub hl [2, 3, 4, 0] rfl, hP.sub [0, 1, 2, 3] rfl, hD.sub [0, 1, 2, 3] (by decide) rfl, hS, by omega, tp_put hg7 rfl, sb_oth (by omega) (by omega) hg7o⟩)
