theorem fr_next' {z : Int32} {i : Nat} {rr1 fr3 : Nat → Nat} (h1 : 1 ≤ i) (hr : ∀ o, 1 ≤ o → o < i → rr1 o = rel z o) (hf : ∀ o, 1 ≤ o → o < i → fr3 o = frk z i o) (hi : fr3 i = rel z i) : ∀ o, 1 ≤ o → o < i + 1 → updN rr1 i (rel z i) o = rel z o ∧ fr3 o = frk z (i + 1 - 1) o := fun o a b => by
  by_cases e : o = i
  · rw [e, updN_s, Nat.add_sub_cancel, frk_self z h1]; exact ⟨rfl, hi⟩
  · rw [updN_n _ _ e, Nat.add_sub_cancel]
    exact ⟨hr o a (by omega), hf o a (by omega)⟩
theorem updN_id {f : Nat → Nat} {k : Nat} : updN f k (f k + 0) = f := by
  funext x
  unfold updN
  split
  · rename_i h; rw [h]; rfl
  · rfl
def sel3 (k : Nat) (r : R3) : Int32 := if k = 0 then r.1 else if k = 1 then r.2.1 else r.2.2
def srO (P : Nat → Nat) (sd w : Int32) : Int32 := if nI 0 ≤ w ∧ w ≤ nI 2 then sel3 (nO w) (RR P sd (P 0) (P 1) (nI 0) (nI 0) (nI 0)) else -1
def sel5 (k : Nat) (r : R5) : Int32 := if k = 0 then r.1 else if k = 1 then r.2.1 else if k = 2 then r.2.2.1 else if k = 3 then r.2.2.2.1 else r.2.2.2.2
abbrev r5 (rs : Nat → Int32) : R5 := (rs 0, rs 1, rs 2, rs 3, rs 4)
theorem sel5_r {rs : Nat → Int32} {k : Nat} (h : k < 5) : sel5 k (r5 rs) = rs k := by
  rcases (show k = 0 ∨ k = 1 ∨ k = 2 ∨ k = 3 ∨ k = 4 by omega) with rfl | rfl | rfl | rfl | rfl <;> rfl
def svO (P : Nat → Nat) (sd w : Int32) : Int32 := if nI 0 ≤ w ∧ w ≤ nI 4 then sel5 (nO w) (VV P (P 20) (P 21) (P 0 + 1) (P 1) 5 5 sd (nI 0, nI 0, nI 0, nI 0, nI 0)) else -1

set_option maxHeartbeats 4000000 in
set_option maxRecDepth 100000 in
theorem c_X6_drawsRanks (l : Launch) (dC : Nat → ClassId) (dI : Nat → Nat → Nat) (sz : Nat) (cI cL : ClassId) (m0 m1 m2 m3 m4 m5 m6 m7 m8 m9 m10 m11 m12 : Nat) (bm ty sp fa fp kn lf yo ol : Nat) (un hh : Int64) (dr : Int32) (P rr fr : Nat → Nat) (hPI : PI P) : Met l yX6_drawsRanks (kw yX6_drawsRanks cX6_drawsRanks 3 none) (kR 1 20) (kPq (dC, dI) [.ref m0] sz [(m0, .inr (6, [.ref m1, .ref m2, .int (nI bm), .long un, .ref m3, .int (nI ty), .ref m4, .int (nI sp), .int (nI fa), .int (nI fp), .int (nI kn), .ref m5, .ref m6, .ref m7, .ref m8, .ref m9, .int dr, .ref m10, .ref m11, .int (nI lf), .int (nI yo), .int (nI ol), .ref m12, .long hh])), (m1, .inl (cI, 22, .inl (fun zz => nI (P zz)))), (m10, .inl (cI, 8, .inl (fun zz => nI (rr zz)))), (m11, .inl (cI, 8, .inl (fun zz => nI (fr zz))))] [(cI, .int)]) (va_Qv (fun u : (Nat → Nat) × (Nat → Nat) => ∀ o, 1 ≤ o → o ≤ P 0 → u.1 o = rel dr o ∧ u.2 o = frk dr (P 0) o) (fun u : (Nat → Nat) × (Nat → Nat) => kB (dC, dI) [(cI, .int)] (va_A [(m0, .inr (6, [.ref m1, .ref m2, .int (nI bm), .long un, .ref m3, .int (nI ty), .ref m4, .int (nI sp), .int (nI fa), .int (nI fp), .int (nI kn), .ref m5, .ref m6, .ref m7, .ref m8, .ref m9, .int dr, .ref m10, .ref m11, .int (nI lf), .int (nI yo), .int (nI ol), .ref m12, .long hh])), (m1, .inl (cI, 22, .inl (fun zz => nI (P zz)))), (m10, .inl (cI, 8, .inl (fun zz => nI (rr zz)))), (m11, .inl (cI, 8, .inl (fun zz => nI (fr zz))))] sz) ([(m0, .inr (6, [.ref m1, .ref m2, .int (nI bm), .long un, .ref m3, .int (nI ty), .ref m4, .int (nI sp), .int (nI fa), .int (nI fp), .int (nI kn), .ref m5, .ref m6, .ref m7, .ref m8, .ref m9, .int (zit dr (P 0)), .ref m10, .ref m11, .int (nI lf), .int (nI yo), .int (nI ol), .ref m12, .long hh])), (m1, .inl (cI, 22, .inl (fun zz => nI (P zz)))), (m10, .inl (cI, 8, .inl (fun zz => nI (u.1 zz)))), (m11, .inl (cI, 8, .inl (fun zz => nI (u.2 zz))))])) (va_A [(m0, .inr (6, [.ref m1, .ref m2, .int (nI bm), .long un, .ref m3, .int (nI ty), .ref m4, .int (nI sp), .int (nI fa), .int (nI fp), .int (nI kn), .ref m5, .ref m6, .ref m7, .ref m8, .ref m9, .int dr, .ref m10, .ref m11, .int (nI lf), .int (nI yo), .int (nI ol), .ref m12, .long hh])), (m1, .inl (cI, 22, .inl (fun zz => nI (P zz)))), (m10, .inl (cI, 8, .inl (fun zz => nI (rr zz)))), (m11, .inl (cI, 8, .inl (fun zz => nI (fr zz))))] sz)) 0 0 (va_A [(m0, .inr (6, [.ref m1, .ref m2, .int (nI bm), .long un, .ref m3, .int (nI ty), .ref m4, .int (nI sp), .int (nI fa), .int (nI fp), .int (nI kn), .ref m5, .ref m6, .ref m7, .ref m8, .ref m9, .int dr, .ref m10, .ref m11, .int (nI lf), .int (nI yo), .int (nI ol), .ref m12, .long hh])), (m1, .inl (cI, 22, .inl (fun zz => nI (P zz)))), (m10, .inl (cI, 8, .inl (fun zz => nI (rr zz)))), (m11, .inl (cI, 8, .inl (fun zz => nI (fr zz))))] sz) := by
  refine kmet (by decide) ?_
  intro p e s m args below meth c Y hr hlocks hin hv
  obtain ⟨rfl, A, hAe, hsz, hP, hK, hD, hZ, hA⟩ := kinQ hv
  rw [hAe]
  have hS : va_S A s.heap s.heap [] := va_S.rf
  have hx := Y.1
  have hb := Y.2.1
  have hml := Y.2.2.1
  have hown := Y.2.2.2.1
  have hts := Y.2.2.2.2
  have hl := lv_entry ([.ref m0]) (n := 3) (Nat.le_of_ble_eq_true rfl)
  rw [lg_entry_eq]
  generalize (lg_sl ([.ref m0]) ++ List.replicate (3 - (lg_sl ([.ref m0])).length) Slot.unset).toArray = ls at hl ⊢
  have hl : lv_has ls 3 [(0, .ref m0)] := hl
  have hp0 := hPI.1
  have hp1 := hPI.2.1
  have hp2 := hPI.2.2.1
  refine lv_iconst (v := nI 1) hx hb dX6_drawsRanks_0 (by decide) ?_
  refine lv_istore_n (lv' := [(1, .int (nI 1)), (0, .ref m0)]) hx hb dX6_drawsRanks_1 rfl hl (by decide) rfl (fun ls hl => ?_)
  refine wl3 (fun (i : Nat) (rr1 : Nat → Nat) (fr1 : Nat → Nat) => P 0 + 1 - i) (fun (i : Nat) (rr1 : Nat → Nat) (fr1 : Nat → Nat) (ls : Array Slot) (H : Heap) (locs : List Loc) => lv_has ls 3 [(0, .ref m0), (1, .int (nI i))] ∧ va_P (dC, dI) vwCl [(m0, .inr (6, [.ref m1, .ref m2, .int (nI bm), .long un, .ref m3, .int (nI ty), .ref m4, .int (nI sp), .int (nI fa), .int (nI fp), .int (nI kn), .ref m5, .ref m6, .ref m7, .ref m8, .ref m9, .int (zit dr (i - 1)), .ref m10, .ref m11, .int (nI lf), .int (nI yo), .int (nI ol), .ref m12, .long hh])), (m1, .inl (cI, 22, .inl (fun zz => nI (P zz)))), (m10, .inl (cI, 8, .inl (fun zz => nI (rr1 zz)))), (m11, .inl (cI, 8, .inl (fun zz => nI (fr1 zz))))] H ∧ va_D A [(m0, .inr (6, [.ref m1, .ref m2, .int (nI bm), .long un, .ref m3, .int (nI ty), .ref m4, .int (nI sp), .int (nI fa), .int (nI fp), .int (nI kn), .ref m5, .ref m6, .ref m7, .ref m8, .ref m9, .int (zit dr (i - 1)), .ref m10, .ref m11, .int (nI lf), .int (nI yo), .int (nI ol), .ref m12, .long hh])), (m1, .inl (cI, 22, .inl (fun zz => nI (P zz)))), (m10, .inl (cI, 8, .inl (fun zz => nI (rr1 zz)))), (m11, .inl (cI, 8, .inl (fun zz => nI (fr1 zz))))] ∧ va_S A s.heap H locs ∧ (1 ≤ i ∧ i ≤ P 0 + 1 ∧ ∀ o, 1 ≤ o → o < i → rr1 o = rel dr o ∧ fr1 o = frk dr (i - 1) o)) 1 rr fr (by exact ⟨lv_sub hl [1, 0] rfl, hP.sub [0, 1, 2, 3] rfl, hD.sub [0, 1, 2, 3] (by decide) rfl, hS, by omega, by omega, fun o a b => by omega⟩) (fun i rr1 fr1 ls H locs hI ih => ?_)
  obtain ⟨hl, hP, hD, hS, hi1, hi2, hrf⟩ := hI
  have ih2 := ih
  refine lv_iload_n hx hb dX6_drawsRanks_2 rfl (lv_at hl 1 rfl) ?_
  refine lv_aload_n hx hb dX6_drawsRanks_3 rfl (lv_at hl 0 rfl) ?_
  refine kVi (As := []) (rest := [.int (nI i)]) Y m_X6_n (c_X6_n l dC dI cI cL m0 m1 m2 m3 m4 m5 m6 m7 m8 m9 m10 m11 m12 bm ty sp fa fp kn lf yo ol un hh (zit dr (i - 1)) P ) qm_X6_123 (kpV (ci := 6) hK hP hZ hS [0, 1] [0] rfl rfl 0 rfl rfl rfl) rfl hl.1 rfl (Nat.le_of_ble_eq_true rfl) dX6_drawsRanks_4 ⟨Nat.le_of_ble_eq_true rfl, Nat.le_of_ble_eq_true rfl⟩ ⟨Nat.zero_le _, Nat.zero_le _⟩ (fun r4 hr4 => ?_)
  obtain rfl : r4 = nI (P 0) := hr4
  refine ri_cgt (tgt := 84) hx hb dX6_drawsRanks_7 (by decide) (by omega) (by omega) (fun c7 => ?_) (fun c7 => ?_)
  · obtain rfl : i = P 0 + 1 := by omega
    exact kqv (w1 := (fun u : (Nat → Nat) × (Nat → Nat) => [(m0, .inr (6, [.ref m1, .ref m2, .int (nI bm), .long un, .ref m3, .int (nI ty), .ref m4, .int (nI sp), .int (nI fa), .int (nI fp), .int (nI kn), .ref m5, .ref m6, .ref m7, .ref m8, .ref m9, .int (zit dr (P 0)), .ref m10, .ref m11, .int (nI lf), .int (nI yo), .int (nI ol), .ref m12, .long hh])), (m1, .inl (cI, 22, .inl (fun zz => nI (P zz)))), (m10, .inl (cI, 8, .inl (fun zz => nI (u.1 zz)))), (m11, .inl (cI, 8, .inl (fun zz => nI (u.2 zz))))])) Y hr hlocks hK hP hD hS [0, 1, 2, 3] (by decide) (rr1, fr1) rfl (fun o a b => ⟨(hrf o a (by omega)).1, (hrf o a (by omega)).2⟩) dX6_drawsRanks_84
  · refine lv_aload_n hx hb dX6_drawsRanks_10 rfl (lv_at hl 0 rfl) ?_
    refine va_get (D := (dC, dI)) (ci := 6) (v := .ref m10) (C := RX6) (T := TX6) (N := 24) hx hb hts inlX6 hown hK hP 0 rfl rfl 17 (by decide) (hts _ qf_X6_42) (fun _ h9 => h9) rfl dX6_drawsRanks_11 ?_
    refine lv_iload_n hx hb dX6_drawsRanks_14 rfl (lv_at hl 1 rfl) ?_
    refine lv_iconst (v := nI 1) hx hb dX6_drawsRanks_15 (by decide) ?_
    refine lv_aload_n hx hb dX6_drawsRanks_16 rfl (lv_at hl 0 rfl) ?_
    refine kQi (As := []) (rest := [.int (nI 1), .int (nI i), .ref m10]) (wr := [(m1, .inl (cI, 22, .inl (fun zz => nI (P zz)))), (m10, .inl (cI, 8, .inl (fun zz => nI (rr1 zz)))), (m11, .inl (cI, 8, .inl (fun zz => nI (fr1 zz))))]) Y m_X6_draws (c_X6_draws l dC dI _ cI cL m0 m1 m2 m3 m4 m5 m6 m7 m8 m9 m10 m11 m12 bm ty sp fa fp kn lf yo ol un hh (zit dr (i - 1)) ) qm_X6_224 hP hD hS hA [0] [1, 2, 3] rfl rfl (by decide) (by decide) (kqV (ci := 6) hK hP hD hZ hS hA [0] [] rfl (by decide) rfl 0 rfl rfl rfl) rfl hl.1 rfl (Nat.le_of_ble_eq_true rfl) dX6_drawsRanks_17 ⟨Nat.le_of_ble_eq_true rfl, Nat.le_of_ble_eq_true rfl⟩ ⟨Nat.zero_le _, Nat.zero_le _⟩ (fun r17 u17 H locs hr17 hP hD hS => ?_)
    have hP : va_P (dC, dI) vwCl [(m1, .inl (cI, 22, .inl (fun zz => nI (P zz)))), (m10, .inl (cI, 8, .inl (fun zz => nI (rr1 zz)))), (m11, .inl (cI, 8, .inl (fun zz => nI (fr1 zz)))), (m0, .inr (6, [.ref m1, .ref m2, .int (nI bm), .long un, .ref m3, .int (nI ty), .ref m4, .int (nI sp), .int (nI fa), .int (nI fp), .int (nI kn), .ref m5, .ref m6, .ref m7, .ref m8, .ref m9, .int (dz (zit dr (i - 1))), .ref m10, .ref m11, .int (nI lf), .int (nI yo), .int (nI ol), .ref m12, .long hh]))] H := hP
    have hD : va_D A [(m1, .inl (cI, 22, .inl (fun zz => nI (P zz)))), (m10, .inl (cI, 8, .inl (fun zz => nI (rr1 zz)))), (m11, .inl (cI, 8, .inl (fun zz => nI (fr1 zz)))), (m0, .inr (6, [.ref m1, .ref m2, .int (nI bm), .long un, .ref m3, .int (nI ty), .ref m4, .int (nI sp), .int (nI fa), .int (nI fp), .int (nI kn), .ref m5, .ref m6, .ref m7, .ref m8, .ref m9, .int (dz (zit dr (i - 1))), .ref m10, .ref m11, .int (nI lf), .int (nI yo), .int (nI ol), .ref m12, .long hh]))] := hD
    obtain rfl : r17 = nI (dn (dz (zit dr (i - 1)))) := hr17
    refine lv_iload_n hx hb dX6_drawsRanks_20 rfl (lv_at hl 1 rfl) ?_
    have hdb9 := dn_b (dz (zit dr (i - 1)))
    refine ri_rem hx hb dX6_drawsRanks_21 (by omega) (by omega) (by omega) ?_
    refine ri_add hx hb dX6_drawsRanks_22 ?_
    have hdb := dn_b (dz (zit dr (i - 1)))
    have hz1 : dz (zit dr (i - 1)) = zit dr i := by obtain ⟨k, rfl⟩ : ∃ k, i = k + 1 := ⟨i - 1, by omega⟩; rfl
    rw [hz1] at hP hD
    refine ri_set hx hb (x' := nI (rel dr i)) (by unfold rel; rw [← hz1]) ?_
    have hrb := rel_b dr (i := i) (by omega)
    refine ri_ast hx hb hK hP hD hS 1 0 (F := rr1) rfl rfl dX6_drawsRanks_23 (by decide) (by omega) (fun H locs hP hD hS => ?_)
    have hP : va_P (dC, dI) vwCl [(m1, .inl (cI, 22, .inl (fun zz => nI (P zz)))), (m10, .inl (cI, 8, .inl (fun zz => nI (updN rr1 i (rel dr i) zz)))), (m11, .inl (cI, 8, .inl (fun zz => nI (fr1 zz)))), (m0, .inr (6, [.ref m1, .ref m2, .int (nI bm), .long un, .ref m3, .int (nI ty), .ref m4, .int (nI sp), .int (nI fa), .int (nI fp), .int (nI kn), .ref m5, .ref m6, .ref m7, .ref m8, .ref m9, .int (zit dr i), .ref m10, .ref m11, .int (nI lf), .int (nI yo), .int (nI ol), .ref m12, .long hh]))] H := hP
    have hD : va_D A [(m1, .inl (cI, 22, .inl (fun zz => nI (P zz)))), (m10, .inl (cI, 8, .inl (fun zz => nI (updN rr1 i (rel dr i) zz)))), (m11, .inl (cI, 8, .inl (fun zz => nI (fr1 zz)))), (m0, .inr (6, [.ref m1, .ref m2, .int (nI bm), .long un, .ref m3, .int (nI ty), .ref m4, .int (nI sp), .int (nI fa), .int (nI fp), .int (nI kn), .ref m5, .ref m6, .ref m7, .ref m8, .ref m9, .int (zit dr i), .ref m10, .ref m11, .int (nI lf), .int (nI yo), .int (nI ol), .ref m12, .long hh]))] := hD
    refine lv_aload_n hx hb dX6_drawsRanks_24 rfl (lv_at hl 0 rfl) ?_
    refine va_get (D := (dC, dI)) (ci := 6) (v := .ref m11) (C := RX6) (T := TX6) (N := 24) hx hb hts inlX6 hown hK hP 3 rfl rfl 18 (by decide) (hts _ qf_X6_45) (fun _ h9 => h9) rfl dX6_drawsRanks_25 ?_
    refine lv_iload_n hx hb dX6_drawsRanks_28 rfl (lv_at hl 1 rfl) ?_
    refine lv_aload_n hx hb dX6_drawsRanks_29 rfl (lv_at hl 0 rfl) ?_
    refine va_get (D := (dC, dI)) (ci := 6) (v := .ref m10) (C := RX6) (T := TX6) (N := 24) hx hb hts inlX6 hown hK hP 3 rfl rfl 17 (by decide) (hts _ qf_X6_42) (fun _ h9 => h9) rfl dX6_drawsRanks_30 ?_
    refine lv_iload_n hx hb dX6_drawsRanks_33 rfl (lv_at hl 1 rfl) ?_
    refine ri_ald hx hb hK hP 1 0 (F := (updN rr1 i (rel dr i))) rfl rfl dX6_drawsRanks_34 (by decide) (by omega) ?_
    refine ri_set hx hb (x' := nI (rel dr i)) (congrArg nI (by rw [updN_s])) ?_
    refine ri_ast hx hb hK hP hD hS 2 0 (F := fr1) rfl rfl dX6_drawsRanks_35 (by decide) (by omega) (fun H locs hP hD hS => ?_)
    have hP : va_P (dC, dI) vwCl [(m1, .inl (cI, 22, .inl (fun zz => nI (P zz)))), (m10, .inl (cI, 8, .inl (fun zz => nI (updN rr1 i (rel dr i) zz)))), (m11, .inl (cI, 8, .inl (fun zz => nI (updN fr1 i (rel dr i) zz)))), (m0, .inr (6, [.ref m1, .ref m2, .int (nI bm), .long un, .ref m3, .int (nI ty), .ref m4, .int (nI sp), .int (nI fa), .int (nI fp), .int (nI kn), .ref m5, .ref m6, .ref m7, .ref m8, .ref m9, .int (zit dr i), .ref m10, .ref m11, .int (nI lf), .int (nI yo), .int (nI ol), .ref m12, .long hh]))] H := hP
    have hD : va_D A [(m1, .inl (cI, 22, .inl (fun zz => nI (P zz)))), (m10, .inl (cI, 8, .inl (fun zz => nI (updN rr1 i (rel dr i) zz)))), (m11, .inl (cI, 8, .inl (fun zz => nI (updN fr1 i (rel dr i) zz)))), (m0, .inr (6, [.ref m1, .ref m2, .int (nI bm), .long un, .ref m3, .int (nI ty), .ref m4, .int (nI sp), .int (nI fa), .int (nI fp), .int (nI kn), .ref m5, .ref m6, .ref m7, .ref m8, .ref m9, .int (zit dr i), .ref m10, .ref m11, .int (nI lf), .int (nI yo), .int (nI ol), .ref m12, .long hh]))] := hD
    refine lv_iconst (v := nI 1) hx hb dX6_drawsRanks_36 (by decide) ?_
    refine lv_istore_n (lv' := [(2, .int (nI 1)), (0, .ref m0), (1, .int (nI i))]) hx hb dX6_drawsRanks_37 rfl hl (by decide) rfl (fun ls hl => ?_)
    refine wl2 (fun (o4 : Nat) (fr3 : Nat → Nat) => i - o4) (fun (o4 : Nat) (fr3 : Nat → Nat) (ls : Array Slot) (H : Heap) (locs : List Loc) => lv_has ls 3 [(0, .ref m0), (1, .int (nI i)), (2, .int (nI o4))] ∧ va_P (dC, dI) vwCl [(m0, .inr (6, [.ref m1, .ref m2, .int (nI bm), .long un, .ref m3, .int (nI ty), .ref m4, .int (nI sp), .int (nI fa), .int (nI fp), .int (nI kn), .ref m5, .ref m6, .ref m7, .ref m8, .ref m9, .int (zit dr i), .ref m10, .ref m11, .int (nI lf), .int (nI yo), .int (nI ol), .ref m12, .long hh])), (m1, .inl (cI, 22, .inl (fun zz => nI (P zz)))), (m10, .inl (cI, 8, .inl (fun zz => nI (updN rr1 i (rel dr i) zz)))), (m11, .inl (cI, 8, .inl (fun zz => nI (fr3 zz))))] H ∧ va_D A [(m0, .inr (6, [.ref m1, .ref m2, .int (nI bm), .long un, .ref m3, .int (nI ty), .ref m4, .int (nI sp), .int (nI fa), .int (nI fp), .int (nI kn), .ref m5, .ref m6, .ref m7, .ref m8, .ref m9, .int (zit dr i), .ref m10, .ref m11, .int (nI lf), .int (nI yo), .int (nI ol), .ref m12, .long hh])), (m1, .inl (cI, 22, .inl (fun zz => nI (P zz)))), (m10, .inl (cI, 8, .inl (fun zz => nI (updN rr1 i (rel dr i) zz)))), (m11, .inl (cI, 8, .inl (fun zz => nI (fr3 zz))))] ∧ va_S A s.heap H locs ∧ (1 ≤ o4 ∧ o4 ≤ i ∧ (∀ o, 1 ≤ o → o < i → (o < o4 → fr3 o = frk dr i o) ∧ (o4 ≤ o → fr3 o = frk dr (i - 1) o)) ∧ fr3 i = rel dr i)) 1 (updN fr1 i (rel dr i)) (by exact ⟨lv_sub hl [1, 2, 0] rfl, hP.sub [3, 0, 1, 2] rfl, hD.sub [3, 0, 1, 2] (by decide) rfl, hS, by omega, by omega, (fun o a b => ⟨fun q => by omega, fun _ => by rw [updN_n _ _ (by omega)]; exact (hrf o a b).2⟩), by rw [updN_s]⟩) (fun o4 fr3 ls H locs hI ih => ?_)
    obtain ⟨hl, hP, hD, hS, ho1, ho2, hf3, hfi⟩ := hI
    have ih38 := ih
    refine lv_iload_n hx hb dX6_drawsRanks_38 rfl (lv_at hl 2 rfl) ?_
    refine lv_iload_n hx hb dX6_drawsRanks_39 rfl (lv_at hl 1 rfl) ?_
    refine ri_cge (tgt := 78) hx hb dX6_drawsRanks_40 (by decide) (by omega) (by omega) (fun c40 => ?_) (fun c40 => ?_)
    · refine lv_iinc (v := nI (i + 1)) (lv' := [(1, .int (nI (i + 1))), (0, .ref m0), (2, .int (nI o4))]) hx hb dX6_drawsRanks_78 hl (k := 1) rfl (inc1 _) (by decide) rfl (fun ls hl => ?_)
      refine lv_goto (tgt := 2) hx hb dX6_drawsRanks_81 (by decide) ?_
      exact ih2 (i + 1) (updN rr1 i (rel dr i)) fr3 _ _ _ (by show _ < _; omega) (by exact ⟨lv_sub hl [1, 0] rfl, hP.sub [0, 1, 2, 3] rfl, hD.sub [0, 1, 2, 3] (by decide) rfl, hS, by omega, by omega, fr_next' hi1 (fun o a b => (hrf o a b).1) (fun o a b => (hf3 o a b).1 (by omega)) hfi⟩)
    · refine lv_aload_n hx hb dX6_drawsRanks_43 rfl (lv_at hl 0 rfl) ?_
      refine va_get (D := (dC, dI)) (ci := 6) (v := .ref m11) (C := RX6) (T := TX6) (N := 24) hx hb hts inlX6 hown hK hP 0 rfl rfl 18 (by decide) (hts _ qf_X6_45) (fun _ h9 => h9) rfl dX6_drawsRanks_44 ?_
      refine lv_iload_n hx hb dX6_drawsRanks_47 rfl (lv_at hl 2 rfl) ?_
      refine lv_dup2_11 hx hb dX6_drawsRanks_48 rfl rfl ?_
      refine ri_ald hx hb hK hP 3 0 (F := fr3) rfl rfl dX6_drawsRanks_49 (by decide) (by omega) ?_
      refine lv_aload_n hx hb dX6_drawsRanks_50 rfl (lv_at hl 0 rfl) ?_
      refine va_get (D := (dC, dI)) (ci := 6) (v := .ref m11) (C := RX6) (T := TX6) (N := 24) hx hb hts inlX6 hown hK hP 0 rfl rfl 18 (by decide) (hts _ qf_X6_45) (fun _ h9 => h9) rfl dX6_drawsRanks_51 ?_
      refine lv_iload_n hx hb dX6_drawsRanks_54 rfl (lv_at hl 2 rfl) ?_
      refine ri_ald hx hb hK hP 3 0 (F := fr3) rfl rfl dX6_drawsRanks_55 (by decide) (by omega) ?_
      refine lv_aload_n hx hb dX6_drawsRanks_56 rfl (lv_at hl 0 rfl) ?_
      refine va_get (D := (dC, dI)) (ci := 6) (v := .ref m10) (C := RX6) (T := TX6) (N := 24) hx hb hts inlX6 hown hK hP 0 rfl rfl 17 (by decide) (hts _ qf_X6_42) (fun _ h9 => h9) rfl dX6_drawsRanks_57 ?_
      refine lv_iload_n hx hb dX6_drawsRanks_60 rfl (lv_at hl 1 rfl) ?_
      refine ri_ald hx hb hK hP 2 0 (F := (updN rr1 i (rel dr i))) rfl rfl dX6_drawsRanks_61 (by decide) (by omega) ?_
      refine ri_set hx hb (x' := nI (rel dr i)) (congrArg nI (by rw [updN_s])) ?_
      have hfe := (hf3 o4 ho1 (by omega)).2 (Nat.le_refl _)
      have hfb := frk_b dr (i - 1) o4 ho1 (by omega)
      rw [← hfe] at hfb
      refine ri_clt (tgt := 69) hx hb dX6_drawsRanks_62 (by decide) (by omega) (by omega) (fun c62 => ?_) (fun c62 => ?_)
      · refine lv_iconst (v := nI 0) hx hb dX6_drawsRanks_69 (by decide) ?_
        refine ri_add hx hb dX6_drawsRanks_70 ?_
        refine ri_ast hx hb hK hP hD hS 3 0 (F := fr3) rfl rfl dX6_drawsRanks_71 (by decide) (by omega) (fun H locs hP hD hS => ?_)
        have hP : va_P (dC, dI) vwCl [(m0, .inr (6, [.ref m1, .ref m2, .int (nI bm), .long un, .ref m3, .int (nI ty), .ref m4, .int (nI sp), .int (nI fa), .int (nI fp), .int (nI kn), .ref m5, .ref m6, .ref m7, .ref m8, .ref m9, .int (zit dr i), .ref m10, .ref m11, .int (nI lf), .int (nI yo), .int (nI ol), .ref m12, .long hh])), (m1, .inl (cI, 22, .inl (fun zz => nI (P zz)))), (m10, .inl (cI, 8, .inl (fun zz => nI (updN rr1 i (rel dr i) zz)))), (m11, .inl (cI, 8, .inl (fun zz => nI (updN fr3 o4 ((fr3 o4) + 0) zz))))] H := hP
        have hD : va_D A [(m0, .inr (6, [.ref m1, .ref m2, .int (nI bm), .long un, .ref m3, .int (nI ty), .ref m4, .int (nI sp), .int (nI fa), .int (nI fp), .int (nI kn), .ref m5, .ref m6, .ref m7, .ref m8, .ref m9, .int (zit dr i), .ref m10, .ref m11, .int (nI lf), .int (nI yo), .int (nI ol), .ref m12, .long hh])), (m1, .inl (cI, 22, .inl (fun zz => nI (P zz)))), (m10, .inl (cI, 8, .inl (fun zz => nI (updN rr1 i (rel dr i) zz)))), (m11, .inl (cI, 8, .inl (fun zz => nI (updN fr3 o4 ((fr3 o4) + 0) zz))))] := hD
        rw [updN_id] at hP hD
        refine lv_iinc (v := nI (o4 + 1)) (lv' := [(2, .int (nI (o4 + 1))), (0, .ref m0), (1, .int (nI i))]) hx hb dX6_drawsRanks_72 hl (k := 2) rfl (inc1 _) (by decide) rfl (fun ls hl => ?_)
        refine lv_goto (tgt := 38) hx hb dX6_drawsRanks_75 (by decide) ?_
        exact ih38 (o4 + 1) fr3 _ _ _ (by show _ < _; omega) (by exact ⟨lv_sub hl [1, 2, 0] rfl, hP.sub [0, 1, 2, 3] rfl, hD.sub [0, 1, 2, 3] (by decide) rfl, hS, by omega, by omega, fr_step1 ho1 (by omega) hf3 (by omega), hfi⟩)
      · refine lv_iconst (v := nI 1) hx hb dX6_drawsRanks_65 (by decide) ?_
        refine lv_goto (tgt := 70) hx hb dX6_drawsRanks_66 (by decide) ?_
        refine ri_add hx hb dX6_drawsRanks_70 ?_
        refine ri_ast hx hb hK hP hD hS 3 0 (F := fr3) rfl rfl dX6_drawsRanks_71 (by decide) (by omega) (fun H locs hP hD hS => ?_)
        have hP : va_P (dC, dI) vwCl [(m0, .inr (6, [.ref m1, .ref m2, .int (nI bm), .long un, .ref m3, .int (nI ty), .ref m4, .int (nI sp), .int (nI fa), .int (nI fp), .int (nI kn), .ref m5, .ref m6, .ref m7, .ref m8, .ref m9, .int (zit dr i), .ref m10, .ref m11, .int (nI lf), .int (nI yo), .int (nI ol), .ref m12, .long hh])), (m1, .inl (cI, 22, .inl (fun zz => nI (P zz)))), (m10, .inl (cI, 8, .inl (fun zz => nI (updN rr1 i (rel dr i) zz)))), (m11, .inl (cI, 8, .inl (fun zz => nI (updN fr3 o4 ((fr3 o4) + 1) zz))))] H := hP
        have hD : va_D A [(m0, .inr (6, [.ref m1, .ref m2, .int (nI bm), .long un, .ref m3, .int (nI ty), .ref m4, .int (nI sp), .int (nI fa), .int (nI fp), .int (nI kn), .ref m5, .ref m6, .ref m7, .ref m8, .ref m9, .int (zit dr i), .ref m10, .ref m11, .int (nI lf), .int (nI yo), .int (nI ol), .ref m12, .long hh])), (m1, .inl (cI, 22, .inl (fun zz => nI (P zz)))), (m10, .inl (cI, 8, .inl (fun zz => nI (updN rr1 i (rel dr i) zz)))), (m11, .inl (cI, 8, .inl (fun zz => nI (updN fr3 o4 ((fr3 o4) + 1) zz))))] := hD
        refine lv_iinc (v := nI (o4 + 1)) (lv' := [(2, .int (nI (o4 + 1))), (0, .ref m0), (1, .int (nI i))]) hx hb dX6_drawsRanks_72 hl (k := 2) rfl (inc1 _) (by decide) rfl (fun ls hl => ?_)
        refine lv_goto (tgt := 38) hx hb dX6_drawsRanks_75 (by decide) ?_
        exact ih38 (o4 + 1) (updN fr3 o4 ((fr3 o4) + 1)) _ _ _ (by show _ < _; omega) (by exact ⟨lv_sub hl [1, 2, 0] rfl, hP.sub [0, 1, 2, 3] rfl, hD.sub [0, 1, 2, 3] (by decide) rfl, hS, by omega, by omega, fr_step2 ho1 (by omega) hf3 (by omega), by rw [updN_n _ _ (by omega)]; exact hfi⟩)
