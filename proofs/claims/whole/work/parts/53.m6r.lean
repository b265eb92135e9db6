/-- the model's table of one rule, filled from the last row on -/
def MX (P : Nat → Nat) (T : Nat → Nat → Int64) (xe : Nat → Int64) (i j : Nat) : Prop := ∀ i' j' : Nat, 1 ≤ i' → i' ≤ P 0 + 1 → j' ≤ P 1 → (i < i' ∨ (i' = i ∧ j' < j)) → xe (4 * i' + j') = T (P 0 + 1 - i') j'
theorem MX_0 {P : Nat → Nat} {T : Nat → Nat → Int64} {xe : Nat → Int64} : MX P T xe (P 0 + 1) 0 := fun i' j' a b c e => by omega
theorem MX_put {P : Nat → Nat} {T : Nat → Nat → Int64} {xe : Nat → Int64} {i j : Nat} {v : Int64} (h : MX P T xe i j) (hP : P 1 ≤ 3) (h4 : j ≤ 3) (hv : v = T (P 0 + 1 - i) j) : MX P T (updL xe (4 * i + j) v) i (j + 1) := fun i' j' a b c e => by
  unfold updL
  split
  · rename_i q
    obtain ⟨rfl, rfl⟩ : i' = i ∧ j' = j := by omega
    exact hv
  · exact h i' j' a b c (by omega)
theorem MX_next {P : Nat → Nat} {T : Nat → Nat → Int64} {xe : Nat → Int64} {i j : Nat} (h : MX P T xe i j) (hr : P 1 < j) : MX P T xe (i - 1) 0 := fun i' j' a b c e => h i' j' a b c (by omega)
theorem MX_up {P : Nat → Nat} {T : Nat → Nat → Int64} {xe : Nat → Int64} {i j j' : Nat} (h : MX P T xe i j) (h2 : i ≤ P 0) (h3 : j' ≤ P 1) : xe (4 * (i + 1) + j') = T (P 0 - i) j' := by
  have := h (i + 1) j' (by omega) (by omega) h3 (by omega)
  rw [show P 0 + 1 - (i + 1) = P 0 - i by omega] at this
  exact this
theorem MX_e {P : Nat → Nat} {T : Nat → Nat → Int64} {xe : Nat → Int64} {j : Nat} (h : MX P T xe 0 j) {X : Int64} (hX : X = T (P 0) (P 1)) : xe (4 * 1 + P 1) = X := by
  have := h 1 (P 1) (by omega) (by omega) (by omega) (by omega)
  rw [Nat.add_sub_cancel] at this
  rw [hX]; exact this
abbrev E1 (P : Nat → Nat) (wh : Nat) : Nat → Nat → Int64 := fun d j => lN (EX P wh d j)
abbrev K1 (P : Nat → Nat) (s : Nat) : Nat → Nat → Int64 := fun d j => iN (SK P s d j)
def EMi (P : Nat → Nat) (wh i j r : Nat) : Nat := if VR P (P 0 - i) j ≤ Wo P i r + VR P (P 0 - i) (j - 1) then EX P wh (P 0 - i) (j - 1) + (if wh = 1 then 5040 else 0) else EX P wh (P 0 - i) j
theorem EMi_e {P : Nat → Nat} {wh d j : Nat} (hd : d < P 0) : EM P wh d j = EMi P wh (P 0 - d) j := by
  funext r
  unfold EM EMi
  rw [show P 0 - (P 0 - d) = d by omega]
theorem EXi_s {P : Nat → Nat} {wh i j : Nat} (h1 : 1 ≤ i) (h2 : i ≤ P 0) (h : VR P (P 0 + 1 - i) j ≠ 0) : EX P wh (P 0 + 1 - i) j = smN (EMi P wh i j) i / i + (if wh = 0 then 5040 else 0) := by
  obtain ⟨d, hd, hi⟩ : ∃ d, d < P 0 ∧ i = P 0 - d := ⟨P 0 - i, by omega, by omega⟩
  subst hi
  rw [show P 0 + 1 - (P 0 - d) = d + 1 by omega] at h ⊢
  rw [EX_s h, EMi_e hd]
theorem EMi_le {P : Nat → Nat} (h : PI P) {wh i j : Nat} (h1 : 1 ≤ i) (h2 : i ≤ P 0) (hj : j ≤ 3) : smN (EMi P wh i j) i ≤ 423360 := by
  obtain ⟨d, hd, hi⟩ : ∃ d, d < P 0 ∧ i = P 0 - d := ⟨P 0 - i, by omega, by omega⟩
  subst hi
  rw [← EMi_e hd]
  exact EM_le wh d j hd h.1.2 hj
theorem VR_i1 {P : Nat → Nat} {i j : Nat} (h : VR P (P 0 + 1 - i) j ≠ 0) : i ≤ P 0 := by
  rcases Nat.lt_or_ge (P 0) i with q | q
  · exact absurd (VR_n (Or.inr q)).symm h
  · exact q
theorem EX_b {P : Nat → Nat} (h : PI P) (wh : Nat) : EX P wh (P 0) (P 1) ≤ 55440 := by
  have a := EX_le wh (P 0) (P 1) (Nat.le_refl _) (P := P)
  have b := h.1; have c := h.2.1
  omega
theorem SK_bb {P : Nat → Nat} (h : PI P) (s : Nat) : -1000000 ≤ SK P s (P 0) (P 1) ∧ SK P s (P 0) (P 1) ≤ 2000000 := by
  have a := SK_b h s (P 0) (P 1) (Nat.le_refl _)
  have b := h.1; have c := h.2.1
  omega
theorem skA {P : Nat → Nat} (h : PI P) {s i j : Nat} (h1 : 1 ≤ i) (h2 : i ≤ P 0) (h3 : 1 ≤ j) (hj : j ≤ 3) (hs : i ≤ s) : iN (SK P s (P 0 - i) j) - lN (5040 * P 2) = iN (SK P s (P 0 + 1 - i) j) := by
  have := skip_a h (q := 1) (s := s) (d := P 0 - i) (j := j) (c := 5040 * P 2) (by decide) (by decide) (by omega) h3 hj (by omega) (by omega)
  rw [Int.one_mul, Int.one_mul, show P 0 - i + 1 = P 0 + 1 - i by omega] at this
  exact this
theorem skB {P : Nat → Nat} (h : PI P) {s i j : Nat} (h1 : 1 ≤ i) (h2 : i ≤ P 0) (h3 : 1 ≤ j) (hj : j ≤ 3) (hs : s < i) : (lN (Wo P i 1) + iN (SK P s (P 0 - i) (j - 1)) + lN (i - 1) * iN (SK P s (P 0 - i) j)) / lN i - lN (5040 * P 2) = iN (SK P s (P 0 + 1 - i) j) := by
  have := skip_b h (q := 1) (s := s) (d := P 0 - i) (j := j) (c := 5040 * P 2) (by decide) (by decide) (by omega) h3 hj (by omega) (by omega) (w := Wo P (P 0 - (P 0 - i)) 1) (by omega)
  rw [Int.one_mul, Int.one_mul, Int.one_mul, show P 0 - i + 1 = P 0 + 1 - i by omega, show P 0 - (P 0 - i) = i by omega] at this
  exact this
theorem skZ {P : Nat → Nat} {s i j : Nat} (h : j = 0 ∨ P 0 < i) : lN 0 = iN (SK P s (P 0 + 1 - i) j) := by
  rcases h with rfl | h
  · rw [SK_0]; rfl
  · rw [show P 0 + 1 - i = 0 by omega]; rfl
def mFX (P : Nat → Nat) (h i j t : Nat) : Int64 := iN (FXm P h (FX P h (P 0 - i) (j - 1)) (FX P h (P 0 - i) j) t)
theorem mfx_t {P : Nat → Nat} {h i j t : Nat} (c : h ≤ P (10 + t)) : lN (P (15 + t)) * (lN (P (10 + t) * 1000000000000000) + iN (FX P h (P 0 - i) (j - 1))) = mFX P h i j t := by
  unfold mFX FXm
  rw [if_pos c, lN_iN, lN_iN, iN_add, iN_mul, Int.natCast_mul]; rfl
theorem mfx_f {P : Nat → Nat} {h i j t : Nat} (c : ¬ h ≤ P (10 + t)) : lN (P (15 + t)) * iN (FX P h (P 0 - i) j) = mFX P h i j t := by
  unfold mFX FXm
  rw [if_neg c, lN_iN, iN_mul]
theorem mfx_e {P : Nat → Nat} (hp : PI P) {h i j : Nat} (h1 : 1 ≤ i) (h2 : i ≤ P 0) (h3 : 1 ≤ j) : sgL (mFX P h i j) 5 / lN 10 - lN (1000000000000000 * P 2) = iN (FX P h (P 0 + 1 - i) j) := by
  have := fix_mean hp (h := h) (d := P 0 - i) (j := j) (by omega) h3 (F := mFX P h i j) (fun t ht => rfl)
  rw [show P 0 - i + 1 = P 0 + 1 - i by omega, Nat.mul_comm (P 2)] at this
  exact this
theorem fxZ {P : Nat → Nat} {h i j : Nat} (q : j = 0 ∨ P 0 < i) : lN 0 = iN (FX P h (P 0 + 1 - i) j) := by
  rcases q with rfl | q
  · rw [FX_0]; rfl
  · rw [show P 0 + 1 - i = 0 by omega]; rfl
theorem FX_bb {P : Nat → Nat} (hp : PI P) (h : Nat) : -833000000000000000 ≤ FX P h (P 0) (P 1) ∧ FX P h (P 0) (P 1) ≤ 833000000000000000 := by
  have a := FX_b hp h (P 0) (P 1)
  have b := fxB_le (P 0) (by have := hp.1; omega)
  omega
/-- the first place of the greatest -/
def argG (f : Nat → Int) : Nat → Nat | 0 => 0 | n + 1 => if f (argG f n) < f (n + 1) then n + 1 else argG f n
theorem argG_le (f : Nat → Int) : ∀ n, argG f n ≤ n
  | 0 => Nat.le_refl _
  | n + 1 => by have := argG_le f n; show (if f (argG f n) < f (n + 1) then n + 1 else argG f n) ≤ n + 1; split <;> omega
theorem argG_t {f : Nat → Int} {n : Nat} (h1 : 1 ≤ n) (h : f (argG f (n - 1)) < f n) : n = argG f (n + 1 - 1) := by
  obtain ⟨k, rfl⟩ : ∃ k, n = k + 1 := ⟨n - 1, by omega⟩
  exact (if_pos h).symm
theorem argG_f {f : Nat → Int} {n : Nat} (h1 : 1 ≤ n) (h : ¬ f (argG f (n - 1)) < f n) : argG f (n - 1) = argG f (n + 1 - 1) := by
  obtain ⟨k, rfl⟩ : ∃ k, n = k + 1 := ⟨n - 1, by omega⟩
  exact (if_neg h).symm
theorem argG_T {f : Nat → Int} {n bb : Nat} (h1 : 1 ≤ n) (hb : bb = argG f (n - 1)) (h : f bb < f n) : n = argG f (n + 1 - 1) := argG_t h1 (by rw [← hb]; exact h)
theorem argG_F {f : Nat → Int} {n bb : Nat} (h1 : 1 ≤ n) (hb : bb = argG f (n - 1)) (h : ¬ f bb < f n) : bb = argG f (n + 1 - 1) := by
  rw [hb]
  exact argG_f h1 (by rw [← hb]; exact h)

set_option maxHeartbeats 4000000 in
set_option maxRecDepth 100000 in
theorem c_X6_expects (l : Launch) (dC : Nat → ClassId) (dI : Nat → Nat → Nat) (sz : Nat) (cI cL : ClassId) (m0 m1 m2 m3 m4 m5 m6 m7 m8 m9 m10 m11 m12 : Nat) (bm ty sp fa fp kn lf yo ol : Nat) (un hh : Int64) (dr : Int32) (P ww rv : Nat → Nat) (xe : Nat → Int64) (wh : Nat) (h1 : wh ≤ 2) (hPI : PI P) (hMR : MR P ww rv) : Met l yX6_expects (kw yX6_expects cX6_expects 9 (some .long)) (kR 2 44) (kPq (dC, dI) [.ref m0, .int (nI wh)] sz [(m0, .inr (6, [.ref m1, .ref m2, .int (nI bm), .long un, .ref m3, .int (nI ty), .ref m4, .int (nI sp), .int (nI fa), .int (nI fp), .int (nI kn), .ref m5, .ref m6, .ref m7, .ref m8, .ref m9, .int dr, .ref m10, .ref m11, .int (nI lf), .int (nI yo), .int (nI ol), .ref m12, .long hh])), (m1, .inl (cI, 22, .inl (fun zz => nI (P zz)))), (m5, .inl (cL, 72, .inr (.inl (fun zz => lN (ww zz))))), (m6, .inl (cL, 40, .inr (.inl (fun zz => lN (rv zz))))), (m9, .inl (cL, 40, .inr (.inl xe)))] [(cI, .int), (cL, .long)]) (va_Ql (fun (res : Int64) (u : Nat → Int64) => res = lN (EX P wh (P 0) (P 1))) (fun u : Nat → Int64 => kB (dC, dI) [(cI, .int), (cL, .long)] (va_A [(m0, .inr (6, [.ref m1, .ref m2, .int (nI bm), .long un, .ref m3, .int (nI ty), .ref m4, .int (nI sp), .int (nI fa), .int (nI fp), .int (nI kn), .ref m5, .ref m6, .ref m7, .ref m8, .ref m9, .int dr, .ref m10, .ref m11, .int (nI lf), .int (nI yo), .int (nI ol), .ref m12, .long hh])), (m1, .inl (cI, 22, .inl (fun zz => nI (P zz)))), (m5, .inl (cL, 72, .inr (.inl (fun zz => lN (ww zz))))), (m6, .inl (cL, 40, .inr (.inl (fun zz => lN (rv zz))))), (m9, .inl (cL, 40, .inr (.inl xe)))] sz) ([(m0, .inr (6, [.ref m1, .ref m2, .int (nI bm), .long un, .ref m3, .int (nI ty), .ref m4, .int (nI sp), .int (nI fa), .int (nI fp), .int (nI kn), .ref m5, .ref m6, .ref m7, .ref m8, .ref m9, .int dr, .ref m10, .ref m11, .int (nI lf), .int (nI yo), .int (nI ol), .ref m12, .long hh])), (m1, .inl (cI, 22, .inl (fun zz => nI (P zz)))), (m5, .inl (cL, 72, .inr (.inl (fun zz => lN (ww zz))))), (m6, .inl (cL, 40, .inr (.inl (fun zz => lN (rv zz))))), (m9, .inl (cL, 40, .inr (.inl u)))])) (va_A [(m0, .inr (6, [.ref m1, .ref m2, .int (nI bm), .long un, .ref m3, .int (nI ty), .ref m4, .int (nI sp), .int (nI fa), .int (nI fp), .int (nI kn), .ref m5, .ref m6, .ref m7, .ref m8, .ref m9, .int dr, .ref m10, .ref m11, .int (nI lf), .int (nI yo), .int (nI ol), .ref m12, .long hh])), (m1, .inl (cI, 22, .inl (fun zz => nI (P zz)))), (m5, .inl (cL, 72, .inr (.inl (fun zz => lN (ww zz))))), (m6, .inl (cL, 40, .inr (.inl (fun zz => lN (rv zz))))), (m9, .inl (cL, 40, .inr (.inl xe)))] sz)) 0 0 (va_A [(m0, .inr (6, [.ref m1, .ref m2, .int (nI bm), .long un, .ref m3, .int (nI ty), .ref m4, .int (nI sp), .int (nI fa), .int (nI fp), .int (nI kn), .ref m5, .ref m6, .ref m7, .ref m8, .ref m9, .int dr, .ref m10, .ref m11, .int (nI lf), .int (nI yo), .int (nI ol), .ref m12, .long hh])), (m1, .inl (cI, 22, .inl (fun zz => nI (P zz)))), (m5, .inl (cL, 72, .inr (.inl (fun zz => lN (ww zz))))), (m6, .inl (cL, 40, .inr (.inl (fun zz => lN (rv zz))))), (m9, .inl (cL, 40, .inr (.inl xe)))] sz) := by
  refine kmet (by decide) ?_
  intro p e s m args below meth c Y hr hlocks hin hv
  obtain ⟨rfl, A, hAe, hsz, hP, hK, hD, hZ, hA⟩ := kinQ hv
  rw [hAe]
  have hS : va_S A s.heap s.heap [] := va_S.rf
  have hx := Y.1
  have hb := Y.2.1
  have hml := Y.2.2.1
  have hown := Y.2.2.2.1
  have hts := Y.2.2.2.2
  have hl := lv_entry ([.ref m0, .int (nI wh)]) (n := 9) (Nat.le_of_ble_eq_true rfl)
  rw [lg_entry_eq]
  generalize (lg_sl ([.ref m0, .int (nI wh)]) ++ List.replicate (9 - (lg_sl ([.ref m0, .int (nI wh)])).length) Slot.unset).toArray = ls at hl ⊢
  have hl : lv_has ls 9 [(0, .ref m0), (1, .int (nI wh))] := hl
  have hp0 := hPI.1
  have hp1 := hPI.2.1
  have hp2 := hPI.2.2.1
  refine lv_aload_n hx hb dX6_expects_0 rfl (lv_at hl 0 rfl) ?_
  refine kVi (As := []) (rest := []) Y m_X6_n (c_X6_n l dC dI cI cL m0 m1 m2 m3 m4 m5 m6 m7 m8 m9 m10 m11 m12 bm ty sp fa fp kn lf yo ol un hh dr P ) qm_X6_123 (kpV (ci := 6) hK hP hZ hS [0, 1] [0] rfl rfl 0 rfl rfl rfl) rfl hl.1 rfl (Nat.le_of_ble_eq_true rfl) dX6_expects_1 ⟨Nat.le_of_ble_eq_true rfl, Nat.le_of_ble_eq_true rfl⟩ ⟨Nat.zero_le _, Nat.zero_le _⟩ (fun r1 hr1 => ?_)
  obtain rfl : r1 = nI (P 0) := hr1
  refine lv_iconst (v := nI 1) hx hb dX6_expects_4 (by decide) ?_
  refine ri_add hx hb dX6_expects_5 ?_
  refine lv_istore_n (lv' := [(2, .int (nI ((P 0) + 1))), (0, .ref m0), (1, .int (nI wh))]) hx hb dX6_expects_6 rfl hl (by decide) rfl (fun ls hl => ?_)
  refine wl2 (fun (i : Nat) (x1 : Nat → Int64) => i) (fun (i : Nat) (x1 : Nat → Int64) (ls : Array Slot) (H : Heap) (locs : List Loc) => lv_has ls 9 [(0, .ref m0), (1, .int (nI wh)), (2, .int (nI i))] ∧ va_P (dC, dI) vwCl [(m0, .inr (6, [.ref m1, .ref m2, .int (nI bm), .long un, .ref m3, .int (nI ty), .ref m4, .int (nI sp), .int (nI fa), .int (nI fp), .int (nI kn), .ref m5, .ref m6, .ref m7, .ref m8, .ref m9, .int dr, .ref m10, .ref m11, .int (nI lf), .int (nI yo), .int (nI ol), .ref m12, .long hh])), (m1, .inl (cI, 22, .inl (fun zz => nI (P zz)))), (m5, .inl (cL, 72, .inr (.inl (fun zz => lN (ww zz))))), (m6, .inl (cL, 40, .inr (.inl (fun zz => lN (rv zz))))), (m9, .inl (cL, 40, .inr (.inl x1)))] H ∧ va_D A [(m0, .inr (6, [.ref m1, .ref m2, .int (nI bm), .long un, .ref m3, .int (nI ty), .ref m4, .int (nI sp), .int (nI fa), .int (nI fp), .int (nI kn), .ref m5, .ref m6, .ref m7, .ref m8, .ref m9, .int dr, .ref m10, .ref m11, .int (nI lf), .int (nI yo), .int (nI ol), .ref m12, .long hh])), (m1, .inl (cI, 22, .inl (fun zz => nI (P zz)))), (m5, .inl (cL, 72, .inr (.inl (fun zz => lN (ww zz))))), (m6, .inl (cL, 40, .inr (.inl (fun zz => lN (rv zz))))), (m9, .inl (cL, 40, .inr (.inl x1)))] ∧ va_S A s.heap H locs ∧ (i ≤ P 0 + 1 ∧ MX P (E1 P wh) x1 i 0)) ((P 0) + 1) xe (by exact ⟨lv_sub hl [1, 2, 0] rfl, hP.sub [0, 1, 2, 3, 4] rfl, hD.sub [0, 1, 2, 3, 4] (by decide) rfl, hS, by omega, MX_0⟩) (fun i x1 ls H locs hI ih => ?_)
  obtain ⟨hl, hP, hD, hS, hi, hX1⟩ := hI
  have ih7 := ih
  refine lv_iload_n hx hb dX6_expects_7 rfl (lv_at hl 2 rfl) ?_
  refine ri_zle (tgt := 189) hx hb dX6_expects_8 (by decide) (by omega) (fun c8 => ?_) (fun c8 => ?_)
  · obtain rfl : i = 0 := by omega
    refine lv_aload_n hx hb dX6_expects_189 rfl (lv_at hl 0 rfl) ?_
    refine va_get (D := (dC, dI)) (ci := 6) (v := .ref m9) (C := RX6) (T := TX6) (N := 24) hx hb hts inlX6 hown hK hP 0 rfl rfl 15 (by decide) (hts _ qf_X6_39) (fun _ h9 => h9) rfl dX6_expects_190 ?_
    refine lv_iconst (v := nI 1) hx hb dX6_expects_193 (by decide) ?_
    refine lv_aload_n hx hb dX6_expects_194 rfl (lv_at hl 0 rfl) ?_
    refine kVi (As := []) (rest := [.int (nI 1), .ref m9]) Y m_X6_k (c_X6_k l dC dI cI cL m0 m1 m2 m3 m4 m5 m6 m7 m8 m9 m10 m11 m12 bm ty sp fa fp kn lf yo ol un hh dr P ) qm_X6_184 (kpV (ci := 6) hK hP hZ hS [0, 1] [0] rfl rfl 0 rfl rfl rfl) rfl hl.1 rfl (Nat.le_of_ble_eq_true rfl) dX6_expects_195 ⟨Nat.le_of_ble_eq_true rfl, Nat.le_of_ble_eq_true rfl⟩ ⟨Nat.zero_le _, Nat.zero_le _⟩ (fun r195 hr195 => ?_)
    obtain rfl : r195 = nI (P 1) := hr195
    refine kSi (As := [.int (nI 1), .int (nI (P 1))]) (rest := [.ref m9]) Y m_X6_at (c_X6_at l dC dI 1 (P 1) ) qm_X6_138 (kpS hK hP hZ hS [] [] rfl rfl) rfl hl.1 rfl (Nat.le_of_ble_eq_true rfl) dX6_expects_198 ⟨Nat.le_of_ble_eq_true rfl, Nat.le_of_ble_eq_true rfl⟩ ⟨Nat.zero_le _, Nat.zero_le _⟩ (fun r198 hr198 => ?_)
    obtain rfl : r198 = nI (4 * 1 + (P 1)) := hr198
    refine rl_ald hx hb hK hP 4 1 (F := x1) rfl rfl dX6_expects_201 (by decide) (by omega) ?_
    refine rl_set (x' := lN (EX P wh (P 0) (P 1))) (MX_e hX1 rfl) ?_
    exact kql (w1 := (fun u : Nat → Int64 => [(m0, .inr (6, [.ref m1, .ref m2, .int (nI bm), .long un, .ref m3, .int (nI ty), .ref m4, .int (nI sp), .int (nI fa), .int (nI fp), .int (nI kn), .ref m5, .ref m6, .ref m7, .ref m8, .ref m9, .int dr, .ref m10, .ref m11, .int (nI lf), .int (nI yo), .int (nI ol), .ref m12, .long hh])), (m1, .inl (cI, 22, .inl (fun zz => nI (P zz)))), (m5, .inl (cL, 72, .inr (.inl (fun zz => lN (ww zz))))), (m6, .inl (cL, 40, .inr (.inl (fun zz => lN (rv zz))))), (m9, .inl (cL, 40, .inr (.inl u)))])) (v := lN (EX P wh (P 0) (P 1))) Y hr hlocks hK hP hD hS [0, 1, 2, 3, 4] (by decide) (x1) rfl rfl dX6_expects_202
  · refine lv_iconst (v := nI 0) hx hb dX6_expects_11 (by decide) ?_
    refine lv_istore_n (lv' := [(3, .int (nI 0)), (0, .ref m0), (1, .int (nI wh)), (2, .int (nI i))]) hx hb dX6_expects_12 rfl hl (by decide) rfl (fun ls hl => ?_)
    refine wl2 (fun (j : Nat) (x3 : Nat → Int64) => P 1 + 1 - j) (fun (j : Nat) (x3 : Nat → Int64) (ls : Array Slot) (H : Heap) (locs : List Loc) => lv_has ls 9 [(0, .ref m0), (1, .int (nI wh)), (2, .int (nI i)), (3, .int (nI j))] ∧ va_P (dC, dI) vwCl [(m0, .inr (6, [.ref m1, .ref m2, .int (nI bm), .long un, .ref m3, .int (nI ty), .ref m4, .int (nI sp), .int (nI fa), .int (nI fp), .int (nI kn), .ref m5, .ref m6, .ref m7, .ref m8, .ref m9, .int dr, .ref m10, .ref m11, .int (nI lf), .int (nI yo), .int (nI ol), .ref m12, .long hh])), (m1, .inl (cI, 22, .inl (fun zz => nI (P zz)))), (m5, .inl (cL, 72, .inr (.inl (fun zz => lN (ww zz))))), (m6, .inl (cL, 40, .inr (.inl (fun zz => lN (rv zz))))), (m9, .inl (cL, 40, .inr (.inl x3)))] H ∧ va_D A [(m0, .inr (6, [.ref m1, .ref m2, .int (nI bm), .long un, .ref m3, .int (nI ty), .ref m4, .int (nI sp), .int (nI fa), .int (nI fp), .int (nI kn), .ref m5, .ref m6, .ref m7, .ref m8, .ref m9, .int dr, .ref m10, .ref m11, .int (nI lf), .int (nI yo), .int (nI ol), .ref m12, .long hh])), (m1, .inl (cI, 22, .inl (fun zz => nI (P zz)))), (m5, .inl (cL, 72, .inr (.inl (fun zz => lN (ww zz))))), (m6, .inl (cL, 40, .inr (.inl (fun zz => lN (rv zz))))), (m9, .inl (cL, 40, .inr (.inl x3)))] ∧ va_S A s.heap H locs ∧ (j ≤ P 1 + 1 ∧ MX P (E1 P wh) x3 i j)) 0 x1 (by exact ⟨lv_sub hl [1, 2, 3, 0] rfl, hP.sub [0, 1, 2, 3, 4] rfl, hD.sub [0, 1, 2, 3, 4] (by decide) rfl, hS, by omega, hX1⟩) (fun j x3 ls H locs hI ih => ?_)
    obtain ⟨hl, hP, hD, hS, hj, hX3⟩ := hI
    have ih13 := ih
    refine lv_iload_n hx hb dX6_expects_13 rfl (lv_at hl 3 rfl) ?_
    refine lv_aload_n hx hb dX6_expects_14 rfl (lv_at hl 0 rfl) ?_
    refine kVi (As := []) (rest := [.int (nI j)]) Y m_X6_k (c_X6_k l dC dI cI cL m0 m1 m2 m3 m4 m5 m6 m7 m8 m9 m10 m11 m12 bm ty sp fa fp kn lf yo ol un hh dr P ) qm_X6_184 (kpV (ci := 6) hK hP hZ hS [0, 1] [0] rfl rfl 0 rfl rfl rfl) rfl hl.1 rfl (Nat.le_of_ble_eq_true rfl) dX6_expects_15 ⟨Nat.le_of_ble_eq_true rfl, Nat.le_of_ble_eq_true rfl⟩ ⟨Nat.zero_le _, Nat.zero_le _⟩ (fun r15 hr15 => ?_)
    obtain rfl : r15 = nI (P 1) := hr15
    refine ri_cgt (tgt := 183) hx hb dX6_expects_18 (by decide) (by omega) (by omega) (fun c18 => ?_) (fun c18 => ?_)
    · refine lv_iinc (v := nI (i - 1)) (lv' := [(2, .int (nI (i - 1))), (0, .ref m0), (1, .int (nI wh)), (3, .int (nI j))]) hx hb dX6_expects_183 hl (k := 2) rfl (dec1 (by omega)) (by decide) rfl (fun ls hl => ?_)
      refine lv_goto (tgt := 7) hx hb dX6_expects_186 (by decide) ?_
      exact ih7 (i - 1) x3 _ _ _ (by show _ < _; omega) (by exact ⟨lv_sub hl [1, 2, 0] rfl, hP.sub [0, 1, 2, 3, 4] rfl, hD.sub [0, 1, 2, 3, 4] (by decide) rfl, hS, by omega, MX_next hX3 (by omega)⟩)
    · refine lv_lconst (v := lN 0) hx hb dX6_expects_21 rfl ?_
      refine lv_lstore (lv' := [(4, .long (lN 0)), (0, .ref m0), (1, .int (nI wh)), (2, .int (nI i)), (3, .int (nI j))]) hx hb dX6_expects_22 hl (by decide) rfl (fun ls hl => ?_)
      refine lv_aload_n hx hb dX6_expects_24 rfl (lv_at hl 1 rfl) ?_
      refine va_get (D := (dC, dI)) (ci := 6) (v := .ref m6) (C := RX6) (T := TX6) (N := 24) hx hb hts inlX6 hown hK hP 0 rfl rfl 12 (by decide) (hts _ qf_X6_30) (fun _ h9 => h9) rfl dX6_expects_25 ?_
      refine lv_iload_n hx hb dX6_expects_28 rfl (lv_at hl 3 rfl) ?_
      refine lv_iload_n hx hb dX6_expects_29 rfl (lv_at hl 4 rfl) ?_
      refine kSi (As := [.int (nI i), .int (nI j)]) (rest := [.ref m6]) Y m_X6_at (c_X6_at l dC dI i j ) qm_X6_138 (kpS hK hP hZ hS [] [] rfl rfl) rfl hl.1 rfl (Nat.le_of_ble_eq_true rfl) dX6_expects_30 ⟨Nat.le_of_ble_eq_true rfl, Nat.le_of_ble_eq_true rfl⟩ ⟨Nat.zero_le _, Nat.zero_le _⟩ (fun r30 hr30 => ?_)
      obtain rfl : r30 = nI (4 * i + j) := hr30
      refine rm_ald hx hb hK hP 3 1 (F := rv) rfl rfl dX6_expects_33 (by decide) (by omega) ?_
      refine rl_set (x' := lN (VR P (P 0 + 1 - i) j)) (congrArg lN (hMR.2 i j (by omega) (by omega) (by omega))) ?_
      have hvb := VR3 hPI (d := P 0 + 1 - i) (j := j) (by omega) (by omega)
      refine lv_lconst (v := lN 0) hx hb dX6_expects_34 rfl ?_
      refine rl_len (tgt := 43) hx hb dX6_expects_35 dX6_expects_36 (by decide) (by omega) (by omega) (fun c35 => ?_) (fun c35 => ?_)
      · refine lv_iconst (v := nI 0) hx hb dX6_expects_43 (by decide) ?_
        refine lv_istore (lv' := [(6, .int (nI 0)), (4, .long (lN 0)), (0, .ref m0), (1, .int (nI wh)), (2, .int (nI i)), (3, .int (nI j))]) hx hb dX6_expects_44 hl (by decide) rfl (fun ls hl => ?_)
        refine lv_iconst (v := nI 1) hx hb dX6_expects_46 (by decide) ?_
        refine lv_istore (lv' := [(7, .int (nI 1)), (6, .int (nI 0)), (4, .long (lN 0)), (0, .ref m0), (1, .int (nI wh)), (2, .int (nI i)), (3, .int (nI j))]) hx hb dX6_expects_47 hl (by decide) rfl (fun ls hl => ?_)
        refine lv_iload hx hb dX6_expects_49 (lv_at hl 0 rfl) ?_
        refine lv_iload_n hx hb dX6_expects_51 rfl (lv_at hl 5 rfl) ?_
        refine ri_cgt (tgt := 122) hx hb dX6_expects_52 (by decide) (by omega) (by omega) (fun c52 => ?_) (fun c52 => ?_)
        · exact absurd c52 (by omega)
        · refine lv_iload hx hb dX6_expects_55 (lv_at hl 1 rfl) ?_
          refine ri_zeq (tgt := 122) hx hb dX6_expects_57 (by decide) (by omega) (fun c57 => ?_) (fun c57 => ?_)
          · refine lv_iload_n hx hb dX6_expects_122 rfl (lv_at hl 4 rfl) ?_
            refine lv_iconst (v := nI 2) hx hb dX6_expects_123 (by decide) ?_
            refine ri_cne (tgt := 137) hx hb dX6_expects_124 (by decide) (by omega) (by omega) (fun c124 => ?_) (fun c124 => ?_)
            · refine lv_lconst (v := lN 0) hx hb dX6_expects_137 rfl ?_
              refine lv_lstore (lv' := [(7, .long (lN 0)), (6, .int (nI 0)), (4, .long (lN 0)), (0, .ref m0), (1, .int (nI wh)), (2, .int (nI i)), (3, .int (nI j))]) hx hb dX6_expects_138 hl (by decide) rfl (fun ls hl => ?_)
              refine lv_aload_n hx hb dX6_expects_140 rfl (lv_at hl 3 rfl) ?_
              refine va_get (D := (dC, dI)) (ci := 6) (v := .ref m9) (C := RX6) (T := TX6) (N := 24) hx hb hts inlX6 hown hK hP 0 rfl rfl 15 (by decide) (hts _ qf_X6_39) (fun _ h9 => h9) rfl dX6_expects_141 ?_
              refine lv_iload_n hx hb dX6_expects_144 rfl (lv_at hl 5 rfl) ?_
              refine lv_iload_n hx hb dX6_expects_145 rfl (lv_at hl 6 rfl) ?_
              refine kSi (As := [.int (nI i), .int (nI j)]) (rest := [.ref m9]) Y m_X6_at (c_X6_at l dC dI i j ) qm_X6_138 (kpS hK hP hZ hS [] [] rfl rfl) rfl hl.1 rfl (Nat.le_of_ble_eq_true rfl) dX6_expects_146 ⟨Nat.le_of_ble_eq_true rfl, Nat.le_of_ble_eq_true rfl⟩ ⟨Nat.zero_le _, Nat.zero_le _⟩ (fun r146 hr146 => ?_)
              obtain rfl : r146 = nI (4 * i + j) := hr146
              refine lv_iload hx hb dX6_expects_149 (lv_at hl 1 rfl) ?_
              refine ri_zeq (tgt := 174) hx hb dX6_expects_151 (by decide) (by omega) (fun c151 => ?_) (fun c151 => ?_)
              · refine lv_lload hx hb dX6_expects_174 (lv_at hl 0 rfl) ?_
                refine rl_set (x' := lN (EX P wh (P 0 + 1 - i) j)) (congrArg lN (by rw [EX_z (by omega), if_neg (by omega)])) ?_
                refine rl_ast hx hb hK hP hD hS 4 1 (F := x3) rfl rfl dX6_expects_176 (by decide) (by omega) (fun H locs hP hD hS => ?_)
                have hP : va_P (dC, dI) vwCl [(m0, .inr (6, [.ref m1, .ref m2, .int (nI bm), .long un, .ref m3, .int (nI ty), .ref m4, .int (nI sp), .int (nI fa), .int (nI fp), .int (nI kn), .ref m5, .ref m6, .ref m7, .ref m8, .ref m9, .int dr, .ref m10, .ref m11, .int (nI lf), .int (nI yo), .int (nI ol), .ref m12, .long hh])), (m1, .inl (cI, 22, .inl (fun zz => nI (P zz)))), (m5, .inl (cL, 72, .inr (.inl (fun zz => lN (ww zz))))), (m6, .inl (cL, 40, .inr (.inl (fun zz => lN (rv zz))))), (m9, .inl (cL, 40, .inr (.inl (updL x3 (4 * i + j) (lN (EX P wh (P 0 + 1 - i) j))))))] H := hP
                have hD : va_D A [(m0, .inr (6, [.ref m1, .ref m2, .int (nI bm), .long un, .ref m3, .int (nI ty), .ref m4, .int (nI sp), .int (nI fa), .int (nI fp), .int (nI kn), .ref m5, .ref m6, .ref m7, .ref m8, .ref m9, .int dr, .ref m10, .ref m11, .int (nI lf), .int (nI yo), .int (nI ol), .ref m12, .long hh])), (m1, .inl (cI, 22, .inl (fun zz => nI (P zz)))), (m5, .inl (cL, 72, .inr (.inl (fun zz => lN (ww zz))))), (m6, .inl (cL, 40, .inr (.inl (fun zz => lN (rv zz))))), (m9, .inl (cL, 40, .inr (.inl (updL x3 (4 * i + j) (lN (EX P wh (P 0 + 1 - i) j))))))] := hD
                refine lv_iinc (v := nI (j + 1)) (lv' := [(3, .int (nI (j + 1))), (7, .long (lN 0)), (6, .int (nI 0)), (4, .long (lN 0)), (0, .ref m0), (1, .int (nI wh)), (2, .int (nI i))]) hx hb dX6_expects_177 hl (k := 6) rfl (inc1 _) (by decide) rfl (fun ls hl => ?_)
                refine lv_goto (tgt := 13) hx hb dX6_expects_180 (by decide) ?_
                exact ih13 (j + 1) (updL x3 (4 * i + j) (lN (EX P wh (P 0 + 1 - i) j))) _ _ _ (by show _ < _; omega) (by exact ⟨lv_sub hl [4, 5, 6, 0] rfl, hP.sub [0, 1, 2, 3, 4] rfl, hD.sub [0, 1, 2, 3, 4] (by decide) rfl, hS, by omega, MX_put hX3 (by omega) (by omega) rfl⟩)
              · exact absurd c151 (by decide)
            · refine lv_iload_n hx hb dX6_expects_127 rfl (lv_at hl 6 rfl) ?_
              refine ri_zne (tgt := 137) hx hb dX6_expects_128 (by decide) (by omega) (fun c128 => ?_) (fun c128 => ?_)
              · refine lv_lconst (v := lN 0) hx hb dX6_expects_137 rfl ?_
                refine lv_lstore (lv' := [(7, .long (lN 0)), (6, .int (nI 0)), (4, .long (lN 0)), (0, .ref m0), (1, .int (nI wh)), (2, .int (nI i)), (3, .int (nI j))]) hx hb dX6_expects_138 hl (by decide) rfl (fun ls hl => ?_)
                refine lv_aload_n hx hb dX6_expects_140 rfl (lv_at hl 3 rfl) ?_
                refine va_get (D := (dC, dI)) (ci := 6) (v := .ref m9) (C := RX6) (T := TX6) (N := 24) hx hb hts inlX6 hown hK hP 0 rfl rfl 15 (by decide) (hts _ qf_X6_39) (fun _ h9 => h9) rfl dX6_expects_141 ?_
                refine lv_iload_n hx hb dX6_expects_144 rfl (lv_at hl 5 rfl) ?_
                refine lv_iload_n hx hb dX6_expects_145 rfl (lv_at hl 6 rfl) ?_
                refine kSi (As := [.int (nI i), .int (nI j)]) (rest := [.ref m9]) Y m_X6_at (c_X6_at l dC dI i j ) qm_X6_138 (kpS hK hP hZ hS [] [] rfl rfl) rfl hl.1 rfl (Nat.le_of_ble_eq_true rfl) dX6_expects_146 ⟨Nat.le_of_ble_eq_true rfl, Nat.le_of_ble_eq_true rfl⟩ ⟨Nat.zero_le _, Nat.zero_le _⟩ (fun r146 hr146 => ?_)
                obtain rfl : r146 = nI (4 * i + j) := hr146
                refine lv_iload hx hb dX6_expects_149 (lv_at hl 1 rfl) ?_
                refine ri_zeq (tgt := 174) hx hb dX6_expects_151 (by decide) (by omega) (fun c151 => ?_) (fun c151 => ?_)
                · refine lv_lload hx hb dX6_expects_174 (lv_at hl 0 rfl) ?_
                  refine rl_set (x' := lN (EX P wh (P 0 + 1 - i) j)) (congrArg lN (by rw [EX_z (by omega), if_neg (by omega)])) ?_
                  refine rl_ast hx hb hK hP hD hS 4 1 (F := x3) rfl rfl dX6_expects_176 (by decide) (by omega) (fun H locs hP hD hS => ?_)
                  have hP : va_P (dC, dI) vwCl [(m0, .inr (6, [.ref m1, .ref m2, .int (nI bm), .long un, .ref m3, .int (nI ty), .ref m4, .int (nI sp), .int (nI fa), .int (nI fp), .int (nI kn), .ref m5, .ref m6, .ref m7, .ref m8, .ref m9, .int dr, .ref m10, .ref m11, .int (nI lf), .int (nI yo), .int (nI ol), .ref m12, .long hh])), (m1, .inl (cI, 22, .inl (fun zz => nI (P zz)))), (m5, .inl (cL, 72, .inr (.inl (fun zz => lN (ww zz))))), (m6, .inl (cL, 40, .inr (.inl (fun zz => lN (rv zz))))), (m9, .inl (cL, 40, .inr (.inl (updL x3 (4 * i + j) (lN (EX P wh (P 0 + 1 - i) j))))))] H := hP
                  have hD : va_D A [(m0, .inr (6, [.ref m1, .ref m2, .int (nI bm), .long un, .ref m3, .int (nI ty), .ref m4, .int (nI sp), .int (nI fa), .int (nI fp), .int (nI kn), .ref m5, .ref m6, .ref m7, .ref m8, .ref m9, .int dr, .ref m10, .ref m11, .int (nI lf), .int (nI yo), .int (nI ol), .ref m12, .long hh])), (m1, .inl (cI, 22, .inl (fun zz => nI (P zz)))), (m5, .inl (cL, 72, .inr (.inl (fun zz => lN (ww zz))))), (m6, .inl (cL, 40, .inr (.inl (fun zz => lN (rv zz))))), (m9, .inl (cL, 40, .inr (.inl (updL x3 (4 * i + j) (lN (EX P wh (P 0 + 1 - i) j))))))] := hD
                  refine lv_iinc (v := nI (j + 1)) (lv' := [(3, .int (nI (j + 1))), (7, .long (lN 0)), (6, .int (nI 0)), (4, .long (lN 0)), (0, .ref m0), (1, .int (nI wh)), (2, .int (nI i))]) hx hb dX6_expects_177 hl (k := 6) rfl (inc1 _) (by decide) rfl (fun ls hl => ?_)
                  refine lv_goto (tgt := 13) hx hb dX6_expects_180 (by decide) ?_
                  exact ih13 (j + 1) (updL x3 (4 * i + j) (lN (EX P wh (P 0 + 1 - i) j))) _ _ _ (by show _ < _; omega) (by exact ⟨lv_sub hl [4, 5, 6, 0] rfl, hP.sub [0, 1, 2, 3, 4] rfl, hD.sub [0, 1, 2, 3, 4] (by decide) rfl, hS, by omega, MX_put hX3 (by omega) (by omega) rfl⟩)
                · exact absurd c151 (by decide)
              · refine lv_ldc2 (v := lN 5040) hx hb hown (hts _ ql_X6_130) dX6_expects_131 ?_
                refine lv_goto (tgt := 138) hx hb dX6_expects_134 (by decide) ?_
                refine lv_lstore (lv' := [(7, .long (lN 5040)), (6, .int (nI 0)), (4, .long (lN 0)), (0, .ref m0), (1, .int (nI wh)), (2, .int (nI i)), (3, .int (nI j))]) hx hb dX6_expects_138 hl (by decide) rfl (fun ls hl => ?_)
                refine lv_aload_n hx hb dX6_expects_140 rfl (lv_at hl 3 rfl) ?_
                refine va_get (D := (dC, dI)) (ci := 6) (v := .ref m9) (C := RX6) (T := TX6) (N := 24) hx hb hts inlX6 hown hK hP 0 rfl rfl 15 (by decide) (hts _ qf_X6_39) (fun _ h9 => h9) rfl dX6_expects_141 ?_
                refine lv_iload_n hx hb dX6_expects_144 rfl (lv_at hl 5 rfl) ?_
                refine lv_iload_n hx hb dX6_expects_145 rfl (lv_at hl 6 rfl) ?_
                refine kSi (As := [.int (nI i), .int (nI j)]) (rest := [.ref m9]) Y m_X6_at (c_X6_at l dC dI i j ) qm_X6_138 (kpS hK hP hZ hS [] [] rfl rfl) rfl hl.1 rfl (Nat.le_of_ble_eq_true rfl) dX6_expects_146 ⟨Nat.le_of_ble_eq_true rfl, Nat.le_of_ble_eq_true rfl⟩ ⟨Nat.zero_le _, Nat.zero_le _⟩ (fun r146 hr146 => ?_)
                obtain rfl : r146 = nI (4 * i + j) := hr146
                refine lv_iload hx hb dX6_expects_149 (lv_at hl 1 rfl) ?_
                refine ri_zeq (tgt := 174) hx hb dX6_expects_151 (by decide) (by omega) (fun c151 => ?_) (fun c151 => ?_)
                · refine lv_lload hx hb dX6_expects_174 (lv_at hl 0 rfl) ?_
                  refine rl_set (x' := lN (EX P wh (P 0 + 1 - i) j)) (congrArg lN (by rw [EX_z (by omega), if_pos (by omega)])) ?_
                  refine rl_ast hx hb hK hP hD hS 4 1 (F := x3) rfl rfl dX6_expects_176 (by decide) (by omega) (fun H locs hP hD hS => ?_)
                  have hP : va_P (dC, dI) vwCl [(m0, .inr (6, [.ref m1, .ref m2, .int (nI bm), .long un, .ref m3, .int (nI ty), .ref m4, .int (nI sp), .int (nI fa), .int (nI fp), .int (nI kn), .ref m5, .ref m6, .ref m7, .ref m8, .ref m9, .int dr, .ref m10, .ref m11, .int (nI lf), .int (nI yo), .int (nI ol), .ref m12, .long hh])), (m1, .inl (cI, 22, .inl (fun zz => nI (P zz)))), (m5, .inl (cL, 72, .inr (.inl (fun zz => lN (ww zz))))), (m6, .inl (cL, 40, .inr (.inl (fun zz => lN (rv zz))))), (m9, .inl (cL, 40, .inr (.inl (updL x3 (4 * i + j) (lN (EX P wh (P 0 + 1 - i) j))))))] H := hP
                  have hD : va_D A [(m0, .inr (6, [.ref m1, .ref m2, .int (nI bm), .long un, .ref m3, .int (nI ty), .ref m4, .int (nI sp), .int (nI fa), .int (nI fp), .int (nI kn), .ref m5, .ref m6, .ref m7, .ref m8, .ref m9, .int dr, .ref m10, .ref m11, .int (nI lf), .int (nI yo), .int (nI ol), .ref m12, .long hh])), (m1, .inl (cI, 22, .inl (fun zz => nI (P zz)))), (m5, .inl (cL, 72, .inr (.inl (fun zz => lN (ww zz))))), (m6, .inl (cL, 40, .inr (.inl (fun zz => lN (rv zz))))), (m9, .inl (cL, 40, .inr (.inl (updL x3 (4 * i + j) (lN (EX P wh (P 0 + 1 - i) j))))))] := hD
                  refine lv_iinc (v := nI (j + 1)) (lv' := [(3, .int (nI (j + 1))), (7, .long (lN 5040)), (6, .int (nI 0)), (4, .long (lN 0)), (0, .ref m0), (1, .int (nI wh)), (2, .int (nI i))]) hx hb dX6_expects_177 hl (k := 6) rfl (inc1 _) (by decide) rfl (fun ls hl => ?_)
                  refine lv_goto (tgt := 13) hx hb dX6_expects_180 (by decide) ?_
                  exact ih13 (j + 1) (updL x3 (4 * i + j) (lN (EX P wh (P 0 + 1 - i) j))) _ _ _ (by show _ < _; omega) (by exact ⟨lv_sub hl [4, 5, 6, 0] rfl, hP.sub [0, 1, 2, 3, 4] rfl, hD.sub [0, 1, 2, 3, 4] (by decide) rfl, hS, by omega, MX_put hX3 (by omega) (by omega) rfl⟩)
                · exact absurd c151 (by decide)
          · exact absurd c57 (by decide)
      · refine lv_iconst (v := nI 1) hx hb dX6_expects_39 (by decide) ?_
        refine lv_goto (tgt := 44) hx hb dX6_expects_40 (by decide) ?_
        refine lv_istore (lv' := [(6, .int (nI 1)), (4, .long (lN 0)), (0, .ref m0), (1, .int (nI wh)), (2, .int (nI i)), (3, .int (nI j))]) hx hb dX6_expects_44 hl (by decide) rfl (fun ls hl => ?_)
        have hv9 : VR P (P 0 + 1 - i) j ≠ 0 := by omega
        have hj9 := VR_j1 hv9
        have hi9 := VR_i1 hv9
        refine lv_iconst (v := nI 1) hx hb dX6_expects_46 (by decide) ?_
        refine lv_istore (lv' := [(7, .int (nI 1)), (6, .int (nI 1)), (4, .long (lN 0)), (0, .ref m0), (1, .int (nI wh)), (2, .int (nI i)), (3, .int (nI j))]) hx hb dX6_expects_47 hl (by decide) rfl (fun ls hl => ?_)
        refine wl2 (fun (r : Nat) (sm : Nat) => i + 1 - r) (fun (r : Nat) (sm : Nat) (ls : Array Slot) (H : Heap) (locs : List Loc) => lv_has ls 9 [(0, .ref m0), (1, .int (nI wh)), (2, .int (nI i)), (3, .int (nI j)), (4, .long (lN sm)), (6, .int (nI 1)), (7, .int (nI r))] ∧ va_P (dC, dI) vwCl [(m0, .inr (6, [.ref m1, .ref m2, .int (nI bm), .long un, .ref m3, .int (nI ty), .ref m4, .int (nI sp), .int (nI fa), .int (nI fp), .int (nI kn), .ref m5, .ref m6, .ref m7, .ref m8, .ref m9, .int dr, .ref m10, .ref m11, .int (nI lf), .int (nI yo), .int (nI ol), .ref m12, .long hh])), (m1, .inl (cI, 22, .inl (fun zz => nI (P zz)))), (m5, .inl (cL, 72, .inr (.inl (fun zz => lN (ww zz))))), (m6, .inl (cL, 40, .inr (.inl (fun zz => lN (rv zz))))), (m9, .inl (cL, 40, .inr (.inl x3)))] H ∧ va_D A [(m0, .inr (6, [.ref m1, .ref m2, .int (nI bm), .long un, .ref m3, .int (nI ty), .ref m4, .int (nI sp), .int (nI fa), .int (nI fp), .int (nI kn), .ref m5, .ref m6, .ref m7, .ref m8, .ref m9, .int dr, .ref m10, .ref m11, .int (nI lf), .int (nI yo), .int (nI ol), .ref m12, .long hh])), (m1, .inl (cI, 22, .inl (fun zz => nI (P zz)))), (m5, .inl (cL, 72, .inr (.inl (fun zz => lN (ww zz))))), (m6, .inl (cL, 40, .inr (.inl (fun zz => lN (rv zz))))), (m9, .inl (cL, 40, .inr (.inl x3)))] ∧ va_S A s.heap H locs ∧ (1 ≤ r ∧ r ≤ i + 1 ∧ sm = smN (EMi P wh i j) (r - 1))) 1 0 (by exact ⟨lv_sub hl [3, 4, 5, 6, 2, 1, 0] rfl, hP.sub [0, 1, 2, 3, 4] rfl, hD.sub [0, 1, 2, 3, 4] (by decide) rfl, hS, by omega, by omega, rfl⟩) (fun r sm ls H locs hI ih => ?_)
        obtain ⟨hl, hP, hD, hS, hr1, hr2, hsm⟩ := hI
        have ih49 := ih
        refine lv_iload hx hb dX6_expects_49 (lv_at hl 6 rfl) ?_
        refine lv_iload_n hx hb dX6_expects_51 rfl (lv_at hl 2 rfl) ?_
        refine ri_cgt (tgt := 122) hx hb dX6_expects_52 (by decide) (by omega) (by omega) (fun c52 => ?_) (fun c52 => ?_)
        · have hs9 : sm = smN (EMi P wh i j) i := by rw [hsm, show r - 1 = i by omega]
          have hse := EMi_le hPI (wh := wh) (i := i) (j := j) (by omega) hi9 (by omega)
          rw [← hs9] at hse
          refine lv_iload_n hx hb dX6_expects_122 rfl (lv_at hl 1 rfl) ?_
          refine lv_iconst (v := nI 2) hx hb dX6_expects_123 (by decide) ?_
          refine ri_cne (tgt := 137) hx hb dX6_expects_124 (by decide) (by omega) (by omega) (fun c124 => ?_) (fun c124 => ?_)
          · refine lv_lconst (v := lN 0) hx hb dX6_expects_137 rfl ?_
            refine lv_lstore (lv' := [(7, .long (lN 0)), (0, .ref m0), (1, .int (nI wh)), (2, .int (nI i)), (3, .int (nI j)), (4, .long (lN sm)), (6, .int (nI 1))]) hx hb dX6_expects_138 hl (by decide) rfl (fun ls hl => ?_)
            refine lv_aload_n hx hb dX6_expects_140 rfl (lv_at hl 1 rfl) ?_
            refine va_get (D := (dC, dI)) (ci := 6) (v := .ref m9) (C := RX6) (T := TX6) (N := 24) hx hb hts inlX6 hown hK hP 0 rfl rfl 15 (by decide) (hts _ qf_X6_39) (fun _ h9 => h9) rfl dX6_expects_141 ?_
            refine lv_iload_n hx hb dX6_expects_144 rfl (lv_at hl 3 rfl) ?_
            refine lv_iload_n hx hb dX6_expects_145 rfl (lv_at hl 4 rfl) ?_
            refine kSi (As := [.int (nI i), .int (nI j)]) (rest := [.ref m9]) Y m_X6_at (c_X6_at l dC dI i j ) qm_X6_138 (kpS hK hP hZ hS [] [] rfl rfl) rfl hl.1 rfl (Nat.le_of_ble_eq_true rfl) dX6_expects_146 ⟨Nat.le_of_ble_eq_true rfl, Nat.le_of_ble_eq_true rfl⟩ ⟨Nat.zero_le _, Nat.zero_le _⟩ (fun r146 hr146 => ?_)
            obtain rfl : r146 = nI (4 * i + j) := hr146
            refine lv_iload hx hb dX6_expects_149 (lv_at hl 6 rfl) ?_
            refine ri_zeq (tgt := 174) hx hb dX6_expects_151 (by decide) (by omega) (fun c151 => ?_) (fun c151 => ?_)
            · exact absurd c151 (by decide)
            · refine lv_lload hx hb dX6_expects_154 (lv_at hl 5 rfl) ?_
              refine lv_iload_n hx hb dX6_expects_156 rfl (lv_at hl 3 rfl) ?_
              refine ri_i2l hx hb dX6_expects_157 (by omega) ?_
              refine rl_divn hx hb dX6_expects_158 (by omega) (by omega) (by omega) ?_
              refine lv_iload_n hx hb dX6_expects_159 rfl (lv_at hl 2 rfl) ?_
              refine ri_zne (tgt := 169) hx hb dX6_expects_160 (by decide) (by omega) (fun c160 => ?_) (fun c160 => ?_)
              · refine lv_lconst (v := lN 0) hx hb dX6_expects_169 rfl ?_
                refine rl_addn hx hb dX6_expects_170 ?_
                refine lv_goto (tgt := 176) hx hb dX6_expects_171 (by decide) ?_
                refine rl_set (x' := lN (EX P wh (P 0 + 1 - i) j)) (congrArg lN (by rw [EXi_s (by omega) hi9 hv9, ← hs9, if_neg c160])) ?_
                refine rl_ast hx hb hK hP hD hS 4 1 (F := x3) rfl rfl dX6_expects_176 (by decide) (by omega) (fun H locs hP hD hS => ?_)
                have hP : va_P (dC, dI) vwCl [(m0, .inr (6, [.ref m1, .ref m2, .int (nI bm), .long un, .ref m3, .int (nI ty), .ref m4, .int (nI sp), .int (nI fa), .int (nI fp), .int (nI kn), .ref m5, .ref m6, .ref m7, .ref m8, .ref m9, .int dr, .ref m10, .ref m11, .int (nI lf), .int (nI yo), .int (nI ol), .ref m12, .long hh])), (m1, .inl (cI, 22, .inl (fun zz => nI (P zz)))), (m5, .inl (cL, 72, .inr (.inl (fun zz => lN (ww zz))))), (m6, .inl (cL, 40, .inr (.inl (fun zz => lN (rv zz))))), (m9, .inl (cL, 40, .inr (.inl (updL x3 (4 * i + j) (lN (EX P wh (P 0 + 1 - i) j))))))] H := hP
                have hD : va_D A [(m0, .inr (6, [.ref m1, .ref m2, .int (nI bm), .long un, .ref m3, .int (nI ty), .ref m4, .int (nI sp), .int (nI fa), .int (nI fp), .int (nI kn), .ref m5, .ref m6, .ref m7, .ref m8, .ref m9, .int dr, .ref m10, .ref m11, .int (nI lf), .int (nI yo), .int (nI ol), .ref m12, .long hh])), (m1, .inl (cI, 22, .inl (fun zz => nI (P zz)))), (m5, .inl (cL, 72, .inr (.inl (fun zz => lN (ww zz))))), (m6, .inl (cL, 40, .inr (.inl (fun zz => lN (rv zz))))), (m9, .inl (cL, 40, .inr (.inl (updL x3 (4 * i + j) (lN (EX P wh (P 0 + 1 - i) j))))))] := hD
                refine lv_iinc (v := nI (j + 1)) (lv' := [(3, .int (nI (j + 1))), (7, .long (lN 0)), (0, .ref m0), (1, .int (nI wh)), (2, .int (nI i)), (4, .long (lN sm)), (6, .int (nI 1))]) hx hb dX6_expects_177 hl (k := 4) rfl (inc1 _) (by decide) rfl (fun ls hl => ?_)
                refine lv_goto (tgt := 13) hx hb dX6_expects_180 (by decide) ?_
                exact ih13 (j + 1) (updL x3 (4 * i + j) (lN (EX P wh (P 0 + 1 - i) j))) _ _ _ (by show _ < _; omega) (by exact ⟨lv_sub hl [2, 3, 4, 0] rfl, hP.sub [0, 1, 2, 3, 4] rfl, hD.sub [0, 1, 2, 3, 4] (by decide) rfl, hS, by omega, MX_put hX3 (by omega) (by omega) rfl⟩)
              · refine lv_ldc2 (v := lN 5040) hx hb hown (hts _ ql_X6_130) dX6_expects_163 ?_
                refine lv_goto (tgt := 170) hx hb dX6_expects_166 (by decide) ?_
                refine rl_addn hx hb dX6_expects_170 ?_
                refine lv_goto (tgt := 176) hx hb dX6_expects_171 (by decide) ?_
                refine rl_set (x' := lN (EX P wh (P 0 + 1 - i) j)) (congrArg lN (by rw [EXi_s (by omega) hi9 hv9, ← hs9, if_pos c160])) ?_
                refine rl_ast hx hb hK hP hD hS 4 1 (F := x3) rfl rfl dX6_expects_176 (by decide) (by omega) (fun H locs hP hD hS => ?_)
                have hP : va_P (dC, dI) vwCl [(m0, .inr (6, [.ref m1, .ref m2, .int (nI bm), .long un, .ref m3, .int (nI ty), .ref m4, .int (nI sp), .int (nI fa), .int (nI fp), .int (nI kn), .ref m5, .ref m6, .ref m7, .ref m8, .ref m9, .int dr, .ref m10, .ref m11, .int (nI lf), .int (nI yo), .int (nI ol), .ref m12, .long hh])), (m1, .inl (cI, 22, .inl (fun zz => nI (P zz)))), (m5, .inl (cL, 72, .inr (.inl (fun zz => lN (ww zz))))), (m6, .inl (cL, 40, .inr (.inl (fun zz => lN (rv zz))))), (m9, .inl (cL, 40, .inr (.inl (updL x3 (4 * i + j) (lN (EX P wh (P 0 + 1 - i) j))))))] H := hP
                have hD : va_D A [(m0, .inr (6, [.ref m1, .ref m2, .int (nI bm), .long un, .ref m3, .int (nI ty), .ref m4, .int (nI sp), .int (nI fa), .int (nI fp), .int (nI kn), .ref m5, .ref m6, .ref m7, .ref m8, .ref m9, .int dr, .ref m10, .ref m11, .int (nI lf), .int (nI yo), .int (nI ol), .ref m12, .long hh])), (m1, .inl (cI, 22, .inl (fun zz => nI (P zz)))), (m5, .inl (cL, 72, .inr (.inl (fun zz => lN (ww zz))))), (m6, .inl (cL, 40, .inr (.inl (fun zz => lN (rv zz))))), (m9, .inl (cL, 40, .inr (.inl (updL x3 (4 * i + j) (lN (EX P wh (P 0 + 1 - i) j))))))] := hD
                refine lv_iinc (v := nI (j + 1)) (lv' := [(3, .int (nI (j + 1))), (7, .long (lN 0)), (0, .ref m0), (1, .int (nI wh)), (2, .int (nI i)), (4, .long (lN sm)), (6, .int (nI 1))]) hx hb dX6_expects_177 hl (k := 4) rfl (inc1 _) (by decide) rfl (fun ls hl => ?_)
                refine lv_goto (tgt := 13) hx hb dX6_expects_180 (by decide) ?_
                exact ih13 (j + 1) (updL x3 (4 * i + j) (lN (EX P wh (P 0 + 1 - i) j))) _ _ _ (by show _ < _; omega) (by exact ⟨lv_sub hl [2, 3, 4, 0] rfl, hP.sub [0, 1, 2, 3, 4] rfl, hD.sub [0, 1, 2, 3, 4] (by decide) rfl, hS, by omega, MX_put hX3 (by omega) (by omega) rfl⟩)
          · refine lv_iload_n hx hb dX6_expects_127 rfl (lv_at hl 3 rfl) ?_
            refine ri_zne (tgt := 137) hx hb dX6_expects_128 (by decide) (by omega) (fun c128 => ?_) (fun c128 => ?_)
            · refine lv_lconst (v := lN 0) hx hb dX6_expects_137 rfl ?_
              refine lv_lstore (lv' := [(7, .long (lN 0)), (0, .ref m0), (1, .int (nI wh)), (2, .int (nI i)), (3, .int (nI j)), (4, .long (lN sm)), (6, .int (nI 1))]) hx hb dX6_expects_138 hl (by decide) rfl (fun ls hl => ?_)
              refine lv_aload_n hx hb dX6_expects_140 rfl (lv_at hl 1 rfl) ?_
              refine va_get (D := (dC, dI)) (ci := 6) (v := .ref m9) (C := RX6) (T := TX6) (N := 24) hx hb hts inlX6 hown hK hP 0 rfl rfl 15 (by decide) (hts _ qf_X6_39) (fun _ h9 => h9) rfl dX6_expects_141 ?_
              refine lv_iload_n hx hb dX6_expects_144 rfl (lv_at hl 3 rfl) ?_
              refine lv_iload_n hx hb dX6_expects_145 rfl (lv_at hl 4 rfl) ?_
              refine kSi (As := [.int (nI i), .int (nI j)]) (rest := [.ref m9]) Y m_X6_at (c_X6_at l dC dI i j ) qm_X6_138 (kpS hK hP hZ hS [] [] rfl rfl) rfl hl.1 rfl (Nat.le_of_ble_eq_true rfl) dX6_expects_146 ⟨Nat.le_of_ble_eq_true rfl, Nat.le_of_ble_eq_true rfl⟩ ⟨Nat.zero_le _, Nat.zero_le _⟩ (fun r146 hr146 => ?_)
              obtain rfl : r146 = nI (4 * i + j) := hr146
              refine lv_iload hx hb dX6_expects_149 (lv_at hl 6 rfl) ?_
              refine ri_zeq (tgt := 174) hx hb dX6_expects_151 (by decide) (by omega) (fun c151 => ?_) (fun c151 => ?_)
              · exact absurd c151 (by decide)
              · refine lv_lload hx hb dX6_expects_154 (lv_at hl 5 rfl) ?_
                refine lv_iload_n hx hb dX6_expects_156 rfl (lv_at hl 3 rfl) ?_
                refine ri_i2l hx hb dX6_expects_157 (by omega) ?_
                refine rl_divn hx hb dX6_expects_158 (by omega) (by omega) (by omega) ?_
                refine lv_iload_n hx hb dX6_expects_159 rfl (lv_at hl 2 rfl) ?_
                refine ri_zne (tgt := 169) hx hb dX6_expects_160 (by decide) (by omega) (fun c160 => ?_) (fun c160 => ?_)
                · refine lv_lconst (v := lN 0) hx hb dX6_expects_169 rfl ?_
                  refine rl_addn hx hb dX6_expects_170 ?_
                  refine lv_goto (tgt := 176) hx hb dX6_expects_171 (by decide) ?_
                  refine rl_set (x' := lN (EX P wh (P 0 + 1 - i) j)) (congrArg lN (by rw [EXi_s (by omega) hi9 hv9, ← hs9, if_neg c160])) ?_
                  refine rl_ast hx hb hK hP hD hS 4 1 (F := x3) rfl rfl dX6_expects_176 (by decide) (by omega) (fun H locs hP hD hS => ?_)
                  have hP : va_P (dC, dI) vwCl [(m0, .inr (6, [.ref m1, .ref m2, .int (nI bm), .long un, .ref m3, .int (nI ty), .ref m4, .int (nI sp), .int (nI fa), .int (nI fp), .int (nI kn), .ref m5, .ref m6, .ref m7, .ref m8, .ref m9, .int dr, .ref m10, .ref m11, .int (nI lf), .int (nI yo), .int (nI ol), .ref m12, .long hh])), (m1, .inl (cI, 22, .inl (fun zz => nI (P zz)))), (m5, .inl (cL, 72, .inr (.inl (fun zz => lN (ww zz))))), (m6, .inl (cL, 40, .inr (.inl (fun zz => lN (rv zz))))), (m9, .inl (cL, 40, .inr (.inl (updL x3 (4 * i + j) (lN (EX P wh (P 0 + 1 - i) j))))))] H := hP
                  have hD : va_D A [(m0, .inr (6, [.ref m1, .ref m2, .int (nI bm), .long un, .ref m3, .int (nI ty), .ref m4, .int (nI sp), .int (nI fa), .int (nI fp), .int (nI kn), .ref m5, .ref m6, .ref m7, .ref m8, .ref m9, .int dr, .ref m10, .ref m11, .int (nI lf), .int (nI yo), .int (nI ol), .ref m12, .long hh])), (m1, .inl (cI, 22, .inl (fun zz => nI (P zz)))), (m5, .inl (cL, 72, .inr (.inl (fun zz => lN (ww zz))))), (m6, .inl (cL, 40, .inr (.inl (fun zz => lN (rv zz))))), (m9, .inl (cL, 40, .inr (.inl (updL x3 (4 * i + j) (lN (EX P wh (P 0 + 1 - i) j))))))] := hD
                  refine lv_iinc (v := nI (j + 1)) (lv' := [(3, .int (nI (j + 1))), (7, .long (lN 0)), (0, .ref m0), (1, .int (nI wh)), (2, .int (nI i)), (4, .long (lN sm)), (6, .int (nI 1))]) hx hb dX6_expects_177 hl (k := 4) rfl (inc1 _) (by decide) rfl (fun ls hl => ?_)
                  refine lv_goto (tgt := 13) hx hb dX6_expects_180 (by decide) ?_
                  exact ih13 (j + 1) (updL x3 (4 * i + j) (lN (EX P wh (P 0 + 1 - i) j))) _ _ _ (by show _ < _; omega) (by exact ⟨lv_sub hl [2, 3, 4, 0] rfl, hP.sub [0, 1, 2, 3, 4] rfl, hD.sub [0, 1, 2, 3, 4] (by decide) rfl, hS, by omega, MX_put hX3 (by omega) (by omega) rfl⟩)
                · refine lv_ldc2 (v := lN 5040) hx hb hown (hts _ ql_X6_130) dX6_expects_163 ?_
                  refine lv_goto (tgt := 170) hx hb dX6_expects_166 (by decide) ?_
                  refine rl_addn hx hb dX6_expects_170 ?_
                  refine lv_goto (tgt := 176) hx hb dX6_expects_171 (by decide) ?_
                  refine rl_set (x' := lN (EX P wh (P 0 + 1 - i) j)) (congrArg lN (by rw [EXi_s (by omega) hi9 hv9, ← hs9, if_pos c160])) ?_
                  refine rl_ast hx hb hK hP hD hS 4 1 (F := x3) rfl rfl dX6_expects_176 (by decide) (by omega) (fun H locs hP hD hS => ?_)
                  have hP : va_P (dC, dI) vwCl [(m0, .inr (6, [.ref m1, .ref m2, .int (nI bm), .long un, .ref m3, .int (nI ty), .ref m4, .int (nI sp), .int (nI fa), .int (nI fp), .int (nI kn), .ref m5, .ref m6, .ref m7, .ref m8, .ref m9, .int dr, .ref m10, .ref m11, .int (nI lf), .int (nI yo), .int (nI ol), .ref m12, .long hh])), (m1, .inl (cI, 22, .inl (fun zz => nI (P zz)))), (m5, .inl (cL, 72, .inr (.inl (fun zz => lN (ww zz))))), (m6, .inl (cL, 40, .inr (.inl (fun zz => lN (rv zz))))), (m9, .inl (cL, 40, .inr (.inl (updL x3 (4 * i + j) (lN (EX P wh (P 0 + 1 - i) j))))))] H := hP
                  have hD : va_D A [(m0, .inr (6, [.ref m1, .ref m2, .int (nI bm), .long un, .ref m3, .int (nI ty), .ref m4, .int (nI sp), .int (nI fa), .int (nI fp), .int (nI kn), .ref m5, .ref m6, .ref m7, .ref m8, .ref m9, .int dr, .ref m10, .ref m11, .int (nI lf), .int (nI yo), .int (nI ol), .ref m12, .long hh])), (m1, .inl (cI, 22, .inl (fun zz => nI (P zz)))), (m5, .inl (cL, 72, .inr (.inl (fun zz => lN (ww zz))))), (m6, .inl (cL, 40, .inr (.inl (fun zz => lN (rv zz))))), (m9, .inl (cL, 40, .inr (.inl (updL x3 (4 * i + j) (lN (EX P wh (P 0 + 1 - i) j))))))] := hD
                  refine lv_iinc (v := nI (j + 1)) (lv' := [(3, .int (nI (j + 1))), (7, .long (lN 0)), (0, .ref m0), (1, .int (nI wh)), (2, .int (nI i)), (4, .long (lN sm)), (6, .int (nI 1))]) hx hb dX6_expects_177 hl (k := 4) rfl (inc1 _) (by decide) rfl (fun ls hl => ?_)
                  refine lv_goto (tgt := 13) hx hb dX6_expects_180 (by decide) ?_
                  exact ih13 (j + 1) (updL x3 (4 * i + j) (lN (EX P wh (P 0 + 1 - i) j))) _ _ _ (by show _ < _; omega) (by exact ⟨lv_sub hl [2, 3, 4, 0] rfl, hP.sub [0, 1, 2, 3, 4] rfl, hD.sub [0, 1, 2, 3, 4] (by decide) rfl, hS, by omega, MX_put hX3 (by omega) (by omega) rfl⟩)
            · refine lv_ldc2 (v := lN 5040) hx hb hown (hts _ ql_X6_130) dX6_expects_131 ?_
              refine lv_goto (tgt := 138) hx hb dX6_expects_134 (by decide) ?_
              refine lv_lstore (lv' := [(7, .long (lN 5040)), (0, .ref m0), (1, .int (nI wh)), (2, .int (nI i)), (3, .int (nI j)), (4, .long (lN sm)), (6, .int (nI 1))]) hx hb dX6_expects_138 hl (by decide) rfl (fun ls hl => ?_)
              refine lv_aload_n hx hb dX6_expects_140 rfl (lv_at hl 1 rfl) ?_
              refine va_get (D := (dC, dI)) (ci := 6) (v := .ref m9) (C := RX6) (T := TX6) (N := 24) hx hb hts inlX6 hown hK hP 0 rfl rfl 15 (by decide) (hts _ qf_X6_39) (fun _ h9 => h9) rfl dX6_expects_141 ?_
              refine lv_iload_n hx hb dX6_expects_144 rfl (lv_at hl 3 rfl) ?_
              refine lv_iload_n hx hb dX6_expects_145 rfl (lv_at hl 4 rfl) ?_
              refine kSi (As := [.int (nI i), .int (nI j)]) (rest := [.ref m9]) Y m_X6_at (c_X6_at l dC dI i j ) qm_X6_138 (kpS hK hP hZ hS [] [] rfl rfl) rfl hl.1 rfl (Nat.le_of_ble_eq_true rfl) dX6_expects_146 ⟨Nat.le_of_ble_eq_true rfl, Nat.le_of_ble_eq_true rfl⟩ ⟨Nat.zero_le _, Nat.zero_le _⟩ (fun r146 hr146 => ?_)
              obtain rfl : r146 = nI (4 * i + j) := hr146
              refine lv_iload hx hb dX6_expects_149 (lv_at hl 6 rfl) ?_
              refine ri_zeq (tgt := 174) hx hb dX6_expects_151 (by decide) (by omega) (fun c151 => ?_) (fun c151 => ?_)
              · exact absurd c151 (by decide)
              · refine lv_lload hx hb dX6_expects_154 (lv_at hl 5 rfl) ?_
                refine lv_iload_n hx hb dX6_expects_156 rfl (lv_at hl 3 rfl) ?_
                refine ri_i2l hx hb dX6_expects_157 (by omega) ?_
                refine rl_divn hx hb dX6_expects_158 (by omega) (by omega) (by omega) ?_
                refine lv_iload_n hx hb dX6_expects_159 rfl (lv_at hl 2 rfl) ?_
                refine ri_zne (tgt := 169) hx hb dX6_expects_160 (by decide) (by omega) (fun c160 => ?_) (fun c160 => ?_)
                · refine lv_lconst (v := lN 0) hx hb dX6_expects_169 rfl ?_
                  refine rl_addn hx hb dX6_expects_170 ?_
                  refine lv_goto (tgt := 176) hx hb dX6_expects_171 (by decide) ?_
                  refine rl_set (x' := lN (EX P wh (P 0 + 1 - i) j)) (congrArg lN (by rw [EXi_s (by omega) hi9 hv9, ← hs9, if_neg c160])) ?_
                  refine rl_ast hx hb hK hP hD hS 4 1 (F := x3) rfl rfl dX6_expects_176 (by decide) (by omega) (fun H locs hP hD hS => ?_)
                  have hP : va_P (dC, dI) vwCl [(m0, .inr (6, [.ref m1, .ref m2, .int (nI bm), .long un, .ref m3, .int (nI ty), .ref m4, .int (nI sp), .int (nI fa), .int (nI fp), .int (nI kn), .ref m5, .ref m6, .ref m7, .ref m8, .ref m9, .int dr, .ref m10, .ref m11, .int (nI lf), .int (nI yo), .int (nI ol), .ref m12, .long hh])), (m1, .inl (cI, 22, .inl (fun zz => nI (P zz)))), (m5, .inl (cL, 72, .inr (.inl (fun zz => lN (ww zz))))), (m6, .inl (cL, 40, .inr (.inl (fun zz => lN (rv zz))))), (m9, .inl (cL, 40, .inr (.inl (updL x3 (4 * i + j) (lN (EX P wh (P 0 + 1 - i) j))))))] H := hP
                  have hD : va_D A [(m0, .inr (6, [.ref m1, .ref m2, .int (nI bm), .long un, .ref m3, .int (nI ty), .ref m4, .int (nI sp), .int (nI fa), .int (nI fp), .int (nI kn), .ref m5, .ref m6, .ref m7, .ref m8, .ref m9, .int dr, .ref m10, .ref m11, .int (nI lf), .int (nI yo), .int (nI ol), .ref m12, .long hh])), (m1, .inl (cI, 22, .inl (fun zz => nI (P zz)))), (m5, .inl (cL, 72, .inr (.inl (fun zz => lN (ww zz))))), (m6, .inl (cL, 40, .inr (.inl (fun zz => lN (rv zz))))), (m9, .inl (cL, 40, .inr (.inl (updL x3 (4 * i + j) (lN (EX P wh (P 0 + 1 - i) j))))))] := hD
                  refine lv_iinc (v := nI (j + 1)) (lv' := [(3, .int (nI (j + 1))), (7, .long (lN 5040)), (0, .ref m0), (1, .int (nI wh)), (2, .int (nI i)), (4, .long (lN sm)), (6, .int (nI 1))]) hx hb dX6_expects_177 hl (k := 4) rfl (inc1 _) (by decide) rfl (fun ls hl => ?_)
                  refine lv_goto (tgt := 13) hx hb dX6_expects_180 (by decide) ?_
                  exact ih13 (j + 1) (updL x3 (4 * i + j) (lN (EX P wh (P 0 + 1 - i) j))) _ _ _ (by show _ < _; omega) (by exact ⟨lv_sub hl [2, 3, 4, 0] rfl, hP.sub [0, 1, 2, 3, 4] rfl, hD.sub [0, 1, 2, 3, 4] (by decide) rfl, hS, by omega, MX_put hX3 (by omega) (by omega) rfl⟩)
                · refine lv_ldc2 (v := lN 5040) hx hb hown (hts _ ql_X6_130) dX6_expects_163 ?_
                  refine lv_goto (tgt := 170) hx hb dX6_expects_166 (by decide) ?_
                  refine rl_addn hx hb dX6_expects_170 ?_
                  refine lv_goto (tgt := 176) hx hb dX6_expects_171 (by decide) ?_
                  refine rl_set (x' := lN (EX P wh (P 0 + 1 - i) j)) (congrArg lN (by rw [EXi_s (by omega) hi9 hv9, ← hs9, if_pos c160])) ?_
                  refine rl_ast hx hb hK hP hD hS 4 1 (F := x3) rfl rfl dX6_expects_176 (by decide) (by omega) (fun H locs hP hD hS => ?_)
                  have hP : va_P (dC, dI) vwCl [(m0, .inr (6, [.ref m1, .ref m2, .int (nI bm), .long un, .ref m3, .int (nI ty), .ref m4, .int (nI sp), .int (nI fa), .int (nI fp), .int (nI kn), .ref m5, .ref m6, .ref m7, .ref m8, .ref m9, .int dr, .ref m10, .ref m11, .int (nI lf), .int (nI yo), .int (nI ol), .ref m12, .long hh])), (m1, .inl (cI, 22, .inl (fun zz => nI (P zz)))), (m5, .inl (cL, 72, .inr (.inl (fun zz => lN (ww zz))))), (m6, .inl (cL, 40, .inr (.inl (fun zz => lN (rv zz))))), (m9, .inl (cL, 40, .inr (.inl (updL x3 (4 * i + j) (lN (EX P wh (P 0 + 1 - i) j))))))] H := hP
                  have hD : va_D A [(m0, .inr (6, [.ref m1, .ref m2, .int (nI bm), .long un, .ref m3, .int (nI ty), .ref m4, .int (nI sp), .int (nI fa), .int (nI fp), .int (nI kn), .ref m5, .ref m6, .ref m7, .ref m8, .ref m9, .int dr, .ref m10, .ref m11, .int (nI lf), .int (nI yo), .int (nI ol), .ref m12, .long hh])), (m1, .inl (cI, 22, .inl (fun zz => nI (P zz)))), (m5, .inl (cL, 72, .inr (.inl (fun zz => lN (ww zz))))), (m6, .inl (cL, 40, .inr (.inl (fun zz => lN (rv zz))))), (m9, .inl (cL, 40, .inr (.inl (updL x3 (4 * i + j) (lN (EX P wh (P 0 + 1 - i) j))))))] := hD
                  refine lv_iinc (v := nI (j + 1)) (lv' := [(3, .int (nI (j + 1))), (7, .long (lN 5040)), (0, .ref m0), (1, .int (nI wh)), (2, .int (nI i)), (4, .long (lN sm)), (6, .int (nI 1))]) hx hb dX6_expects_177 hl (k := 4) rfl (inc1 _) (by decide) rfl (fun ls hl => ?_)
                  refine lv_goto (tgt := 13) hx hb dX6_expects_180 (by decide) ?_
                  exact ih13 (j + 1) (updL x3 (4 * i + j) (lN (EX P wh (P 0 + 1 - i) j))) _ _ _ (by show _ < _; omega) (by exact ⟨lv_sub hl [2, 3, 4, 0] rfl, hP.sub [0, 1, 2, 3, 4] rfl, hD.sub [0, 1, 2, 3, 4] (by decide) rfl, hS, by omega, MX_put hX3 (by omega) (by omega) rfl⟩)
        · refine lv_iload hx hb dX6_expects_55 (lv_at hl 5 rfl) ?_
          refine ri_zeq (tgt := 122) hx hb dX6_expects_57 (by decide) (by omega) (fun c57 => ?_) (fun c57 => ?_)
          · exact absurd c57 (by decide)
          · refine lv_aload_n hx hb dX6_expects_60 rfl (lv_at hl 0 rfl) ?_
            refine lv_iload_n hx hb dX6_expects_61 rfl (lv_at hl 2 rfl) ?_
            refine lv_iload_n hx hb dX6_expects_62 rfl (lv_at hl 3 rfl) ?_
            refine lv_iload hx hb dX6_expects_63 (lv_at hl 6 rfl) ?_
            refine kVi (As := [.int (nI i), .int (nI j), .int (nI r)]) (rest := []) Y m_X6_isChosen (c_X6_isChosen l dC dI cI cL m0 m1 m2 m3 m4 m5 m6 m7 m8 m9 m10 m11 m12 bm ty sp fa fp kn lf yo ol un hh dr P ww rv i j r (by omega) (by omega) (by omega) (by omega) (by omega) (by omega) hPI hMR) qm_X6_187 (kpV (ci := 6) hK hP hZ hS [0, 1, 2, 3] [0, 1] rfl rfl 0 rfl rfl rfl) rfl hl.1 rfl (Nat.le_of_ble_eq_true rfl) dX6_expects_65 ⟨Nat.le_of_ble_eq_true rfl, Nat.le_of_ble_eq_true rfl⟩ ⟨Nat.zero_le _, Nat.zero_le _⟩ (fun r65 hr65 => ?_)
            obtain rfl : r65 = b2i (VR P (P 0 - i) j ≤ Wo P i r + VR P (P 0 - i) (j - 1)) := hr65
            refine lv_istore (lv' := [(8, .int (b2i (VR P (P 0 - i) j ≤ Wo P i r + VR P (P 0 - i) (j - 1)))), (0, .ref m0), (1, .int (nI wh)), (2, .int (nI i)), (3, .int (nI j)), (4, .long (lN sm)), (6, .int (nI 1)), (7, .int (nI r))]) hx hb dX6_expects_68 hl (by decide) rfl (fun ls hl => ?_)
            refine lv_lload hx hb dX6_expects_70 (lv_at hl 5 rfl) ?_
            refine lv_aload_n hx hb dX6_expects_72 rfl (lv_at hl 1 rfl) ?_
            refine va_get (D := (dC, dI)) (ci := 6) (v := .ref m9) (C := RX6) (T := TX6) (N := 24) hx hb hts inlX6 hown hK hP 0 rfl rfl 15 (by decide) (hts _ qf_X6_39) (fun _ h9 => h9) rfl dX6_expects_73 ?_
            refine lv_iload_n hx hb dX6_expects_76 rfl (lv_at hl 3 rfl) ?_
            refine lv_iconst (v := nI 1) hx hb dX6_expects_77 (by decide) ?_
            refine ri_add hx hb dX6_expects_78 ?_
            refine lv_iload hx hb dX6_expects_79 (lv_at hl 0 rfl) ?_
            refine ri_beq (tgt := 90) hx hb dX6_expects_81 (by decide) (fun c81 => ?_) (fun c81 => ?_)
            · refine lv_iload_n hx hb dX6_expects_90 rfl (lv_at hl 4 rfl) ?_
              refine kSi (As := [.int (nI (i + 1)), .int (nI j)]) (rest := [.ref m9, .long (lN sm)]) Y m_X6_at (c_X6_at l dC dI (i + 1) j ) qm_X6_138 (kpS hK hP hZ hS [] [] rfl rfl) rfl hl.1 rfl (Nat.le_of_ble_eq_true rfl) dX6_expects_91 ⟨Nat.le_of_ble_eq_true rfl, Nat.le_of_ble_eq_true rfl⟩ ⟨Nat.zero_le _, Nat.zero_le _⟩ (fun r91 hr91 => ?_)
              obtain rfl : r91 = nI (4 * (i + 1) + j) := hr91
              refine rl_ald hx hb hK hP 4 1 (F := x3) rfl rfl dX6_expects_94 (by decide) (by omega) ?_
              refine rl_set (x' := lN (EX P wh (P 0 - i) j)) (MX_up (T := E1 P wh) hX3 hi9 (by omega)) ?_
              refine lv_iload_n hx hb dX6_expects_95 rfl (lv_at hl 2 rfl) ?_
              refine lv_iconst (v := nI 1) hx hb dX6_expects_96 (by decide) ?_
              refine ri_cne (tgt := 111) hx hb dX6_expects_97 (by decide) (by omega) (by omega) (fun c97 => ?_) (fun c97 => ?_)
              · refine lv_lconst (v := lN 0) hx hb dX6_expects_111 rfl ?_
                refine rl_addn hx hb dX6_expects_112 ?_
                refine rl_addn hx hb dX6_expects_113 ?_
                refine lv_lstore (lv' := [(4, .long (lN (sm + ((EX P wh (P 0 - i) j) + 0)))), (8, .int (b2i (VR P (P 0 - i) j ≤ Wo P i r + VR P (P 0 - i) (j - 1)))), (0, .ref m0), (1, .int (nI wh)), (2, .int (nI i)), (3, .int (nI j)), (6, .int (nI 1)), (7, .int (nI r))]) hx hb dX6_expects_114 hl (by decide) rfl (fun ls hl => ?_)
                refine lv_iinc (v := nI (r + 1)) (lv' := [(7, .int (nI (r + 1))), (4, .long (lN (sm + ((EX P wh (P 0 - i) j) + 0)))), (8, .int (b2i (VR P (P 0 - i) j ≤ Wo P i r + VR P (P 0 - i) (j - 1)))), (0, .ref m0), (1, .int (nI wh)), (2, .int (nI i)), (3, .int (nI j)), (6, .int (nI 1))]) hx hb dX6_expects_116 hl (k := 7) rfl (inc1 _) (by decide) rfl (fun ls hl => ?_)
                refine lv_goto (tgt := 49) hx hb dX6_expects_119 (by decide) ?_
                exact ih49 (r + 1) (sm + ((EX P wh (P 0 - i) j) + 0)) _ _ _ (by show _ < _; omega) (by exact ⟨lv_sub hl [3, 4, 5, 6, 1, 7, 0] rfl, hP.sub [0, 1, 2, 3, 4] rfl, hD.sub [0, 1, 2, 3, 4] (by decide) rfl, hS, by omega, by omega, by rw [smN_n hr1, ← hsm]; unfold EMi; rw [if_neg c81, Nat.add_zero]⟩)
              · refine lv_iload hx hb dX6_expects_100 (lv_at hl 0 rfl) ?_
                refine ri_beq (tgt := 111) hx hb dX6_expects_102 (by decide) (fun c102 => ?_) (fun c102 => ?_)
                · refine lv_lconst (v := lN 0) hx hb dX6_expects_111 rfl ?_
                  refine rl_addn hx hb dX6_expects_112 ?_
                  refine rl_addn hx hb dX6_expects_113 ?_
                  refine lv_lstore (lv' := [(4, .long (lN (sm + ((EX P wh (P 0 - i) j) + 0)))), (8, .int (b2i (VR P (P 0 - i) j ≤ Wo P i r + VR P (P 0 - i) (j - 1)))), (0, .ref m0), (1, .int (nI wh)), (2, .int (nI i)), (3, .int (nI j)), (6, .int (nI 1)), (7, .int (nI r))]) hx hb dX6_expects_114 hl (by decide) rfl (fun ls hl => ?_)
                  refine lv_iinc (v := nI (r + 1)) (lv' := [(7, .int (nI (r + 1))), (4, .long (lN (sm + ((EX P wh (P 0 - i) j) + 0)))), (8, .int (b2i (VR P (P 0 - i) j ≤ Wo P i r + VR P (P 0 - i) (j - 1)))), (0, .ref m0), (1, .int (nI wh)), (2, .int (nI i)), (3, .int (nI j)), (6, .int (nI 1))]) hx hb dX6_expects_116 hl (k := 7) rfl (inc1 _) (by decide) rfl (fun ls hl => ?_)
                  refine lv_goto (tgt := 49) hx hb dX6_expects_119 (by decide) ?_
                  exact ih49 (r + 1) (sm + ((EX P wh (P 0 - i) j) + 0)) _ _ _ (by show _ < _; omega) (by exact ⟨lv_sub hl [3, 4, 5, 6, 1, 7, 0] rfl, hP.sub [0, 1, 2, 3, 4] rfl, hD.sub [0, 1, 2, 3, 4] (by decide) rfl, hS, by omega, by omega, by rw [smN_n hr1, ← hsm]; unfold EMi; rw [if_neg c81, Nat.add_zero]⟩)
                · exact absurd c102 c81
            · refine lv_iload_n hx hb dX6_expects_84 rfl (lv_at hl 4 rfl) ?_
              refine lv_iconst (v := nI 1) hx hb dX6_expects_85 (by decide) ?_
              refine ri_sub hx hb dX6_expects_86 (by omega) ?_
              refine lv_goto (tgt := 91) hx hb dX6_expects_87 (by decide) ?_
              refine kSi (As := [.int (nI (i + 1)), .int (nI (j - 1))]) (rest := [.ref m9, .long (lN sm)]) Y m_X6_at (c_X6_at l dC dI (i + 1) (j - 1) ) qm_X6_138 (kpS hK hP hZ hS [] [] rfl rfl) rfl hl.1 rfl (Nat.le_of_ble_eq_true rfl) dX6_expects_91 ⟨Nat.le_of_ble_eq_true rfl, Nat.le_of_ble_eq_true rfl⟩ ⟨Nat.zero_le _, Nat.zero_le _⟩ (fun r91 hr91 => ?_)
              obtain rfl : r91 = nI (4 * (i + 1) + (j - 1)) := hr91
              refine rl_ald hx hb hK hP 4 1 (F := x3) rfl rfl dX6_expects_94 (by decide) (by omega) ?_
              refine rl_set (x' := lN (EX P wh (P 0 - i) (j - 1))) (MX_up (T := E1 P wh) hX3 hi9 (by omega)) ?_
              refine lv_iload_n hx hb dX6_expects_95 rfl (lv_at hl 2 rfl) ?_
              refine lv_iconst (v := nI 1) hx hb dX6_expects_96 (by decide) ?_
              refine ri_cne (tgt := 111) hx hb dX6_expects_97 (by decide) (by omega) (by omega) (fun c97 => ?_) (fun c97 => ?_)
              · refine lv_lconst (v := lN 0) hx hb dX6_expects_111 rfl ?_
                refine rl_addn hx hb dX6_expects_112 ?_
                refine rl_addn hx hb dX6_expects_113 ?_
                refine lv_lstore (lv' := [(4, .long (lN (sm + ((EX P wh (P 0 - i) (j - 1)) + 0)))), (8, .int (b2i (VR P (P 0 - i) j ≤ Wo P i r + VR P (P 0 - i) (j - 1)))), (0, .ref m0), (1, .int (nI wh)), (2, .int (nI i)), (3, .int (nI j)), (6, .int (nI 1)), (7, .int (nI r))]) hx hb dX6_expects_114 hl (by decide) rfl (fun ls hl => ?_)
                refine lv_iinc (v := nI (r + 1)) (lv' := [(7, .int (nI (r + 1))), (4, .long (lN (sm + ((EX P wh (P 0 - i) (j - 1)) + 0)))), (8, .int (b2i (VR P (P 0 - i) j ≤ Wo P i r + VR P (P 0 - i) (j - 1)))), (0, .ref m0), (1, .int (nI wh)), (2, .int (nI i)), (3, .int (nI j)), (6, .int (nI 1))]) hx hb dX6_expects_116 hl (k := 7) rfl (inc1 _) (by decide) rfl (fun ls hl => ?_)
                refine lv_goto (tgt := 49) hx hb dX6_expects_119 (by decide) ?_
                exact ih49 (r + 1) (sm + ((EX P wh (P 0 - i) (j - 1)) + 0)) _ _ _ (by show _ < _; omega) (by exact ⟨lv_sub hl [3, 4, 5, 6, 1, 7, 0] rfl, hP.sub [0, 1, 2, 3, 4] rfl, hD.sub [0, 1, 2, 3, 4] (by decide) rfl, hS, by omega, by omega, by rw [smN_n hr1, ← hsm]; unfold EMi; rw [if_pos c81, if_neg c97]⟩)
              · refine lv_iload hx hb dX6_expects_100 (lv_at hl 0 rfl) ?_
                refine ri_beq (tgt := 111) hx hb dX6_expects_102 (by decide) (fun c102 => ?_) (fun c102 => ?_)
                · exact absurd c81 c102
                · refine lv_ldc2 (v := lN 5040) hx hb hown (hts _ ql_X6_130) dX6_expects_105 ?_
                  refine lv_goto (tgt := 112) hx hb dX6_expects_108 (by decide) ?_
                  refine rl_addn hx hb dX6_expects_112 ?_
                  refine rl_addn hx hb dX6_expects_113 ?_
                  refine lv_lstore (lv' := [(4, .long (lN (sm + ((EX P wh (P 0 - i) (j - 1)) + 5040)))), (8, .int (b2i (VR P (P 0 - i) j ≤ Wo P i r + VR P (P 0 - i) (j - 1)))), (0, .ref m0), (1, .int (nI wh)), (2, .int (nI i)), (3, .int (nI j)), (6, .int (nI 1)), (7, .int (nI r))]) hx hb dX6_expects_114 hl (by decide) rfl (fun ls hl => ?_)
                  refine lv_iinc (v := nI (r + 1)) (lv' := [(7, .int (nI (r + 1))), (4, .long (lN (sm + ((EX P wh (P 0 - i) (j - 1)) + 5040)))), (8, .int (b2i (VR P (P 0 - i) j ≤ Wo P i r + VR P (P 0 - i) (j - 1)))), (0, .ref m0), (1, .int (nI wh)), (2, .int (nI i)), (3, .int (nI j)), (6, .int (nI 1))]) hx hb dX6_expects_116 hl (k := 7) rfl (inc1 _) (by decide) rfl (fun ls hl => ?_)
                  refine lv_goto (tgt := 49) hx hb dX6_expects_119 (by decide) ?_
                  exact ih49 (r + 1) (sm + ((EX P wh (P 0 - i) (j - 1)) + 5040)) _ _ _ (by show _ < _; omega) (by exact ⟨lv_sub hl [3, 4, 5, 6, 1, 7, 0] rfl, hP.sub [0, 1, 2, 3, 4] rfl, hD.sub [0, 1, 2, 3, 4] (by decide) rfl, hS, by omega, by omega, by rw [smN_n hr1, ← hsm]; unfold EMi; rw [if_pos c81, if_pos c97]⟩)
