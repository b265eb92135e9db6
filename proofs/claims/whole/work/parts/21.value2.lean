theorem PI.c20 {P : Nat → Nat} (h : PI P) : P 2 * 1000000000000000 ≤ 20000000000000000 := Nat.le_trans (Nat.mul_le_mul_right _ h.2.2.1) (Nat.le_of_ble_eq_true rfl)
theorem B3 {j : Nat} (h : j ≤ 3) : 99000000000000000 * j ≤ 297000000000000000 := Nat.le_trans (Nat.mul_le_mul_left _ h) (Nat.le_of_ble_eq_true rfl)
theorem bndA {P : Nat → Nat} (h : PI P) {c1 c2 n i j : Nat} (h1 : c1 ≤ 10) (h2 : c2 ≤ 10) (hj : j ≤ 3) {af af2 : Nat → Nat} (hb : ∀ k, af k ≤ 297000000000000000) (hk : ∀ k, (∀ a, a ≤ 5 → k ≠ pA i j a) → af2 k = af k) (hv : ∀ a, a ≤ 5 → af2 (pA i j a) = QV P c1 c2 (n + 1 - i) j a) : ∀ k, af2 k ≤ 297000000000000000 := fun k => by
  by_cases e : ∃ a, a ≤ 5 ∧ k = pA i j a
  · obtain ⟨a, ha, rfl⟩ := e
    rw [hv a ha]
    exact Nat.le_trans (QS_le h h1 h2 _ j a ha) (B3 hj)
  · rw [hk k (fun a ha q => e ⟨a, ha, q⟩)]; exact hb k
theorem bndB {P : Nat → Nat} (h : PI P) {c1 c2 n i j : Nat} (h1 : c1 ≤ 10) (h2 : c2 ≤ 10) (hj : j ≤ 3) {bf bf2 : Nat → Nat} (hb : ∀ k, bf k ≤ 297000000000000000) (hk : ∀ k, (∀ a b, a ≤ 5 → b ≤ 5 → k ≠ pB i j a b) → bf2 k = bf k) (hv : ∀ a b, a ≤ 5 → b ≤ 5 → bf2 (pB i j a b) = SV P c1 c2 (n + 1 - i) j a b) : ∀ k, bf2 k ≤ 297000000000000000 := fun k => by
  by_cases e : ∃ a b, a ≤ 5 ∧ b ≤ 5 ∧ k = pB i j a b
  · obtain ⟨a, b, ha, hb', rfl⟩ := e
    rw [hv a b ha hb']
    exact Nat.le_trans (SV_le h h1 h2 _ ha hb') (B3 hj)
  · rw [hk k (fun a b ha hb' q => e ⟨a, b, ha, hb', q⟩)]; exact hb k
theorem TB_wk {n i j : Nat} {S : Nat → Nat → Nat → Nat → Nat} {bf : Nat → Nat} (h : TB n S bf i j) : TB n S bf i 0 := fun i' j' a b b1 b2 b3 b4 b4' b5 => h i' j' a b b1 b2 b3 b4 b4' (by omega)
def sgI (f : Nat → Int) : Nat → Int | 0 => 0 | n + 1 => sgI f n + f n
def FXm (P : Nat → Nat) (h : Nat) (x y : Int) (l : Nat) : Int := (P (15 + l) : Int) * (if h ≤ P (10 + l) then (P (10 + l) : Int) * 1000000000000000 + x else y)
/-- the fixed rule with h -/
def FX (P : Nat → Nat) (h : Nat) : Nat → Nat → Int
  | 0, _ => 0
  | d + 1, j => if j = 0 then 0 else (sgI (FXm P h (FX P h d (j - 1)) (FX P h d j)) 5).tdiv 10 - (P 2 : Int) * 1000000000000000
theorem FX_0 (P : Nat → Nat) (h d : Nat) : FX P h d 0 = 0 := by cases d <;> simp [FX]
theorem FX_s (P : Nat → Nat) (h d : Nat) {j : Nat} (hj : 1 ≤ j) : FX P h (d + 1) j = (sgI (FXm P h (FX P h d (j - 1)) (FX P h d j)) 5).tdiv 10 - (P 2 : Int) * 1000000000000000 := by
  show (if j = 0 then 0 else _) = _
  rw [if_neg (by omega)]
def fxB : Nat → Int | 0 => 0 | d + 1 => fxB d + 119000000000000000
theorem fxB_le : ∀ d, d < 8 → fxB d ≤ 833000000000000000 := by decide +kernel
theorem fxB_6 : ∀ d, d < 7 → fxB d ≤ 714000000000000000 := by decide +kernel
theorem fxB_0 : ∀ d, 0 ≤ fxB d
  | 0 => by decide
  | d + 1 => by have := fxB_0 d; show 0 ≤ fxB d + _; omega
theorem sgI_b {f : Nat → Int} {g : Nat → Nat} {M : Int} {N : Nat} (h : ∀ t, t < N → -((g t : Int) * M) ≤ f t ∧ f t ≤ (g t : Int) * M) : -((sgN g N : Int) * M) ≤ sgI f N ∧ sgI f N ≤ (sgN g N : Int) * M := by
  induction N with
  | zero => show -(((0 : Nat) : Int) * M) ≤ 0 ∧ (0 : Int) ≤ ((0 : Nat) : Int) * M; rw [show (((0 : Nat) : Int)) = 0 from rfl, Int.zero_mul]; omega
  | succ n ih =>
    have h1 := ih (fun t ht => h t (by omega))
    have h2 := h n (by omega)
    show -(((sgN g n + g n : Nat) : Int) * M) ≤ sgI f n + f n ∧ sgI f n + f n ≤ ((sgN g n + g n : Nat) : Int) * M
    rw [Int.natCast_add, Int.add_mul]
    omega
theorem td10 {x M : Int} (h1 : -(10 * M) ≤ x) (h2 : x ≤ 10 * M) : -M ≤ x.tdiv 10 ∧ x.tdiv 10 ≤ M := by
  have e : (x.tdiv 10).natAbs = x.natAbs / 10 := by rw [Int.natAbs_tdiv]; rfl
  omega
theorem FXm_b {P : Nat → Nat} (hp : PI P) {h : Nat} {x y M : Int} (hx : -M ≤ x ∧ x ≤ M) (hy : -M ≤ y ∧ y ≤ M) : -(10 * (99000000000000000 + M)) ≤ sgI (FXm P h x y) 5 ∧ sgI (FXm P h x y) 5 ≤ 10 * (99000000000000000 + M) := by
  have key := sgI_b (f := FXm P h x y) (g := fun l => P (15 + l)) (M := 99000000000000000 + M) (N := 5) (fun t ht => by
    unfold FXm
    have hs := hp.sc (k := 10 + t) (by omega)
    have hs2 : (P (10 + t) : Int) * 1000000000000000 ≤ 99000000000000000 := by
      have : ((P (10 + t) * 1000000000000000 : Nat) : Int) ≤ ((99000000000000000 : Nat) : Int) := Int.ofNat_le.mpr hs
      rw [Int.natCast_mul] at this
      exact this
    have hs3 : 0 ≤ (P (10 + t) : Int) * 1000000000000000 := Int.mul_nonneg (by omega) (by decide)
    generalize hX : (if h ≤ P (10 + t) then (P (10 + t) : Int) * 1000000000000000 + x else y) = X
    have hXb : -(99000000000000000 + M) ≤ X ∧ X ≤ 99000000000000000 + M := by
      rw [← hX]
      split <;> omega
    rw [← Int.mul_neg]
    exact ⟨Int.mul_le_mul_of_nonneg_left hXb.1 (by omega), Int.mul_le_mul_of_nonneg_left hXb.2 (by omega)⟩)
  rw [hp.w5] at key
  exact key
theorem FX_b {P : Nat → Nat} (hp : PI P) (h : Nat) : ∀ d j : Nat, -fxB d ≤ FX P h d j ∧ FX P h d j ≤ fxB d
  | 0, j => by show -(0 : Int) ≤ 0 ∧ (0 : Int) ≤ 0; omega
  | d + 1, j => by
    have h0 := fxB_0 (d + 1)
    by_cases hj : j = 0
    · subst hj; rw [FX_0]; omega
    · rw [FX_s P h d (by omega)]
      have k1 := FXm_b hp (h := h) (FX_b hp h d (j - 1)) (FX_b hp h d j)
      have k2 := td10 k1.1 k1.2
      have hc : (P 2 : Int) * 1000000000000000 ≤ 20000000000000000 := by
        have : ((P 2 * 1000000000000000 : Nat) : Int) ≤ ((20000000000000000 : Nat) : Int) := Int.ofNat_le.mpr hp.c20
        rw [Int.natCast_mul] at this
        exact this
      have hc0 : 0 ≤ (P 2 : Int) * 1000000000000000 := Int.mul_nonneg (by omega) (by decide)
      show -(fxB d + 119000000000000000) ≤ _ ∧ _ ≤ fxB d + 119000000000000000
      omega
theorem iN_td {a : Int} (h1 : -9223372036854775807 ≤ a) (h2 : a < 9223372036854775808) : iN a / lN 10 = iN (a.tdiv 10) := by
  apply Int64.toInt_inj.mp
  have hk : -9223372036854775808 ≤ a.tdiv 10 ∧ a.tdiv 10 < 9223372036854775808 := by
    have e : (a.tdiv 10).natAbs = a.natAbs / 10 := by rw [Int.natAbs_tdiv]; rfl
    omega
  rw [Int64.toInt_div_of_ne_right _ _ (by decide), iN_T (by omega) h2, iN_T hk.1 hk.2]
  rfl
theorem sgL_i {F : Nat → Int64} {g : Nat → Int} {N : Nat} (h : ∀ t, t < N → F t = iN (g t)) : sgL F N = iN (sgI g N) := by
  induction N with
  | zero => rfl
  | succ n ih =>
    show sgL F n + F n = iN (sgI g n + g n)
    rw [ih (fun t ht => h t (by omega)), h n (by omega), iN_add]
abbrev FT (P : Nat → Nat) (h : Nat) : Nat → Nat → Int64 := fun d j => iN (FX P h d j)
theorem FT_0 {P : Nat → Nat} {h : Nat} : (∀ d, FT P h d 0 = lN 0) ∧ ∀ j, FT P h 0 j = lN 0 := ⟨fun d => by show iN (FX P h d 0) = _; rw [FX_0]; rfl, fun j => rfl⟩
theorem fix_mean {P : Nat → Nat} (hp : PI P) {h d j : Nat} (hd : d < P 0) (h1 : 1 ≤ j) {F : Nat → Int64} (hF : ∀ t, t < 5 → F t = iN (FXm P h (FX P h d (j - 1)) (FX P h d j) t)) : sgL F 5 / lN 10 - lN (P 2 * 1000000000000000) = iN (FX P h (d + 1) j) := by
  have hn := hp.1
  have b6 := fxB_6 d (by omega)
  have b0 := fxB_0 d
  have k1 := FXm_b hp (h := h) (FX_b hp h d (j - 1)) (FX_b hp h d j)
  have k2 := td10 k1.1 k1.2
  have hc : (P 2 : Int) * 1000000000000000 ≤ 20000000000000000 := by
    have : ((P 2 * 1000000000000000 : Nat) : Int) ≤ ((20000000000000000 : Nat) : Int) := Int.ofNat_le.mpr hp.c20
    rw [Int.natCast_mul] at this
    exact this
  have hc0 : 0 ≤ (P 2 : Int) * 1000000000000000 := Int.mul_nonneg (by omega) (by decide)
  rw [sgL_i hF, iN_td (by omega) (by omega), lN_iN, Int.natCast_mul, FX_s P h d h1]
  exact iN_sub (by omega) (by omega) (by show _ ≤ (P 2 : Int) * 1000000000000000; omega) (by show (P 2 : Int) * 1000000000000000 < _; omega)
theorem iN_if {c : Prop} [Decidable c] {a b : Int} : (if c then iN a else iN b) = iN (if c then a else b) := by split <;> rfl
/-- the class's row of the fixed rule -/
theorem fix_c {P : Nat → Nat} (hp : PI P) {h i j k : Nat} {lv wt : Nat → Nat} {fl : Nat → Int64} (h1 : 1 ≤ i) (h2 : i ≤ P 0) (h3 : 1 ≤ j) (h4 : j ≤ k) (h5 : k ≤ 3) (hL : VL P lv wt) (hF : FD (P 0) k (FT P h) fl i 1) : sgL (mxF lv wt fl h i j) 5 / lN 10 - lN (P 2 * 1000000000000000) = iN (FX P h (P 0 + 1 - i) j) := by
  obtain ⟨d, hd, hi⟩ : ∃ d, d < P 0 ∧ i = P 0 - d := ⟨P 0 - i, by omega, by omega⟩
  subst hi
  have e1 := hF (P 0 - d + 1) j (by omega) (by omega) h4 (by omega)
  have e2 := hF (P 0 - d + 1) (j - 1) (by omega) (by omega) (by omega) (by omega)
  rw [show P 0 + 1 - (P 0 - d + 1) = d by omega] at e1 e2
  rw [show P 0 + 1 - (P 0 - d) = d + 1 by omega]
  refine fix_mean hp hd h3 (fun t ht => ?_)
  unfold mxF FXm
  rw [(hL t ht).1, (hL t ht).2, e1, e2]
  by_cases c : h ≤ P (10 + t)
  · rw [if_pos (Nat.mul_le_mul_right _ c), if_pos c, lN_iN, lN_iN, iN_add, iN_mul, Int.natCast_mul]; rfl
  · rw [if_neg (fun q => c (Nat.le_of_mul_le_mul_right q (by decide))), if_neg c, lN_iN, iN_mul]
theorem FD_last {n k : Nat} {T : Nat → Nat → Int64} {f : Nat → Int64} (h0 : ∀ i, 1 ≤ i → i ≤ n + 1 → f (((i - 1) * 4) + 0) = T (n + 1 - i) 0) (h1 : ∀ j, 1 ≤ j → j ≤ k → f ((((n + 1) - 1) * 4) + j) = T 0 j) : FD n k T f n 1 := by
  intro i' j' a b c d
  rcases Nat.eq_zero_or_pos j' with q | q
  · subst q; exact h0 i' a b
  · have e : i' = n + 1 := by omega
    subst e
    rw [h1 j' q c, Nat.sub_self]
section BR
variable {lv af : Nat → Nat} {c1 c2 i j a b : Nat}
theorem brF_00 (hj : ¬ j = 0) (h1 : ¬ (a ≠ 5 ∧ af (pA i j a) < r1F lv af c1 i j a)) (h2 : ¬ (b ≠ 5 ∧ af (pA i j a) < r2F lv af c2 i j a b)) : 0 = brF lv af c1 c2 i j a b := by
  unfold brF; rw [if_neg hj, if_neg h1, if_neg h2, if_neg h1]
theorem brF_10 (hj : ¬ j = 0) (h1 : a ≠ 5 ∧ af (pA i j a) < r1F lv af c1 i j a) (h2 : ¬ (b ≠ 5 ∧ r1F lv af c1 i j a < r2F lv af c2 i j a b)) : 1 = brF lv af c1 c2 i j a b := by
  unfold brF; rw [if_neg hj, if_pos h1, if_neg h2, if_pos h1]
theorem brF_02 (hj : ¬ j = 0) (h1 : ¬ (a ≠ 5 ∧ af (pA i j a) < r1F lv af c1 i j a)) (h2 : b ≠ 5 ∧ af (pA i j a) < r2F lv af c2 i j a b) : 2 = brF lv af c1 c2 i j a b := by
  unfold brF; rw [if_neg hj, if_neg h1, if_pos h2]
theorem brF_12 (hj : ¬ j = 0) (h1 : a ≠ 5 ∧ af (pA i j a) < r1F lv af c1 i j a) (h2 : b ≠ 5 ∧ r1F lv af c1 i j a < r2F lv af c2 i j a b) : 2 = brF lv af c1 c2 i j a b := by
  unfold brF; rw [if_neg hj, if_pos h1, if_pos h2]
end BR

