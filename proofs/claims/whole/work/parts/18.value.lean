def pA (i j a : Nat) : Nat := ((((i - 1) * 4) + j) * 6) + a
def pB (i j a b : Nat) : Nat := ((((((i - 1) * 4) + j) * 6) + a) * 6) + b
theorem pA_lt {i j a : Nat} (h2 : i ≤ 8) (h3 : j ≤ 3) (h4 : a ≤ 5) : pA i j a < 192 := by unfold pA; omega
theorem pB_lt {i j a b : Nat} (h2 : i ≤ 8) (h3 : j ≤ 3) (h4 : a ≤ 5) (h5 : b ≤ 5) : pB i j a b < 1152 := by unfold pB; omega
theorem pA_inj {i j a i' j' a' : Nat} (h1 : 1 ≤ i) (h1' : 1 ≤ i') (h3 : j ≤ 3) (h3' : j' ≤ 3) (h4 : a ≤ 5) (h4' : a' ≤ 5) (h : pA i j a = pA i' j' a') : i = i' ∧ j = j' ∧ a = a' := by
  unfold pA at h; omega
theorem pB_inj {i j a b i' j' a' b' : Nat} (h1 : 1 ≤ i) (h1' : 1 ≤ i') (h3 : j ≤ 3) (h3' : j' ≤ 3) (h4 : a ≤ 5) (h4' : a' ≤ 5) (h5 : b ≤ 5) (h5' : b' ≤ 5) (h : pB i j a b = pB i' j' a' b') : i = i' ∧ j = j' ∧ a = a' ∧ b = b' := by
  unfold pB at h; omega
theorem div10 {x M : Nat} (h : x ≤ 10 * M) : x / 10 ≤ M := Nat.div_le_of_le_mul h
theorem rec_b {c x y M : Nat} (hc : c ≤ 10) (hx : x ≤ M) (hy : y ≤ M) : c * x + (10 - c) * y ≤ 10 * M := by
  have h1 : c * x ≤ c * M := Nat.mul_le_mul_left _ hx
  have h2 : (10 - c) * y ≤ (10 - c) * M := Nat.mul_le_mul_left _ hy
  have h3 : c * M + (10 - c) * M = 10 * M := by rw [← Nat.add_mul, show c + (10 - c) = 10 by omega]
  omega
def r1F (lv af : Nat → Nat) (c1 i j a : Nat) : Nat := ((c1 * (lv a + af (pA i (j - 1) 5))) + ((10 - c1) * af (pA i j 5))) / 10
def r2F (lv af : Nat → Nat) (c2 i j a b : Nat) : Nat := ((c2 * (lv b + af (pA i (j - 1) a))) + ((10 - c2) * af (pA i j a))) / 10
def mbF (lv wt bf : Nat → Nat) (i j a l : Nat) : Nat := wt l * max (bf (pB (i + 1) j l a)) (lv l + bf (pB (i + 1) (j - 1) 5 a))
theorem wt_le {wt : Nat → Nat} (h : sgN wt 5 = 10) {k : Nat} (hk : k < 5) : wt k ≤ 10 := by
  have h2 : 0 + wt 0 + wt 1 + wt 2 + wt 3 + wt 4 = 10 := h
  rcases (show k = 0 ∨ k = 1 ∨ k = 2 ∨ k = 3 ∨ k = 4 by omega) with rfl | rfl | rfl | rfl | rfl <;> omega
theorem mbF_b {lv wt bf : Nat → Nat} (hl : ∀ k, k < 5 → lv k ≤ 99000000000000000) (hb : ∀ k, bf k ≤ 297000000000000000) (hw : sgN wt 5 = 10) (i j a : Nat) : sgN (mbF lv wt bf i j a) 5 ≤ 3960000000000000000 := by
  have h := sgN_le (f := mbF lv wt bf i j a) (g := wt) (M := 396000000000000000) (N := 5) (fun t ht => by
    unfold mbF
    rw [Nat.mul_comm]
    refine Nat.mul_le_mul_right _ (Nat.max_le.mpr ⟨?_, ?_⟩)
    · have := hb (pB (i + 1) j t a); omega
    · have h1 := hb (pB (i + 1) (j - 1) 5 a); have h2 := hl t ht; omega)
  rw [hw] at h
  exact h
def qaF (lv wt bf : Nat → Nat) (n co i j a : Nat) : Nat := if 0 < j ∧ i ≤ n then sgN (mbF lv wt bf i j a) 5 / 10 - co else 0
def sbF (lv af : Nat → Nat) (c1 c2 i j a b : Nat) : Nat :=
  max (if 0 < j ∧ a ≠ 5 then max (af (pA i j a)) (r1F lv af c1 i j a) else af (pA i j a)) (if 0 < j ∧ b ≠ 5 then r2F lv af c2 i j a b else 0)
def sOf (P : Nat → Nat) (c1 c2 : Nat) (q : Nat → Nat → Nat) (j a b : Nat) : Nat := if j = 0 then 0 else max (if a ≠ 5 then max (q j a) (((c1 * (P (10 + a) * 1000000000000000 + q (j - 1) 5)) + ((10 - c1) * q j 5)) / 10) else q j a) (if b ≠ 5 then ((c2 * (P (10 + b) * 1000000000000000 + q (j - 1) a)) + ((10 - c2) * q j a)) / 10 else 0)
def qOf (P : Nat → Nat) (sv : Nat → Nat → Nat → Nat) (j a : Nat) : Nat := if j = 0 then 0 else sgN (fun l => P (15 + l) * max (sv j l a) (P (10 + l) * 1000000000000000 + sv (j - 1) 5 a)) 5 / 10 - P 2 * 1000000000000000
def QV (P : Nat → Nat) (c1 c2 : Nat) : Nat → Nat → Nat → Nat
  | 0 => fun _ _ => 0
  | d + 1 => qOf P (sOf P c1 c2 (QV P c1 c2 d))
def SV (P : Nat → Nat) (c1 c2 d : Nat) : Nat → Nat → Nat → Nat := sOf P c1 c2 (QV P c1 c2 d)
theorem PI.sc {P : Nat → Nat} (h : PI P) {k : Nat} (hk : k < 22) : P k * 1000000000000000 ≤ 99000000000000000 := Nat.le_trans (Nat.mul_le_mul_right _ (h.le hk)) (Nat.le_of_ble_eq_true rfl)
theorem mulB {j : Nat} (hj : ¬ j = 0) : 99000000000000000 + 99000000000000000 * (j - 1) = 99000000000000000 * j := by
  obtain ⟨k, rfl⟩ : ∃ k, j = k + 1 := ⟨j - 1, by omega⟩
  rw [Nat.add_sub_cancel, Nat.mul_succ, Nat.add_comm]
theorem scB {P : Nat → Nat} (h : PI P) {j l x : Nat} (hj : ¬ j = 0) (hl : l < 22) (hx : x ≤ 99000000000000000 * (j - 1)) : P l * 1000000000000000 + x ≤ 99000000000000000 * j := by
  rw [← mulB hj]
  exact Nat.add_le_add (h.sc hl) hx
theorem PI.w5 {P : Nat → Nat} (h : PI P) : sgN (fun l => P (15 + l)) 5 = 10 := by
  have := h.2.2.2.2.2.1
  show 0 + P 15 + P 16 + P 17 + P 18 + P 19 = 10
  omega
theorem qOf_le {P : Nat → Nat} (h : PI P) {sv : Nat → Nat → Nat → Nat} {a : Nat} (ha : a ≤ 5) (hs : ∀ j x y, x ≤ 5 → y ≤ 5 → sv j x y ≤ 99000000000000000 * j) (j : Nat) : qOf P sv j a ≤ 99000000000000000 * j := by
  unfold qOf
  by_cases hj : j = 0
  · rw [if_pos hj]; omega
  · rw [if_neg hj]
    have h1 := sgN_le (f := fun l => P (15 + l) * max (sv j l a) (P (10 + l) * 1000000000000000 + sv (j - 1) 5 a)) (g := fun l => P (15 + l)) (M := 99000000000000000 * j) (N := 5) (fun t ht => by
      rw [Nat.mul_comm]
      refine Nat.mul_le_mul_right _ (Nat.max_le.mpr ⟨hs j t a (by omega) ha, ?_⟩)
      exact scB h hj (by omega) (hs (j - 1) 5 a (by omega) ha))
    rw [h.w5] at h1
    exact Nat.le_trans (Nat.sub_le _ _) (div10 (by rw [Nat.mul_comm 10]; exact h1))
theorem QS_le {P : Nat → Nat} (h : PI P) {c1 c2 : Nat} (h1 : c1 ≤ 10) (h2 : c2 ≤ 10) : ∀ d, (∀ j a, a ≤ 5 → QV P c1 c2 d j a ≤ 99000000000000000 * j)
  | 0 => fun j a _ => Nat.zero_le _
  | d + 1 => fun j a ha => by
    have ih := QS_le h h1 h2 d
    refine qOf_le h ha (fun j x y hx hy => ?_) j
    unfold sOf
    by_cases hj : j = 0
    · rw [if_pos hj]; omega
    · rw [if_neg hj]
      have e : ∀ l x, l < 22 → x ≤ 99000000000000000 * (j - 1) → P l * 1000000000000000 + x ≤ 99000000000000000 * j := fun l x hl hx => by
        exact scB h hj hl hx
      have key : ∀ c l x y, c ≤ 10 → l < 22 → x ≤ 99000000000000000 * (j - 1) → y ≤ 99000000000000000 * j → (c * (P l * 1000000000000000 + x) + (10 - c) * y) / 10 ≤ 99000000000000000 * j := fun c l x y hc hl hx hy => by
        exact div10 (rec_b hc (e l x hl hx) hy)
      refine Nat.max_le.mpr ⟨?_, ?_⟩
      · split
        · exact Nat.max_le.mpr ⟨ih j x hx, key c1 (10 + x) _ _ h1 (by omega) (ih (j - 1) 5 (by omega)) (ih j 5 (by omega))⟩
        · exact ih j x hx
      · split
        · exact key c2 (10 + y) _ _ h2 (by omega) (ih (j - 1) x hx) (ih j x hx)
        · exact Nat.zero_le _
theorem SV_le {P : Nat → Nat} (h : PI P) {c1 c2 : Nat} (h1 : c1 ≤ 10) (h2 : c2 ≤ 10) (d : Nat) {j a b : Nat} (ha : a ≤ 5) (hb : b ≤ 5) : SV P c1 c2 d j a b ≤ 99000000000000000 * j := by
  have ih := QS_le h h1 h2 d
  unfold SV sOf
  by_cases hj : j = 0
  · rw [if_pos hj]; omega
  · rw [if_neg hj]
    have e : ∀ l x, l < 22 → x ≤ 99000000000000000 * (j - 1) → P l * 1000000000000000 + x ≤ 99000000000000000 * j := fun l x hl hx => by
      exact scB h hj hl hx
    have key : ∀ c l x y, c ≤ 10 → l < 22 → x ≤ 99000000000000000 * (j - 1) → y ≤ 99000000000000000 * j → (c * (P l * 1000000000000000 + x) + (10 - c) * y) / 10 ≤ 99000000000000000 * j := fun c l x y hc hl hx hy => by
      exact div10 (rec_b hc (e l x hl hx) hy)
    refine Nat.max_le.mpr ⟨?_, ?_⟩
    · split
      · exact Nat.max_le.mpr ⟨ih j a ha, key c1 (10 + a) _ _ h1 (by omega) (ih (j - 1) 5 (by omega)) (ih j 5 (by omega))⟩
      · exact ih j a ha
    · split
      · exact key c2 (10 + b) _ _ h2 (by omega) (ih (j - 1) a ha) (ih j a ha)
      · exact Nat.zero_le _
/-- the tables of the value problem, filled: rows behind i, and of row i what lies below j -/
def TA (n : Nat) (Q : Nat → Nat → Nat → Nat) (af : Nat → Nat) (i j : Nat) : Prop := ∀ i' j' a : Nat, 1 ≤ i' → i' ≤ n + 1 → j' ≤ 3 → a ≤ 5 → (i < i' ∨ (i' = i ∧ j' < j)) → af (pA i' j' a) = Q (n + 1 - i') j' a
def TB (n : Nat) (S : Nat → Nat → Nat → Nat → Nat) (bf : Nat → Nat) (i j : Nat) : Prop := ∀ i' j' a b : Nat, 1 ≤ i' → i' ≤ n + 1 → j' ≤ 3 → a ≤ 5 → b ≤ 5 → (i < i' ∨ (i' = i ∧ j' < j)) → bf (pB i' j' a b) = S (n + 1 - i') j' a b
theorem TA_step {n i j : Nat} {Q : Nat → Nat → Nat → Nat} {af af2 : Nat → Nat} (h : TA n Q af i j) (h1 : 1 ≤ i) (hj : j ≤ 3) (hk : ∀ k, (∀ a, a ≤ 5 → k ≠ pA i j a) → af2 k = af k) (hv : ∀ a, a ≤ 5 → af2 (pA i j a) = Q (n + 1 - i) j a) : TA n Q af2 i (j + 1) := by
  intro i' j' a b1 b2 b3 b4 b5
  by_cases e : i' = i ∧ j' = j
  · rw [e.1, e.2]; exact hv a b4
  · rw [hk _ (fun a' ha' q => e (by have := pA_inj b1 h1 b3 hj b4 ha' q; exact ⟨this.1, this.2.1⟩))]
    exact h i' j' a b1 b2 b3 b4 (by omega)
theorem TB_step {n i j : Nat} {S : Nat → Nat → Nat → Nat → Nat} {bf bf2 : Nat → Nat} (h : TB n S bf i j) (h1 : 1 ≤ i) (hj : j ≤ 3) (hk : ∀ k, (∀ a b, a ≤ 5 → b ≤ 5 → k ≠ pB i j a b) → bf2 k = bf k) (hv : ∀ a b, a ≤ 5 → b ≤ 5 → bf2 (pB i j a b) = S (n + 1 - i) j a b) : TB n S bf2 i (j + 1) := by
  intro i' j' a b b1 b2 b3 b4 b4' b5
  by_cases e : i' = i ∧ j' = j
  · rw [e.1, e.2]; exact hv a b b4 b4'
  · rw [hk _ (fun a' b' ha' hb' q => e (by have := pB_inj b1 h1 b3 hj b4 ha' b4' hb' q; exact ⟨this.1, this.2.1⟩))]
    exact h i' j' a b b1 b2 b3 b4 b4' (by omega)
theorem TA_next {n i j : Nat} {Q : Nat → Nat → Nat → Nat} {af : Nat → Nat} (h : TA n Q af i j) (hj : 3 < j) : TA n Q af (i - 1) 0 := fun i' j' a b1 b2 b3 b4 b5 => h i' j' a b1 b2 b3 b4 (by omega)
theorem TB_next {n i j : Nat} {S : Nat → Nat → Nat → Nat → Nat} {bf : Nat → Nat} (h : TB n S bf i j) (hj : 3 < j) : TB n S bf (i - 1) 0 := fun i' j' a b b1 b2 b3 b4 b4' b5 => h i' j' a b b1 b2 b3 b4 b4' (by omega)
/-- what the value problem's object holds of the parameters -/
def VL (P : Nat → Nat) (lv wt : Nat → Nat) : Prop := ∀ k, k < 5 → lv k = P (10 + k) * 1000000000000000 ∧ wt k = P (15 + k)
theorem sgN_c {f g : Nat → Nat} {N : Nat} (h : ∀ t, t < N → f t = g t) : sgN f N = sgN g N := by
  induction N with
  | zero => rfl
  | succ n ih =>
    show sgN f n + f n = sgN g n + g n
    rw [ih (fun t ht => h t (by omega)), h n (by omega)]
/-- one row of Q out of the next row of S -/
theorem qa_Q {P : Nat → Nat} {c1 c2 n i j a : Nat} {lv wt bf : Nat → Nat} (hL : VL P lv wt) (hB : TB n (SV P c1 c2) bf i 0) (h1 : 1 ≤ i) (h2 : i ≤ n + 1) (hj : j ≤ 3) (ha : a ≤ 5) : qaF lv wt bf n (P 2 * 1000000000000000) i j a = QV P c1 c2 (n + 1 - i) j a := by
  unfold qaF
  rcases Nat.lt_or_ge n i with hi | hi
  · rw [if_neg (by omega), show n + 1 - i = 0 by omega]; rfl
  · rcases Nat.eq_zero_or_pos j with q | q
    · subst q
      rw [if_neg (by omega), show n + 1 - i = (n - i) + 1 by omega]
      show _ = qOf P _ 0 a
      unfold qOf; rw [if_pos rfl]
    · rw [if_pos ⟨q, hi⟩, show n + 1 - i = (n - i) + 1 by omega]
      show _ = qOf P _ j a
      unfold qOf
      rw [if_neg (by omega)]
      congr 2
      refine sgN_c (fun t ht => ?_)
      unfold mbF
      rw [(hL t ht).1, (hL t ht).2, hB (i + 1) j t a (by omega) (by omega) hj (by omega) ha (by omega), hB (i + 1) (j - 1) 5 a (by omega) (by omega) (by omega) (by omega) ha (by omega), show n + 1 - (i + 1) = n - i by omega]
      rfl
/-- one row of S out of its row of Q -/
theorem sb_S {P : Nat → Nat} {c1 c2 n i j a b : Nat} {lv wt af : Nat → Nat} (hL : VL P lv wt) (hA : TA n (QV P c1 c2) af i (j + 1)) (h1 : 1 ≤ i) (h2 : i ≤ n + 1) (hj : j ≤ 3) (ha : a ≤ 5) (hb : b ≤ 5) : sbF lv af c1 c2 i j a b = SV P c1 c2 (n + 1 - i) j a b := by
  unfold sbF SV sOf
  have e0 : ∀ a, a ≤ 5 → af (pA i j a) = QV P c1 c2 (n + 1 - i) j a := fun a ha => hA i j a h1 h2 hj ha (by omega)
  rcases Nat.eq_zero_or_pos j with q | q
  · subst q
    rw [if_neg (by omega), if_neg (by omega), if_pos rfl, e0 a ha]
    have : QV P c1 c2 (n + 1 - i) 0 a = 0 := by
      cases h : n + 1 - i with
      | zero => rfl
      | succ d => show qOf P _ 0 a = 0; unfold qOf; rw [if_pos rfl]
    rw [this]; rfl
  · have e1 : ∀ a, a ≤ 5 → af (pA i (j - 1) a) = QV P c1 c2 (n + 1 - i) (j - 1) a := fun a ha => hA i (j - 1) a h1 h2 (by omega) ha (by omega)
    rw [if_neg (show ¬ j = 0 by omega)]
    unfold r1F r2F
    rw [e0 a ha, e0 5 (by omega), e1 5 (by omega), e1 a ha]
    congr 1
    · by_cases c : a = 5
      · rw [if_neg (by omega), if_neg (by omega)]
      · rw [if_pos ⟨q, c⟩, if_pos c, (hL a (by omega)).1]
    · by_cases c : b = 5
      · rw [if_neg (by omega), if_neg (by omega)]
      · rw [if_pos ⟨q, c⟩, if_pos c, (hL b (by omega)).1]

theorem VL_l {P : Nat → Nat} (h : PI P) {lv wt : Nat → Nat} (hL : VL P lv wt) : ∀ k, k < 5 → lv k ≤ 99000000000000000 := fun k hk => by
  rw [(hL k hk).1]
  have := h.sc (k := 10 + k) (by omega)
  exact this
theorem VL_w {P : Nat → Nat} (h : PI P) {lv wt : Nat → Nat} (hL : VL P lv wt) : sgN wt 5 = 10 := by
  rw [← h.w5]
  exact sgN_c (fun t ht => (hL t ht).2)
theorem r1_b {lv af : Nat → Nat} {c1 i j a : Nat} (hl : lv a ≤ 99000000000000000) (ha : ∀ k, af k ≤ 297000000000000000) (hc : c1 ≤ 10) : c1 * (lv a + af (pA i (j - 1) 5)) + (10 - c1) * af (pA i j 5) ≤ 3960000000000000000 ∧ r1F lv af c1 i j a ≤ 396000000000000000 := by
  have h1 := ha (pA i (j - 1) 5); have h2 := ha (pA i j 5)
  have h3 := rec_b (c := c1) (x := lv a + af (pA i (j - 1) 5)) (y := af (pA i j 5)) (M := 396000000000000000) hc (by omega) (by omega)
  refine ⟨h3, ?_⟩
  unfold r1F
  omega
theorem r2_b {lv af : Nat → Nat} {c2 i j a b : Nat} (hl : lv b ≤ 99000000000000000) (ha : ∀ k, af k ≤ 297000000000000000) (hc : c2 ≤ 10) : c2 * (lv b + af (pA i (j - 1) a)) + (10 - c2) * af (pA i j a) ≤ 3960000000000000000 ∧ r2F lv af c2 i j a b ≤ 396000000000000000 := by
  have h1 := ha (pA i (j - 1) a); have h2 := ha (pA i j a)
  have h3 := rec_b (c := c2) (x := lv b + af (pA i (j - 1) a)) (y := af (pA i j a)) (M := 396000000000000000) hc (by omega) (by omega)
  refine ⟨h3, ?_⟩
  unfold r2F
  omega
theorem sa_put {F : Nat → Nat} {af1 : Nat → Nat} {i j a v : Nat} (h : ∀ a', a' < a → af1 (pA i j a') = F a') (hv : v = F a) : ∀ a', a' < a + 1 → updN af1 (pA i j a) v (pA i j a') = F a' := fun a' ha' => by
  by_cases e : a' = a
  · rw [e, updN_s]; exact hv
  · rw [updN_n _ _ (fun q => e (by unfold pA at q; omega))]
    exact h a' (by omega)
theorem sa_oth {af af1 : Nat → Nat} {i j a v : Nat} (ha : a ≤ 5) (h : ∀ k, (∀ a', a' ≤ 5 → k ≠ pA i j a') → af1 k = af k) : ∀ k, (∀ a', a' ≤ 5 → k ≠ pA i j a') → updN af1 (pA i j a) v k = af k := fun k hk => by
  rw [updN_n _ _ (hk a ha)]; exact h k hk
theorem sb_put {F : Nat → Nat → Nat} {bf1 : Nat → Nat} {i j a b v : Nat} (hb : b ≤ 5) (h : ∀ a' b', b' ≤ 5 → (a' < a ∨ (a' = a ∧ b' < b)) → bf1 (pB i j a' b') = F a' b') (hv : v = F a b) : ∀ a' b', b' ≤ 5 → (a' < a ∨ (a' = a ∧ b' < b + 1)) → updN bf1 (pB i j a b) v (pB i j a' b') = F a' b' := fun a' b' h1 h2 => by
  by_cases e : a' = a ∧ b' = b
  · rw [e.1, e.2, updN_s]; exact hv
  · rw [updN_n _ _ (fun q => e (by unfold pB at q; omega))]
    exact h a' b' h1 (by omega)
theorem sb_oth {bf bf1 : Nat → Nat} {i j a b v : Nat} (ha : a ≤ 5) (hb : b ≤ 5) (h : ∀ k, (∀ a' b', a' ≤ 5 → b' ≤ 5 → k ≠ pB i j a' b') → bf1 k = bf k) : ∀ k, (∀ a' b', a' ≤ 5 → b' ≤ 5 → k ≠ pB i j a' b') → updN bf1 (pB i j a b) v k = bf k := fun k hk => by
  rw [updN_n _ _ (hk a b ha hb)]; exact h k hk
theorem sb_00 {lv af : Nat → Nat} {c1 c2 i j a b : Nat} (h1 : ¬ (0 < j ∧ a ≠ 5)) (h2 : ¬ (0 < j ∧ b ≠ 5)) : af (pA i j a) = sbF lv af c1 c2 i j a b := by
  unfold sbF; rw [if_neg h1, if_neg h2, Nat.max_zero]
theorem sb_10 {lv af : Nat → Nat} {c1 c2 i j a b : Nat} (h1 : 0 < j ∧ a ≠ 5) (h2 : ¬ (0 < j ∧ b ≠ 5)) : max (af (pA i j a)) (r1F lv af c1 i j a) = sbF lv af c1 c2 i j a b := by
  unfold sbF; rw [if_pos h1, if_neg h2, Nat.max_zero]
theorem sb_01 {lv af : Nat → Nat} {c1 c2 i j a b : Nat} (h1 : ¬ (0 < j ∧ a ≠ 5)) (h2 : 0 < j ∧ b ≠ 5) : max (af (pA i j a)) (r2F lv af c2 i j a b) = sbF lv af c1 c2 i j a b := by
  unfold sbF; rw [if_neg h1, if_pos h2]
theorem sb_11 {lv af : Nat → Nat} {c1 c2 i j a b : Nat} (h1 : 0 < j ∧ a ≠ 5) (h2 : 0 < j ∧ b ≠ 5) : max (max (af (pA i j a)) (r1F lv af c1 i j a)) (r2F lv af c2 i j a b) = sbF lv af c1 c2 i j a b := by
  unfold sbF; rw [if_pos h1, if_pos h2]
def chR (wr x : Nat) : Nat := if wr = 0 then 0 else x
theorem chR_le {wr x : Nat} (h : x ≤ 10) : chR wr x ≤ 10 := by unfold chR; split <;> omega
abbrev C1 (P : Nat → Nat) (wr : Nat) : Nat := chR wr (P 20)
abbrev C2 (P : Nat → Nat) (wr : Nat) : Nat := chR wr (P 21)
/-- the value problem is solved for the parameters P -/
def VS (P : Nat → Nat) (wr n co ch1 ch2 : Nat) (lv wt bf af : Nat → Nat) : Prop := n = P 0 ∧ co = P 2 * 1000000000000000 ∧ ch1 = C1 P wr ∧ ch2 = C2 P wr ∧ VL P lv wt ∧ TA (P 0) (QV P (C1 P wr) (C2 P wr)) af 0 0 ∧ TB (P 0) (SV P (C1 P wr) (C2 P wr)) bf 0 0
def VI (P : Nat → Nat) (wr sv n co ch1 ch2 : Nat) (lv wt bf af : Nat → Nat) : Prop := sv ≤ 1 ∧ (∀ k, bf k ≤ 297000000000000000) ∧ (∀ k, af k ≤ 297000000000000000) ∧ (sv = 1 → VS P wr n co ch1 ch2 lv wt bf af)
def brF (lv af : Nat → Nat) (c1 c2 i j a b : Nat) : Nat := if j = 0 then 0 else if b ≠ 5 ∧ (if a ≠ 5 ∧ af (pA i j a) < r1F lv af c1 i j a then r1F lv af c1 i j a else af (pA i j a)) < r2F lv af c2 i j a b then 2 else if a ≠ 5 ∧ af (pA i j a) < r1F lv af c1 i j a then 1 else 0
def sgL (f : Nat → Int64) : Nat → Int64 | 0 => lN 0 | n + 1 => sgL f n + f n
def mxF (lv wt : Nat → Nat) (fl : Nat → Int64) (h i j l : Nat) : Int64 := lN (wt l) * (if h * 1000000000000000 ≤ lv l then lN (lv l) + fl ((((i + 1) - 1) * 4) + (j - 1)) else fl ((((i + 1) - 1) * 4) + j))

