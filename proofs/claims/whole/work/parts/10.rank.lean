def mxL (x y : Int64) : Int64 := if y < x then x else y
def sumL (f : Nat → Int64) : Nat → Int64 | 0 => 0 | n + 1 => sumL f n + f (n + 1)
theorem sumL_s (f : Nat → Int64) {r : Nat} (h : 1 ≤ r) : sumL f (r + 1 - 1) = sumL f (r - 1) + f r := by
  obtain ⟨k, rfl⟩ : ∃ k, r = k + 1 := ⟨r - 1, by omega⟩
  rfl
theorem lN_z {n : Nat} (h0 : 0 < n) (h : n < 2147483648) : ¬ lN n = 0 := fun q => by
  have h2 := (lN_eq (a := n) (b := 0) h (by decide)).mp q
  omega
/-- what the parameters keep -/
def PI (P : Nat → Nat) : Prop := (1 ≤ P 0 ∧ P 0 ≤ 7) ∧ (1 ≤ P 1 ∧ P 1 ≤ 3) ∧ P 2 ≤ 20 ∧ (∀ k, k < 22 → P k ≤ 99) ∧ (∀ l, l < 5 → P (15 + l) ≤ 10) ∧ P 15 + P 16 + P 17 + P 18 + P 19 = 10 ∧ P 20 ≤ 10 ∧ P 21 ≤ 10
def ch (n k : Nat) : Nat := tbl tBIN (n * 8 + k)
theorem tBIN_le (x : Nat) : tbl tBIN x ≤ 35 := by
  rcases Nat.lt_or_ge x 64 with h | h
  · exact co_dec (N := 64) (P := fun x => tbl tBIN x ≤ 35) (by decide +kernel) h
  · have h2 : tBIN.length ≤ x := h
    simp [tbl, List.getD, List.getElem?_eq_none h2]
theorem ch_pos : ∀ n, n < 8 → ∀ i, i < n + 1 → 0 < ch n i := by decide +kernel
theorem ch_420 : ∀ n, n < 8 → ∀ i, i < n + 1 → 2116800 / ch n i = 420 * (5040 / ch n i) := by decide +kernel
def fc : Nat → Nat | 0 => 1 | n + 1 => (n + 1) * fc n
theorem ch_fc : ∀ n, n < 8 → ∀ i, i < n + 1 → (5040 / ch n i) % fc i = 0 := by decide +kernel
theorem fc_5040 : ∀ i, i < 8 → 5040 % fc i = 0 := by decide +kernel
def sgN (f : Nat → Nat) : Nat → Nat | 0 => 0 | n + 1 => sgN f n + f n
def smN (f : Nat → Nat) : Nat → Nat | 0 => 0 | n + 1 => smN f n + f (n + 1)
def woT (P : Nat → Nat) (n i r t : Nat) : Nat := P (3 + (r + t) - 1) * (ch (r + t - 1) (r - 1) * ch (n - (r + t)) (i - r))
def woS (P : Nat → Nat) (n i r : Nat) : Nat := sgN (woT P n i r) (n - i + 1)
def Wo (P : Nat → Nat) (i r : Nat) : Nat := woS P (P 0) i r * (5040 / ch (P 0) i)
theorem ch_sum : ∀ n, n < 8 → ∀ i, i < n + 1 → ∀ r, r < i + 1 → 1 ≤ r → sgN (fun t => ch (r + t - 1) (r - 1) * ch (n - (r + t)) (i - r)) (n - i + 1) = ch n i := by decide +kernel
theorem sgN_le {f g : Nat → Nat} {M N : Nat} (h : ∀ t, t < N → f t ≤ M * g t) : sgN f N ≤ M * sgN g N := by
  induction N with
  | zero => exact Nat.zero_le _
  | succ n ih =>
    have h1 := ih (fun t ht => h t (by omega))
    have h2 := h n (by omega)
    show sgN f n + f n ≤ M * (sgN g n + g n)
    rw [Nat.mul_add]
    omega
theorem PI.le {P : Nat → Nat} (h : PI P) {k : Nat} (hk : k < 22) : P k ≤ 99 := h.2.2.2.1 k hk
theorem woS_le {P : Nat → Nat} (h : PI P) {i r : Nat} (hi : i ≤ P 0) (h1 : 1 ≤ r) (h2 : r ≤ i) : woS P (P 0) i r ≤ 99 * ch (P 0) i := by
  have hn := h.1
  rw [← ch_sum (P 0) (by omega) i (by omega) r (by omega) h1]
  refine sgN_le (fun t ht => ?_)
  unfold woT
  exact Nat.mul_le_mul_right _ (h.le (by omega))
theorem Wo_le {P : Nat → Nat} (h : PI P) {i r : Nat} (hi : i ≤ P 0) (h1 : 1 ≤ r) (h2 : r ≤ i) : Wo P i r ≤ 498960 := by
  have h3 := woS_le h hi h1 h2
  have h4 : ch (P 0) i * (5040 / ch (P 0) i) ≤ 5040 := Nat.mul_div_le _ _
  have h5 : woS P (P 0) i r * (5040 / ch (P 0) i) ≤ 99 * ch (P 0) i * (5040 / ch (P 0) i) := Nat.mul_le_mul_right _ h3
  rw [Nat.mul_assoc] at h5
  unfold Wo
  omega
theorem Wo_420 {P : Nat → Nat} (h : PI P) {i r : Nat} (hi : i ≤ P 0) : woS P (P 0) i r * (2116800 / ch (P 0) i) = 420 * Wo P i r := by
  have hn := h.1
  rw [ch_420 (P 0) (by omega) i (by omega)]
  unfold Wo
  rw [Nat.mul_left_comm]
theorem Wo_fc {P : Nat → Nat} (h : PI P) {i r : Nat} (hi : i ≤ P 0) : fc i ∣ Wo P i r := by
  have hn := h.1
  exact Nat.dvd_mul_left_of_dvd (Nat.dvd_of_mod_eq_zero (ch_fc (P 0) (by omega) i (by omega))) _
def VR (P : Nat → Nat) : Nat → Nat → Nat
  | 0, _ => 0
  | d + 1, j => if j = 0 then 0 else smN (fun r => max (VR P d j) (Wo P (P 0 - d) r + VR P d (j - 1))) (P 0 - d) / (P 0 - d) - 5040 * P 2
def VM (P : Nat → Nat) (d j i : Nat) : Nat := smN (fun r => max (VR P d j) (Wo P i r + VR P d (j - 1))) i
theorem VR_s (P : Nat → Nat) (d : Nat) {j : Nat} (hj : 1 ≤ j) : VR P (d + 1) j = VM P d j (P 0 - d) / (P 0 - d) - 5040 * P 2 := by
  show (if j = 0 then 0 else _) = _
  rw [if_neg (by omega)]; rfl
theorem VR_0 (P : Nat → Nat) (d : Nat) : VR P d 0 = 0 := by
  cases d <;> simp [VR]
theorem smN_le {f : Nat → Nat} {M N : Nat} (h : ∀ r, 1 ≤ r → r ≤ N → f r ≤ M) : smN f N ≤ N * M := by
  induction N with
  | zero => exact Nat.zero_le _
  | succ n ih =>
    have h1 := ih (fun t h1 h2 => h t h1 (by omega))
    have h2 := h (n + 1) (by omega) (by omega)
    show smN f n + f (n + 1) ≤ (n + 1) * M
    rw [Nat.add_mul]
    omega
theorem smN_dvd {f : Nat → Nat} {q N : Nat} (h : ∀ r, 1 ≤ r → r ≤ N → q ∣ f r) : q ∣ smN f N := by
  induction N with
  | zero => exact Nat.dvd_zero _
  | succ n ih => exact Nat.dvd_add (ih (fun t h1 h2 => h t h1 (by omega))) (h (n + 1) (by omega) (by omega))
theorem max_dvd {a b q : Nat} (h1 : q ∣ a) (h2 : q ∣ b) : q ∣ max a b := by
  rcases Nat.le_total a b with h | h
  · rw [Nat.max_eq_right h]; exact h2
  · rw [Nat.max_eq_left h]; exact h1
theorem VR_le {P : Nat → Nat} (h : PI P) : ∀ d j : Nat, d ≤ P 0 → VR P d j ≤ 498960 * j
  | 0, j, _ => Nat.zero_le _
  | d + 1, j, hd => by
    by_cases hj : j = 0
    · subst hj; rw [VR_0]; exact Nat.zero_le _
    · rw [VR_s P d (by omega)]
      have h1 : VM P d j (P 0 - d) ≤ (P 0 - d) * (498960 * j) := by
        refine smN_le (fun r h1 h2 => ?_)
        have a := VR_le h d j (by omega)
        have b := VR_le h d (j - 1) (by omega)
        have c := Wo_le h (i := P 0 - d) (r := r) (by omega) h1 h2
        have e : 498960 * j = 498960 * (j - 1) + 498960 := by
          obtain ⟨k, rfl⟩ : ∃ k, j = k + 1 := ⟨j - 1, by omega⟩
          rw [Nat.mul_add]; rfl
        exact Nat.max_le.mpr ⟨a, by omega⟩
      have h2 : VM P d j (P 0 - d) / (P 0 - d) ≤ 498960 * j := Nat.div_le_of_le_mul h1
      omega
theorem fc_s (i : Nat) (h : 1 ≤ i) : fc i = i * fc (i - 1) := by
  obtain ⟨k, rfl⟩ : ∃ k, i = k + 1 := ⟨i - 1, by omega⟩
  rfl
theorem div_dvd {i q S : Nat} (h : i * q ∣ S) (hi : 0 < i) : q ∣ S / i := by
  obtain ⟨k, rfl⟩ := h
  rw [Nat.mul_assoc, Nat.mul_div_cancel_left _ hi]
  exact Nat.dvd_mul_right _ _
theorem VR_fc {P : Nat → Nat} (h : PI P) : ∀ d j : Nat, d ≤ P 0 → fc (P 0 - d) ∣ VR P d j
  | 0, j, _ => Nat.dvd_zero _
  | d + 1, j, hd => by
    have hn := h.1
    by_cases hj : j = 0
    · subst hj; rw [VR_0]; exact Nat.dvd_zero _
    · rw [VR_s P d (by omega)]
      have h1 : fc (P 0 - d) ∣ VM P d j (P 0 - d) := smN_dvd (fun r _ _ => max_dvd (VR_fc h d j (by omega)) (Nat.dvd_add (Wo_fc h (by omega)) (VR_fc h d (j - 1) (by omega))))
      rw [fc_s _ (by omega)] at h1
      have h2 := div_dvd h1 (by omega)
      rw [show P 0 - (d + 1) = P 0 - d - 1 by omega]
      exact Nat.dvd_sub h2 (Nat.dvd_mul_right_of_dvd (Nat.dvd_of_mod_eq_zero (fc_5040 _ (by omega))) _)
theorem VM_dvd {P : Nat → Nat} (h : PI P) (d j : Nat) (hd : d < P 0) : (P 0 - d) ∣ VM P d j (P 0 - d) := by
  have h1 : fc (P 0 - d) ∣ VM P d j (P 0 - d) := smN_dvd (fun r _ _ => max_dvd (VR_fc h d j (by omega)) (Nat.dvd_add (Wo_fc h (by omega)) (VR_fc h d (j - 1) (by omega))))
  rw [fc_s _ (by omega)] at h1
  exact Nat.dvd_trans (Nat.dvd_mul_right _ _) h1
theorem mxL_n {a b : Nat} (ha : a < 9223372036854775808) (hb : b < 9223372036854775808) : mxL (lN a) (lN b) = lN (max a b) := by
  unfold mxL
  by_cases h : b < a
  · rw [if_pos ((pk_lLT hb ha).mpr h), Nat.max_eq_left (by omega)]
  · rw [if_neg (fun q => h ((pk_lLT hb ha).mp q)), Nat.max_eq_right (by omega)]
theorem sumL_n {F : Nat → Int64} {g : Nat → Nat} {N : Nat} (h : ∀ r, 1 ≤ r → r ≤ N → F r = lN (g r)) : sumL F N = lN (smN g N) := by
  induction N with
  | zero => rfl
  | succ n ih =>
    show sumL F n + F (n + 1) = lN (smN g n + g (n + 1))
    rw [ih (fun r h1 h2 => h r h1 (by omega)), h (n + 1) (by omega) (by omega), lN_add]
theorem smN_mul (c : Nat) (g : Nat → Nat) (N : Nat) : smN (fun r => c * g r) N = c * smN g N := by
  induction N with
  | zero => rfl
  | succ n ih =>
    show smN _ n + c * g (n + 1) = c * (smN g n + g (n + 1))
    rw [ih, Nat.mul_add]
theorem smN_c {f g : Nat → Nat} {N : Nat} (h : ∀ r, 1 ≤ r → r ≤ N → f r = g r) : smN f N = smN g N := by
  induction N with
  | zero => rfl
  | succ n ih =>
    show smN f n + f (n + 1) = smN g n + g (n + 1)
    rw [ih (fun r h1 h2 => h r h1 (by omega)), h (n + 1) (by omega) (by omega)]
theorem max_mul' (c a b : Nat) : max (c * a) (c * b) = c * max a b := (Nat.mul_max_mul_left c a b)
theorem bm64k {x : Int} (h1 : -9223372036854775808 ≤ x) (h2 : x < 9223372036854775808) : x.bmod (2 ^ 64) = x := Int.bmod_eq_of_le (by omega) (by omega)
/-- max with 0 of a difference -/
theorem cut0 {a b : Nat} (ha : a < 4611686018427387904) (hb : b < 4611686018427387904) : (if lN a - lN b < lN 0 then lN 0 else lN a - lN b) = lN (a - b) ∧ (if lN 0 < lN a - lN b then lN a - lN b else lN 0) = lN (a - b) := by
  rcases Nat.lt_or_ge a b with h | h
  · have h0 : (lN a - lN b).toInt = (a : Int) - b := by
      have e1 : (lN a).toInt = (a : Int) := pk_lT (by omega)
      have e2 : (lN b).toInt = (b : Int) := pk_lT (by omega)
      rw [Int64.toInt_sub, e1, e2]
      exact bm64k (by omega) (by omega)
    have h1 : lN a - lN b < lN 0 := by
      rw [Int64.lt_iff_toInt_lt, h0, show (lN 0).toInt = 0 from rfl]; omega
    have h2 : ¬ lN 0 < lN a - lN b := by
      rw [Int64.lt_iff_toInt_lt, h0, show (lN 0).toInt = 0 from rfl]; omega
    rw [if_pos h1, if_neg h2, show a - b = 0 by omega]
    exact ⟨rfl, rfl⟩
  · rw [lN_sub h]
    refine ⟨?_, ?_⟩
    · rw [if_neg (fun q => by have := (pk_lLT (a := a - b) (b := 0) (by omega) (by decide)).mp q; omega)]
    · by_cases h3 : 0 < a - b
      · rw [if_pos ((pk_lLT (by decide) (by omega)).mpr h3)]
      · rw [if_neg (fun q => h3 ((pk_lLT (by decide) (by omega)).mp q)), show a - b = 0 by omega]
theorem mean_c {P : Nat → Nat} (h : PI P) {d j q : Nat} (hd : d < P 0) (hq : 0 < q) (hq2 : q ≤ 420) (hj : j ≤ 3) : lN (q * VM P d j (P 0 - d)) / lN (P 0 - d) = lN (q * (VM P d j (P 0 - d) / (P 0 - d))) ∧ q * (VM P d j (P 0 - d) / (P 0 - d)) < 4611686018427387904 := by
  have hn := h.1
  have h1 : VM P d j (P 0 - d) ≤ (P 0 - d) * 1496880 := smN_le (fun r h1 h2 => by
    have a := VR_le h d j (by omega)
    have b := VR_le h d (j - 1) (by omega)
    have c := Wo_le h (i := P 0 - d) (r := r) (by omega) h1 h2
    refine Nat.max_le.mpr ⟨by omega, ?_⟩
    by_cases hj0 : j = 0
    · subst hj0; rw [VR_0] at *; omega
    · omega)
  have h1b : VM P d j (P 0 - d) ≤ 7 * 1496880 := Nat.le_trans h1 (Nat.mul_le_mul_right _ (by omega))
  have h2 : q * VM P d j (P 0 - d) ≤ 420 * (7 * 1496880) := Nat.mul_le_mul hq2 h1b
  have h3 : VM P d j (P 0 - d) / (P 0 - d) ≤ 7 * 1496880 := Nat.le_trans (Nat.div_le_self _ _) h1b
  have h4 : q * (VM P d j (P 0 - d) / (P 0 - d)) ≤ 420 * (7 * 1496880) := Nat.mul_le_mul hq2 h3
  refine ⟨?_, by omega⟩
  rw [pk_lDiv (by omega) (by omega) (by omega), Nat.mul_div_assoc _ (VM_dvd h d j hd)]

