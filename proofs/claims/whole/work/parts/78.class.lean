theorem abs_e {x : Int} (h1 : -4611686018427387904 ≤ x) (h2 : x < 4611686018427387904) : (if 0 < iN x then iN x else -(iN x)) = lN x.natAbs := by
  by_cases c : (0 : Int64) < iN x
  · rw [if_pos c]
    exact iN_abs1 h1 h2 (Int64.le_of_lt c)
  · rw [if_neg c]
    rcases (show 0 < x ∨ x ≤ 0 by omega) with q | q
    · exact absurd ((iN_lt (a := 0) (b := x) (by omega) (by omega) (by omega) (by omega)).mpr q) c
    · rw [iN_neg, lN_iN]
      exact congrArg iN (by omega)
theorem eu_0 {x d : Nat} (hx : x ≤ 4611686018427387904) (hd : d < 4611686018427387904) : 2 ^ 0 * (x * d) ≤ 2 ^ 126 := by
  have h : x * d ≤ 4611686018427387904 * 4611686018427387904 := Nat.mul_le_mul (by omega) (by omega)
  rw [Nat.pow_zero, Nat.one_mul]
  exact Nat.le_trans h (by decide)
theorem eu_s {t a b : Nat} (h : 2 ^ t * (a * b) ≤ 2 ^ 126) (hb : b ≠ 0) (ht : (t = 0 ∧ a * b ≤ 2 ^ 124) ∨ b < a) : 2 ^ (t + 1) * (b * (a % b)) ≤ 2 ^ 126 := by
  rcases ht with ⟨h0, h1⟩ | h1
  · subst h0
    have e : b * (a % b) ≤ a * b := by rw [Nat.mul_comm a b]; exact Nat.mul_le_mul_left _ (Nat.mod_le _ _)
    have e2 : 2 ^ (0 + 1) * (b * (a % b)) ≤ 2 ^ (0 + 1) * 2 ^ 124 := Nat.mul_le_mul_left _ (Nat.le_trans e h1)
    exact Nat.le_trans e2 (by decide)
  · have e1 : 2 * (a % b) ≤ a := by
      have q := Nat.mod_add_div a b
      have m := Nat.mod_lt a (show 0 < b by omega)
      have d1 : 1 ≤ a / b := (Nat.le_div_iff_mul_le (by omega)).mpr (by omega)
      have d2 : b * 1 ≤ b * (a / b) := Nat.mul_le_mul_left _ d1
      omega
    have e2 : 2 * (b * (a % b)) ≤ a * b := by
      rw [Nat.mul_left_comm, Nat.mul_comm a b]; exact Nat.mul_le_mul_left _ e1
    rw [Nat.pow_succ, Nat.mul_assoc]
    exact Nat.le_trans (Nat.mul_le_mul_left _ e2) h
theorem eu_e {t a b : Nat} (h : 2 ^ t * (a * b) ≤ 2 ^ 126) (ht : 200 ≤ t) (hab : b < a) : b = 0 := by
  rcases Nat.eq_zero_or_pos b with q | q
  · exact q
  · have e : 1 ≤ a * b := Nat.mul_pos (by omega) q
    have e2 : 2 ^ 200 ≤ 2 ^ t := Nat.pow_le_pow_right (by decide) ht
    have e3 : 2 ^ t * 1 ≤ 2 ^ t * (a * b) := Nat.mul_le_mul_left _ e
    have e4 : (2 : Nat) ^ 126 < 2 ^ 200 := by decide
    rw [Nat.mul_one] at e3
    exact absurd (Nat.le_trans e2 (Nat.le_trans e3 h)) (Nat.not_le.mpr e4)
theorem FRg_420 (x : Int) : FRg (420 * x) 2116800 = 420 * FRg x 5040 := by
  unfold FRg
  rw [Int.natAbs_mul]
  exact Nat.gcd_mul_left 420 x.natAbs 5040
theorem FR_420 (x : Int) : FRn (420 * x) 2116800 = FRn x 5040 ∧ FRd (420 * x) 2116800 = FRd x 5040 := by
  unfold FRn FRd
  rw [FRg_420]
  refine ⟨?_, Nat.mul_div_mul_left 5040 _ (show 0 < 420 by decide)⟩
  rw [Int.natCast_mul]
  exact Int.mul_ediv_mul_of_pos _ _ (by decide)
theorem frO_q {ok : Prop} [Decidable ok] {x : Int} {un : Int64} (h : ok) : (iN (FRn (420 * x) 2116800), lN (FRd (420 * x) 2116800)) = frO ok x 5040 un := by
  rw [(FR_420 x).1, (FR_420 x).2]; exact frO_t h
theorem l420 (n : Nat) : lN (420 * n) = iN (420 * (n : Int)) := by rw [lN_iN, Int.natCast_mul]; rfl
theorem ls_t : ∀ i, i < 22 → tbl tLEA i = lsO i ∧ tbl tMOS i = msO i := by decide +kernel
theorem setO_c {P hs : Nat → Nat} {bm kn i v : Nat} {ok ok' : Prop} [Decidable ok] [Decidable ok'] (h : ok ↔ ok') : setO P hs bm kn ok i v = setO P hs bm kn ok' i v := by
  unfold setO
  by_cases c : ok
  · rw [if_pos c, if_pos (h.mp c)]
  · rw [if_neg c, if_neg (fun q => c (h.mpr q))]
theorem RI_1 {P : Nat → Nat} {w b : Nat → Int64} {n : Nat} {co : Int64} (h : RS P w b n co) : RI P 1 w b n co := ⟨Nat.le_refl 1, fun _ => h⟩
theorem VI_1 {P : Nat → Nat} {wr n co c1 c2 : Nat} {lv wt bf af : Nat → Nat} (h : VS P wr n co c1 c2 lv wt bf af ∧ (∀ k, bf k ≤ 297000000000000000) ∧ (∀ k, af k ≤ 297000000000000000)) : VI P wr 1 n co c1 c2 lv wt bf af := ⟨Nat.le_refl 1, h.2.1, h.2.2, fun _ => h.1⟩
def FZ (fl : Nat → Int64) : Prop := ∀ i, 1 ≤ i → i ≤ 8 → fl (((i - 1) * 4) + 0) = lN 0
theorem sk_le {x y : Int} (hx : -2000000 ≤ x ∧ x ≤ 2000000) (hy : -2000000 ≤ y ∧ y ≤ 2000000) : iN (420 * x) ≤ iN (420 * y) ↔ x ≤ y := by
  rw [iN_le (by omega) (by omega) (by omega) (by omega)]
  omega
theorem argG_max (f : Nat → Int) : ∀ n k, k ≤ n → f k ≤ f (argG f n)
  | 0, k, h => by
    have : k = 0 := by omega
    subst this; exact Int.le_refl _
  | n + 1, k, h => by
    show f k ≤ f (if f (argG f n) < f (n + 1) then n + 1 else argG f n)
    by_cases c : f (argG f n) < f (n + 1)
    · rw [if_pos c]
      rcases Nat.lt_or_ge n k with q | q
      · have : k = n + 1 := by omega
        subst this; exact Int.le_refl _
      · exact Int.le_trans (argG_max f n k q) (Int.le_of_lt c)
    · rw [if_neg c]
      rcases Nat.lt_or_ge n k with q | q
      · have : k = n + 1 := by omega
        subst this; exact Int.not_lt.mp c
      · exact argG_max f n k q
theorem sgI_c {f g : Nat → Int} {N : Nat} (h : ∀ t, t < N → f t = g t) : sgI f N = sgI g N := by
  induction N with
  | zero => rfl
  | succ n ih =>
    show sgI f n + f n = sgI g n + g n
    rw [ih (fun t ht => h t (by omega)), h n (by omega)]
theorem FX_h {P : Nat → Nat} {h : Nat} (hP : ∀ l, l < 5 → P (10 + l) ≠ h) : ∀ d j, FX P (h + 1) d j = FX P h d j
  | 0, _ => rfl
  | d + 1, j => by
    rcases Nat.eq_zero_or_pos j with q | q
    · subst q; rw [FX_0, FX_0]
    · rw [FX_s P (h + 1) d q, FX_s P h d q, FX_h hP d (j - 1), FX_h hP d j]
      have e : sgI (FXm P (h + 1) (FX P h d (j - 1)) (FX P h d j)) 5 = sgI (FXm P h (FX P h d (j - 1)) (FX P h d j)) 5 := sgI_c (fun t ht => by
        have n := hP t ht
        unfold FXm
        by_cases c : h ≤ P (10 + t)
        · rw [if_pos c, if_pos (show h + 1 ≤ P (10 + t) by omega)]
        · rw [if_neg c, if_neg (show ¬ h + 1 ≤ P (10 + t) by omega)])
      rw [e]
theorem sel3_r {rs : Nat → Int32} {r : R3} {k : Nat} (h : k < 3) (h0 : rs 0 = r.1) (h1 : rs 1 = r.2.1) (h2 : rs 2 = r.2.2) : rs k = sel3 k r := by
  rcases (show k = 0 ∨ k = 1 ∨ k = 2 by omega) with rfl | rfl | rfl
  · exact h0
  · exact h1
  · exact h2
theorem sel5_q {rs : Nat → Int32} {r : R5} {k : Nat} (h : k < 5) (h0 : rs 0 = r.1) (h1 : rs 1 = r.2.1) (h2 : rs 2 = r.2.2.1) (h3 : rs 3 = r.2.2.2.1) (h4 : rs 4 = r.2.2.2.2) : rs k = sel5 k r := by
  rcases (show k = 0 ∨ k = 1 ∨ k = 2 ∨ k = 3 ∨ k = 4 by omega) with rfl | rfl | rfl | rfl | rfl
  · exact h0
  · exact h1
  · exact h2
  · exact h3
  · exact h4
theorem nb_t {c : Prop} [Decidable c] (h : ¬ c) : nI 1 = b2i (¬ c) := (b2i_t h).symm
theorem nb_f {c : Prop} [Decidable c] (h : c) : nI 0 = b2i (¬ c) := (b2i_f (fun z : ¬ c => z h)).symm
theorem in5 {a : Int32} : a < nI 5 ↔ a ≤ nI 4 := by
  rw [Int32.lt_iff_toInt_lt, Int32.le_iff_toInt_le, nI_toInt (by decide), nI_toInt (by decide)]
  omega

