def mfF (w b f : Nat → Int64) (oc i j r : Nat) : Int64 := if b ((((i + 1) - 1) * 4) + j) ≤ w ((((i - 1) * 7) + r) - 1) + b ((((i + 1) - 1) * 4) + (j - 1)) then f ((((i + 1) - 1) * 4) + (j - 1)) + (if oc = 0 then lN 0 else lN 2116800) else f ((((i + 1) - 1) * 4) + j)
theorem woT_s {P : Nat → Nat} {n i r k sm : Nat} (h : r ≤ k) (hs : sm = sgN (woT P n i r) (k - r)) : sm + P ((3 + k) - 1) * (tbl tBIN (((k - 1) * 8) + (r - 1)) * tbl tBIN (((n - k) * 8) + (i - r))) = sgN (woT P n i r) (k + 1 - r) := by
  rw [show k + 1 - r = (k - r) + 1 by omega]
  show _ = sgN _ _ + woT P n i r (k - r)
  rw [← hs]
  unfold woT ch
  rw [show r + (k - r) = k by omega]
def clr (n : Nat) (g : Nat → Int64) : Nat → Int64 := fun x => if (x % 4 = 0 ∧ x / 4 < n) ∨ x / 4 = n then lN 0 else g x
/-- a table of two places, filled from the last row on: rows behind i, and of row i the places below j (place 0 and the last row are given) -/
def FD (n k : Nat) (T : Nat → Nat → Int64) (f : Nat → Int64) (i j : Nat) : Prop := ∀ i' j' : Nat, 1 ≤ i' → i' ≤ n + 1 → j' ≤ k → (j' = 0 ∨ i' = n + 1 ∨ i < i' ∨ (i' = i ∧ j' < j)) → f (((i' - 1) * 4) + j') = T (n + 1 - i') j'
theorem FD_put {n k i j : Nat} {T : Nat → Nat → Int64} {f : Nat → Int64} {v : Int64} (h : FD n k T f i j) (h1 : 1 ≤ i) (h3 : k ≤ 3) (h4 : j ≤ k) (hv : v = T (n + 1 - i) j) : FD n k T (updL f (((i - 1) * 4) + j) v) i (j + 1) := by
  intro i' j' a b c d
  by_cases q : ((i' - 1) * 4) + j' = ((i - 1) * 4) + j
  · have e1 : i' = i := by omega
    have e2 : j' = j := by omega
    subst e1; subst e2
    rw [updL_s]; exact hv
  · rw [updL_n _ _ q]
    exact h i' j' a b c (by omega)
theorem FD_wk {n k i j : Nat} {T : Nat → Nat → Int64} {f : Nat → Int64} (h : FD n k T f i j) : FD n k T f i 1 := fun i' j' a b c d => h i' j' a b c (by omega)
theorem FD_next {n k i j : Nat} {T : Nat → Nat → Int64} {f : Nat → Int64} (h : FD n k T f i j) (hj : k < j) : FD n k T f (i - 1) 1 := by
  intro i' j' a b c d
  exact h i' j' a b c (by omega)
theorem FD_clr {n k : Nat} {T : Nat → Nat → Int64} {g : Nat → Int64} (h3 : k ≤ 3) (hT0 : ∀ d, T d 0 = lN 0) (hT : ∀ j, T 0 j = lN 0) : FD n k T (clr n g) n 1 := by
  intro i' j' a b c d
  unfold clr
  rcases Nat.eq_zero_or_pos j' with q | q
  · subst q
    rw [if_pos (by omega), hT0]
  · have e : i' = n + 1 := by omega
    subst e
    rw [if_pos (by omega), Nat.sub_self, hT]
theorem FD_all {n k : Nat} {T : Nat → Nat → Int64} {f : Nat → Int64} {j : Nat} (h : FD n k T f 0 j) {i j' : Nat} (h1 : 1 ≤ i) (h2 : i ≤ n + 1) (h3 : j' ≤ k) : f (((i - 1) * 4) + j') = T (n + 1 - i) j' := h i j' h1 h2 h3 (by omega)
/-- the worths, filled row by row -/
def WD (P : Nat → Nat) (w : Nat → Int64) (i r : Nat) : Prop := ∀ i' r' : Nat, 1 ≤ i' → i' ≤ P 0 → 1 ≤ r' → r' ≤ i' → (i' < i ∨ (i' = i ∧ r' < r)) → w ((((i' - 1) * 7) + r') - 1) = lN (420 * Wo P i' r')
theorem WD_put {P : Nat → Nat} {w : Nat → Int64} {i r : Nat} {v : Int64} (hn : P 0 ≤ 7) (h : WD P w i r) (h1 : 1 ≤ i) (h2 : i ≤ P 0) (h3 : 1 ≤ r) (h4 : r ≤ i) (hv : v = lN (420 * Wo P i r)) : WD P (updL w ((((i - 1) * 7) + r) - 1) v) i (r + 1) := by
  intro i' r' a b c d e
  by_cases q : (((i' - 1) * 7) + r') - 1 = (((i - 1) * 7) + r) - 1
  · have e1 : i' = i := by omega
    have e2 : r' = r := by omega
    subst e1; subst e2
    rw [updL_s]; exact hv
  · rw [updL_n _ _ q]
    exact h i' r' a b c d (by omega)
theorem WD_next {P : Nat → Nat} {w : Nat → Int64} {i r : Nat} (h : WD P w i r) (hr : i < r) : WD P w (i + 1) 1 := fun i' r' a b c d e => h i' r' a b c d (by omega)
theorem WD_0 {P : Nat → Nat} {w : Nat → Int64} : WD P w 1 1 := fun i' r' a b c d e => by omega
abbrev VT (P : Nat → Nat) (q : Nat) : Nat → Nat → Int64 := fun d j => lN (q * VR P d j)
/-- the rank problem is solved for the parameters P -/
def RS (P : Nat → Nat) (w b : Nat → Int64) (n : Nat) (co : Int64) : Prop := n = P 0 ∧ co = lN (P 2 * 2116800) ∧ (∀ i r : Nat, 1 ≤ i → i ≤ P 0 → 1 ≤ r → r ≤ i → w ((((i - 1) * 7) + r) - 1) = lN (420 * Wo P i r)) ∧ (∀ i j : Nat, 1 ≤ i → i ≤ P 0 + 1 → j ≤ 3 → b (((i - 1) * 4) + j) = lN (420 * VR P (P 0 + 1 - i) j))
def RI (P : Nat → Nat) (sv : Nat) (w b : Nat → Int64) (n : Nat) (co : Int64) : Prop := sv ≤ 1 ∧ (sv = 1 → RS P w b n co)
theorem mean_sum {P : Nat → Nat} (h : PI P) {q d j : Nat} (hd : d < P 0) (h1 : 1 ≤ j) (hj : j ≤ 3) (hq : 0 < q) (hq2 : q ≤ 420) {F : Nat → Int64} (hF : ∀ r, 1 ≤ r → r ≤ P 0 - d → F r = lN (q * max (VR P d j) (Wo P (P 0 - d) r + VR P d (j - 1)))) : sumL F (P 0 - d) / lN (P 0 - d) = lN (q * (VM P d j (P 0 - d) / (P 0 - d))) := by
  rw [sumL_n hF, smN_mul]
  exact (mean_c h hd hq hq2 hj).1
theorem mean_cut {P : Nat → Nat} (h : PI P) {q d j : Nat} (hd : d < P 0) (h1 : 1 ≤ j) (hj : j ≤ 3) (hq : 0 < q) (hq2 : q ≤ 420) {c : Nat} (hc : c = P 2 * (5040 * q)) {X : Int64} (hX : X = lN (q * (VM P d j (P 0 - d) / (P 0 - d)))) : (if X - lN c < lN 0 then lN 0 else X - lN c) = lN (q * VR P (d + 1) j) ∧ (if lN 0 < X - lN c then X - lN c else lN 0) = lN (q * VR P (d + 1) j) := by
  have hb := (mean_c h hd hq hq2 hj).2
  have hP2 := h.2.2.1
  have hcb : c ≤ 20 * (5040 * 420) := by rw [hc]; exact Nat.mul_le_mul hP2 (Nat.mul_le_mul_left _ hq2)
  rw [hX, VR_s P d h1, Nat.mul_sub]
  have e : c = q * (5040 * P 2) := by rw [hc, Nat.mul_comm 5040 q, Nat.mul_left_comm, Nat.mul_comm (P 2) 5040]
  rw [← e]
  exact cut0 hb (by omega)
theorem W_bnd {P : Nat → Nat} (h : PI P) {d j r : Nat} (hd : d ≤ P 0) (hj : j ≤ 3) (h1 : 1 ≤ r) (i : Nat) (hi : i ≤ P 0) (h2 : r ≤ i) : 420 * VR P d j < 4611686018427387904 ∧ 420 * (Wo P i r + VR P d j) < 4611686018427387904 := by
  have a := VR_le h d j hd
  have b := Wo_le h (i := i) (r := r) hi h1 h2
  omega
theorem solve_mean {P : Nat → Nat} (h : PI P) {w b : Nat → Int64} {i j : Nat} (h1 : 1 ≤ i) (h2 : i ≤ P 0) (h3 : 1 ≤ j) (h4 : j ≤ 3) (hw : WD P w (P 0 + 1) 1) (hb : FD (P 0) 3 (VT P 420) b i 1) : (if sumL (fun r => mxL (b ((((i + 1) - 1) * 4) + j)) (w ((((i - 1) * 7) + r) - 1) + b ((((i + 1) - 1) * 4) + (j - 1)))) i / lN i - lN (P 2 * 2116800) < lN 0 then lN 0 else sumL (fun r => mxL (b ((((i + 1) - 1) * 4) + j)) (w ((((i - 1) * 7) + r) - 1) + b ((((i + 1) - 1) * 4) + (j - 1)))) i / lN i - lN (P 2 * 2116800)) = lN (420 * VR P (P 0 + 1 - i) j) := by
  obtain ⟨d, hd, hi⟩ : ∃ d, d < P 0 ∧ i = P 0 - d := ⟨P 0 - i, by omega, by omega⟩
  subst hi
  rw [show P 0 + 1 - (P 0 - d) = d + 1 by omega]
  have hV : ∀ j', j' ≤ 3 → b ((((P 0 - d + 1) - 1) * 4) + j') = lN (420 * VR P d j') := fun j' hj' => by
    have := hb (P 0 - d + 1) j' (by omega) (by omega) hj' (by omega)
    rw [show P 0 + 1 - (P 0 - d + 1) = d by omega] at this
    exact this
  refine (mean_cut h hd h3 h4 (by decide) (by decide) (c := P 2 * 2116800) rfl (mean_sum h hd h3 h4 (by decide) (by decide) (fun r a1 a2 => ?_))).1
  rw [hV j h4, hV (j - 1) (by omega), hw (P 0 - d) r h1 h2 a1 a2 (by omega), lN_add, ← Nat.mul_add]
  have q1 := W_bnd h (d := d) (j := j) (r := r) (by omega) h4 a1 (P 0 - d) h2 a2
  have q2 := W_bnd h (d := d) (j := j - 1) (r := r) (by omega) (by omega) a1 (P 0 - d) h2 a2
  rw [mxL_n (by omega) (by omega), max_mul']
/-- expectations: what 0 observations, 1 choices, 2 all used -/
def EX (P : Nat → Nat) (wh : Nat) : Nat → Nat → Nat
  | 0, j => if wh = 2 ∧ j = 0 then 5040 else 0
  | d + 1, j => if VR P (d + 1) j = 0 then (if wh = 2 ∧ j = 0 then 5040 else 0) else smN (fun r => if VR P d j ≤ Wo P (P 0 - d) r + VR P d (j - 1) then EX P wh d (j - 1) + (if wh = 1 then 5040 else 0) else EX P wh d j) (P 0 - d) / (P 0 - d) + (if wh = 0 then 5040 else 0)
def EM (P : Nat → Nat) (wh d j r : Nat) : Nat := if VR P d j ≤ Wo P (P 0 - d) r + VR P d (j - 1) then EX P wh d (j - 1) + (if wh = 1 then 5040 else 0) else EX P wh d j
theorem EX_z {P : Nat → Nat} {wh d j : Nat} (h : VR P d j = 0) : EX P wh d j = if wh = 2 ∧ j = 0 then 5040 else 0 := by
  cases d with
  | zero => rfl
  | succ d => show (if _ then _ else _) = _; rw [if_pos h]
theorem EX_s {P : Nat → Nat} {wh d j : Nat} (h : VR P (d + 1) j ≠ 0) : EX P wh (d + 1) j = smN (EM P wh d j) (P 0 - d) / (P 0 - d) + (if wh = 0 then 5040 else 0) := by
  show (if _ then _ else _) = _
  rw [if_neg h]; rfl
theorem EX_fc {P : Nat → Nat} (h : PI P) (wh : Nat) : ∀ d j : Nat, d ≤ P 0 → fc (P 0 - d) ∣ EX P wh d j
  | 0, j, _ => by
    have hn := h.1
    show _ ∣ (if _ then _ else _)
    by_cases q : wh = 2 ∧ j = 0
    · rw [if_pos q]; exact Nat.dvd_of_mod_eq_zero (fc_5040 _ (by omega))
    · rw [if_neg q]; exact Nat.dvd_zero _
  | d + 1, j, hd => by
    have hn := h.1
    have h5 : ∀ k, k < 8 → fc k ∣ 5040 := fun k hk => Nat.dvd_of_mod_eq_zero (fc_5040 k hk)
    have hz : ∀ (c : Prop) [Decidable c] (k : Nat), k < 8 → fc k ∣ (if c then 5040 else 0) := fun c _ k hk => by
      by_cases q : c
      · rw [if_pos q]; exact h5 k hk
      · rw [if_neg q]; exact Nat.dvd_zero _
    by_cases hv : VR P (d + 1) j = 0
    · rw [EX_z hv]; exact hz _ _ (by omega)
    · rw [EX_s hv]
      have h1 : fc (P 0 - d) ∣ smN (EM P wh d j) (P 0 - d) := smN_dvd (fun r _ _ => by
        unfold EM
        by_cases q : VR P d j ≤ Wo P (P 0 - d) r + VR P d (j - 1)
        · rw [if_pos q]; exact Nat.dvd_add (EX_fc h wh d (j - 1) (by omega)) (hz _ _ (by omega))
        · rw [if_neg q]; exact EX_fc h wh d j (by omega))
      rw [fc_s _ (by omega)] at h1
      have h2 := div_dvd h1 (by omega)
      rw [show P 0 - (d + 1) = P 0 - d - 1 by omega]
      exact Nat.dvd_add h2 (hz _ _ (by omega))
theorem EM_dvd {P : Nat → Nat} (h : PI P) (wh d j : Nat) (hd : d < P 0) : (P 0 - d) ∣ smN (EM P wh d j) (P 0 - d) := by
  have hn := h.1
  have h1 : fc (P 0 - d) ∣ smN (EM P wh d j) (P 0 - d) := smN_dvd (fun r _ _ => by
    unfold EM
    by_cases q : VR P d j ≤ Wo P (P 0 - d) r + VR P d (j - 1)
    · rw [if_pos q]
      refine Nat.dvd_add (EX_fc h wh d (j - 1) (by omega)) ?_
      by_cases q : wh = 1
      · rw [if_pos q]; exact Nat.dvd_of_mod_eq_zero (fc_5040 _ (by omega))
      · rw [if_neg q]; exact Nat.dvd_zero _
    · rw [if_neg q]; exact EX_fc h wh d j (by omega))
  rw [fc_s _ (by omega)] at h1
  exact Nat.dvd_trans (Nat.dvd_mul_right _ _) h1
theorem EX_le {P : Nat → Nat} (wh : Nat) : ∀ d j : Nat, d ≤ P 0 → EX P wh d j ≤ 5040 * (d + j + 1)
  | 0, j, _ => by
    show (if _ then _ else _) ≤ _
    split <;> omega
  | d + 1, j, hd => by
    by_cases hv : VR P (d + 1) j = 0
    · rw [EX_z hv]; split <;> omega
    · rw [EX_s hv]
      have hj : j ≠ 0 := fun q => hv (by subst q; exact VR_0 P _)
      have h1 : smN (EM P wh d j) (P 0 - d) ≤ (P 0 - d) * (5040 * (d + j + 1)) := smN_le (fun r _ _ => by
        unfold EM
        have a := EX_le wh d j (by omega) (P := P)
        have b := EX_le wh d (j - 1) (by omega) (P := P)
        by_cases q : VR P d j ≤ Wo P (P 0 - d) r + VR P d (j - 1)
        · rw [if_pos q]; split <;> omega
        · rw [if_neg q]; omega)
      have h2 : smN (EM P wh d j) (P 0 - d) / (P 0 - d) ≤ 5040 * (d + j + 1) := Nat.div_le_of_le_mul h1
      split <;> omega
theorem EM_le {P : Nat → Nat} (wh d j : Nat) (hd : d < P 0) (hn : P 0 ≤ 7) (hj : j ≤ 3) : smN (EM P wh d j) (P 0 - d) ≤ 7 * 60480 := by
  have h1 : smN (EM P wh d j) (P 0 - d) ≤ (P 0 - d) * 60480 := smN_le (fun r _ _ => by
    unfold EM
    have a := EX_le wh d j (by omega) (P := P)
    have b := EX_le wh d (j - 1) (by omega) (P := P)
    by_cases q : VR P d j ≤ Wo P (P 0 - d) r + VR P d (j - 1)
    · rw [if_pos q]; split <;> omega
    · rw [if_neg q]; omega)
  exact Nat.le_trans h1 (Nat.mul_le_mul_right _ (by omega))
theorem lN_leI {a b : Nat} (ha : a < 9223372036854775808) (hb : b < 9223372036854775808) : lN a ≤ lN b ↔ a ≤ b := pk_lLE ha hb
theorem exp_mean {P : Nat → Nat} (h : PI P) {q wh d j : Nat} (hd : d < P 0) (hj : j ≤ 3) (hq : 0 < q) (hq2 : q ≤ 420) {F : Nat → Int64} (hF : ∀ r, 1 ≤ r → r ≤ P 0 - d → F r = lN (q * EM P wh d j r)) (hv : VR P (d + 1) j ≠ 0) : sumL F (P 0 - d) / lN (P 0 - d) + (if wh = 0 then lN (q * 5040) else lN 0) = lN (q * EX P wh (d + 1) j) := by
  have hn := h.1
  rw [sumL_n hF, smN_mul]
  have h1 := EM_le wh d j hd (by omega) hj (P := P)
  have h2 : q * smN (EM P wh d j) (P 0 - d) ≤ 420 * (7 * 60480) := Nat.mul_le_mul hq2 h1
  rw [pk_lDiv (by omega) (by omega) (by omega), Nat.mul_div_assoc _ (EM_dvd h wh d j hd), EX_s hv, Nat.mul_add]
  by_cases q0 : wh = 0
  · rw [if_pos q0, if_pos q0, lN_add]
  · rw [if_neg q0, if_neg q0, lN_add, Nat.mul_zero]
/-- the skipping rule with s -/
def SK (P : Nat → Nat) (s : Nat) : Nat → Nat → Int
  | 0, _ => 0
  | d + 1, j => if j = 0 then 0 else (if P 0 - d ≤ s then SK P s d j else ((Wo P (P 0 - d) 1 : Int) + SK P s d (j - 1) + ((P 0 - d - 1 : Nat) : Int) * SK P s d j) / ((P 0 - d : Nat) : Int)) - 5040 * (P 2 : Int)
def iN (z : Int) : Int64 := Int64.ofInt z
theorem iN_add (a b : Int) : iN a + iN b = iN (a + b) := Int64.toBitVec.inj (by simp [iN, BitVec.ofInt_add])
theorem iN_mul (a b : Int) : iN a * iN b = iN (a * b) := Int64.toBitVec.inj (by simp [iN, BitVec.ofInt_mul])
theorem lN_iN (n : Nat) : lN n = iN (n : Int) := (Int64.ofInt_eq_ofNat).symm
theorem iN_T {z : Int} (h1 : -9223372036854775808 ≤ z) (h2 : z < 9223372036854775808) : (iN z).toInt = z := Int64.toInt_ofInt_of_le (by omega) (by omega)
theorem iN_sub {a b : Int} (h1 : -4611686018427387904 ≤ a) (h2 : a < 4611686018427387904) (h3 : -4611686018427387904 ≤ b) (h4 : b < 4611686018427387904) : iN a - iN b = iN (a - b) := by
  apply Int64.toInt_inj.mp
  rw [Int64.toInt_sub, iN_T (by omega) (by omega), iN_T (by omega) (by omega), iN_T (by omega) (by omega)]
  exact bm64k (by omega) (by omega)
theorem iN_lt {a b : Int} (h1 : -9223372036854775808 ≤ a) (h2 : a < 9223372036854775808) (h3 : -9223372036854775808 ≤ b) (h4 : b < 9223372036854775808) : iN a < iN b ↔ a < b := by
  rw [Int64.lt_iff_toInt_lt, iN_T h1 h2, iN_T h3 h4]
theorem iN_le {a b : Int} (h1 : -9223372036854775808 ≤ a) (h2 : a < 9223372036854775808) (h3 : -9223372036854775808 ≤ b) (h4 : b < 9223372036854775808) : iN a ≤ iN b ↔ a ≤ b := by
  rw [Int64.le_iff_toInt_le, iN_T h1 h2, iN_T h3 h4]
theorem iN_inj {a b : Int} (h1 : -9223372036854775808 ≤ a) (h2 : a < 9223372036854775808) (h3 : -9223372036854775808 ≤ b) (h4 : b < 9223372036854775808) : iN a = iN b ↔ a = b := by
  refine ⟨fun h => ?_, fun h => by rw [h]⟩
  rw [← iN_T h1 h2, ← iN_T h3 h4, h]
/-- exact division by a positive number -/
theorem iN_div {a d : Int} (h1 : -9223372036854775807 ≤ a) (h2 : a < 9223372036854775808) (hd : 0 < d) (hd2 : d < 9223372036854775808) (hx : d ∣ a) : iN a / iN d = iN (a / d) := by
  obtain ⟨k, rfl⟩ := hx
  apply Int64.toInt_inj.mp
  have hk : -9223372036854775808 ≤ k ∧ k < 9223372036854775808 := by
    have e1 : k.natAbs ≤ (d * k).natAbs := by rw [Int.natAbs_mul]; exact Nat.le_mul_of_pos_left _ (by omega)
    omega
  have hne : iN d ≠ -1 := fun q => by
    have e := iN_T (z := d) (by omega) hd2
    rw [q] at e
    have e2 : (-1 : Int64).toInt = -1 := by decide
    omega
  rw [Int64.toInt_div_of_ne_right _ _ hne, iN_T (by omega) h2, iN_T (by omega) hd2, Int.mul_tdiv_cancel_left _ (by omega), Int.mul_ediv_cancel_left _ (by omega), iN_T hk.1 hk.2]

