abbrev ET (P : Nat → Nat) (q wh : Nat) : Nat → Nat → Int64 := fun d j => lN (q * EX P wh d j)
theorem exp_z {P : Nat → Nat} {q wh d j : Nat} (hj : 1 ≤ j) (h : VR P d j = 0) : lN 0 = lN (q * EX P wh d j) := by
  rw [EX_z h, if_neg (by omega), Nat.mul_zero]
theorem exp_conv {P : Nat → Nat} (h : PI P) {w b f : Nat → Int64} {wh oc i j k : Nat} {X : Int64} (h1 : 1 ≤ i) (h2 : i ≤ P 0) (h3 : 1 ≤ j) (h4 : j ≤ k) (h5 : k ≤ 3) (hw : ∀ i r : Nat, 1 ≤ i → i ≤ P 0 → 1 ≤ r → r ≤ i → w ((((i - 1) * 7) + r) - 1) = lN (420 * Wo P i r)) (hb : ∀ i j : Nat, 1 ≤ i → i ≤ P 0 + 1 → j ≤ 3 → b (((i - 1) * 4) + j) = lN (420 * VR P (P 0 + 1 - i) j)) (hF : FD (P 0) k (ET P 420 wh) f i 1) (hv : VR P (P 0 + 1 - i) j ≠ 0) (hoc : oc = if wh = 1 then 1 else 0) (hX : X = if wh = 0 then lN 2116800 else lN 0) : sumL (mfF w b f oc i j) i / lN i + X = lN (420 * EX P wh (P 0 + 1 - i) j) := by
  obtain ⟨d, hd, hi⟩ : ∃ d, d < P 0 ∧ i = P 0 - d := ⟨P 0 - i, by omega, by omega⟩
  subst hi
  rw [show P 0 + 1 - (P 0 - d) = d + 1 by omega] at hv ⊢
  have hV : ∀ j', j' ≤ 3 → b ((((P 0 - d + 1) - 1) * 4) + j') = lN (420 * VR P d j') := fun j' hj' => by
    have := hb (P 0 - d + 1) j' (by omega) (by omega) hj'
    rw [show P 0 + 1 - (P 0 - d + 1) = d by omega] at this
    exact this
  have hE : ∀ j', j' ≤ k → f ((((P 0 - d + 1) - 1) * 4) + j') = lN (420 * EX P wh d j') := fun j' hj' => by
    have := hF (P 0 - d + 1) j' (by omega) (by omega) hj' (by omega)
    rw [show P 0 + 1 - (P 0 - d + 1) = d by omega] at this
    exact this
  have key := exp_mean h (q := 420) (wh := wh) hd (by omega) (by decide) (by decide) (F := mfF w b f oc (P 0 - d) j) (j := j) (fun r a1 a2 => by
    unfold mfF EM
    have q1 := W_bnd h (d := d) (j := j) (r := r) (by omega) (by omega) a1 (P 0 - d) h2 a2
    have q2 := W_bnd h (d := d) (j := j - 1) (r := r) (by omega) (by omega) a1 (P 0 - d) h2 a2
    rw [hV j (by omega), hV (j - 1) (by omega), hw (P 0 - d) r h1 h2 a1 a2, lN_add, ← Nat.mul_add, hE j h4, hE (j - 1) (by omega)]
    by_cases c : VR P d j ≤ Wo P (P 0 - d) r + VR P d (j - 1)
    · rw [if_pos ((lN_leI (by omega) (by omega)).mpr (Nat.mul_le_mul_left _ c)), if_pos c, Nat.mul_add, ← lN_add, hoc]
      by_cases e : wh = 1
      · rw [if_pos e, if_pos e]; rfl
      · rw [if_neg e, if_neg e]; rfl
    · rw [if_neg (fun z => c (Nat.le_of_mul_le_mul_left ((lN_leI (by omega) (by omega)).mp z) (by decide))), if_neg c]) hv
  rw [hX]
  exact key
theorem FD_two {P : Nat → Nat} {k : Nat} {f : Nat → Int64} (hk : k ≤ 3) (h1 : ∀ i, 1 ≤ i → i ≤ P 0 + 1 → f (((i - 1) * 4) + 0) = lN 2116800) (h2 : ∀ j, 1 ≤ j → j ≤ 3 → f ((((P 0 + 1) - 1) * 4) + j) = lN 0) : FD (P 0) k (ET P 420 2) f (P 0) 1 := by
  intro i' j' a b c d
  show _ = lN (420 * EX P 2 (P 0 + 1 - i') j')
  rcases Nat.eq_zero_or_pos j' with q | q
  · subst q
    rw [h1 i' a b, EX_z (VR_0 P _), if_pos ⟨rfl, rfl⟩]
  · have e : i' = P 0 + 1 := by omega
    subst e
    rw [h2 j' q (by omega), Nat.sub_self]
    show _ = lN (420 * (if _ then _ else _))
    rw [if_neg (by omega)]
theorem ET_0 {P : Nat → Nat} {q wh : Nat} (h : wh ≠ 2) : (∀ d, ET P q wh d 0 = lN 0) ∧ ∀ j, ET P q wh 0 j = lN 0 := by
  refine ⟨fun d => ?_, fun j => ?_⟩
  · show lN (q * EX P wh d 0) = _
    rw [EX_z (VR_0 P _), if_neg (by omega), Nat.mul_zero]
  · show lN (q * (if _ then _ else _)) = _
    rw [if_neg (by omega), Nat.mul_zero]
theorem SK_0 (P : Nat → Nat) (s d : Nat) : SK P s d 0 = 0 := by cases d <;> simp [SK]
def SKm (P : Nat → Nat) (s d j : Nat) : Int := (Wo P (P 0 - d) 1 : Int) + SK P s d (j - 1) + ((P 0 - d - 1 : Nat) : Int) * SK P s d j
theorem SK_s (P : Nat → Nat) (s d : Nat) {j : Nat} (hj : 1 ≤ j) : SK P s (d + 1) j = (if P 0 - d ≤ s then SK P s d j else SKm P s d j / ((P 0 - d : Nat) : Int)) - 5040 * (P 2 : Int) := by
  show (if j = 0 then 0 else _) = _
  rw [if_neg (by omega)]; rfl
theorem SK_fc {P : Nat → Nat} (h : PI P) (s : Nat) : ∀ d j : Nat, d ≤ P 0 → ((fc (P 0 - d) : Nat) : Int) ∣ SK P s d j
  | 0, j, _ => Int.dvd_zero _
  | d + 1, j, hd => by
    have hn := h.1
    by_cases hj : j = 0
    · subst hj; rw [SK_0]; exact Int.dvd_zero _
    · rw [SK_s P s d (by omega)]
      have e5 : ((fc (P 0 - (d + 1)) : Nat) : Int) ∣ 5040 * (P 2 : Int) := Int.dvd_mul_of_dvd_left (show ((fc (P 0 - (d + 1)) : Nat) : Int) ∣ ((5040 : Nat) : Int) from Int.natCast_dvd_natCast.mpr (Nat.dvd_of_mod_eq_zero (fc_5040 _ (by omega))))
      have ef : ((fc (P 0 - d) : Nat) : Int) = ((P 0 - d : Nat) : Int) * ((fc (P 0 - (d + 1)) : Nat) : Int) := by
        rw [fc_s (P 0 - d) (by omega), show P 0 - d - 1 = P 0 - (d + 1) by omega]
        exact Int.natCast_mul _ _
      refine Int.dvd_sub ?_ e5
      by_cases c : P 0 - d ≤ s
      · rw [if_pos c]
        have h1 := SK_fc h s d j (by omega)
        rw [ef] at h1
        exact Int.dvd_trans (Int.dvd_mul_left _ _) h1
      · rw [if_neg c]
        have h1 : ((fc (P 0 - d) : Nat) : Int) ∣ SKm P s d j := Int.dvd_add (Int.dvd_add (Int.natCast_dvd_natCast.mpr (Wo_fc h (by omega))) (SK_fc h s d (j - 1) (by omega))) (Int.dvd_mul_of_dvd_right (SK_fc h s d j (by omega)))
        rw [ef] at h1
        obtain ⟨k, hk⟩ := h1
        rw [hk, Int.mul_assoc, Int.mul_ediv_cancel_left _ (by omega)]
        exact Int.dvd_mul_right _ _
theorem SKm_dvd {P : Nat → Nat} (h : PI P) (s d j : Nat) (hd : d < P 0) : ((P 0 - d : Nat) : Int) ∣ SKm P s d j := by
  have h1 : ((fc (P 0 - d) : Nat) : Int) ∣ SKm P s d j := Int.dvd_add (Int.dvd_add (Int.natCast_dvd_natCast.mpr (Wo_fc h (by omega))) (SK_fc h s d (j - 1) (by omega))) (Int.dvd_mul_of_dvd_right (SK_fc h s d j (by omega)))
  rw [fc_s (P 0 - d) (by omega), Int.natCast_mul] at h1
  exact Int.dvd_trans (Int.dvd_mul_right _ _) h1
theorem SK_b {P : Nat → Nat} (h : PI P) (s : Nat) : ∀ d j : Nat, d ≤ P 0 → -(100800 * (d : Int)) ≤ SK P s d j ∧ SK P s d j ≤ 498960 * (j : Int)
  | 0, j, _ => ⟨by show _ ≤ (0 : Int); omega, by show (0 : Int) ≤ _; omega⟩
  | d + 1, j, hd => by
    have hn := h.1
    have hc := h.2.2.1
    by_cases hj : j = 0
    · subst hj; rw [SK_0]; omega
    · rw [SK_s P s d (by omega)]
      obtain ⟨a1, a2⟩ := SK_b h s d j (by omega)
      obtain ⟨b1, b2⟩ := SK_b h s d (j - 1) (by omega)
      by_cases c : P 0 - d ≤ s
      · rw [if_pos c]; omega
      · rw [if_neg c]
        have hw := Wo_le h (i := P 0 - d) (r := 1) (by omega) (by omega) (by omega)
        obtain ⟨m, hm⟩ : ∃ m : Nat, P 0 - d = m + 1 := ⟨P 0 - d - 1, by omega⟩
        have e1 : ((m : Nat) : Int) * SK P s d j ≤ (m : Int) * (498960 * (j : Int)) := Int.mul_le_mul_of_nonneg_left a2 (by omega)
        have e2 : (m : Int) * -(100800 * (d : Int)) ≤ (m : Int) * SK P s d j := Int.mul_le_mul_of_nonneg_left a1 (by omega)
        have hm2 : P 0 - d - 1 = m := by omega
        have u1 : SKm P s d j ≤ ((m + 1 : Nat) : Int) * (498960 * (j : Int)) := by
          unfold SKm
          rw [hm2, show ((m + 1 : Nat) : Int) * (498960 * (j : Int)) = (m : Int) * (498960 * (j : Int)) + 498960 * (j : Int) by rw [Int.natCast_add, Int.add_mul]; omega]
          omega
        have u2 : ((m + 1 : Nat) : Int) * -(100800 * (d : Int)) ≤ SKm P s d j := by
          unfold SKm
          rw [hm2, show ((m + 1 : Nat) : Int) * -(100800 * (d : Int)) = (m : Int) * -(100800 * (d : Int)) + -(100800 * (d : Int)) by rw [Int.natCast_add, Int.add_mul]; omega]
          omega
        rw [hm]
        have v1 : SKm P s d j / ((m + 1 : Nat) : Int) ≤ 498960 * (j : Int) := Int.ediv_le_of_le_mul (by omega) (by rw [Int.mul_comm]; exact u1)
        have v2 : -(100800 * (d : Int)) ≤ SKm P s d j / ((m + 1 : Nat) : Int) := Int.le_ediv_of_mul_le (by omega) (by rw [Int.mul_comm]; exact u2)
        omega
theorem SKm_b {P : Nat → Nat} (h : PI P) (s d j : Nat) (hd : d < P 0) (hj : j ≤ 3) : -7000000 ≤ SKm P s d j ∧ SKm P s d j ≤ 12000000 := by
  have hn := h.1
  obtain ⟨a1, a2⟩ := SK_b h s d j (by omega)
  obtain ⟨b1, b2⟩ := SK_b h s d (j - 1) (by omega)
  have hw := Wo_le h (i := P 0 - d) (r := 1) (by omega) (by omega) (by omega)
  unfold SKm
  obtain ⟨m, hm⟩ : ∃ m : Nat, P 0 - d - 1 = m := ⟨_, rfl⟩
  have e1 : ((m : Nat) : Int) * SK P s d j ≤ (m : Int) * (498960 * (3 : Int)) := Int.mul_le_mul_of_nonneg_left (by omega) (by omega)
  have e2 : (m : Int) * -(100800 * (7 : Int)) ≤ (m : Int) * SK P s d j := Int.mul_le_mul_of_nonneg_left (by omega) (by omega)
  rw [hm]
  omega
abbrev ST (P : Nat → Nat) (q : Int) (s : Nat) : Nat → Nat → Int64 := fun d j => iN (q * SK P s d j)
/-- behind the mean of the skipping rule, for class (q = 420) and reference (q = 1) -/
theorem skip_a {P : Nat → Nat} (h : PI P) {q : Int} {s d j c : Nat} (hq : 0 < q) (hq2 : q ≤ 420) (hd : d < P 0) (h1 : 1 ≤ j) (hj : j ≤ 3) (hs : P 0 - d ≤ s) (hc : (c : Int) = q * (5040 * (P 2 : Int))) : iN (q * SK P s d j) - lN c = iN (q * SK P s (d + 1) j) := by
  have hn := h.1
  have hcc := h.2.2.1
  obtain ⟨a1, a2⟩ := SK_b h s d j (by omega)
  have e1 : q * SK P s d j ≤ 420 * 1500000 := Int.le_trans (Int.mul_le_mul_of_nonneg_left (show SK P s d j ≤ 1500000 by omega) (by omega)) (Int.mul_le_mul_of_nonneg_right hq2 (by omega))
  have e2 : 420 * -1000000 ≤ q * SK P s d j := Int.le_trans (Int.mul_le_mul_of_nonpos_right hq2 (by omega)) (Int.mul_le_mul_of_nonneg_left (show -1000000 ≤ SK P s d j by omega) (by omega))
  have e3 : q * (5040 * (P 2 : Int)) ≤ 420 * (5040 * 20) := Int.le_trans (Int.mul_le_mul_of_nonneg_left (show 5040 * (P 2 : Int) ≤ 5040 * 20 by omega) (by omega)) (Int.mul_le_mul_of_nonneg_right hq2 (by omega))
  have e4 : 0 ≤ q * (5040 * (P 2 : Int)) := Int.mul_nonneg (by omega) (by omega)
  rw [lN_iN, iN_sub (by omega) (by omega) (by omega) (by omega), SK_s P s d h1, if_pos hs, hc, ← Int.mul_sub]
theorem skip_b {P : Nat → Nat} (h : PI P) {q : Int} {s d j c : Nat} (hq : 0 < q) (hq2 : q ≤ 420) (hd : d < P 0) (h1 : 1 ≤ j) (hj : j ≤ 3) (hs : ¬ P 0 - d ≤ s) (hc : (c : Int) = q * (5040 * (P 2 : Int))) {w : Nat} (hw : (w : Int) = q * (Wo P (P 0 - d) 1 : Int)) : (lN w + iN (q * SK P s d (j - 1)) + lN (P 0 - d - 1) * iN (q * SK P s d j)) / lN (P 0 - d) - lN c = iN (q * SK P s (d + 1) j) := by
  have hn := h.1
  have hcc := h.2.2.1
  obtain ⟨a1, a2⟩ := SKm_b h s d j hd hj
  have e0 : lN w + iN (q * SK P s d (j - 1)) + lN (P 0 - d - 1) * iN (q * SK P s d j) = iN (q * SKm P s d j) := by
    rw [lN_iN, lN_iN, iN_add, iN_mul, iN_add, hw]
    unfold SKm
    rw [Int.mul_add, Int.mul_add, Int.mul_left_comm]
  have e1 : q * SKm P s d j ≤ 420 * 12000000 := Int.le_trans (Int.mul_le_mul_of_nonneg_left a2 (by omega)) (Int.mul_le_mul_of_nonneg_right hq2 (by omega))
  have e2 : 420 * -7000000 ≤ q * SKm P s d j := Int.le_trans (Int.mul_le_mul_of_nonpos_right hq2 (by omega)) (Int.mul_le_mul_of_nonneg_left a1 (by omega))
  have e3 : q * (5040 * (P 2 : Int)) ≤ 420 * (5040 * 20) := Int.le_trans (Int.mul_le_mul_of_nonneg_left (show 5040 * (P 2 : Int) ≤ 5040 * 20 by omega) (by omega)) (Int.mul_le_mul_of_nonneg_right hq2 (by omega))
  have e4 : 0 ≤ q * (5040 * (P 2 : Int)) := Int.mul_nonneg (by omega) (by omega)
  have hdv := SKm_dvd h s d j hd
  obtain ⟨k, hk⟩ := hdv
  have hm : 0 < ((P 0 - d : Nat) : Int) := by omega
  rw [e0, lN_iN (P 0 - d), iN_div (by omega) (by omega) hm (by omega) (by rw [hk, Int.mul_left_comm]; exact Int.dvd_mul_right _ _)]
  have e5 : q * SKm P s d j / ((P 0 - d : Nat) : Int) = q * (SKm P s d j / ((P 0 - d : Nat) : Int)) := by
    rw [hk, Int.mul_left_comm, Int.mul_ediv_cancel_left _ (by omega), Int.mul_ediv_cancel_left _ (by omega)]
  obtain ⟨b1, b2⟩ := SK_b h s (d + 1) j (by omega)
  rw [SK_s P s d h1, if_neg hs] at b1 b2
  have f1 : q * (SKm P s d j / ((P 0 - d : Nat) : Int)) ≤ 420 * 2000000 := Int.le_trans (Int.mul_le_mul_of_nonneg_left (show _ ≤ (2000000 : Int) by omega) (by omega)) (Int.mul_le_mul_of_nonneg_right hq2 (by omega))
  have f2 : 420 * -1000000 ≤ q * (SKm P s d j / ((P 0 - d : Nat) : Int)) := Int.le_trans (Int.mul_le_mul_of_nonpos_right hq2 (by omega)) (Int.mul_le_mul_of_nonneg_left (show (-1000000 : Int) ≤ _ by omega) (by omega))
  rw [e5, lN_iN, iN_sub (by omega) (by omega) (by omega) (by omega), SK_s P s d h1, if_neg hs, hc, ← Int.mul_sub]
theorem ST_0 {P : Nat → Nat} {q : Int} {s : Nat} : (∀ d, ST P q s d 0 = lN 0) ∧ ∀ j, ST P q s 0 j = lN 0 := by
  refine ⟨fun d => ?_, fun j => ?_⟩
  · show iN (q * SK P s d 0) = _
    rw [SK_0, Int.mul_zero]; rfl
  · show iN (q * 0) = _
    rw [Int.mul_zero]; rfl
theorem skip_put1 {P : Nat → Nat} (h : PI P) {w f : Nat → Int64} {s i j k : Nat} (h1 : 1 ≤ i) (h2 : i ≤ P 0) (h3 : 1 ≤ j) (h4 : j ≤ k) (h5 : k ≤ 3) (hs : i ≤ s) (hw : ∀ i r : Nat, 1 ≤ i → i ≤ P 0 → 1 ≤ r → r ≤ i → w ((((i - 1) * 7) + r) - 1) = lN (420 * Wo P i r)) (hF : FD (P 0) k (ST P 420 s) f i 1) : f ((((i + 1) - 1) * 4) + j) - lN (P 2 * 2116800) = iN (420 * SK P s (P 0 + 1 - i) j) := by
  obtain ⟨d, hd, hi⟩ : ∃ d, d < P 0 ∧ i = P 0 - d := ⟨P 0 - i, by omega, by omega⟩
  subst hi
  have := hF (P 0 - d + 1) j (by omega) (by omega) h4 (by omega)
  rw [show P 0 + 1 - (P 0 - d + 1) = d by omega] at this
  rw [show P 0 + 1 - (P 0 - d) = d + 1 by omega, this]
  exact skip_a h (by decide) (by decide) hd h3 (by omega) hs (by omega)
theorem skip_put2 {P : Nat → Nat} (h : PI P) {w f : Nat → Int64} {s i j k : Nat} (h1 : 1 ≤ i) (h2 : i ≤ P 0) (h3 : 1 ≤ j) (h4 : j ≤ k) (h5 : k ≤ 3) (hs : s < i) (hw : ∀ i r : Nat, 1 ≤ i → i ≤ P 0 → 1 ≤ r → r ≤ i → w ((((i - 1) * 7) + r) - 1) = lN (420 * Wo P i r)) (hF : FD (P 0) k (ST P 420 s) f i 1) : ((w ((((i - 1) * 7) + 1) - 1) + f ((((i + 1) - 1) * 4) + (j - 1))) + lN (i - 1) * f ((((i + 1) - 1) * 4) + j)) / lN i - lN (P 2 * 2116800) = iN (420 * SK P s (P 0 + 1 - i) j) := by
  obtain ⟨d, hd, hi⟩ : ∃ d, d < P 0 ∧ i = P 0 - d := ⟨P 0 - i, by omega, by omega⟩
  subst hi
  have e1 := hF (P 0 - d + 1) j (by omega) (by omega) h4 (by omega)
  have e2 := hF (P 0 - d + 1) (j - 1) (by omega) (by omega) (by omega) (by omega)
  rw [show P 0 + 1 - (P 0 - d + 1) = d by omega] at e1 e2
  rw [show P 0 + 1 - (P 0 - d) = d + 1 by omega, e1, e2, hw (P 0 - d) 1 h1 h2 (by decide) h1]
  exact skip_b h (by decide) (by decide) hd h3 (by omega) (by omega) (by omega) (by omega)

