theorem takes_c {P : Nat → Nat} (h : PI P) {w b : Nat → Int64} {i j r : Nat} (h1 : 1 ≤ i) (h2 : i ≤ P 0) (h3 : 1 ≤ j) (h4 : j ≤ 3) (h5 : 1 ≤ r) (h6 : r ≤ i) (hw : ∀ i r : Nat, 1 ≤ i → i ≤ P 0 → 1 ≤ r → r ≤ i → w ((((i - 1) * 7) + r) - 1) = lN (420 * Wo P i r)) (hb : ∀ i j : Nat, 1 ≤ i → i ≤ P 0 + 1 → j ≤ 3 → b (((i - 1) * 4) + j) = lN (420 * VR P (P 0 + 1 - i) j)) : b ((((i + 1) - 1) * 4) + j) ≤ w ((((i - 1) * 7) + r) - 1) + b ((((i + 1) - 1) * 4) + (j - 1)) ↔ VR P (P 0 - i) j ≤ Wo P i r + VR P (P 0 - i) (j - 1) := by
  have e : P 0 + 1 - (i + 1) = P 0 - i := by omega
  have e1 := hb (i + 1) j (by omega) (by omega) h4
  have e2 := hb (i + 1) (j - 1) (by omega) (by omega) (by omega)
  rw [e] at e1 e2
  rw [e1, e2, hw i r h1 h2 h5 h6, lN_add, ← Nat.mul_add]
  have q1 := W_bnd h (d := P 0 - i) (j := j) (r := r) (by omega) h4 h5 i h2 h6
  have q2 := W_bnd h (d := P 0 - i) (j := j - 1) (r := r) (by omega) (by omega) h5 i h2 h6
  rw [lN_leI (by omega) (by omega)]
  exact ⟨fun z => Nat.le_of_mul_le_mul_left z (by decide), fun z => Nat.mul_le_mul_left _ z⟩
theorem RR_p {P : Nat → Nat} {z : Int32} {i j : Nat} {p o s : Int32} {X : R3} (h : X = RR P z (P 0 + 1 - i) j p o s) (h1 : 1 ≤ i) (h2 : i ≤ P 0) (hv : VR P (P 0 + 1 - i) j ≠ 0) (ht : ¬ VR P (P 0 - i) j ≤ Wo P i (rel z i) + VR P (P 0 - i) (j - 1)) : X = RR P z (P 0 + 1 - (i + 1)) j p (o + nI 1) s := by
  have e : P 0 + 1 - i = (P 0 - i) + 1 := by omega
  rw [e] at h hv
  rw [h, RR_pass (i := i) (by omega) hv ht, show P 0 + 1 - (i + 1) = P 0 - i by omega]
theorem RR_t {P : Nat → Nat} {z : Int32} {i j : Nat} {p o s : Int32} {X : R3} (h : X = RR P z (P 0 + 1 - i) j p o s) (h1 : 1 ≤ i) (h2 : i ≤ P 0) (hv : VR P (P 0 + 1 - i) j ≠ 0) (ht : VR P (P 0 - i) j ≤ Wo P i (rel z i) + VR P (P 0 - i) (j - 1)) : X = RR P z (P 0 + 1 - (i + 1)) (j - 1) (p + nI (P ((3 + frk z (P 0) i) - 1))) (o + nI 1) (s ||| (nI 1 <<< (nI (i - 1) &&& 31))) := by
  have e : P 0 + 1 - i = (P 0 - i) + 1 := by omega
  rw [e] at h hv
  rw [h, RR_take (i := i) (by omega) hv ht, show P 0 + 1 - (i + 1) = P 0 - i by omega]
/-- the level of a number that is drawn -/
def lvl (P : Nat → Nat) (v : Nat) : Nat := if v < P 15 then 0 else if v < P 15 + P 16 then 1 else if v < P 15 + P 16 + P 17 then 2 else if v < P 15 + P 16 + P 17 + P 18 then 3 else 4
theorem lvl_b (P : Nat → Nat) (v : Nat) : lvl P v ≤ 4 := by unfold lvl; (repeat' split) <;> omega
abbrev R5 : Type := Int32 × Int32 × Int32 × Int32 × Int32
def brS (P : Nat → Nat) (c1 c2 d j a b : Nat) : Nat := if j = 0 then 0 else if b ≠ 5 ∧ (if a ≠ 5 ∧ QV P c1 c2 d j a < ((c1 * (P (10 + a) * 1000000000000000 + QV P c1 c2 d (j - 1) 5)) + ((10 - c1) * QV P c1 c2 d j 5)) / 10 then ((c1 * (P (10 + a) * 1000000000000000 + QV P c1 c2 d (j - 1) 5)) + ((10 - c1) * QV P c1 c2 d j 5)) / 10 else QV P c1 c2 d j a) < ((c2 * (P (10 + b) * 1000000000000000 + QV P c1 c2 d (j - 1) a)) + ((10 - c2) * QV P c1 c2 d j a)) / 10 then 2 else if a ≠ 5 ∧ QV P c1 c2 d j a < ((c1 * (P (10 + a) * 1000000000000000 + QV P c1 c2 d (j - 1) 5)) + ((10 - c1) * QV P c1 c2 d j 5)) / 10 then 1 else 0
theorem brS_c (P : Nat → Nat) (c1 c2 d j a b : Nat) : brS P c1 c2 d j a b = 0 ∨ (brS P c1 c2 d j a b = 1 ∧ a ≠ 5 ∧ j ≠ 0) ∨ (brS P c1 c2 d j a b = 2 ∧ b ≠ 5 ∧ j ≠ 0) := by
  by_cases hj : j = 0
  · left; unfold brS; rw [if_pos hj]
  · unfold brS
    rw [if_neg hj]
    generalize (if a ≠ 5 ∧ QV P c1 c2 d j a < _ then _ else QV P c1 c2 d j a) = m
    split
    · rename_i h; exact Or.inr (Or.inr ⟨rfl, h.1, hj⟩)
    · split
      · rename_i h; exact Or.inr (Or.inl ⟨rfl, h.1, hj⟩)
      · exact Or.inl rfl
theorem brF_S {P : Nat → Nat} {c1 c2 n i j a b : Nat} {lv wt af : Nat → Nat} (hL : VL P lv wt) (hA : TA n (QV P c1 c2) af 0 0) (h1 : 1 ≤ i) (h2 : i ≤ n + 1) (hj : j ≤ 3) (ha : a ≤ 5) (hb : b ≤ 5) : brF lv af c1 c2 i j a b = brS P c1 c2 (n + 1 - i) j a b := by
  unfold brF brS
  by_cases q : j = 0
  · rw [if_pos q, if_pos q]
  · have e0 : ∀ a, a ≤ 5 → af (pA i j a) = QV P c1 c2 (n + 1 - i) j a := fun a ha => hA i j a h1 h2 hj ha (by omega)
    have e1 : ∀ a, a ≤ 5 → af (pA i (j - 1) a) = QV P c1 c2 (n + 1 - i) (j - 1) a := fun a ha => hA i (j - 1) a h1 h2 (by omega) ha (by omega)
    have x1 : (a ≠ 5 ∧ af (pA i j a) < r1F lv af c1 i j a) = (a ≠ 5 ∧ QV P c1 c2 (n + 1 - i) j a < ((c1 * (P (10 + a) * 1000000000000000 + QV P c1 c2 (n + 1 - i) (j - 1) 5)) + ((10 - c1) * QV P c1 c2 (n + 1 - i) j 5)) / 10) := by
      unfold r1F
      by_cases ca : a = 5
      · simp [ca]
      · rw [e0 a ha, e0 5 (by omega), e1 5 (by omega), (hL a (by omega)).1]
    rw [if_neg q, if_neg q]
    have x2 : (if a ≠ 5 ∧ af (pA i j a) < r1F lv af c1 i j a then r1F lv af c1 i j a else af (pA i j a)) = (if a ≠ 5 ∧ QV P c1 c2 (n + 1 - i) j a < ((c1 * (P (10 + a) * 1000000000000000 + QV P c1 c2 (n + 1 - i) (j - 1) 5)) + ((10 - c1) * QV P c1 c2 (n + 1 - i) j 5)) / 10 then ((c1 * (P (10 + a) * 1000000000000000 + QV P c1 c2 (n + 1 - i) (j - 1) 5)) + ((10 - c1) * QV P c1 c2 (n + 1 - i) j 5)) / 10 else QV P c1 c2 (n + 1 - i) j a) := by
      by_cases ca : a ≠ 5 ∧ af (pA i j a) < r1F lv af c1 i j a
      · rw [if_pos ca, if_pos (by rw [← x1]; exact ca)]
        unfold r1F
        rw [e0 5 (by omega), e1 5 (by omega), (hL a (by omega)).1]
      · rw [if_neg ca, if_neg (by rw [← x1]; exact ca), e0 a ha]
    have x3 : (b ≠ 5 ∧ (if a ≠ 5 ∧ af (pA i j a) < r1F lv af c1 i j a then r1F lv af c1 i j a else af (pA i j a)) < r2F lv af c2 i j a b) = (b ≠ 5 ∧ (if a ≠ 5 ∧ QV P c1 c2 (n + 1 - i) j a < ((c1 * (P (10 + a) * 1000000000000000 + QV P c1 c2 (n + 1 - i) (j - 1) 5)) + ((10 - c1) * QV P c1 c2 (n + 1 - i) j 5)) / 10 then ((c1 * (P (10 + a) * 1000000000000000 + QV P c1 c2 (n + 1 - i) (j - 1) 5)) + ((10 - c1) * QV P c1 c2 (n + 1 - i) j 5)) / 10 else QV P c1 c2 (n + 1 - i) j a) < ((c2 * (P (10 + b) * 1000000000000000 + QV P c1 c2 (n + 1 - i) (j - 1) a)) + ((10 - c2) * QV P c1 c2 (n + 1 - i) j a)) / 10) := by
      rw [x2]
      unfold r2F
      by_cases cb : b = 5
      · simp [cb]
      · rw [e0 a ha, e1 a ha, (hL b (by omega)).1]
    by_cases cb : b ≠ 5 ∧ (if a ≠ 5 ∧ af (pA i j a) < r1F lv af c1 i j a then r1F lv af c1 i j a else af (pA i j a)) < r2F lv af c2 i j a b
    · rw [if_pos cb, if_pos (Eq.mp x3 cb)]
    · rw [if_neg cb, if_neg (fun q => cb (Eq.mpr x3 q))]
      by_cases ca : a ≠ 5 ∧ af (pA i j a) < r1F lv af c1 i j a
      · rw [if_pos ca, if_pos (Eq.mp x1 ca)]
      · rw [if_neg ca, if_neg (fun q => ca (Eq.mpr x1 q))]
def VOf (rec : Nat → Nat → Nat → Int32 → R5 → R5) (P : Nat → Nat) (c1 c2 m j a : Nat) (z : Int32) (x : R5) : R5 :=
  if QV P c1 c2 m j a = 0 then x else if SV P c1 c2 (m - 1) j (lvl P (dn (dz z) % 10)) a ≤ P (10 + lvl P (dn (dz z) % 10)) * 1000000000000000 + SV P c1 c2 (m - 1) (j - 1) 5 a then rec (j - 1) 5 a (dz z) (x.1 + nI (P (10 + lvl P (dn (dz z) % 10))), x.2.1 + nI 1, x.2.2.1 ||| (nI 1 <<< (nI (P 0 - m) &&& 31)), x.2.2.2.1, x.2.2.2.2) else rec j (lvl P (dn (dz z) % 10)) a (dz z) (x.1, x.2.1 + nI 1, x.2.2.1, x.2.2.2.1, x.2.2.2.2)
/-- a run of the best policy of the value problem: payoff, observations, the chosen ones, recalls tried, recalls that chose -/
def VV (P : Nat → Nat) (c1 c2 : Nat) : Nat → Nat → Nat → Nat → Int32 → R5 → R5
  | 0, _, _, _, _, x => x
  | m + 1, j, a, b, z, x =>
    if brS P c1 c2 m j a b = 0 then VOf (VV P c1 c2 m) P c1 c2 m j a z x
    else if brS P c1 c2 m j a b = 1 then (if dn (dz z) % 10 < c1 then VOf (VV P c1 c2 m) P c1 c2 m (j - 1) 5 (dz z) (x.1 + nI (P (10 + a)), x.2.1, x.2.2.1, x.2.2.2.1 + nI 1, x.2.2.2.2 + nI 1) else VOf (VV P c1 c2 m) P c1 c2 m j 5 (dz z) (x.1, x.2.1, x.2.2.1, x.2.2.2.1 + nI 1, x.2.2.2.2))
    else (if dn (dz z) % 10 < c2 then VOf (VV P c1 c2 m) P c1 c2 m (j - 1) a (dz z) (x.1 + nI (P (10 + b)), x.2.1, x.2.2.1, x.2.2.2.1 + nI 1, x.2.2.2.2 + nI 1) else VOf (VV P c1 c2 m) P c1 c2 m j a (dz z) (x.1, x.2.1, x.2.2.1, x.2.2.2.1 + nI 1, x.2.2.2.2))
abbrev VO (P : Nat → Nat) (c1 c2 m : Nat) : Nat → Nat → Int32 → R5 → R5 := VOf (VV P c1 c2 m) P c1 c2 m
section VVs
variable {P : Nat → Nat} {c1 c2 m j a b : Nat} {z : Int32} {p o s t r : Int32}
theorem VV_0 (h : brS P c1 c2 m j a b = 0) {x : R5} : VV P c1 c2 (m + 1) j a b z x = VO P c1 c2 m j a z x := by
  show (if _ then _ else _) = _; rw [if_pos h]
theorem VV_1s (h : brS P c1 c2 m j a b = 1) (hs : dn (dz z) % 10 < c1) : VV P c1 c2 (m + 1) j a b z (p, o, s, t, r) = VO P c1 c2 m (j - 1) 5 (dz z) (p + nI (P (10 + a)), o, s, t + nI 1, r + nI 1) := by
  show (if _ then _ else _) = _; rw [if_neg (by omega), if_pos h, if_pos hs]
theorem VV_1f (h : brS P c1 c2 m j a b = 1) (hs : ¬ dn (dz z) % 10 < c1) : VV P c1 c2 (m + 1) j a b z (p, o, s, t, r) = VO P c1 c2 m j 5 (dz z) (p, o, s, t + nI 1, r) := by
  show (if _ then _ else _) = _; rw [if_neg (by omega), if_pos h, if_neg hs]
theorem VV_2s (h : brS P c1 c2 m j a b = 2) (hs : dn (dz z) % 10 < c2) : VV P c1 c2 (m + 1) j a b z (p, o, s, t, r) = VO P c1 c2 m (j - 1) a (dz z) (p + nI (P (10 + b)), o, s, t + nI 1, r + nI 1) := by
  show (if _ then _ else _) = _; rw [if_neg (by omega), if_neg (by omega), if_pos hs]
theorem VV_2f (h : brS P c1 c2 m j a b = 2) (hs : ¬ dn (dz z) % 10 < c2) : VV P c1 c2 (m + 1) j a b z (p, o, s, t, r) = VO P c1 c2 m j a (dz z) (p, o, s, t + nI 1, r) := by
  show (if _ then _ else _) = _; rw [if_neg (by omega), if_neg (by omega), if_neg hs]
theorem VO_0 (h : QV P c1 c2 m j a = 0) {x : R5} : VO P c1 c2 m j a z x = x := by
  show (if _ then _ else _) = _; rw [if_pos h]
theorem VO_t (h : QV P c1 c2 m j a ≠ 0) (ht : SV P c1 c2 (m - 1) j (lvl P (dn (dz z) % 10)) a ≤ P (10 + lvl P (dn (dz z) % 10)) * 1000000000000000 + SV P c1 c2 (m - 1) (j - 1) 5 a) : VO P c1 c2 m j a z (p, o, s, t, r) = VV P c1 c2 m (j - 1) 5 a (dz z) (p + nI (P (10 + lvl P (dn (dz z) % 10))), o + nI 1, s ||| (nI 1 <<< (nI (P 0 - m) &&& 31)), t, r) := by
  show (if _ then _ else _) = _; rw [if_neg h, if_pos ht]
theorem VO_p (h : QV P c1 c2 m j a ≠ 0) (ht : ¬ SV P c1 c2 (m - 1) j (lvl P (dn (dz z) % 10)) a ≤ P (10 + lvl P (dn (dz z) % 10)) * 1000000000000000 + SV P c1 c2 (m - 1) (j - 1) 5 a) : VO P c1 c2 m j a z (p, o, s, t, r) = VV P c1 c2 m j (lvl P (dn (dz z) % 10)) a (dz z) (p, o + nI 1, s, t, r) := by
  show (if _ then _ else _) = _; rw [if_neg h, if_neg ht]
end VVs
theorem QV_j0 (P : Nat → Nat) (c1 c2 d a : Nat) : QV P c1 c2 d 0 a = 0 := by
  cases d with
  | zero => rfl
  | succ d => show qOf P _ 0 a = 0; unfold qOf; rw [if_pos rfl]
theorem VR_j1 {P : Nat → Nat} {d j : Nat} (h : VR P d j ≠ 0) : 1 ≤ j := by
  rcases Nat.eq_zero_or_pos j with q | q
  · subst q; rw [VR_0] at h; exact absurd rfl h
  · exact q
theorem QV_j1 {P : Nat → Nat} {c1 c2 d j a : Nat} (h : QV P c1 c2 d j a ≠ 0) : 1 ≤ j := by
  rcases Nat.eq_zero_or_pos j with q | q
  · subst q; rw [QV_j0] at h; exact absurd rfl h
  · exact q
theorem QV_d1 {P : Nat → Nat} {c1 c2 d j a : Nat} (h : QV P c1 c2 d j a ≠ 0) : 1 ≤ d := by
  rcases Nat.eq_zero_or_pos d with q | q
  · subst q; exact absurd rfl h
  · exact q

