theorem takes_v {P : Nat → Nat} {c1 c2 i j a v : Nat} {lv wt bf : Nat → Nat} (hL : VL P lv wt) (hB : TB (P 0) (SV P c1 c2) bf 0 0) (h1 : 1 ≤ i) (h2 : i ≤ P 0) (h3 : 1 ≤ j) (h4 : j ≤ 3) (ha : a ≤ 5) (hv : v ≤ 4) : bf (pB (i + 1) j v a) ≤ lv v + bf (pB (i + 1) (j - 1) 5 a) ↔ SV P c1 c2 (P 0 - i) j v a ≤ P (10 + v) * 1000000000000000 + SV P c1 c2 (P 0 - i) (j - 1) 5 a := by
  rw [hB (i + 1) j v a (by omega) (by omega) h4 (by omega) ha (by omega), hB (i + 1) (j - 1) 5 a (by omega) (by omega) (by omega) (by omega) ha (by omega), (hL v (by omega)).1, show P 0 + 1 - (i + 1) = P 0 - i by omega]
theorem VO_T {P : Nat → Nat} {c1 c2 i j a : Nat} {z p o s t r : Int32} {X : R5} (h : X = VO P c1 c2 (P 0 + 1 - i) j a z (p, o, s, t, r)) (h1 : 1 ≤ i) (h2 : i ≤ P 0) (hq : QV P c1 c2 (P 0 + 1 - i) j a ≠ 0) (ht : SV P c1 c2 (P 0 - i) j (lvl P (dn (dz z) % 10)) a ≤ P (10 + lvl P (dn (dz z) % 10)) * 1000000000000000 + SV P c1 c2 (P 0 - i) (j - 1) 5 a) : X = VV P c1 c2 (P 0 + 2 - (i + 1)) (j - 1) 5 a (dz z) (p + nI (P (10 + lvl P (dn (dz z) % 10))), o + nI 1, s ||| (nI 1 <<< (nI (i - 1) &&& 31)), t, r) := by
  have e : P 0 + 1 - i - 1 = P 0 - i := by omega
  rw [h, VO_t hq (by rw [e]; exact ht), show P 0 + 2 - (i + 1) = P 0 + 1 - i by omega, show P 0 - (P 0 + 1 - i) = i - 1 by omega]
theorem VO_P {P : Nat → Nat} {c1 c2 i j a : Nat} {z p o s t r : Int32} {X : R5} (h : X = VO P c1 c2 (P 0 + 1 - i) j a z (p, o, s, t, r)) (h1 : 1 ≤ i) (h2 : i ≤ P 0) (hq : QV P c1 c2 (P 0 + 1 - i) j a ≠ 0) (ht : ¬ SV P c1 c2 (P 0 - i) j (lvl P (dn (dz z) % 10)) a ≤ P (10 + lvl P (dn (dz z) % 10)) * 1000000000000000 + SV P c1 c2 (P 0 - i) (j - 1) 5 a) : X = VV P c1 c2 (P 0 + 2 - (i + 1)) j (lvl P (dn (dz z) % 10)) a (dz z) (p, o + nI 1, s, t, r) := by
  have e : P 0 + 1 - i - 1 = P 0 - i := by omega
  rw [h, VO_p hq (by rw [e]; exact ht), show P 0 + 2 - (i + 1) = P 0 + 1 - i by omega]
theorem VO_T' {P : Nat → Nat} {c1 c2 i j a : Nat} {z : Int32} {X : R5} {rs : Nat → Int32} (h : X = VO P c1 c2 (P 0 + 1 - i) j a z (rs 0, rs 1, rs 2, rs 3, rs 4)) (h1 : 1 ≤ i) (h2 : i ≤ P 0) (hq : QV P c1 c2 (P 0 + 1 - i) j a ≠ 0) (ht : SV P c1 c2 (P 0 - i) j (lvl P (dn (dz z) % 10)) a ≤ P (10 + lvl P (dn (dz z) % 10)) * 1000000000000000 + SV P c1 c2 (P 0 - i) (j - 1) 5 a) (F : Nat → Int32) (hF : F = upd (upd (upd rs 1 (rs 1 + nI 1)) 0 ((upd rs 1 (rs 1 + nI 1)) 0 + nI (P (10 + lvl P (dn (dz z) % 10))))) 2 ((upd (upd rs 1 (rs 1 + nI 1)) 0 ((upd rs 1 (rs 1 + nI 1)) 0 + nI (P (10 + lvl P (dn (dz z) % 10))))) 2 ||| (nI 1 <<< (nI (i - 1) &&& 31)))) : X = VV P c1 c2 (P 0 + 2 - (i + 1)) (j - 1) 5 a (dz z) (F 0, F 1, F 2, F 3, F 4) := by
  have e := VO_T h h1 h2 hq ht
  have u : ∀ (f : Nat → Int32) (k j : Nat) (x : Int32), j ≠ k → upd f k x j = f j := fun f k j x hne => pk_un hne
  have v : ∀ (f : Nat → Int32) (k : Nat) (x : Int32), upd f k x k = x := fun f k x => pk_us
  have e0 : F 0 = rs 0 + nI (P (10 + lvl P (dn (dz z) % 10))) := by rw [hF, u _ _ _ _ (by decide), v, u _ _ _ _ (by decide)]
  have e1 : F 1 = rs 1 + nI 1 := by rw [hF, u _ _ _ _ (by decide), u _ _ _ _ (by decide), v]
  have e2 : F 2 = rs 2 ||| (nI 1 <<< (nI (i - 1) &&& 31)) := by rw [hF, v, u _ _ _ _ (by decide), u _ _ _ _ (by decide)]
  have e3 : F 3 = rs 3 := by rw [hF, u _ _ _ _ (by decide), u _ _ _ _ (by decide), u _ _ _ _ (by decide)]
  have e4 : F 4 = rs 4 := by rw [hF, u _ _ _ _ (by decide), u _ _ _ _ (by decide), u _ _ _ _ (by decide)]
  rw [e0, e1, e2, e3, e4]
  exact e
theorem VO_P' {P : Nat → Nat} {c1 c2 i j a : Nat} {z : Int32} {X : R5} {rs : Nat → Int32} (h : X = VO P c1 c2 (P 0 + 1 - i) j a z (rs 0, rs 1, rs 2, rs 3, rs 4)) (h1 : 1 ≤ i) (h2 : i ≤ P 0) (hq : QV P c1 c2 (P 0 + 1 - i) j a ≠ 0) (ht : ¬ SV P c1 c2 (P 0 - i) j (lvl P (dn (dz z) % 10)) a ≤ P (10 + lvl P (dn (dz z) % 10)) * 1000000000000000 + SV P c1 c2 (P 0 - i) (j - 1) 5 a) (F : Nat → Int32) (hF : F = upd rs 1 (rs 1 + nI 1)) : X = VV P c1 c2 (P 0 + 2 - (i + 1)) j (lvl P (dn (dz z) % 10)) a (dz z) (F 0, F 1, F 2, F 3, F 4) := by
  have e := VO_P h h1 h2 hq ht
  have u : ∀ (f : Nat → Int32) (k j : Nat) (x : Int32), j ≠ k → upd f k x j = f j := fun f k j x hne => pk_un hne
  have v : ∀ (f : Nat → Int32) (k : Nat) (x : Int32), upd f k x k = x := fun f k x => pk_us
  have e0 : F 0 = rs 0 := by rw [hF, u _ _ _ _ (by decide)]
  have e1 : F 1 = rs 1 + nI 1 := by rw [hF, v]
  have e2 : F 2 = rs 2 := by rw [hF, u _ _ _ _ (by decide)]
  have e3 : F 3 = rs 3 := by rw [hF, u _ _ _ _ (by decide)]
  have e4 : F 4 = rs 4 := by rw [hF, u _ _ _ _ (by decide)]
  rw [e0, e1, e2, e3, e4]
  exact e

