/-- a state is recorded: the oldest one goes if there are eight -/
def recS (P hs : Nat → Nat) (hn : Nat) : Nat → Nat := va_cpy P (if hn = 8 then va_cpy hs hs 22 0 154 else hs) 0 ((if hn = 8 then 8 - 1 else hn) * 22) 22
def recN (hn : Nat) : Nat := (if hn = 8 then 8 - 1 else hn) + 1
/-- the numbers that are drawn -/
def dz (z : Int32) : Int32 := z * 1103515245 + nI 12345
def du (w : Int32) : Int32 := (w.toUInt32 >>> ((nI 16).toUInt32 &&& Int32.toUInt32 31)).toInt32
def dn (w : Int32) : Nat := (du w).toBitVec.toNat % 2 ^ 15
theorem dn_e (w : Int32) : ((w.toUInt32 >>> ((nI 16).toUInt32 &&& Int32.toUInt32 31)).toInt32) &&& nI 32767 = nI (dn w) := pk_and (du w) 15 (by decide)
theorem dn_b (w : Int32) : dn w < 32768 := Nat.mod_lt _ (by decide)
def zit (z : Int32) : Nat → Int32 | 0 => z | n + 1 => dz (zit z n)
def rel (z : Int32) (i : Nat) : Nat := 1 + dn (zit z i) % i
def frk (z : Int32) : Nat → Nat → Nat
  | 0, _ => 0
  | i + 1, o => if o = i + 1 then rel z (i + 1) else if rel z (i + 1) ≤ frk z i o then frk z i o + 1 else frk z i o
theorem rel_b (z : Int32) {i : Nat} (h : 1 ≤ i) : 1 ≤ rel z i ∧ rel z i ≤ i := by
  have := Nat.mod_lt (dn (zit z i)) (show 0 < i by omega)
  unfold rel; omega
theorem frk_b (z : Int32) : ∀ i o : Nat, 1 ≤ o → o ≤ i → 1 ≤ frk z i o ∧ frk z i o ≤ i
  | 0, o, h1, h2 => by omega
  | i + 1, o, h1, h2 => by
    show 1 ≤ (if _ then _ else _) ∧ (if _ then _ else _) ≤ i + 1
    by_cases e : o = i + 1
    · rw [if_pos e]; exact rel_b z (by omega)
    · rw [if_neg e]
      have := frk_b z i o h1 (by omega)
      split <;> omega
theorem frk_self (z : Int32) {i : Nat} (h : 1 ≤ i) : frk z i i = rel z i := by
  obtain ⟨k, rfl⟩ : ∃ k, i = k + 1 := ⟨i - 1, by omega⟩
  show (if _ then _ else _) = _
  rw [if_pos rfl]
theorem frk_old (z : Int32) {i o : Nat} (h : 1 ≤ i) (ho : o < i) : frk z i o = if rel z i ≤ frk z (i - 1) o then frk z (i - 1) o + 1 else frk z (i - 1) o := by
  obtain ⟨k, rfl⟩ : ∃ k, i = k + 1 := ⟨i - 1, by omega⟩
  show (if _ then _ else _) = _
  rw [if_neg (by omega)]; rfl
/-- a run of the best policy of the rank problem: payoff, observations, the chosen ones -/
abbrev R3 : Type := Int32 × Int32 × Int32
def RR (P : Nat → Nat) (z : Int32) : Nat → Nat → Int32 → Int32 → Int32 → R3
  | 0, _, p, o, s => (p, o, s)
  | m + 1, j, p, o, s => if VR P (m + 1) j = 0 then (p, o, s) else if VR P m j ≤ Wo P (P 0 - m) (rel z (P 0 - m)) + VR P m (j - 1) then RR P z m (j - 1) (p + nI (P ((3 + frk z (P 0) (P 0 - m)) - 1))) (o + nI 1) (s ||| (nI 1 <<< (nI (P 0 - m - 1) &&& 31))) else RR P z m j p (o + nI 1) s
theorem RR_end {P : Nat → Nat} {z : Int32} {m j : Nat} {p o s : Int32} (h : m = 0 ∨ VR P m j = 0) : RR P z m j p o s = (p, o, s) := by
  cases m with
  | zero => rfl
  | succ d =>
    show (if _ then _ else _) = _
    rw [if_pos (by rcases h with h | h; omega; exact h)]
theorem RR_take {P : Nat → Nat} {z : Int32} {m i j : Nat} {p o s : Int32} (hi : i = P 0 - m) (h : VR P (m + 1) j ≠ 0) (ht : VR P m j ≤ Wo P i (rel z i) + VR P m (j - 1)) : RR P z (m + 1) j p o s = RR P z m (j - 1) (p + nI (P ((3 + frk z (P 0) i) - 1))) (o + nI 1) (s ||| (nI 1 <<< (nI (i - 1) &&& 31))) := by
  subst hi
  show (if _ then _ else _) = _
  rw [if_neg h, if_pos ht]
theorem RR_pass {P : Nat → Nat} {z : Int32} {m i j : Nat} {p o s : Int32} (hi : i = P 0 - m) (h : VR P (m + 1) j ≠ 0) (ht : ¬ VR P m j ≤ Wo P i (rel z i) + VR P m (j - 1)) : RR P z (m + 1) j p o s = RR P z m j p (o + nI 1) s := by
  subst hi
  show (if _ then _ else _) = _
  rw [if_neg h, if_neg ht]
theorem fr_step1 {z : Int32} {i o4 : Nat} {fr3 : Nat → Nat} (h1 : 1 ≤ o4) (h2 : o4 < i) (h : ∀ o, 1 ≤ o → o < i → (o < o4 → fr3 o = frk z i o) ∧ (o4 ≤ o → fr3 o = frk z (i - 1) o)) (hc : fr3 o4 < rel z i) : ∀ o, 1 ≤ o → o < i → (o < o4 + 1 → fr3 o = frk z i o) ∧ (o4 + 1 ≤ o → fr3 o = frk z (i - 1) o) := fun o a b => by
  refine ⟨fun q => ?_, fun q => (h o a b).2 (by omega)⟩
  by_cases e : o = o4
  · have h3 := (h o4 h1 h2).2 (Nat.le_refl _)
    rw [e, frk_old z (by omega) h2, ← h3, if_neg (by omega)]
  · exact (h o a b).1 (by omega)
theorem fr_step2 {z : Int32} {i o4 : Nat} {fr3 : Nat → Nat} (h1 : 1 ≤ o4) (h2 : o4 < i) (h : ∀ o, 1 ≤ o → o < i → (o < o4 → fr3 o = frk z i o) ∧ (o4 ≤ o → fr3 o = frk z (i - 1) o)) (hc : rel z i ≤ fr3 o4) : ∀ o, 1 ≤ o → o < i → (o < o4 + 1 → updN fr3 o4 (fr3 o4 + 1) o = frk z i o) ∧ (o4 + 1 ≤ o → updN fr3 o4 (fr3 o4 + 1) o = frk z (i - 1) o) := fun o a b => by
  refine ⟨fun q => ?_, fun q => by rw [updN_n _ _ (by omega)]; exact (h o a b).2 (by omega)⟩
  by_cases e : o = o4
  · have h3 := (h o4 h1 h2).2 (Nat.le_refl _)
    rw [e, updN_s, frk_old z (by omega) h2, ← h3, if_pos hc]
  · rw [updN_n _ _ e]; exact (h o a b).1 (by omega)
theorem fr_next {z : Int32} {i : Nat} {rr1 fr3 : Nat → Nat} (h1 : 1 ≤ i) (hr : ∀ o, 1 ≤ o → o < i → rr1 o = rel z o) (hf : ∀ o, 1 ≤ o → o < i → fr3 o = frk z i o) : ∀ o, 1 ≤ o → o < i + 1 → updN rr1 i (rel z i) o = rel z o ∧ updN fr3 i (rel z i) o = frk z (i + 1 - 1) o := fun o a b => by
  by_cases e : o = i
  · rw [e, updN_s, updN_s, Nat.add_sub_cancel, frk_self z h1]; exact ⟨rfl, rfl⟩
  · rw [updN_n _ _ e, updN_n _ _ e, Nat.add_sub_cancel]
    exact ⟨hr o a (by omega), hf o a (by omega)⟩

