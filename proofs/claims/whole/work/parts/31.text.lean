/-- the letter of the item that is read, 7 for none, as the class holds it -/
def itV (it : Nat) : Int32 := if it = 7 then -1 else nI it
theorem itV_n {it : Nat} (h : it < 7) : itV it = nI it := by unfold itV; rw [if_neg (by omega)]
theorem itV_7 : itV 7 = -1 := rfl
theorem nI_m1 {n : Nat} (h : n < 2147483648) : ¬ nI n = -1 := fun q => by
  have e := congrArg Int32.toInt q
  rw [nI_toInt h] at e
  have e2 : (-1 : Int32).toInt = -1 := by decide
  omega
/-- where the reading of a text stands: fault, its position, items, letter, numbers, digits, number, its position, parameters -/
abbrev TSt : Type := Nat × Nat × Nat × Nat × Nat × Nat × Nat × Nat × (Nat → Nat)
def wsum (S : Nat → Nat) : Nat := (((((0 + S 15) + S 16) + S 17) + S 18) + S 19)
def clP (S : Nat → Nat) (nu : Nat) : Nat → Nat := fun k => if 3 + nu ≤ k ∧ k < 10 then 0 else S k
def letc (ch : Nat) : Nat := if 110 = ch then 0 else if 107 = ch then 1 else if 99 = ch then 2 else if 112 = ch then 3 else if 118 = ch then 4 else if 119 = ch then 5 else if 114 = ch then 6 else 7
def endN : TSt → TSt
  | (fl, fp, its, it, nu, di, nb, np, S) => if di = 0 then (fl, fp, its, it, nu, di, nb, np, S) else if nu = tbl tMOR it ∨ nb < tbl tLEA (tbl tFIR it + nu) ∨ tbl tMOS (tbl tFIR it + nu) < nb then (2, np, its, it, nu, 0, nb, np, S) else (fl, fp, its, it, nu + 1, 0, nb, np, updN S (tbl tFIR it + nu) nb)
def rdD : TSt → Nat → Nat → TSt
  | (fl, fp, its, it, nu, di, nb, np, S), dg, pos => if it = 7 ∨ di = 2 then (1, pos, its, it, nu, di, nb, np, S) else if di = 0 then (fl, fp, its, it, nu, 1, dg, pos, S) else (fl, fp, its, it, nu, di + 1, nb * 10 + dg, np, S)
def enI : TSt → Nat → TSt
  | (fl, fp, its, it, nu, di, nb, np, S), pos => if it = 7 then (1, pos, its, it, nu, di, nb, np, S) else if nu < tbl tFEW it ∨ (it = 5 ∧ wsum S ≠ 10) then (3, pos, its, it, nu, di, nb, np, S) else (fl, fp, its + 1, 7, nu, di, nb, np, if it = 3 then clP S nu else S)
def bgI : TSt → Nat → Nat → TSt
  | (fl, fp, its, it, nu, di, nb, np, S), ch, pos => if it ≠ 7 ∨ letc ch = 7 then (1, pos, its, it, nu, di, nb, np, S) else (fl, fp, its, letc ch, 0, di, nb, np, S)
def stepc (s : TSt) (ch pos : Nat) : TSt := if 48 ≤ ch ∧ ch ≤ 57 then rdD s (ch - 48) pos else if (endN s).1 ≠ 0 ∨ ch = 32 then endN s else if ch = 59 then enI (endN s) pos else bgI (endN s) ch pos
def finS (s : TSt) (n : Nat) : TSt := if s.1 ≠ 0 then s else if (endN s).1 = 0 ∧ (endN s).2.2.2.1 ≠ 7 then (1, n, (endN s).2.2) else endN s
def goF (tx : Nat → Nat) (n : Nat) : Nat → Nat → TSt → TSt
  | 0, _, s => finS s n
  | f + 1, pos, s => if s.1 ≠ 0 then s else goF tx n f (pos + 1) (stepc s (tx pos) pos)
def TIv (it nu di nb np : Nat) (S : Nat → Nat) : Prop := it ≤ 7 ∧ (it < 7 → nu ≤ tbl tMOR it) ∧ di ≤ 2 ∧ (it = 7 → di = 0) ∧ nb ≤ 99 ∧ (di = 1 → nb ≤ 9) ∧ np ≤ 60 ∧ ∀ k, k < 22 → S k ≤ 99
theorem mor_le : ∀ it, it < 7 → tbl tFIR it + tbl tMOR it ≤ 22 ∧ tbl tMOR it ≤ 7 ∧ tbl tFIR it ≤ 20 ∧ tbl tFEW it ≤ 5 ∧ (tbl tFIR it = 15 ↔ it = 5) ∧ (tbl tFIR it = 3 ↔ it = 3) := by decide +kernel
theorem lea_le : ∀ k, k < 22 → tbl tLEA k ≤ 1 ∧ tbl tMOS k ≤ 99 := by decide +kernel
theorem letc_le (ch : Nat) : letc ch ≤ 7 := by unfold letc; (repeat' split) <;> omega
def TIs (s : TSt) : Prop := TIv s.2.2.2.1 s.2.2.2.2.1 s.2.2.2.2.2.1 s.2.2.2.2.2.2.1 s.2.2.2.2.2.2.2.1 s.2.2.2.2.2.2.2.2
theorem TIs_endN {fl fp its it nu di nb np : Nat} {S : Nat → Nat} (h : TIv it nu di nb np S) : TIs (endN (fl, fp, its, it, nu, di, nb, np, S)) := by
  obtain ⟨h1, h2, h3, h4, h5, h6, h7, h8⟩ := id h
  unfold endN
  by_cases c : di = 0
  · simp only [if_pos c]; exact h
  · simp only [if_neg c]
    have hit : it < 7 := by rcases Nat.lt_or_ge it 7 with q | q; exact q; exact absurd (h4 (by omega)) c
    have hm := mor_le it hit
    split
    · exact ⟨h1, h2, by show 0 ≤ 2; omega, fun _ => rfl, h5, fun q => by have q : (0 : Nat) = 1 := q; omega, h7, h8⟩
    · rename_i hc
      refine ⟨h1, fun _ => ?_, by show 0 ≤ 2; omega, fun _ => rfl, h5, fun q => by have q : (0 : Nat) = 1 := q; omega, h7, fun k hk => ?_⟩
      · show nu + 1 ≤ tbl tMOR it
        have := h2 hit; omega
      · show updN S (tbl tFIR it + nu) nb k ≤ 99
        unfold updN; split
        · exact h5
        · exact h8 k hk
theorem TIs_rdD {fl fp its it nu di nb np dg pos : Nat} {S : Nat → Nat} (h : TIv it nu di nb np S) (hd : dg ≤ 9) (hp : pos ≤ 60) : TIs (rdD (fl, fp, its, it, nu, di, nb, np, S) dg pos) := by
  obtain ⟨h1, h2, h3, h4, h5, h6, h7, h8⟩ := id h
  unfold rdD
  by_cases c : it = 7 ∨ di = 2
  · simp only [if_pos c]; exact h
  · simp only [if_neg c]
    by_cases c2 : di = 0
    · simp only [if_pos c2]
      exact ⟨h1, h2, by show 1 ≤ 2; omega, fun q => by have q : it = 7 := q; omega, by show dg ≤ 99; omega, fun _ => hd, hp, h8⟩
    · simp only [if_neg c2]
      have := h6 (by omega)
      exact ⟨h1, h2, by show di + 1 ≤ 2; omega, fun q => by have q : it = 7 := q; omega, by show nb * 10 + dg ≤ 99; omega, fun q => by have q : di + 1 = 1 := q; omega, h7, h8⟩
theorem TIs_enI {fl fp its it nu nb np pos : Nat} {S : Nat → Nat} (h : TIv it nu 0 nb np S) : TIs (enI (fl, fp, its, it, nu, 0, nb, np, S) pos) := by
  obtain ⟨h1, h2, h3, h4, h5, h6, h7, h8⟩ := id h
  unfold enI
  by_cases c : it = 7
  · simp only [if_pos c]; exact h
  · simp only [if_neg c]
    split
    · exact h
    · refine ⟨by show 7 ≤ 7; omega, fun q => by have q : 7 < 7 := q; omega, h3, fun _ => rfl, h5, h6, h7, fun k hk => ?_⟩
      show (if it = 3 then clP S nu else S) k ≤ 99
      split
      · unfold clP; split
        · omega
        · exact h8 k hk
      · exact h8 k hk
theorem TIs_bgI {fl fp its it nu nb np ch pos : Nat} {S : Nat → Nat} (h : TIv it nu 0 nb np S) : TIs (bgI (fl, fp, its, it, nu, 0, nb, np, S) ch pos) := by
  obtain ⟨h1, h2, h3, h4, h5, h6, h7, h8⟩ := id h
  unfold bgI
  by_cases c : it ≠ 7 ∨ letc ch = 7
  · simp only [if_pos c]; exact h
  · simp only [if_neg c]; exact ⟨letc_le ch, fun _ => Nat.zero_le _, h3, fun _ => rfl, h5, h6, h7, h8⟩
theorem endN_di (s : TSt) : (endN s).1 ≠ 0 ∨ (endN s).2.2.2.2.2.1 = 0 := by
  obtain ⟨fl, fp, its, it, nu, di, nb, np, S⟩ := s
  unfold endN
  by_cases c : di = 0
  · simp only [if_pos c]; exact Or.inr c
  · simp only [if_neg c]
    split
    · exact Or.inl (show (2 : Nat) ≠ 0 by decide)
    · exact Or.inr rfl
theorem TIs_step {s : TSt} {ch pos : Nat} (h : TIs s) (hp : pos ≤ 60) : TIs (stepc s ch pos) := by
  obtain ⟨fl, fp, its, it, nu, di, nb, np, S⟩ := s
  have h : TIv it nu di nb np S := h
  unfold stepc
  by_cases c : 48 ≤ ch ∧ ch ≤ 57
  · simp only [if_pos c]; exact TIs_rdD h (by omega) hp
  · simp only [if_neg c]
    have e := TIs_endN (fl := fl) (fp := fp) (its := its) h
    have ed := endN_di (fl, fp, its, it, nu, di, nb, np, S)
    generalize endN (fl, fp, its, it, nu, di, nb, np, S) = s1 at e ed ⊢
    obtain ⟨fl1, fp1, its1, it1, nu1, di1, nb1, np1, S1⟩ := s1
    have e : TIv it1 nu1 di1 nb1 np1 S1 := e
    by_cases c2 : fl1 ≠ 0 ∨ ch = 32
    · simp only [if_pos c2]; exact e
    · simp only [if_neg c2]
      have hd : di1 = 0 := by
        rcases ed with q | q
        · exact absurd (Or.inl q) c2
        · exact q
      subst hd
      by_cases c3 : ch = 59
      · simp only [if_pos c3]; exact TIs_enI e
      · simp only [if_neg c3]; exact TIs_bgI e

theorem stepc_dig {s : TSt} {ch pos : Nat} (h : 48 ≤ ch ∧ ch ≤ 57) : stepc s ch pos = rdD s (ch - 48) pos := by unfold stepc; rw [if_pos h]
theorem stepc_end {s s1 : TSt} {ch pos : Nat} (h : ¬ (48 ≤ ch ∧ ch ≤ 57)) (e : s1 = endN s) (h2 : s1.1 ≠ 0 ∨ ch = 32) : stepc s ch pos = s1 := by unfold stepc; rw [if_neg h, ← e, if_pos h2]
theorem stepc_semi {s s1 : TSt} {ch pos : Nat} (h : ¬ (48 ≤ ch ∧ ch ≤ 57)) (e : s1 = endN s) (h2 : ¬ (s1.1 ≠ 0 ∨ ch = 32)) (h3 : ch = 59) : stepc s ch pos = enI s1 pos := by unfold stepc; rw [if_neg h, ← e, if_neg h2, if_pos h3]
theorem stepc_beg {s s1 : TSt} {ch pos : Nat} (h : ¬ (48 ≤ ch ∧ ch ≤ 57)) (e : s1 = endN s) (h2 : ¬ (s1.1 ≠ 0 ∨ ch = 32)) (h3 : ¬ ch = 59) : stepc s ch pos = bgI s1 ch pos := by unfold stepc; rw [if_neg h, ← e, if_neg h2, if_neg h3]
theorem goF_fl {tx : Nat → Nat} {n f pos : Nat} {s : TSt} (h : s.1 ≠ 0) : goF tx n f pos s = s := by
  cases f with
  | zero => show finS s n = s; unfold finS; rw [if_pos h]
  | succ f => show (if _ then _ else _) = _; rw [if_pos h]
theorem goF_s {tx : Nat → Nat} {n pos : Nat} {s : TSt} (h : s.1 = 0) (hp : pos < n) : goF tx n (n - pos) pos s = goF tx n (n - (pos + 1)) (pos + 1) (stepc s (tx pos) pos) := by
  rw [show n - pos = (n - (pos + 1)) + 1 by omega]
  show (if _ then _ else _) = _
  rw [if_neg (fun q => q h)]
theorem finS_fl {s : TSt} {n : Nat} (h : s.1 ≠ 0) : finS s n = s := by unfold finS; rw [if_pos h]
theorem finS_a {s s1 : TSt} {n : Nat} (h : s.1 = 0) (e : s1 = endN s) (h2 : s1.1 = 0 ∧ s1.2.2.2.1 ≠ 7) : finS s n = (1, n, s1.2.2) := by unfold finS; rw [if_neg (fun q => q h), ← e, if_pos h2]
theorem finS_b {s s1 : TSt} {n : Nat} (h : s.1 = 0) (e : s1 = endN s) (h2 : ¬ (s1.1 = 0 ∧ s1.2.2.2.1 ≠ 7)) : finS s n = s1 := by unfold finS; rw [if_neg (fun q => q h), ← e, if_neg h2]
theorem endN_its (s : TSt) : (endN s).2.2.1 = s.2.2.1 := by
  obtain ⟨fl, fp, its, it, nu, di, nb, np, S⟩ := s
  unfold endN
  by_cases c : di = 0
  · simp only [if_pos c]
  · simp only [if_neg c]; split <;> rfl
theorem stepc_its {s : TSt} {ch pos : Nat} : (stepc s ch pos).2.2.1 ≤ s.2.2.1 + 1 := by
  unfold stepc
  by_cases c : 48 ≤ ch ∧ ch ≤ 57
  · rw [if_pos c]
    obtain ⟨fl, fp, its, it, nu, di, nb, np, S⟩ := s
    unfold rdD
    by_cases c2 : it = 7 ∨ di = 2
    · simp only [if_pos c2]; omega
    · simp only [if_neg c2]; split <;> (show its ≤ its + 1; omega)
  · rw [if_neg c]
    have e := endN_its s
    generalize endN s = s1 at e ⊢
    obtain ⟨fl, fp, its, it, nu, di, nb, np, S⟩ := s1
    have e : its = s.2.2.1 := e
    split
    · show its ≤ _; omega
    · split
      · unfold enI
        by_cases c2 : it = 7
        · simp only [if_pos c2]; omega
        · simp only [if_neg c2]; split
          · show its ≤ _; omega
          · show its + 1 ≤ _; omega
      · unfold bgI
        by_cases c2 : it ≠ 7 ∨ letc ch = 7
        · simp only [if_pos c2]; omega
        · simp only [if_neg c2]; omega
theorem endN_fl {s : TSt} (h : s.1 ≤ 3) : (endN s).1 ≤ 3 := by
  obtain ⟨fl, fp, its, it, nu, di, nb, np, S⟩ := s
  have h : fl ≤ 3 := h
  unfold endN
  by_cases c : di = 0
  · simp only [if_pos c]; exact h
  · simp only [if_neg c]; split
    · show 2 ≤ 3; omega
    · exact h
theorem stepc_fl {s : TSt} {ch pos : Nat} (h : s.1 ≤ 3) : (stepc s ch pos).1 ≤ 3 := by
  unfold stepc
  by_cases c : 48 ≤ ch ∧ ch ≤ 57
  · rw [if_pos c]
    obtain ⟨fl, fp, its, it, nu, di, nb, np, S⟩ := s
    have h : fl ≤ 3 := h
    unfold rdD
    by_cases c2 : it = 7 ∨ di = 2
    · simp only [if_pos c2]; omega
    · simp only [if_neg c2]; split <;> exact h
  · rw [if_neg c]
    have e := endN_fl h
    generalize endN s = s1 at e ⊢
    obtain ⟨fl, fp, its, it, nu, di, nb, np, S⟩ := s1
    have e : fl ≤ 3 := e
    split
    · exact e
    · split
      · unfold enI
        by_cases c2 : it = 7
        · simp only [if_pos c2]; omega
        · simp only [if_neg c2]; split
          · show 3 ≤ 3; omega
          · exact e
      · unfold bgI
        by_cases c2 : it ≠ 7 ∨ letc ch = 7
        · simp only [if_pos c2]; omega
        · simp only [if_neg c2]; exact e

