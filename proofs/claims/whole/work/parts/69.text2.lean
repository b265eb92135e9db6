/-- two readings that go on alike -/
def EQt : TSt → TSt → Prop
  | (fl, fp, its, it, nu, di, nb, np, S), (fl', fp', its', it', nu', di', nb', np', S') => fl = fl' ∧ (fl ≠ 0 → fp = fp') ∧ (fl = 0 → its = its' ∧ it = it' ∧ di = di' ∧ (it = 7 → di = 0) ∧ (it ≠ 7 → nu = nu') ∧ (di ≠ 0 → nb = nb' ∧ np = np') ∧ ∀ k, k < 22 → S k = S' k)
theorem EQ_1 {fl fp its it nu di nb np its' it' nu' di' nb' np' : Nat} {S S' : Nat → Nat} (h : fl ≠ 0) : EQt (fl, fp, its, it, nu, di, nb, np, S) (fl, fp, its', it', nu', di', nb', np', S') := ⟨rfl, fun _ => rfl, fun q => absurd q h⟩
theorem EQ_0 {fp its it nu di nb np fp' nu' nb' np' : Nat} {S S' : Nat → Nat} (h7 : it = 7 → di = 0) (hn : it ≠ 7 → nu = nu') (hd : di ≠ 0 → nb = nb' ∧ np = np') (hS : ∀ k, k < 22 → S k = S' k) : EQt (0, fp, its, it, nu, di, nb, np, S) (0, fp', its, it, nu', di, nb', np', S') := ⟨rfl, fun q => absurd rfl q, fun _ => ⟨rfl, rfl, rfl, h7, hn, hd, hS⟩⟩
theorem EQ_f {s t : TSt} (h : EQt s t) : s.1 = t.1 := by
  obtain ⟨fl, fp, its, it, nu, di, nb, np, S⟩ := s
  obtain ⟨fl', fp', its', it', nu', di', nb', np', S'⟩ := t
  exact h.1
theorem EQ_p {s t : TSt} (h : EQt s t) (h0 : s.1 ≠ 0) : s.2.1 = t.2.1 := by
  obtain ⟨fl, fp, its, it, nu, di, nb, np, S⟩ := s
  obtain ⟨fl', fp', its', it', nu', di', nb', np', S'⟩ := t
  exact h.2.1 h0
theorem EQ_e {s t : TSt} (h : EQt s t) (h0 : s.1 = 0) : s.2.2.1 = t.2.2.1 ∧ ∀ k, k < 22 → s.2.2.2.2.2.2.2.2 k = t.2.2.2.2.2.2.2.2 k := by
  obtain ⟨fl, fp, its, it, nu, di, nb, np, S⟩ := s
  obtain ⟨fl', fp', its', it', nu', di', nb', np', S'⟩ := t
  have := h.2.2 h0
  exact ⟨this.1, this.2.2.2.2.2.2⟩
theorem EQ_t {s t u : TSt} (h : EQt s t) (h2 : EQt t u) : EQt s u := by
  obtain ⟨fl, fp, its, it, nu, di, nb, np, S⟩ := s
  obtain ⟨fl', fp', its', it', nu', di', nb', np', S'⟩ := t
  obtain ⟨fl2, fp2, its2, it2, nu2, di2, nb2, np2, S2⟩ := u
  obtain ⟨a1, a2, a3⟩ := h
  obtain ⟨b1, b2, b3⟩ := h2
  subst a1; subst b1
  refine ⟨rfl, fun q => (a2 q).trans (b2 q), fun q => ?_⟩
  obtain ⟨c1, c2, c3, c4, c5, c6, c7⟩ := a3 q
  obtain ⟨d1, d2, d3, d4, d5, d6, d7⟩ := b3 q
  exact ⟨c1.trans d1, c2.trans d2, c3.trans d3, c4, fun z => (c5 z).trans (d5 (c2 ▸ z)), fun z => ⟨(c6 z).1.trans (d6 (c3 ▸ z)).1, (c6 z).2.trans (d6 (c3 ▸ z)).2⟩, fun k hk => (c7 k hk).trans (d7 k hk)⟩
theorem EQ_endN {fp its it nu di nb np fp' nu' nb' np' : Nat} {S S' : Nat → Nat} (h7 : it = 7 → di = 0) (hn : it ≠ 7 → nu = nu') (hd : di ≠ 0 → nb = nb' ∧ np = np') (hS : ∀ k, k < 22 → S k = S' k) : EQt (endN (0, fp, its, it, nu, di, nb, np, S)) (endN (0, fp', its, it, nu', di, nb', np', S')) := by
  by_cases c : di = 0
  · simp only [endN, if_pos c]; exact EQ_0 h7 hn hd hS
  · have hi : it ≠ 7 := fun q => c (h7 q)
    obtain rfl := hn hi
    obtain ⟨rfl, rfl⟩ := hd c
    simp only [endN, if_neg c]
    by_cases c2 : nu = tbl tMOR it ∨ nb < tbl tLEA (tbl tFIR it + nu) ∨ tbl tMOS (tbl tFIR it + nu) < nb
    · rw [if_pos c2, if_pos c2]; exact EQ_1 (by decide)
    · rw [if_neg c2, if_neg c2]
      refine EQ_0 (fun q => rfl) (fun _ => rfl) (fun q => absurd rfl q) (fun k hk => ?_)
      unfold updN
      split
      · rfl
      · exact hS k hk
theorem EQ_step {s t : TSt} (h : EQt s t) (h0 : s.1 = 0) (ch pos : Nat) : EQt (stepc s ch pos) (stepc t ch pos) := by
  obtain ⟨fl, fp, its, it, nu, di, nb, np, S⟩ := s
  obtain ⟨fl', fp', its', it', nu', di', nb', np', S'⟩ := t
  obtain ⟨a1, -, a3⟩ := h
  have h0 : fl = 0 := h0
  subst h0; subst a1
  obtain ⟨rfl, rfl, rfl, h7, hn, hd, hS⟩ := a3 rfl
  unfold stepc
  by_cases c : 48 ≤ ch ∧ ch ≤ 57
  · rw [if_pos c, if_pos c]
    unfold rdD
    by_cases c2 : it = 7 ∨ di = 2
    · simp only [if_pos c2]; exact EQ_1 (by decide)
    · simp only [if_neg c2]
      by_cases c3 : di = 0
      · simp only [if_pos c3]; exact EQ_0 (fun q => absurd (Or.inl q) c2) hn (fun _ => ⟨rfl, rfl⟩) hS
      · simp only [if_neg c3]
        obtain ⟨rfl, rfl⟩ := hd c3
        exact EQ_0 (fun q => absurd (Or.inl q) c2) hn (fun _ => ⟨rfl, rfl⟩) hS
  · rw [if_neg c, if_neg c]
    have e := EQ_endN (fp := fp) (its := its) (fp' := fp') h7 hn hd hS
    have ed := endN_di (0, fp, its, it, nu, di, nb, np, S)
    generalize endN (0, fp, its, it, nu, di, nb, np, S) = s1 at e ed ⊢
    generalize endN (0, fp', its, it, nu', di, nb', np', S') = t1 at e ⊢
    have ef := EQ_f e
    by_cases c2 : s1.1 ≠ 0 ∨ ch = 32
    · rw [if_pos c2, if_pos (by rw [← ef]; exact c2)]; exact e
    · have c2' : ¬ (t1.1 ≠ 0 ∨ ch = 32) := by rw [← ef]; exact c2
      rw [if_neg c2, if_neg c2']
      obtain ⟨gl, gp, gts, gt, gu, gi, gb, gq, G⟩ := s1
      obtain ⟨gl', gp', gts', gt', gu', gi', gb', gq', G'⟩ := t1
      obtain ⟨b1, -, b3⟩ := e
      have g0 : gl = 0 := Decidable.byContradiction (fun q => c2 (Or.inl q))
      subst g0; subst b1
      obtain ⟨rfl, rfl, rfl, k7, kn, kd, kS⟩ := b3 rfl
      have d0 : gi = 0 := ed.resolve_left (fun q => q rfl)
      subst d0
      by_cases c3 : ch = 59
      · rw [if_pos c3, if_pos c3]
        unfold enI
        by_cases c4 : gt = 7
        · simp only [if_pos c4]; exact EQ_1 (by decide)
        · obtain rfl := kn c4
          simp only [if_neg c4]
          have ew : wsum G = wsum G' := by unfold wsum; rw [kS 15 (by decide), kS 16 (by decide), kS 17 (by decide), kS 18 (by decide), kS 19 (by decide)]
          rw [← ew]
          by_cases c5 : gu < tbl tFEW gt ∨ (gt = 5 ∧ wsum G ≠ 10)
          · rw [if_pos c5, if_pos c5]; exact EQ_1 (by decide)
          · rw [if_neg c5, if_neg c5]
            refine EQ_0 (fun _ => rfl) (fun q => absurd rfl q) (fun q => absurd rfl q) (fun k hk => ?_)
            split
            · unfold clP; split
              · rfl
              · exact kS k hk
            · exact kS k hk
      · rw [if_neg c3, if_neg c3]
        unfold bgI
        by_cases c4 : gt ≠ 7 ∨ letc ch = 7
        · simp only [if_pos c4]; exact EQ_1 (by decide)
        · simp only [if_neg c4]; exact EQ_0 (fun q => rfl) (fun _ => rfl) (fun q => absurd rfl q) kS
theorem finS_0 {s : TSt} {n : Nat} (h : s.1 = 0) : finS s n = if (endN s).1 = 0 ∧ (endN s).2.2.2.1 ≠ 7 then (1, n, (endN s).2.2) else endN s := by unfold finS; rw [if_neg (fun q => q h)]
theorem EQ_fin {s t : TSt} (h : EQt s t) (n : Nat) : EQt (finS s n) (finS t n) := by
  have ef := EQ_f h
  by_cases c : s.1 = 0
  · have c' : t.1 = 0 := by rw [← ef]; exact c
    rw [finS_0 c, finS_0 c']
    obtain ⟨fl, fp, its, it, nu, di, nb, np, S⟩ := s
    obtain ⟨fl', fp', its', it', nu', di', nb', np', S'⟩ := t
    obtain ⟨a1, -, a3⟩ := h
    have c : fl = 0 := c
    subst c; subst a1
    obtain ⟨rfl, rfl, rfl, h7, hn, hd, hS⟩ := a3 rfl
    have e := EQ_endN (fp := fp) (its := its) (fp' := fp') h7 hn hd hS
    generalize endN (0, fp, its, it, nu, di, nb, np, S) = s1 at e ⊢
    generalize endN (0, fp', its, it, nu', di, nb', np', S') = t1 at e ⊢
    obtain ⟨gl, gp, gts, gt, gu, gi, gb, gq, G⟩ := s1
    obtain ⟨gl', gp', gts', gt', gu', gi', gb', gq', G'⟩ := t1
    obtain ⟨b1, b2, b3⟩ := id e
    subst b1
    by_cases c2 : gl = 0
    · subst c2
      obtain ⟨rfl, rfl, rfl, k7, kn, kd, kS⟩ := b3 rfl
      by_cases c3 : gt = 7
      · rw [if_neg (fun q => q.2 c3), if_neg (fun q => q.2 c3)]; exact e
      · rw [if_pos ⟨rfl, c3⟩, if_pos ⟨rfl, c3⟩]; exact EQ_1 (by decide)
    · rw [if_neg (fun q => c2 q.1), if_neg (fun q => c2 q.1)]; exact e
  · have c' : t.1 ≠ 0 := by rw [← ef]; exact c
    rw [finS_fl c, finS_fl c']; exact h
theorem EQ_go {tx : Nat → Nat} {n : Nat} : ∀ f pos : Nat, ∀ s t : TSt, EQt s t → EQt (goF tx n f pos s) (goF tx n f pos t) := by
  intro f
  induction f with
  | zero => intro pos s t h; exact EQ_fin h n
  | succ f ih =>
    intro pos s t h
    have ef := EQ_f h
    show EQt (if s.1 ≠ 0 then s else goF tx n f (pos + 1) (stepc s (tx pos) pos)) (if t.1 ≠ 0 then t else goF tx n f (pos + 1) (stepc t (tx pos) pos))
    by_cases c : s.1 = 0
    · have c' : t.1 = 0 := by rw [← ef]; exact c
      rw [if_neg (fun q => q c), if_neg (fun q => q c')]
      exact ih _ _ _ (EQ_step h c _ _)
    · have c' : t.1 ≠ 0 := by rw [← ef]; exact c
      rw [if_pos c, if_pos c']; exact h
/-- between items, and within one -/
abbrev stA (its : Nat) (S : Nat → Nat) : TSt := (0, 0, its, 7, 0, 0, 0, 0, S)
abbrev stB (its it k : Nat) (S : Nat → Nat) : TSt := (0, 0, its, it, k, 0, 0, 0, S)
abbrev goG (tx : Nat → Nat) (n p : Nat) (s : TSt) : TSt := goF tx n (n - p) p s
theorem goG_s {tx : Nat → Nat} {n p : Nat} {s : TSt} (h : s.1 = 0) (hp : p < n) : goG tx n p s = goG tx n (p + 1) (stepc s (tx p) p) := goF_s h hp
theorem goG_f {tx : Nat → Nat} {n p : Nat} {s : TSt} (h : s.1 ≠ 0) : goG tx n p s = s := goF_fl h
theorem goG_e {tx : Nat → Nat} {n p : Nat} {s : TSt} (h : n ≤ p) : goG tx n p s = finS s n := by
  show goF tx n (n - p) p s = _
  rw [show n - p = 0 by omega]; rfl
theorem endN_0 {fl fp its it nu nb np : Nat} {S : Nat → Nat} : endN (fl, fp, its, it, nu, 0, nb, np, S) = (fl, fp, its, it, nu, 0, nb, np, S) := by simp only [endN, if_true]
theorem goG_sp {tx : Nat → Nat} {n p fp its it nu nb np : Nat} {S : Nat → Nat} (hp : p < n) (h : tx p = 32) : goG tx n p (0, fp, its, it, nu, 0, nb, np, S) = goG tx n (p + 1) (0, fp, its, it, nu, 0, nb, np, S) := by
  rw [goG_s rfl hp, stepc_end (s1 := (0, fp, its, it, nu, 0, nb, np, S)) (by omega) endN_0.symm (Or.inr h)]
theorem goG_sk {tx : Nat → Nat} {n fp its it nu nb np : Nat} {S : Nat → Nat} : ∀ f p : Nat, f = n - p → goG tx n p (0, fp, its, it, nu, 0, nb, np, S) = goG tx n (skG tx n f p) (0, fp, its, it, nu, 0, nb, np, S) := by
  intro f
  induction f with
  | zero => intro p _; rfl
  | succ f ih =>
    intro p hf
    show _ = goG tx n (if p < n ∧ tx p = 32 then skG tx n f (p + 1) else p) _
    by_cases c : p < n ∧ tx p = 32
    · rw [if_pos c, goG_sp c.1 c.2]; exact ih (p + 1) (by omega)
    · rw [if_neg c]
theorem skF_b {tx : Nat → Nat} {n p : Nat} (h : p ≤ n) : p ≤ skF tx n p ∧ skF tx n p ≤ n := by
  have := skG_le tx n (n - p) p
  unfold skF; omega
theorem skG_ne {tx : Nat → Nat} {n : Nat} : ∀ f p : Nat, f = n - p → skG tx n f p < n → tx (skG tx n f p) ≠ 32 := by
  intro f
  induction f with
  | zero => intro p hf h; have h : p < n := h; omega
  | succ f ih =>
    intro p hf
    show (if p < n ∧ tx p = 32 then skG tx n f (p + 1) else p) < n → tx (if p < n ∧ tx p = 32 then skG tx n f (p + 1) else p) ≠ 32
    by_cases c : p < n ∧ tx p = 32
    · rw [if_pos c]; exact ih (p + 1) (by omega)
    · rw [if_neg c]; exact fun h q => c ⟨h, q⟩
theorem skF_ne {tx : Nat → Nat} {n p : Nat} (h : skF tx n p < n) : tx (skF tx n p) ≠ 32 := skG_ne (n - p) p rfl h
/-- the rest of a reading: what is to come, or the fault that was found -/
def Fut (g : TSt) (tx : Nat → Nat) (n fa fp sp : Nat) (st : TSt) : Prop := (fa = 0 ∧ EQt g (goG tx n sp st)) ∨ (fa ≠ 0 ∧ g.1 = fa ∧ g.2.1 = fp)
theorem Fut_b {g x st : TSt} {tx : Nat → Nat} {n fa fp sp : Nat} (h : EQt g x) (h0 : fa ≠ 0) (h1 : x.1 = fa) (h2 : x.2.1 = fp) : Fut g tx n fa fp sp st := by
  have e := EQ_f h
  exact Or.inr ⟨h0, e.trans h1, (EQ_p h (by rw [e, h1]; exact h0)).trans h2⟩
theorem Fut_sk {g : TSt} {tx : Nat → Nat} {n fa fp sp a b c d e1 : Nat} {S : Nat → Nat} (h : Fut g tx n fa fp sp (0, a, b, c, d, 0, e1, 0, S)) : Fut g tx n fa fp (skF tx n sp) (0, a, b, c, d, 0, e1, 0, S) := by
  rcases h with h | h
  · exact Or.inl ⟨h.1, by rw [goG_sk (n - sp) sp rfl] at h; exact h.2⟩
  · exact Or.inr h
theorem Fut_0 {g st : TSt} {tx : Nat → Nat} {n fp sp : Nat} (h : Fut g tx n 0 fp sp st) : EQt g (goG tx n sp st) := by
  rcases h with h | h
  · exact h.2
  · exact absurd rfl h.1
section NUM
variable {tx : Nat → Nat} {n p q its it k v di : Nat} {S : Nat → Nat}
theorem nm1 (hp : p < n) (hd : 48 ≤ tx p ∧ tx p ≤ 57) (hi : it < 7) : goG tx n p (stB its it k S) = goG tx n (p + 1) (0, 0, its, it, k, 1, tx p - 48, p, S) := by
  rw [goG_s rfl hp, stepc_dig hd]
  congr 1
  simp only [rdD]
  rw [if_neg (by omega)]
  simp only [if_true]
theorem nm2 (hp : p < n) (hd : 48 ≤ tx p ∧ tx p ≤ 57) (hi : it < 7) (hp2 : p + 1 < n) (hd2 : 48 ≤ tx (p + 1) ∧ tx (p + 1) ≤ 57) : goG tx n p (stB its it k S) = goG tx n (p + 1 + 1) (0, 0, its, it, k, 2, 10 * (tx p - 48) + tx (p + 1) - 48, p, S) := by
  rw [nm1 hp hd hi, goG_s rfl hp2, stepc_dig hd2]
  congr 1
  simp only [rdD]
  rw [if_neg (by omega), if_neg (by omega), show (tx p - 48) * 10 + (tx (p + 1) - 48) = 10 * (tx p - 48) + tx (p + 1) - 48 by omega]
theorem nm3 (hG : goG tx n p (stB its it k S) = goG tx n q (0, 0, its, it, k, 2, v, p, S)) (hq : q < n) (hd : 48 ≤ tx q ∧ tx q ≤ 57) : (goG tx n p (stB its it k S)).1 = 1 ∧ (goG tx n p (stB its it k S)).2.1 = q := by
  rw [hG, goG_s rfl hq, stepc_dig hd]
  simp only [rdD]
  rw [if_pos (Or.inr trivial), goG_f (show (1 : Nat) ≠ 0 by decide)]
  exact ⟨rfl, rfl⟩
theorem nm_stop (hq : ¬ (q < n ∧ 48 ≤ tx q ∧ tx q ≤ 57)) (s : TSt) (h0 : s.1 = 0) : goG tx n q s = if (endN s).1 = 0 then goG tx n q (endN s) else endN s := by
  have hd := endN_di s
  by_cases c : (endN s).1 = 0
  · rw [if_pos c]
    have h2 : endN (endN s) = endN s := by
      generalize endN s = s1 at c hd ⊢
      obtain ⟨fl, fp, its, it, nu, di, nb, np, S⟩ := s1
      have c : fl = 0 := c
      have d0 : di = 0 := hd.resolve_left (fun z => z c)
      subst d0
      exact endN_0
    rcases Nat.lt_or_ge q n with hn | hn
    · rw [goG_s h0 hn, goG_s c hn]
      congr 1
      unfold stepc
      rw [if_neg (fun z => hq ⟨hn, z⟩), if_neg (fun z => hq ⟨hn, z⟩), h2]
    · rw [goG_e hn, goG_e hn, finS_0 h0, finS_0 c, h2]
  · rw [if_neg c]
    rcases Nat.lt_or_ge q n with hn | hn
    · rw [goG_s h0 hn, stepc_end (fun z => hq ⟨hn, z⟩) rfl (Or.inl c), goG_f c]
    · rw [goG_e hn, finS_0 h0, if_neg (fun z => c z.1)]
theorem nm_bad (hG : goG tx n p (stB its it k S) = goG tx n q (0, 0, its, it, k, di, v, p, S)) (hq : ¬ (q < n ∧ 48 ≤ tx q ∧ tx q ≤ 57)) (h0 : di ≠ 0) (hb : k = tbl tMOR it ∨ v < tbl tLEA (tbl tFIR it + k) ∨ tbl tMOS (tbl tFIR it + k) < v) : (goG tx n p (stB its it k S)).1 = 2 ∧ (goG tx n p (stB its it k S)).2.1 = p := by
  have e : endN (0, 0, its, it, k, di, v, p, S) = (2, p, its, it, k, 0, v, p, S) := by
    simp only [endN, if_neg h0]; rw [if_pos hb]
  rw [hG, nm_stop hq _ rfl, e, if_neg (show ¬ (2 : Nat) = 0 by decide)]
  exact ⟨rfl, rfl⟩
theorem nm_ok (hG : goG tx n p (stB its it k S) = goG tx n q (0, 0, its, it, k, di, v, p, S)) (hq : ¬ (q < n ∧ 48 ≤ tx q ∧ tx q ≤ 57)) (h0 : di ≠ 0) (hb : ¬ (k = tbl tMOR it ∨ v < tbl tLEA (tbl tFIR it + k) ∨ tbl tMOS (tbl tFIR it + k) < v)) : EQt (goG tx n p (stB its it k S)) (goG tx n q (stB its it (k + 1) (updN S (tbl tFIR it + k) v))) := by
  have e : endN (0, 0, its, it, k, di, v, p, S) = (0, 0, its, it, k + 1, 0, v, p, updN S (tbl tFIR it + k) v) := by
    simp only [endN, if_neg h0]; rw [if_neg hb]
  rw [hG, nm_stop hq _ rfl, e, if_pos rfl]
  exact EQ_go _ _ _ _ (EQ_0 (fun _ => rfl) (fun _ => rfl) (fun z => absurd rfl z) (fun _ _ => rfl))
end NUM
theorem EQ_rfl {s : TSt} (h : s.1 = 0 → s.2.2.2.1 = 7 → s.2.2.2.2.2.1 = 0) : EQt s s := by
  obtain ⟨fl, fp, its, it, nu, di, nb, np, S⟩ := s
  exact ⟨rfl, fun _ => rfl, fun z => ⟨rfl, rfl, rfl, h z, fun _ => rfl, fun _ => ⟨rfl, rfl⟩, fun _ _ => rfl⟩⟩

