theorem PI_rng {P : Nat → Nat} (h : PI P) : ∀ k, k < 22 → tbl tLEA k ≤ P k ∧ P k ≤ tbl tMOS k := fun k hk => by
  obtain ⟨h0, h1, h2, h3, h4, h5, h6, h7⟩ := h
  have e := ls_t k hk
  have e3 := h3 k hk
  rw [e.1, e.2]
  unfold lsO msO
  by_cases c : 15 ≤ k ∧ k < 20
  · have e4 := h4 (k - 15) (by omega)
    rw [show 15 + (k - 15) = k by omega] at e4
    rw [if_neg (by omega), if_neg (by omega), if_neg (by omega), if_neg (by omega), if_neg (by omega)]
    omega
  · rcases (show k = 0 ∨ k = 1 ∨ k = 2 ∨ k = 20 ∨ k = 21 ∨ (3 ≤ k ∧ k < 15) by omega) with rfl | rfl | rfl | rfl | rfl | q
    · exact h0
    · exact h1
    · exact ⟨Nat.zero_le _, h2⟩
    · exact ⟨Nat.zero_le _, h6⟩
    · exact ⟨Nat.zero_le _, h7⟩
    · rw [if_neg (by omega), if_neg (by omega), if_neg (by omega), if_neg (by omega), if_pos (by omega)]
      omega
theorem PI_of {P : Nat → Nat} (h : ∀ k, k < 22 → tbl tLEA k ≤ P k ∧ P k ≤ tbl tMOS k) (hw : wsum P = 10) : PI P := by
  have e : ∀ k, k < 22 → lsO k ≤ P k ∧ P k ≤ msO k := fun k hk => by have := h k hk; rw [(ls_t k hk).1, (ls_t k hk).2] at this; exact this
  refine ⟨e 0 (by omega), e 1 (by omega), (e 2 (by omega)).2, fun k hk => ?_, fun l hl => ?_, ?_, (e 20 (by omega)).2, (e 21 (by omega)).2⟩
  · have := (e k hk).2; have := msO_b k; omega
  · have e2 := (e (15 + l) (by omega)).2
    unfold msO at e2
    rw [if_neg (by omega), if_neg (by omega), if_neg (by omega), if_neg (by omega)] at e2
    exact e2
  · unfold wsum at hw; omega
theorem PI_w {P : Nat → Nat} (h : PI P) : wsum P = 10 := by have := h.2.2.2.2.2.1; unfold wsum; omega
theorem PI_x {P P' : Nat → Nat} (h : PI P) (e : ∀ k, k < 22 → P' k = P k) : PI P' := by
  refine PI_of (fun k hk => by rw [e k hk]; exact PI_rng h k hk) ?_
  have := PI_w h
  unfold wsum at *
  rw [e 15 (by omega), e 16 (by omega), e 17 (by omega), e 18 (by omega), e 19 (by omega)]
  exact this
theorem PI_upd {P : Nat → Nat} (h : PI P) {i v : Nat} (hi : i < 15 ∨ 20 ≤ i) (h1 : i < 22) (hv : lsO i ≤ v ∧ v ≤ msO i) : PI (updN P i v) := by
  refine PI_of (fun k hk => ?_) ?_
  · unfold updN
    split
    · rename_i q; rw [q, (ls_t i h1).1, (ls_t i h1).2]; exact hv
    · exact PI_rng h k hk
  · have := PI_w h
    unfold wsum at *
    rw [updN_n _ _ (by omega), updN_n _ _ (by omega), updN_n _ _ (by omega), updN_n _ _ (by omega), updN_n _ _ (by omega)]
    exact this
/-- the remembered states -/
def HI (hs : Nat → Nat) (bm : Nat) : Prop := bm ≤ 8 ∧ ∀ r, r < bm → PI (fun k => hs (r * 22 + k))
theorem HI_rec {P hs : Nat → Nat} {bm : Nat} (hP : PI P) (h : HI hs bm) : HI (recS P hs bm) (recN bm) := by
  have h8 := h.1
  refine ⟨recN_le h8, fun r hr => ?_⟩
  unfold recN at hr
  unfold recS va_cpy
  by_cases c : bm = 8
  · rw [if_pos c] at hr
    by_cases c2 : r = 7
    · refine PI_x hP (fun k hk => ?_)
      show (if _ then _ else _) = _
      rw [if_pos (by rw [if_pos c]; omega), if_pos c]
      exact congrArg P (by omega)
    · refine PI_x (h.2 (r + 1) (by omega)) (fun k hk => ?_)
      show (if _ then _ else _) = _
      rw [if_neg (by rw [if_pos c]; omega), if_pos c]
      show (if _ then _ else _) = _
      rw [if_pos (by omega)]
      exact congrArg hs (by omega)
  · rw [if_neg c] at hr
    by_cases c2 : r = bm
    · refine PI_x hP (fun k hk => ?_)
      show (if _ then _ else _) = _
      rw [if_pos (by rw [if_neg c]; omega), if_neg c]
      exact congrArg P (by omega)
    · refine PI_x (h.2 r (by omega)) (fun k hk => ?_)
      show (if _ then _ else _) = _
      rw [if_neg (by rw [if_neg c]; omega), if_neg c]
theorem PI_undo {P hs : Nat → Nat} {bm : Nat} (h : HI hs bm) (h0 : bm ≠ 0) : PI (va_cpy hs P ((bm - 1) * 22) 0 22) := by
  refine PI_x (h.2 (bm - 1) (by omega)) (fun k hk => ?_)
  show (if _ then _ else _) = _
  rw [if_pos (by omega)]
  exact congrArg hs (by omega)
theorem HI_less {hs : Nat → Nat} {bm : Nat} (h : HI hs bm) : HI hs (bm - 1) := ⟨by have := h.1; omega, fun r hr => h.2 r (by omega)⟩
theorem KI_0 {P ww rv sy gz : Nat → Nat} : KI P 0 ww rv sy gz := ⟨Nat.zero_le 1, fun q => absurd q (by decide)⟩
theorem RI_0 {P : Nat → Nat} {w b : Nat → Int64} {n : Nat} {co : Int64} : RI P 0 w b n co := ⟨Nat.zero_le 1, fun q => absurd q (by decide)⟩
theorem VI_0 {P P' : Nat → Nat} {wr sv n co c1 c2 : Nat} {lv wt bf af : Nat → Nat} (h : VI P wr sv n co c1 c2 lv wt bf af) : VI P' wr 0 n co c1 c2 lv wt bf af := ⟨Nat.zero_le 1, h.2.1, h.2.2.1, fun q => absurd q (by decide)⟩
/-- a change, seen from both sides: what class and model do is the same, and the state stays sound -/
theorem CH {P hs P2 hs2 P3 hs3 : Nat → Nat} {bm kn bm2 kn2 bm3 k3 i v : Nat} {r r3 : Int32} {ok : Prop} [Decidable ok] (hP : PI P) (hH : HI hs bm) (hok : ok → PI (updN P i v)) (h3 : (r3, P3, hs3, bm3, k3) = setO P hs bm 1 ok i v) (h2 : (r, P2, hs2, bm2, kn2) = setO P hs bm kn ok i v) : r3 = r ∧ P3 = P2 ∧ hs3 = hs2 ∧ bm3 = bm2 ∧ PI P2 ∧ HI hs2 bm2 ∧ ((k3 = 0 ∧ kn2 = 0) ∨ (k3 = 1 ∧ kn2 = kn ∧ P2 = P)) := by
  unfold setO at h2 h3
  by_cases c : ok
  · rw [if_pos c] at h2 h3
    injection h2 with a1 a2; injection a2 with a2 a3; injection a3 with a3 a4; injection a4 with a4 a5
    injection h3 with b1 b2; injection b2 with b2 b3; injection b3 with b3 b4; injection b4 with b4 b5
    subst a1 a2 a3 a4 a5 b1 b2 b3 b4 b5
    exact ⟨rfl, rfl, rfl, rfl, hok c, HI_rec hP hH, Or.inl ⟨rfl, rfl⟩⟩
  · rw [if_neg c] at h2 h3
    injection h2 with a1 a2; injection a2 with a2 a3; injection a3 with a3 a4; injection a4 with a4 a5
    injection h3 with b1 b2; injection b2 with b2 b3; injection b3 with b3 b4; injection b4 with b4 b5
    subst a1 a2 a3 a4 a5 b1 b2 b3 b4 b5
    exact ⟨rfl, rfl, rfl, rfl, hP, hH, Or.inr ⟨rfl, rfl, rfl⟩⟩
theorem CHs {P hs P2 hs2 P3 hs3 : Nat → Nat} {bm kn bm2 kn2 bm3 k3 : Nat} {a b v r r3 : Int32} (hP : PI P) (hH : HI hs bm) (h3 : (r3, P3, hs3, bm3, k3) = shO P hs bm 1 a b v) (h2 : (r, P2, hs2, bm2, kn2) = shO P hs bm kn a b v) : r3 = r ∧ P3 = P2 ∧ hs3 = hs2 ∧ bm3 = bm2 ∧ PI P2 ∧ HI hs2 bm2 ∧ ((k3 = 0 ∧ kn2 = 0) ∨ (k3 = 1 ∧ kn2 = kn ∧ P2 = P)) := by
  unfold shO at h2 h3
  by_cases c : ((nI 0 ≤ a ∧ a ≤ nI 4) ∧ (nI 0 ≤ b ∧ b ≤ nI 4)) ∧ (nI 0 ≤ v ∧ v ≤ nI (P (15 + nO a)))
  · rw [if_pos c] at h2 h3
    injection h2 with a1 a2; injection a2 with a2 a3; injection a3 with a3 a4; injection a4 with a4 a5
    injection h3 with b1 b2; injection b2 with b2 b3; injection b3 with b3 b4; injection b4 with b4 b5
    subst a1 a2 a3 a4 a5 b1 b2 b3 b4 b5
    refine ⟨rfl, rfl, rfl, rfl, ?_, HI_rec hP hH, Or.inl ⟨rfl, rfl⟩⟩
    obtain ⟨⟨ca, cb⟩, cv⟩ := c
    obtain ⟨xa, rfl, -, ha⟩ := in_n (by decide) (by decide) ca
    obtain ⟨xb, rfl, -, hb⟩ := in_n (by decide) (by decide) cb
    have hpa := hP.2.2.2.2.1 xa (by omega)
    rw [nO_n (n := xa) (by omega)] at cv
    obtain ⟨xv, rfl, -, hv⟩ := in_n (by decide) (by omega) cv
    rw [nO_n (n := xa) (by omega), nO_n (n := xb) (by omega), nO_n (n := xv) (by omega)]
    have hw := PI_w hP
    have hr := PI_rng hP
    have w5 : ∀ l, l < 5 → P (15 + l) ≤ 10 := hP.2.2.2.2.1
    have key : wsum (shW P xa xb xv) = 10 := by
      unfold wsum shW updN at *
      rcases (show xa = 0 ∨ xa = 1 ∨ xa = 2 ∨ xa = 3 ∨ xa = 4 by omega) with rfl | rfl | rfl | rfl | rfl <;> rcases (show xb = 0 ∨ xb = 1 ∨ xb = 2 ∨ xb = 3 ∨ xb = 4 by omega) with rfl | rfl | rfl | rfl | rfl <;> simp only [Nat.reduceAdd, Nat.reduceEqDiff, if_true, if_false, Nat.reduceSub] at * <;> omega
    refine PI_of (fun k hk => ?_) key
    by_cases c2 : 15 ≤ k ∧ k < 20
    · have e := ls_w k hk c2.1
      rw [e.1, e.2]
      refine ⟨Nat.zero_le _, ?_⟩
      unfold wsum at key
      rcases (show k = 15 ∨ k = 16 ∨ k = 17 ∨ k = 18 ∨ k = 19 by omega) with rfl | rfl | rfl | rfl | rfl <;> omega
    · unfold shW
      rw [updN_n _ _ (by omega), updN_n _ _ (by omega)]
      exact hr k hk
  · rw [if_neg c] at h2 h3
    injection h2 with a1 a2; injection a2 with a2 a3; injection a3 with a3 a4; injection a4 with a4 a5
    injection h3 with b1 b2; injection b2 with b2 b3; injection b3 with b3 b4; injection b4 with b4 b5
    subst a1 a2 a3 a4 a5 b1 b2 b3 b4 b5
    exact ⟨rfl, rfl, rfl, rfl, hP, hH, Or.inr ⟨rfl, rfl, rfl⟩⟩
theorem CHu {P hs P2 P3 : Nat → Nat} {bm kn bm2 kn2 bm3 k3 : Nat} {r r3 : Int32} (hP : PI P) (hH : HI hs bm) (h3 : (r3, P3, bm3, k3) = undO P hs bm 1) (h2 : (r, P2, bm2, kn2) = undO P hs bm kn) : r3 = r ∧ P3 = P2 ∧ bm3 = bm2 ∧ PI P2 ∧ HI hs bm2 ∧ ((k3 = 0 ∧ kn2 = 0) ∨ (k3 = 1 ∧ kn2 = kn ∧ P2 = P)) := by
  unfold undO at h2 h3
  by_cases c : bm = 0
  · rw [if_pos c] at h2 h3
    injection h2 with a1 a2; injection a2 with a2 a3; injection a3 with a3 a4
    injection h3 with b1 b2; injection b2 with b2 b3; injection b3 with b3 b4
    subst a1 a2 a3 a4 b1 b2 b3 b4
    exact ⟨rfl, rfl, rfl, hP, hH, Or.inr ⟨rfl, rfl, rfl⟩⟩
  · rw [if_neg c] at h2 h3
    injection h2 with a1 a2; injection a2 with a2 a3; injection a3 with a3 a4
    injection h3 with b1 b2; injection b2 with b2 b3; injection b3 with b3 b4
    subst a1 a2 a3 a4 b1 b2 b3 b4
    exact ⟨rfl, rfl, rfl, PI_undo hH c, HI_less hH, Or.inl ⟨rfl, rfl⟩⟩
/-- a reading keeps the parameters sound -/
def QI (s : TSt) : Prop := s.1 = 0 → (∀ k, k < 22 → tbl tLEA k ≤ s.2.2.2.2.2.2.2.2 k ∧ s.2.2.2.2.2.2.2.2 k ≤ tbl tMOS k) ∧ (s.2.2.2.1 ≠ 5 → wsum s.2.2.2.2.2.2.2.2 = 10) ∧ (s.2.2.2.1 < 7 → s.2.2.2.2.1 ≤ tbl tMOR s.2.2.2.1) ∧ s.2.2.2.1 ≤ 7 ∧ (s.2.2.2.1 = 7 → s.2.2.2.2.2.1 = 0)
theorem fir_w : ∀ it, it < 7 → ∀ nu, nu < 7 → nu < tbl tMOR it → it ≠ 5 → (tbl tFIR it + nu < 15 ∨ 20 ≤ tbl tFIR it + nu) := by decide +kernel
theorem QI_endN {s : TSt} (h : QI s) : QI (endN s) := by
  obtain ⟨fl, fp, its, it, nu, di, nb, np, S⟩ := s
  unfold endN
  by_cases c : di = 0
  · simp only [if_pos c]; exact h
  · simp only [if_neg c]
    by_cases c2 : nu = tbl tMOR it ∨ nb < tbl tLEA (tbl tFIR it + nu) ∨ tbl tMOS (tbl tFIR it + nu) < nb
    · rw [if_pos c2]; exact fun q => absurd (show (2 : Nat) = 0 from q) (by decide)
    · rw [if_neg c2]
      intro q
      obtain ⟨h1, h2, h3, h4, h5⟩ := h q
      have h1 : ∀ k, k < 22 → tbl tLEA k ≤ S k ∧ S k ≤ tbl tMOS k := h1
      have h2 : it ≠ 5 → wsum S = 10 := h2
      have h3 : it < 7 → nu ≤ tbl tMOR it := h3
      have h4 : it ≤ 7 := h4
      have h5 : it = 7 → di = 0 := h5
      have hi : it < 7 := by rcases Nat.lt_or_ge it 7 with z | z; exact z; exact absurd (h5 (by omega)) c
      have hm := mor_le it hi
      have hn := h3 hi
      refine ⟨fun k hk => ?_, fun z => ?_, fun _ => ?_, h4, fun _ => rfl⟩
      · show tbl tLEA k ≤ updN S (tbl tFIR it + nu) nb k ∧ updN S (tbl tFIR it + nu) nb k ≤ tbl tMOS k
        unfold updN
        split
        · rename_i e; rw [e]; omega
        · exact h1 k hk
      · have z : it ≠ 5 := z
        have hf := fir_w it hi nu (by omega) (by omega) z
        have hw := h2 z
        show wsum (updN S (tbl tFIR it + nu) nb) = 10
        unfold wsum at *
        rw [updN_n _ _ (by omega), updN_n _ _ (by omega), updN_n _ _ (by omega), updN_n _ _ (by omega), updN_n _ _ (by omega)]
        exact hw
      · show nu + 1 ≤ tbl tMOR it
        omega
theorem QI_step {s : TSt} (h : QI s) (h0 : s.1 = 0) (ch pos : Nat) : QI (stepc s ch pos) := by
  unfold stepc
  by_cases c : 48 ≤ ch ∧ ch ≤ 57
  · rw [if_pos c]
    obtain ⟨fl, fp, its, it, nu, di, nb, np, S⟩ := s
    unfold rdD
    by_cases c2 : it = 7 ∨ di = 2
    · simp only [if_pos c2]; exact fun q => absurd (show (1 : Nat) = 0 from q) (by decide)
    · simp only [if_neg c2]
      by_cases c3 : di = 0
      · simp only [if_pos c3]
        exact fun q => ⟨(h q).1, (h q).2.1, (h q).2.2.1, (h q).2.2.2.1, fun z => absurd (Or.inl z) c2⟩
      · simp only [if_neg c3]
        exact fun q => ⟨(h q).1, (h q).2.1, (h q).2.2.1, (h q).2.2.2.1, fun z => absurd (Or.inl z) c2⟩
  · rw [if_neg c]
    have e := QI_endN h
    have ed := endN_di s
    generalize endN s = s1 at e ed ⊢
    by_cases c2 : s1.1 ≠ 0 ∨ ch = 32
    · rw [if_pos c2]; exact e
    · rw [if_neg c2]
      have f0 : s1.1 = 0 := Decidable.byContradiction (fun q => c2 (Or.inl q))
      have d0 := ed.resolve_left (fun q => q f0)
      obtain ⟨fl, fp, its, it, nu, di, nb, np, S⟩ := s1
      have d0 : di = 0 := d0
      obtain ⟨h1, h2, h3, h4, h5⟩ := e f0
      have h1 : ∀ k, k < 22 → tbl tLEA k ≤ S k ∧ S k ≤ tbl tMOS k := h1
      have h2 : it ≠ 5 → wsum S = 10 := h2
      by_cases c3 : ch = 59
      · rw [if_pos c3]
        unfold enI
        by_cases c4 : it = 7
        · simp only [if_pos c4]; exact fun q => absurd (show (1 : Nat) = 0 from q) (by decide)
        · simp only [if_neg c4]
          by_cases c5 : nu < tbl tFEW it ∨ (it = 5 ∧ wsum S ≠ 10)
          · rw [if_pos c5]; exact fun q => absurd (show (3 : Nat) = 0 from q) (by decide)
          · rw [if_neg c5]
            have hw : wsum S = 10 := by
              by_cases z : it = 5
              · exact Decidable.byContradiction (fun q => c5 (Or.inr ⟨z, q⟩))
              · exact h2 z
            refine fun q => ⟨fun k hk => ?_, fun _ => ?_, fun z => absurd (show (7 : Nat) < 7 from z) (by decide), Nat.le_refl 7, fun _ => d0⟩
            · show tbl tLEA k ≤ (if it = 3 then clP S nu else S) k ∧ (if it = 3 then clP S nu else S) k ≤ tbl tMOS k
              split
              · unfold clP
                split
                · have := ls_p k (by omega) (by omega); omega
                · exact h1 k hk
              · exact h1 k hk
            · show wsum (if it = 3 then clP S nu else S) = 10
              split
              · unfold wsum clP at *
                rw [if_neg (by omega), if_neg (by omega), if_neg (by omega), if_neg (by omega), if_neg (by omega)]
                exact hw
              · exact hw
      · rw [if_neg c3]
        unfold bgI
        by_cases c4 : it ≠ 7 ∨ letc ch = 7
        · simp only [if_pos c4]; exact fun q => absurd (show (1 : Nat) = 0 from q) (by decide)
        · simp only [if_neg c4]
          have hi : it = 7 := Decidable.byContradiction (fun q => c4 (Or.inl q))
          exact fun q => ⟨h1, fun _ => h2 (by omega), fun _ => Nat.zero_le _, letc_le ch, fun _ => d0⟩
theorem QI_fin {s : TSt} {n : Nat} (h : QI s) : QI (finS s n) ∧ ((finS s n).1 = 0 → (finS s n).2.2.2.1 = 7) := by
  by_cases c : s.1 = 0
  · rw [finS_0 c]
    have e := QI_endN h
    by_cases c2 : (endN s).1 = 0 ∧ (endN s).2.2.2.1 ≠ 7
    · rw [if_pos c2]
      exact ⟨fun q => absurd (show (1 : Nat) = 0 from q) (by decide), fun q => absurd (show (1 : Nat) = 0 from q) (by decide)⟩
    · rw [if_neg c2]
      exact ⟨e, fun q => Decidable.byContradiction (fun z => c2 ⟨q, z⟩)⟩
  · rw [finS_fl c]
    exact ⟨h, fun q => absurd q c⟩
theorem QI_go {tx : Nat → Nat} {n : Nat} : ∀ f pos : Nat, ∀ s : TSt, QI s → QI (goF tx n f pos s) ∧ ((goF tx n f pos s).1 = 0 → (goF tx n f pos s).2.2.2.1 = 7) := by
  intro f
  induction f with
  | zero => intro pos s h; exact QI_fin h
  | succ f ih =>
    intro pos s h
    show QI (if s.1 ≠ 0 then s else goF tx n f (pos + 1) (stepc s (tx pos) pos)) ∧ ((if s.1 ≠ 0 then s else goF tx n f (pos + 1) (stepc s (tx pos) pos)).1 = 0 → (if s.1 ≠ 0 then s else goF tx n f (pos + 1) (stepc s (tx pos) pos)).2.2.2.1 = 7)
    by_cases c : s.1 = 0
    · rw [if_neg (fun q => q c)]
      exact ih _ _ (QI_step h c _ _)
    · rw [if_pos c]
      exact ⟨h, fun q => absurd q c⟩
theorem PI_go {P tx : Nat → Nat} {tn : Nat} (h : PI P) (h0 : (g0 P tx tn).1 = 0) : PI (va_cpy (g0 P tx tn).2.2.2.2.2.2.2.2 P 0 0 22) := by
  have e := QI_go (tx := tx) (n := tn) (tn - 0) 0 (stA 0 P) (fun _ => ⟨PI_rng h, fun _ => PI_w h, fun z => absurd (show (7 : Nat) < 7 from z) (by decide), Nat.le_refl 7, fun _ => rfl⟩)
  have e1 := e.1 h0
  have e2 : (g0 P tx tn).2.2.2.1 = 7 := e.2 h0
  have e3 : (g0 P tx tn).2.2.2.1 ≠ 5 → wsum (g0 P tx tn).2.2.2.2.2.2.2.2 = 10 := e1.2.1
  refine PI_x (PI_of e1.1 (e3 (by omega))) (fun k hk => ?_)
  show (if _ then _ else _) = _
  rw [if_pos (by omega)]
  exact congrArg _ (by omega)
theorem CHl {P hs P2 hs2 P3 hs3 tx : Nat → Nat} {bm kn bm2 kn2 bm3 k3 fa2 fa3 tn : Nat} {r r3 : Int32} (hP : PI P) (hH : HI hs bm) (h3 : (r3, P3, hs3, bm3, k3, fa3) = ldO P hs bm 1 (g0 P tx tn)) (h2 : (r, P2, hs2, bm2, kn2, fa2) = ldO P hs bm kn (g0 P tx tn)) : r3 = r ∧ P3 = P2 ∧ hs3 = hs2 ∧ bm3 = bm2 ∧ fa3 = fa2 ∧ PI P2 ∧ HI hs2 bm2 ∧ ((k3 = 0 ∧ kn2 = 0) ∨ (k3 = 1 ∧ kn2 = kn ∧ P2 = P)) := by
  unfold ldO at h2 h3
  by_cases c : (g0 P tx tn).1 ≠ 0
  · rw [if_pos c] at h2 h3
    injection h2 with a1 a2; injection a2 with a2 a3; injection a3 with a3 a4; injection a4 with a4 a5; injection a5 with a5 a6
    injection h3 with b1 b2; injection b2 with b2 b3; injection b3 with b3 b4; injection b4 with b4 b5; injection b5 with b5 b6
    subst a1 a2 a3 a4 a5 b1 b2 b3 b4 b5
    exact ⟨rfl, rfl, rfl, rfl, b6.trans a6.symm, hP, hH, Or.inr ⟨rfl, rfl, rfl⟩⟩
  · rw [if_neg c] at h2 h3
    injection h2 with a1 a2; injection a2 with a2 a3; injection a3 with a3 a4; injection a4 with a4 a5; injection a5 with a5 a6
    injection h3 with b1 b2; injection b2 with b2 b3; injection b3 with b3 b4; injection b4 with b4 b5; injection b5 with b5 b6
    subst a1 a2 a3 a4 a5 b1 b2 b3 b4 b5
    exact ⟨rfl, rfl, rfl, rfl, b6.trans a6.symm, PI_go hP (Decidable.not_not.mp c), HI_rec hP hH, Or.inl ⟨rfl, rfl⟩⟩

