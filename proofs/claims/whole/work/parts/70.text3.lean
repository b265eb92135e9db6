theorem sw_o {x : Int32} {lo hi : Nat} (h1 : lo < 2147483648) (h2 : hi < 2147483648) (h : ¬ (nI lo ≤ x ∧ x ≤ nI hi)) : x.toInt < (lo : Int) ∨ (hi : Int) < x.toInt := by
  rw [Int32.le_iff_toInt_le, Int32.le_iff_toInt_le, nI_toInt h1, nI_toInt h2] at h
  omega
/-- where a letter's numbers go -/
def plO (x : Int32) : Int32 := if x = nI 110 then nI 0 else if x = nI 107 then nI 1 else if x = nI 99 then nI 2 else if x = nI 112 then nI 3 else if x = nI 118 then nI 10 else if x = nI 119 then nI 15 else if x = nI 114 then nI 20 else -9
theorem plO_c : ∀ ch, ch < 127 → plO (nI ch) = if letc ch = 7 then -9 else nI (tbl tFIR (letc ch)) := by decide +kernel
theorem plO_o {x : Int32} (h : ¬ (nI 99 ≤ x ∧ x ≤ nI 119)) : -9 = plO x := by
  unfold plO
  rw [if_neg (fun q => h (by rw [q]; decide)), if_neg (fun q => h (by rw [q]; decide)), if_neg (fun q => h (by rw [q]; decide)), if_neg (fun q => h (by rw [q]; decide)), if_neg (fun q => h (by rw [q]; decide)), if_neg (fun q => h (by rw [q]; decide)), if_neg (fun q => h (by rw [q]; decide))]
theorem nI_m9 {n : Nat} (h : n < 2147483648) : ¬ nI n = -9 := fun q => by
  have e := congrArg Int32.toInt q
  rw [nI_toInt h] at e
  have e2 : (-9 : Int32).toInt = -9 := by decide
  omega
theorem hr_i {tx : Nat → Nat} {n p : Nat} (h : p < n) : hrV tx n p = nI (tx p) := if_pos h
theorem hr_d {tx : Nat → Nat} {n p : Nat} (hx : ∀ k, k < n → 32 ≤ tx k ∧ tx k ≤ 126) : (nI 48 ≤ hrV tx n p ∧ hrV tx n p ≤ nI 57) ↔ (p < n ∧ 48 ≤ tx p ∧ tx p ≤ 57) := by
  unfold hrV
  by_cases h : p < n
  · have := hx p h
    rw [if_pos h, in_iff (by decide) (by omega) (by decide)]
    exact ⟨fun q => ⟨h, q⟩, fun q => q.2⟩
  · rw [if_neg h]
    exact ⟨fun q => absurd q (by decide), fun q => absurd q.1 h⟩
theorem hr_k {tx : Nat → Nat} {n p c : Nat} (hx : ∀ k, k < n → 32 ≤ tx k ∧ tx k ≤ 126) (hc : c < 1000) : hrV tx n p = nI c ↔ (p < n ∧ tx p = c) := by
  unfold hrV
  by_cases h : p < n
  · have h2 := hx p h
    rw [if_pos h]
    constructor
    · intro q
      have e := congrArg Int32.toInt q
      rw [nI_toInt (by omega), nI_toInt (by omega)] at e
      exact ⟨h, by omega⟩
    · intro q; rw [q.2]
  · rw [if_neg h]
    exact ⟨fun q => absurd q.symm (nI_m9 (by omega)), fun q => absurd q.1 h⟩
theorem nmO_e : ∀ it, it < 7 → nmO (tbl tFIR it) = tbl tMOR it ∧ tbl tFEW it = (if tbl tFIR it = 3 then 1 else tbl tMOR it) := by decide +kernel
theorem ls_e : ∀ it, it < 7 → ∀ k, k < 7 → k < tbl tMOR it → lsO (tbl tFIR it) = tbl tLEA (tbl tFIR it + k) ∧ msO (tbl tFIR it) = tbl tMOS (tbl tFIR it + k) := by decide +kernel
theorem rt_i {it k v : Nat} (hit : it < 7) (hk : k < tbl tMOR it) (hv : v < 2147483648) : (nI (lsO (tbl tFIR it)) ≤ nI v ∧ nI v ≤ nI (msO (tbl tFIR it))) ↔ ¬ (k = tbl tMOR it ∨ v < tbl tLEA (tbl tFIR it + k) ∨ tbl tMOS (tbl tFIR it + k) < v) := by
  have h1 := lsO_b (tbl tFIR it)
  have h2 := msO_b (tbl tFIR it)
  have h3 := mor_le it hit
  rw [in_iff (by omega) hv (by omega), (ls_e it hit k (by omega) hk).1, (ls_e it hit k (by omega) hk).2]
  omega
theorem letc_no {ch : Nat} (h : letc ch ≠ 7) : 99 ≤ ch := Decidable.byContradiction (fun q => h (by unfold letc; rw [if_neg (by omega), if_neg (by omega), if_neg (by omega), if_neg (by omega), if_neg (by omega), if_neg (by omega), if_neg (by omega)]))
theorem updN_b {S : Nat → Nat} {k v : Nat} (h : ∀ x, x < 22 → S x ≤ 99) (hv : v ≤ 99) : ∀ x, x < 22 → updN S k v x ≤ 99 := fun x hx => by
  unfold updN
  split
  · exact hv
  · exact h x hx
section ITEM
variable {tx : Nat → Nat} {n p its it k : Nat} {S : Nat → Nat}
theorem en_s (hp : p < n) (hc : tx p = 59) : goG tx n p (stB its it k S) = goG tx n (p + 1) (enI (stB its it k S) p) := by
  rw [goG_s rfl hp, stepc_semi (by omega) endN_0.symm (fun q => q.elim (fun z => z rfl) (fun z => by omega)) hc]
theorem en_bad (hp : p < n) (hc : tx p = 59) (hit : it < 7) (hb : k < tbl tFEW it ∨ (it = 5 ∧ wsum S ≠ 10)) : (goG tx n p (stB its it k S)).1 = 3 ∧ (goG tx n p (stB its it k S)).2.1 = p := by
  have e : enI (stB its it k S) p = (3, p, its, it, k, 0, 0, 0, S) := by
    simp only [enI, if_neg (show ¬ it = 7 by omega)]; rw [if_pos hb]
  rw [en_s hp hc, e, goG_f (show (3 : Nat) ≠ 0 by decide)]
  exact ⟨rfl, rfl⟩
theorem en_ok {S2 : Nat → Nat} (hp : p < n) (hc : tx p = 59) (hit : it < 7) (hb : ¬ (k < tbl tFEW it ∨ (it = 5 ∧ wsum S ≠ 10))) (hS : ∀ x, x < 22 → S2 x = (if it = 3 then clP S k else S) x) : EQt (goG tx n p (stB its it k S)) (goG tx n (p + 1) (stA (its + 1) S2)) := by
  have e : enI (stB its it k S) p = (0, 0, its + 1, 7, k, 0, 0, 0, if it = 3 then clP S k else S) := by
    simp only [enI, if_neg (show ¬ it = 7 by omega)]; rw [if_neg hb]
  rw [en_s hp hc, e]
  exact EQ_go _ _ _ _ (EQ_0 (fun _ => rfl) (fun q => absurd rfl q) (fun q => absurd rfl q) (fun x hx => (hS x hx).symm))
theorem it_oth (hp : p < n) (h1 : ¬ (48 ≤ tx p ∧ tx p ≤ 57)) (h2 : tx p ≠ 32) (h3 : tx p ≠ 59) (hit : it < 7) : (goG tx n p (stB its it k S)).1 = 1 ∧ (goG tx n p (stB its it k S)).2.1 = p := by
  have e : bgI (stB its it k S) (tx p) p = (1, p, its, it, k, 0, 0, 0, S) := by
    simp only [bgI]; rw [if_pos (Or.inl (by omega))]
  rw [goG_s rfl hp, stepc_beg h1 endN_0.symm (fun q => q.elim (fun z => z rfl) h2) h3, e, goG_f (show (1 : Nat) ≠ 0 by decide)]
  exact ⟨rfl, rfl⟩
theorem it_end (hp : n ≤ p) (hit : it < 7) : (goG tx n p (stB its it k S)).1 = 1 ∧ (goG tx n p (stB its it k S)).2.1 = n := by
  rw [goG_e hp, finS_0 rfl, endN_0, if_pos ⟨rfl, show it ≠ 7 by omega⟩]
  exact ⟨rfl, rfl⟩
theorem item_bad (hp : p < n) (h2 : tx p ≠ 32) (h3 : letc (tx p) = 7) : (goG tx n p (stA its S)).1 = 1 ∧ (goG tx n p (stA its S)).2.1 = p := by
  rw [goG_s rfl hp]
  by_cases c : 48 ≤ tx p ∧ tx p ≤ 57
  · rw [stepc_dig c]
    have e : rdD (stA its S) (tx p - 48) p = (1, p, its, 7, 0, 0, 0, 0, S) := by
      simp only [rdD]; rw [if_pos (Or.inl trivial)]
    rw [e, goG_f (show (1 : Nat) ≠ 0 by decide)]
    exact ⟨rfl, rfl⟩
  · by_cases c2 : tx p = 59
    · rw [stepc_semi c endN_0.symm (fun q => q.elim (fun z => z rfl) h2) c2]
      have e : enI (stA its S) p = (1, p, its, 7, 0, 0, 0, 0, S) := by
        simp only [enI, if_true]
      rw [e, goG_f (show (1 : Nat) ≠ 0 by decide)]
      exact ⟨rfl, rfl⟩
    · rw [stepc_beg c endN_0.symm (fun q => q.elim (fun z => z rfl) h2) c2]
      have e : bgI (stA its S) (tx p) p = (1, p, its, 7, 0, 0, 0, 0, S) := by
        simp only [bgI]; rw [if_pos (Or.inr h3)]
      rw [e, goG_f (show (1 : Nat) ≠ 0 by decide)]
      exact ⟨rfl, rfl⟩
theorem item_ok (hp : p < n) (h3 : letc (tx p) ≠ 7) : goG tx n p (stA its S) = goG tx n (p + 1) (stB its (letc (tx p)) 0 S) := by
  have h9 := letc_no h3
  rw [goG_s rfl hp, stepc_beg (by omega) endN_0.symm (fun q => q.elim (fun z => z rfl) (fun z => by omega)) (by omega)]
  congr 1
  simp only [bgI]
  rw [if_neg (fun q => q.elim (fun z => z rfl) h3)]
variable {g st : TSt} {fa fp sp sp' : Nat}
theorem Fut_en_bad (h : Fut g tx n fa fp sp (stB its it k S)) (hp : sp < n) (hc : tx sp = 59) (hit : it < 7) (hb : k < tbl tFEW it ∨ (it = 5 ∧ wsum S ≠ 10)) : Fut g tx n (if fa = 0 then 3 else fa) (if fa = 0 then sp else fp) sp' st := by
  rcases h with ⟨h0, h⟩ | h
  · rw [if_pos h0, if_pos h0]
    have e := en_bad (its := its) (k := k) (S := S) hp hc hit hb
    exact Fut_b h (by decide) e.1 e.2
  · rw [if_neg h.1, if_neg h.1]; exact Or.inr h
theorem Fut_en_ok {S2 : Nat → Nat} (h : Fut g tx n fa fp sp (stB its it k S)) (hp : sp < n) (hc : tx sp = 59) (hit : it < 7) (hb : ¬ (k < tbl tFEW it ∨ (it = 5 ∧ wsum S ≠ 10))) (hS : fa = 0 → ∀ x, x < 22 → S2 x = (if it = 3 then clP S k else S) x) : Fut g tx n fa fp (sp + 1) (stA (its + 1) S2) := by
  rcases h with ⟨h0, h⟩ | h
  · exact Or.inl ⟨h0, EQ_t h (en_ok hp hc hit hb (hS h0))⟩
  · exact Or.inr h
theorem Fut_it_bad (h : Fut g tx n fa fp sp (stB its it k S)) (hsp : sp ≤ n) (h32 : sp < n → tx sp ≠ 32) (hd : fa = 0 → ¬ (sp < n ∧ 48 ≤ tx sp ∧ tx sp ≤ 57)) (h59 : ¬ (sp < n ∧ tx sp = 59)) (hit : it < 7) : Fut g tx n (if fa = 0 then 1 else fa) (if fa = 0 then sp else fp) sp' st := by
  rcases h with ⟨h0, h⟩ | h
  · rw [if_pos h0, if_pos h0]
    rcases Nat.lt_or_ge sp n with hn | hn
    · have e := it_oth (its := its) (k := k) (S := S) hn (fun q => hd h0 ⟨hn, q⟩) (h32 hn) (fun q => h59 ⟨hn, q⟩) hit
      exact Fut_b h (by decide) e.1 e.2
    · have e := it_end (tx := tx) (its := its) (k := k) (S := S) hn hit
      exact Fut_b h (by decide) e.1 (e.2.trans (by omega))
  · rw [if_neg h.1, if_neg h.1]; exact Or.inr h
end ITEM
theorem en_few {it k : Nat} (hit : it < 7) : (k < tbl tFEW it) ↔ (if tbl tFIR it = 3 then k = 0 else k < nmO (tbl tFIR it)) := by
  have h := nmO_e it hit
  rw [h.2, h.1]
  split <;> omega
theorem en_S2 {it k t : Nat} {S S2 : Nat → Nat} (hit : it < 7) (hk : k ≤ t) (h2 : tbl tFIR it ≠ 3 → t = k) (h3 : tbl tFIR it = 3 → 7 ≤ t ∧ (t = 7 ∨ t = k)) (hS : ∀ x, S2 x = if 3 + k ≤ x ∧ x < 3 + t then 0 else S x) (hkm : k ≤ 7) : ∀ x, x < 22 → S2 x = (if it = 3 then clP S k else S) x := fun x hx => by
  have hm := (mor_le it hit).2.2.2.2.2
  rw [hS x]
  by_cases c : it = 3
  · have h4 := h3 (hm.mpr c)
    rw [if_pos c]
    unfold clP
    by_cases c2 : 3 + k ≤ x ∧ x < 10
    · rw [if_pos c2, if_pos (by omega)]
    · rw [if_neg c2, if_neg (by omega)]
  · have h4 := h2 (fun q => c (hm.mp q))
    rw [if_neg c, if_neg (by omega)]
theorem Fut_sub {g st : TSt} {tx : Nat → Nat} {n fa fp sp : Nat} (h : Fut g tx n fa fp sp st) (h0 : fa ≠ 0) {sp' : Nat} {st' : TSt} : Fut g tx n fa fp sp' st' := by
  rcases h with h | h
  · exact absurd h.1 h0
  · exact Or.inr h
theorem Fut_A {g : TSt} {tx : Nat → Nat} {n fp its : Nat} {S : Nat → Nat} (h : Fut g tx n 0 fp n (stA its S)) : g.1 = 0 ∧ g.2.2.1 = its ∧ ∀ k, k < 22 → g.2.2.2.2.2.2.2.2 k = S k := by
  have e := Fut_0 h
  rw [goG_e (Nat.le_refl n), finS_0 rfl, endN_0, if_neg (fun q => q.2 rfl)] at e
  have e1 := EQ_f e
  have e2 := EQ_e e e1
  exact ⟨e1, e2.1, e2.2⟩
/-- the answer of load, and what it changes -/
def ldO (P hs : Nat → Nat) (bm kn : Nat) (g : TSt) : Int32 × (Nat → Nat) × (Nat → Nat) × Nat × Nat × Nat := if g.1 ≠ 0 then (-10 - nI g.2.1, P, hs, bm, kn, g.1) else (nI g.2.2.1, va_cpy g.2.2.2.2.2.2.2.2 P 0 0 22, recS P hs bm, recN bm, 0, 0)
abbrev g0 (P tx : Nat → Nat) (tn : Nat) : TSt := goG tx tn 0 (stA 0 P)
theorem cpy_x {f f' g : Nat → Nat} (h : ∀ k, k < 22 → f k = f' k) : va_cpy f g 0 0 22 = va_cpy f' g 0 0 22 := by
  funext x
  unfold va_cpy
  by_cases c : 0 ≤ x ∧ x < 0 + 22
  · rw [if_pos c, if_pos c]; exact h _ (by omega)
  · rw [if_neg c, if_neg c]
theorem ldO_f {P hs : Nat → Nat} {bm kn fa fp sp : Nat} {g st : TSt} {tx : Nat → Nat} {n : Nat} (h : Fut g tx n fa fp sp st) (h0 : fa ≠ 0) : (-10 - nI fp, P, hs, bm, kn, fa) = ldO P hs bm kn g := by
  rcases h with h | h
  · exact absurd h.1 h0
  · unfold ldO
    rw [if_pos (by rw [h.2.1]; exact h0), h.2.1, h.2.2]
theorem ldO_k {P hs S : Nat → Nat} {bm kn fp its : Nat} {g : TSt} {tx : Nat → Nat} {n : Nat} (h : Fut g tx n 0 fp n (stA its S)) : (nI its, va_cpy S P 0 0 22, recS P hs bm, recN bm, 0, 0) = ldO P hs bm kn g := by
  have e := Fut_A h
  unfold ldO
  rw [if_neg (fun q => q e.1), e.2.1, cpy_x e.2.2]

set_option maxHeartbeats 4000000 in
set_option maxRecDepth 100000 in
theorem c_X6_placeOf (l : Launch) (dC : Nat → ClassId) (dI : Nat → Nat → Nat) (x : Int32)  : Met l yX6_placeOf (kw yX6_placeOf cX6_placeOf 1 (some .int)) (kR 0 0) (kPr (dC, dI) [.int x] [] []) (vp_Si (fun res : Int32 => res = plO x)) 0 0 kNo := by
  refine kmet (by decide) ?_
  intro p e s m args below meth c Y hr hlocks hin hv
  obtain ⟨rfl, hP, hK, hZ⟩ := kinR hv
  have hS : va_S kNo s.heap s.heap [] := va_S.rf
  have hx := Y.1
  have hb := Y.2.1
  have hml := Y.2.2.1
  have hown := Y.2.2.2.1
  have hts := Y.2.2.2.2
  have hl := lv_entry ([.int x]) (n := 1) (Nat.le_of_ble_eq_true rfl)
  rw [lg_entry_eq]
  generalize (lg_sl ([.int x]) ++ List.replicate (1 - (lg_sl ([.int x])).length) Slot.unset).toArray = ls at hl ⊢
  have hl : lv_has ls 1 [(0, .int x)] := hl
  refine lv_iload_n hx hb dX6_placeOf_0 rfl (lv_at hl 0 rfl) ?_
  by_cases hsw : nI 99 ≤ x ∧ x ≤ nI 119
  · obtain ⟨xn, rfl, hxn1, hxn2⟩ := in_n (by decide) (by decide) hsw
    rcases (show xn = 99 ∨ xn = 100 ∨ xn = 101 ∨ xn = 102 ∨ xn = 103 ∨ xn = 104 ∨ xn = 105 ∨ xn = 106 ∨ xn = 107 ∨ xn = 108 ∨ xn = 109 ∨ xn = 110 ∨ xn = 111 ∨ xn = 112 ∨ xn = 113 ∨ xn = 114 ∨ xn = 115 ∨ xn = 116 ∨ xn = 117 ∨ xn = 118 ∨ xn = 119 by omega) with rfl | rfl | rfl | rfl | rfl | rfl | rfl | rfl | rfl | rfl | rfl | rfl | rfl | rfl | rfl | rfl | rfl | rfl | rfl | rfl | rfl
    · refine lv_tableIn (off := 103) (tgt := 104) hx hb dX6_placeOf_1 (by decide) (by decide) rfl (by decide) ?_
      refine lv_iconst (v := nI 2) hx hb dX6_placeOf_104 (by decide) ?_
      exact kri (v := nI 2) Y hr hlocks (by decide) dX6_placeOf_105
    · refine lv_tableIn (off := 116) (tgt := 117) hx hb dX6_placeOf_1 (by decide) (by decide) rfl (by decide) ?_
      refine lv_bipush (v := -9) hx hb dX6_placeOf_117 (by decide) ?_
      exact kri (v := (-9)) Y hr hlocks (by decide) dX6_placeOf_119
    · refine lv_tableIn (off := 116) (tgt := 117) hx hb dX6_placeOf_1 (by decide) (by decide) rfl (by decide) ?_
      refine lv_bipush (v := -9) hx hb dX6_placeOf_117 (by decide) ?_
      exact kri (v := (-9)) Y hr hlocks (by decide) dX6_placeOf_119
    · refine lv_tableIn (off := 116) (tgt := 117) hx hb dX6_placeOf_1 (by decide) (by decide) rfl (by decide) ?_
      refine lv_bipush (v := -9) hx hb dX6_placeOf_117 (by decide) ?_
      exact kri (v := (-9)) Y hr hlocks (by decide) dX6_placeOf_119
    · refine lv_tableIn (off := 116) (tgt := 117) hx hb dX6_placeOf_1 (by decide) (by decide) rfl (by decide) ?_
      refine lv_bipush (v := -9) hx hb dX6_placeOf_117 (by decide) ?_
      exact kri (v := (-9)) Y hr hlocks (by decide) dX6_placeOf_119
    · refine lv_tableIn (off := 116) (tgt := 117) hx hb dX6_placeOf_1 (by decide) (by decide) rfl (by decide) ?_
      refine lv_bipush (v := -9) hx hb dX6_placeOf_117 (by decide) ?_
      exact kri (v := (-9)) Y hr hlocks (by decide) dX6_placeOf_119
    · refine lv_tableIn (off := 116) (tgt := 117) hx hb dX6_placeOf_1 (by decide) (by decide) rfl (by decide) ?_
      refine lv_bipush (v := -9) hx hb dX6_placeOf_117 (by decide) ?_
      exact kri (v := (-9)) Y hr hlocks (by decide) dX6_placeOf_119
    · refine lv_tableIn (off := 116) (tgt := 117) hx hb dX6_placeOf_1 (by decide) (by decide) rfl (by decide) ?_
      refine lv_bipush (v := -9) hx hb dX6_placeOf_117 (by decide) ?_
      exact kri (v := (-9)) Y hr hlocks (by decide) dX6_placeOf_119
    · refine lv_tableIn (off := 101) (tgt := 102) hx hb dX6_placeOf_1 (by decide) (by decide) rfl (by decide) ?_
      refine lv_iconst (v := nI 1) hx hb dX6_placeOf_102 (by decide) ?_
      exact kri (v := nI 1) Y hr hlocks (by decide) dX6_placeOf_103
    · refine lv_tableIn (off := 116) (tgt := 117) hx hb dX6_placeOf_1 (by decide) (by decide) rfl (by decide) ?_
      refine lv_bipush (v := -9) hx hb dX6_placeOf_117 (by decide) ?_
      exact kri (v := (-9)) Y hr hlocks (by decide) dX6_placeOf_119
    · refine lv_tableIn (off := 116) (tgt := 117) hx hb dX6_placeOf_1 (by decide) (by decide) rfl (by decide) ?_
      refine lv_bipush (v := -9) hx hb dX6_placeOf_117 (by decide) ?_
      exact kri (v := (-9)) Y hr hlocks (by decide) dX6_placeOf_119
    · refine lv_tableIn (off := 99) (tgt := 100) hx hb dX6_placeOf_1 (by decide) (by decide) rfl (by decide) ?_
      refine lv_iconst (v := nI 0) hx hb dX6_placeOf_100 (by decide) ?_
      exact kri (v := nI 0) Y hr hlocks (by decide) dX6_placeOf_101
    · refine lv_tableIn (off := 116) (tgt := 117) hx hb dX6_placeOf_1 (by decide) (by decide) rfl (by decide) ?_
      refine lv_bipush (v := -9) hx hb dX6_placeOf_117 (by decide) ?_
      exact kri (v := (-9)) Y hr hlocks (by decide) dX6_placeOf_119
    · refine lv_tableIn (off := 105) (tgt := 106) hx hb dX6_placeOf_1 (by decide) (by decide) rfl (by decide) ?_
      refine lv_iconst (v := nI 3) hx hb dX6_placeOf_106 (by decide) ?_
      exact kri (v := nI 3) Y hr hlocks (by decide) dX6_placeOf_107
    · refine lv_tableIn (off := 116) (tgt := 117) hx hb dX6_placeOf_1 (by decide) (by decide) rfl (by decide) ?_
      refine lv_bipush (v := -9) hx hb dX6_placeOf_117 (by decide) ?_
      exact kri (v := (-9)) Y hr hlocks (by decide) dX6_placeOf_119
    · refine lv_tableIn (off := 113) (tgt := 114) hx hb dX6_placeOf_1 (by decide) (by decide) rfl (by decide) ?_
      refine lv_bipush (v := nI 20) hx hb dX6_placeOf_114 (by decide) ?_
      exact kri (v := nI 20) Y hr hlocks (by decide) dX6_placeOf_116
    · refine lv_tableIn (off := 116) (tgt := 117) hx hb dX6_placeOf_1 (by decide) (by decide) rfl (by decide) ?_
      refine lv_bipush (v := -9) hx hb dX6_placeOf_117 (by decide) ?_
      exact kri (v := (-9)) Y hr hlocks (by decide) dX6_placeOf_119
    · refine lv_tableIn (off := 116) (tgt := 117) hx hb dX6_placeOf_1 (by decide) (by decide) rfl (by decide) ?_
      refine lv_bipush (v := -9) hx hb dX6_placeOf_117 (by decide) ?_
      exact kri (v := (-9)) Y hr hlocks (by decide) dX6_placeOf_119
    · refine lv_tableIn (off := 116) (tgt := 117) hx hb dX6_placeOf_1 (by decide) (by decide) rfl (by decide) ?_
      refine lv_bipush (v := -9) hx hb dX6_placeOf_117 (by decide) ?_
      exact kri (v := (-9)) Y hr hlocks (by decide) dX6_placeOf_119
    · refine lv_tableIn (off := 107) (tgt := 108) hx hb dX6_placeOf_1 (by decide) (by decide) rfl (by decide) ?_
      refine lv_bipush (v := nI 10) hx hb dX6_placeOf_108 (by decide) ?_
      exact kri (v := nI 10) Y hr hlocks (by decide) dX6_placeOf_110
    · refine lv_tableIn (off := 110) (tgt := 111) hx hb dX6_placeOf_1 (by decide) (by decide) rfl (by decide) ?_
      refine lv_bipush (v := nI 15) hx hb dX6_placeOf_111 (by decide) ?_
      exact kri (v := nI 15) Y hr hlocks (by decide) dX6_placeOf_113
  · refine lv_tableOut (tgt := 117) hx hb dX6_placeOf_1 (sw_o (lo := 99) (hi := 119) (by decide) (by decide) hsw) (by decide) ?_
    refine lv_bipush (v := -9) hx hb dX6_placeOf_117 (by decide) ?_
    exact kri (v := (-9)) Y hr hlocks (plO_o hsw) dX6_placeOf_119
