/-- the model's class: plain meanings of its small methods -/
def lsO (w : Nat) : Nat := if w = 0 ∨ w = 1 then 1 else 0
def msO (w : Nat) : Nat := if w = 0 then 7 else if w = 1 then 3 else if w = 2 then 20 else if w < 15 then 99 else 10
def nmO (w : Nat) : Nat := if w < 3 then 1 else if w = 3 then 7 else if w = 20 then 2 else 5
def nO (a : Int32) : Nat := a.toInt.toNat
theorem nO_n {n : Nat} (h : n < 2147483648) : nO (nI n) = n := by unfold nO; rw [nI_toInt h]; rfl
theorem in_n {lo hi : Nat} {x : Int32} (hl : lo < 2147483648) (hh : hi < 2147483647) (h : nI lo ≤ x ∧ x ≤ nI hi) : ∃ n, x = nI n ∧ lo ≤ n ∧ n ≤ hi := by
  have e1 := Int32.le_iff_toInt_le.mp h.1
  have e2 := Int32.le_iff_toInt_le.mp h.2
  rw [nI_toInt hl] at e1
  rw [nI_toInt (by omega)] at e2
  rcases pk_ix x (n := hi + 1) (by omega) with a | a | ⟨j, hj, rfl⟩
  · have e3 := Int32.lt_iff_toInt_lt.mp a
    have e4 : (0 : Int32).toInt = 0 := by decide
    omega
  · have e3 := Int32.le_iff_toInt_le.mp a
    rw [nI_toInt (by omega)] at e3
    omega
  · refine ⟨j, rfl, ?_, by omega⟩
    rw [nI_toInt (by omega)] at e1
    omega
theorem in_iff {lo n hi : Nat} (h1 : lo < 2147483648) (h2 : n < 2147483648) (h3 : hi < 2147483648) : (nI lo ≤ nI n ∧ nI n ≤ nI hi) ↔ (lo ≤ n ∧ n ≤ hi) := by
  rw [Int32.le_iff_toInt_le, Int32.le_iff_toInt_le, nI_toInt h1, nI_toInt h2, nI_toInt h3]
  omega
/-- the model's reading of a text -/
def hrV (tx : Nat → Nat) (tn sp : Nat) : Int32 := if sp < tn then nI (tx sp) else -9
def skG (tx : Nat → Nat) (tn : Nat) : Nat → Nat → Nat
  | 0, sp => sp
  | f + 1, sp => if sp < tn ∧ tx sp = 32 then skG tx tn f (sp + 1) else sp
def skF (tx : Nat → Nat) (tn sp : Nat) : Nat := skG tx tn (tn - sp) sp
theorem skG_le (tx : Nat → Nat) (tn : Nat) : ∀ f sp, sp ≤ skG tx tn f sp ∧ skG tx tn f sp ≤ sp + f := by
  intro f
  induction f with
  | zero => intro sp; exact ⟨Nat.le_refl _, Nat.le_refl _⟩
  | succ f ih =>
    intro sp
    unfold skG
    split
    · have := ih (sp + 1); omega
    · omega
theorem skF_s {tx : Nat → Nat} {tn sp : Nat} (h : sp < tn) (h2 : tx sp = 32) : skF tx tn sp = skF tx tn (sp + 1) := by
  unfold skF
  rw [show tn - sp = (tn - (sp + 1)) + 1 by omega]
  show (if sp < tn ∧ tx sp = 32 then _ else _) = _
  rw [if_pos ⟨h, h2⟩]
theorem skF_e {tx : Nat → Nat} {tn sp : Nat} (h : ¬ (sp < tn ∧ tx sp = 32)) : skF tx tn sp = sp := by
  unfold skF
  cases hh : tn - sp with
  | zero => rfl
  | succ f => show (if sp < tn ∧ tx sp = 32 then _ else _) = _; rw [if_neg h]
theorem hr_32 {tx : Nat → Nat} {tn sp : Nat} (hx : ∀ k, k < tn → 32 ≤ tx k ∧ tx k ≤ 126) : hrV tx tn sp = nI 32 ↔ (sp < tn ∧ tx sp = 32) := by
  unfold hrV
  by_cases h : sp < tn
  · rw [if_pos h]
    have h2 := hx sp h
    constructor
    · intro q
      have e := congrArg Int32.toInt q
      rw [nI_toInt (by omega), nI_toInt (by omega)] at e
      exact ⟨h, by omega⟩
    · intro q; rw [q.2]
  · rw [if_neg h]
    constructor
    · intro q; exact absurd q (by decide)
    · intro q; exact absurd q.1 h
theorem ch_0 : ∀ n, n < 8 → ch n 0 = 1 := by decide +kernel
theorem ch_step : ∀ n, n < 8 → ∀ t, t < n → ch n t * (n - t) / (t + 1) = ch n (t + 1) := by decide +kernel
theorem ch_le (n k : Nat) : ch n k ≤ 35 := tBIN_le _
/-- the number of levels with weight -/
def wgN (P : Nat → Nat) : Nat := sgN (fun t => if 0 < P (15 + t) then 1 else 0) 5

set_option maxHeartbeats 4000000 in
set_option maxRecDepth 100000 in
theorem c_X6_in (l : Launch) (dC : Nat → ClassId) (dI : Nat → Nat → Nat) (x lo hi : Int32)  : Met l yX6_in (kw yX6_in cX6_in 3 (some .boolean)) (kR 0 0) (kPr (dC, dI) [.int x, .int lo, .int hi] [] []) (vp_Si (fun res : Int32 => res = b2i (lo ≤ x ∧ x ≤ hi))) 0 0 kNo := by
  refine kmet (by decide) ?_
  intro p e s m args below meth c Y hr hlocks hin hv
  obtain ⟨rfl, hP, hK, hZ⟩ := kinR hv
  have hS : va_S kNo s.heap s.heap [] := va_S.rf
  have hx := Y.1
  have hb := Y.2.1
  have hml := Y.2.2.1
  have hown := Y.2.2.2.1
  have hts := Y.2.2.2.2
  have hl := lv_entry ([.int x, .int lo, .int hi]) (n := 3) (Nat.le_of_ble_eq_true rfl)
  rw [lg_entry_eq]
  generalize (lg_sl ([.int x, .int lo, .int hi]) ++ List.replicate (3 - (lg_sl ([.int x, .int lo, .int hi])).length) Slot.unset).toArray = ls at hl ⊢
  have hl : lv_has ls 3 [(0, .int x), (1, .int lo), (2, .int hi)] := hl
  refine lv_iload_n hx hb dX6_in_0 rfl (lv_at hl 0 rfl) ?_
  refine lv_iload_n hx hb dX6_in_1 rfl (lv_at hl 1 rfl) ?_
  refine lv_icmp_lt (tgt := 14) hx hb dX6_in_2 (by decide) (fun c2 => ?_) (fun c2 => ?_)
  · refine lv_iconst (v := nI 0) hx hb dX6_in_14 (by decide) ?_
    exact krz (v := nI 0) Y hr hlocks (by decide) (b2i_f (fun q => absurd c2 (Int32.not_lt.mpr q.1))).symm dX6_in_15
  · refine lv_iload_n hx hb dX6_in_5 rfl (lv_at hl 0 rfl) ?_
    refine lv_iload_n hx hb dX6_in_6 rfl (lv_at hl 2 rfl) ?_
    refine lv_icmp_gt (tgt := 14) hx hb dX6_in_7 (by decide) (fun c7 => ?_) (fun c7 => ?_)
    · refine lv_iconst (v := nI 0) hx hb dX6_in_14 (by decide) ?_
      exact krz (v := nI 0) Y hr hlocks (by decide) (b2i_f (fun q => absurd c7 (Int32.not_lt.mpr q.2))).symm dX6_in_15
    · refine lv_iconst (v := nI 1) hx hb dX6_in_10 (by decide) ?_
      refine lv_goto (tgt := 15) hx hb dX6_in_11 (by decide) ?_
      exact krz (v := nI 1) Y hr hlocks (by decide) (b2i_t ⟨Int32.not_lt.mp c2, Int32.not_lt.mp c7⟩).symm dX6_in_15
set_option maxHeartbeats 4000000 in
set_option maxRecDepth 100000 in
theorem c_X6_n (l : Launch) (dC : Nat → ClassId) (dI : Nat → Nat → Nat) (cI cL : ClassId) (m0 m1 m2 m3 m4 m5 m6 m7 m8 m9 m10 m11 m12 : Nat) (bm ty sp fa fp kn lf yo ol : Nat) (un hh : Int64) (dr : Int32) (P : Nat → Nat)  : Met l yX6_n (kw yX6_n cX6_n 1 (some .int)) (kR 0 0) (kPr (dC, dI) [.ref m0] [(m0, .inr (6, [.ref m1, .ref m2, .int (nI bm), .long un, .ref m3, .int (nI ty), .ref m4, .int (nI sp), .int (nI fa), .int (nI fp), .int (nI kn), .ref m5, .ref m6, .ref m7, .ref m8, .ref m9, .int dr, .ref m10, .ref m11, .int (nI lf), .int (nI yo), .int (nI ol), .ref m12, .long hh])), (m1, .inl (cI, 22, .inl (fun zz => nI (P zz))))] [(cI, .int)]) (vp_Si (fun res : Int32 => res = nI (P 0))) 0 0 kNo := by
  refine kmet (by decide) ?_
  intro p e s m args below meth c Y hr hlocks hin hv
  obtain ⟨rfl, hP, hK, hZ⟩ := kinR hv
  have hS : va_S kNo s.heap s.heap [] := va_S.rf
  have hx := Y.1
  have hb := Y.2.1
  have hml := Y.2.2.1
  have hown := Y.2.2.2.1
  have hts := Y.2.2.2.2
  have hl := lv_entry ([.ref m0]) (n := 1) (Nat.le_of_ble_eq_true rfl)
  rw [lg_entry_eq]
  generalize (lg_sl ([.ref m0]) ++ List.replicate (1 - (lg_sl ([.ref m0])).length) Slot.unset).toArray = ls at hl ⊢
  have hl : lv_has ls 1 [(0, .ref m0)] := hl
  refine lv_aload_n hx hb dX6_n_0 rfl (lv_at hl 0 rfl) ?_
  refine va_get (D := (dC, dI)) (ci := 6) (v := .ref m1) (C := RX6) (T := TX6) (N := 24) hx hb hts inlX6 hown hK hP 0 rfl rfl 0 (by decide) (hts _ qf_X6_7) (fun _ h9 => h9) rfl dX6_n_1 ?_
  refine lv_iconst (v := nI 0) hx hb dX6_n_4 (by decide) ?_
  refine ri_ald hx hb hK hP 1 0 (F := P) rfl rfl dX6_n_5 (by decide) (by omega) ?_
  exact kri (v := nI (P 0)) Y hr hlocks rfl dX6_n_6
set_option maxHeartbeats 4000000 in
set_option maxRecDepth 100000 in
theorem c_X6_k (l : Launch) (dC : Nat → ClassId) (dI : Nat → Nat → Nat) (cI cL : ClassId) (m0 m1 m2 m3 m4 m5 m6 m7 m8 m9 m10 m11 m12 : Nat) (bm ty sp fa fp kn lf yo ol : Nat) (un hh : Int64) (dr : Int32) (P : Nat → Nat)  : Met l yX6_k (kw yX6_k cX6_k 1 (some .int)) (kR 0 0) (kPr (dC, dI) [.ref m0] [(m0, .inr (6, [.ref m1, .ref m2, .int (nI bm), .long un, .ref m3, .int (nI ty), .ref m4, .int (nI sp), .int (nI fa), .int (nI fp), .int (nI kn), .ref m5, .ref m6, .ref m7, .ref m8, .ref m9, .int dr, .ref m10, .ref m11, .int (nI lf), .int (nI yo), .int (nI ol), .ref m12, .long hh])), (m1, .inl (cI, 22, .inl (fun zz => nI (P zz))))] [(cI, .int)]) (vp_Si (fun res : Int32 => res = nI (P 1))) 0 0 kNo := by
  refine kmet (by decide) ?_
  intro p e s m args below meth c Y hr hlocks hin hv
  obtain ⟨rfl, hP, hK, hZ⟩ := kinR hv
  have hS : va_S kNo s.heap s.heap [] := va_S.rf
  have hx := Y.1
  have hb := Y.2.1
  have hml := Y.2.2.1
  have hown := Y.2.2.2.1
  have hts := Y.2.2.2.2
  have hl := lv_entry ([.ref m0]) (n := 1) (Nat.le_of_ble_eq_true rfl)
  rw [lg_entry_eq]
  generalize (lg_sl ([.ref m0]) ++ List.replicate (1 - (lg_sl ([.ref m0])).length) Slot.unset).toArray = ls at hl ⊢
  have hl : lv_has ls 1 [(0, .ref m0)] := hl
  refine lv_aload_n hx hb dX6_k_0 rfl (lv_at hl 0 rfl) ?_
  refine va_get (D := (dC, dI)) (ci := 6) (v := .ref m1) (C := RX6) (T := TX6) (N := 24) hx hb hts inlX6 hown hK hP 0 rfl rfl 0 (by decide) (hts _ qf_X6_7) (fun _ h9 => h9) rfl dX6_k_1 ?_
  refine lv_iconst (v := nI 1) hx hb dX6_k_4 (by decide) ?_
  refine ri_ald hx hb hK hP 1 0 (F := P) rfl rfl dX6_k_5 (by decide) (by omega) ?_
  exact kri (v := nI (P 1)) Y hr hlocks rfl dX6_k_6
set_option maxHeartbeats 4000000 in
set_option maxRecDepth 100000 in
theorem c_X6_at (l : Launch) (dC : Nat → ClassId) (dI : Nat → Nat → Nat) (i j : Nat)  : Met l yX6_at (kw yX6_at cX6_at 2 (some .int)) (kR 0 0) (kPr (dC, dI) [.int (nI i), .int (nI j)] [] []) (vp_Si (fun res : Int32 => res = nI (4 * i + j))) 0 0 kNo := by
  refine kmet (by decide) ?_
  intro p e s m args below meth c Y hr hlocks hin hv
  obtain ⟨rfl, hP, hK, hZ⟩ := kinR hv
  have hS : va_S kNo s.heap s.heap [] := va_S.rf
  have hx := Y.1
  have hb := Y.2.1
  have hml := Y.2.2.1
  have hown := Y.2.2.2.1
  have hts := Y.2.2.2.2
  have hl := lv_entry ([.int (nI i), .int (nI j)]) (n := 2) (Nat.le_of_ble_eq_true rfl)
  rw [lg_entry_eq]
  generalize (lg_sl ([.int (nI i), .int (nI j)]) ++ List.replicate (2 - (lg_sl ([.int (nI i), .int (nI j)])).length) Slot.unset).toArray = ls at hl ⊢
  have hl : lv_has ls 2 [(0, .int (nI i)), (1, .int (nI j))] := hl
  refine lv_iconst (v := nI 4) hx hb dX6_at_0 (by decide) ?_
  refine lv_iload_n hx hb dX6_at_1 rfl (lv_at hl 0 rfl) ?_
  refine ri_mul hx hb dX6_at_2 ?_
  refine lv_iload_n hx hb dX6_at_3 rfl (lv_at hl 1 rfl) ?_
  refine ri_add hx hb dX6_at_4 ?_
  exact kri (v := nI ((4 * i) + j)) Y hr hlocks rfl dX6_at_5
set_option maxHeartbeats 4000000 in
set_option maxRecDepth 100000 in
theorem c_X6_spotOf (l : Launch) (dC : Nat → ClassId) (dI : Nat → Nat → Nat) (i j a b : Nat) (h1 : 1 ≤ i) : Met l yX6_spotOf (kw yX6_spotOf cX6_spotOf 4 (some .int)) (kR 0 0) (kPr (dC, dI) [.int (nI i), .int (nI j), .int (nI a), .int (nI b)] [] []) (vp_Si (fun res : Int32 => res = nI (pB i j a b))) 0 0 kNo := by
  refine kmet (by decide) ?_
  intro p e s m args below meth c Y hr hlocks hin hv
  obtain ⟨rfl, hP, hK, hZ⟩ := kinR hv
  have hS : va_S kNo s.heap s.heap [] := va_S.rf
  have hx := Y.1
  have hb := Y.2.1
  have hml := Y.2.2.1
  have hown := Y.2.2.2.1
  have hts := Y.2.2.2.2
  have hl := lv_entry ([.int (nI i), .int (nI j), .int (nI a), .int (nI b)]) (n := 4) (Nat.le_of_ble_eq_true rfl)
  rw [lg_entry_eq]
  generalize (lg_sl ([.int (nI i), .int (nI j), .int (nI a), .int (nI b)]) ++ List.replicate (4 - (lg_sl ([.int (nI i), .int (nI j), .int (nI a), .int (nI b)])).length) Slot.unset).toArray = ls at hl ⊢
  have hl : lv_has ls 4 [(0, .int (nI i)), (1, .int (nI j)), (2, .int (nI a)), (3, .int (nI b))] := hl
  refine lv_iconst (v := nI 4) hx hb dX6_spotOf_0 (by decide) ?_
  refine lv_iload_n hx hb dX6_spotOf_1 rfl (lv_at hl 0 rfl) ?_
  refine lv_iconst (v := nI 1) hx hb dX6_spotOf_2 (by decide) ?_
  refine ri_sub hx hb dX6_spotOf_3 (by omega) ?_
  refine ri_mul hx hb dX6_spotOf_4 ?_
  refine lv_iload_n hx hb dX6_spotOf_5 rfl (lv_at hl 1 rfl) ?_
  refine ri_add hx hb dX6_spotOf_6 ?_
  refine lv_bipush (v := nI 6) hx hb dX6_spotOf_7 (by decide) ?_
  refine ri_mul hx hb dX6_spotOf_9 ?_
  refine lv_iload_n hx hb dX6_spotOf_10 rfl (lv_at hl 2 rfl) ?_
  refine ri_add hx hb dX6_spotOf_11 ?_
  refine lv_bipush (v := nI 6) hx hb dX6_spotOf_12 (by decide) ?_
  refine ri_mul hx hb dX6_spotOf_14 ?_
  refine lv_iload_n hx hb dX6_spotOf_15 rfl (lv_at hl 3 rfl) ?_
  refine ri_add hx hb dX6_spotOf_16 ?_
  exact kri (v := nI ((((((4 * (i - 1)) + j) * 6) + a) * 6) + b)) Y hr hlocks (congrArg nI (by unfold pB; rw [Nat.mul_comm 4])) dX6_spotOf_17
set_option maxHeartbeats 4000000 in
set_option maxRecDepth 100000 in
theorem c_X6_valueOf (l : Launch) (dC : Nat → ClassId) (dI : Nat → Nat → Nat) (cI cL : ClassId) (m0 m1 m2 m3 m4 m5 m6 m7 m8 m9 m10 m11 m12 : Nat) (bm ty sp fa fp kn lf yo ol : Nat) (un hh : Int64) (dr : Int32) (P : Nat → Nat) (i : Nat) (h1 : i < 5) : Met l yX6_valueOf (kw yX6_valueOf cX6_valueOf 2 (some .int)) (kR 0 0) (kPr (dC, dI) [.ref m0, .int (nI i)] [(m0, .inr (6, [.ref m1, .ref m2, .int (nI bm), .long un, .ref m3, .int (nI ty), .ref m4, .int (nI sp), .int (nI fa), .int (nI fp), .int (nI kn), .ref m5, .ref m6, .ref m7, .ref m8, .ref m9, .int dr, .ref m10, .ref m11, .int (nI lf), .int (nI yo), .int (nI ol), .ref m12, .long hh])), (m1, .inl (cI, 22, .inl (fun zz => nI (P zz))))] [(cI, .int)]) (vp_Si (fun res : Int32 => res = nI (P (10 + i)))) 0 0 kNo := by
  refine kmet (by decide) ?_
  intro p e s m args below meth c Y hr hlocks hin hv
  obtain ⟨rfl, hP, hK, hZ⟩ := kinR hv
  have hS : va_S kNo s.heap s.heap [] := va_S.rf
  have hx := Y.1
  have hb := Y.2.1
  have hml := Y.2.2.1
  have hown := Y.2.2.2.1
  have hts := Y.2.2.2.2
  have hl := lv_entry ([.ref m0, .int (nI i)]) (n := 2) (Nat.le_of_ble_eq_true rfl)
  rw [lg_entry_eq]
  generalize (lg_sl ([.ref m0, .int (nI i)]) ++ List.replicate (2 - (lg_sl ([.ref m0, .int (nI i)])).length) Slot.unset).toArray = ls at hl ⊢
  have hl : lv_has ls 2 [(0, .ref m0), (1, .int (nI i))] := hl
  refine lv_aload_n hx hb dX6_valueOf_0 rfl (lv_at hl 0 rfl) ?_
  refine va_get (D := (dC, dI)) (ci := 6) (v := .ref m1) (C := RX6) (T := TX6) (N := 24) hx hb hts inlX6 hown hK hP 0 rfl rfl 0 (by decide) (hts _ qf_X6_7) (fun _ h9 => h9) rfl dX6_valueOf_1 ?_
  refine lv_bipush (v := nI 10) hx hb dX6_valueOf_4 (by decide) ?_
  refine lv_iload_n hx hb dX6_valueOf_6 rfl (lv_at hl 1 rfl) ?_
  refine ri_add hx hb dX6_valueOf_7 ?_
  refine ri_ald hx hb hK hP 1 0 (F := P) rfl rfl dX6_valueOf_8 (by decide) (by omega) ?_
  exact kri (v := nI (P (10 + i))) Y hr hlocks rfl dX6_valueOf_9
set_option maxHeartbeats 4000000 in
set_option maxRecDepth 100000 in
theorem c_X6_leastOf (l : Launch) (dC : Nat → ClassId) (dI : Nat → Nat → Nat) (i : Nat) (h1 : i < 22) : Met l yX6_leastOf (kw yX6_leastOf cX6_leastOf 1 (some .int)) (kR 0 0) (kPr (dC, dI) [.int (nI i)] [] []) (vp_Si (fun res : Int32 => res = nI (lsO i))) 0 0 kNo := by
  refine kmet (by decide) ?_
  intro p e s m args below meth c Y hr hlocks hin hv
  obtain ⟨rfl, hP, hK, hZ⟩ := kinR hv
  have hS : va_S kNo s.heap s.heap [] := va_S.rf
  have hx := Y.1
  have hb := Y.2.1
  have hml := Y.2.2.1
  have hown := Y.2.2.2.1
  have hts := Y.2.2.2.2
  have hl := lv_entry ([.int (nI i)]) (n := 1) (Nat.le_of_ble_eq_true rfl)
  rw [lg_entry_eq]
  generalize (lg_sl ([.int (nI i)]) ++ List.replicate (1 - (lg_sl ([.int (nI i)])).length) Slot.unset).toArray = ls at hl ⊢
  have hl : lv_has ls 1 [(0, .int (nI i))] := hl
  refine lv_iload_n hx hb dX6_leastOf_0 rfl (lv_at hl 0 rfl) ?_
  refine ri_zeq (tgt := 9) hx hb dX6_leastOf_1 (by decide) (by omega) (fun c1 => ?_) (fun c1 => ?_)
  · refine lv_iconst (v := nI 1) hx hb dX6_leastOf_9 (by decide) ?_
    refine lv_goto (tgt := 14) hx hb dX6_leastOf_10 (by decide) ?_
    exact kri (v := nI 1) Y hr hlocks (congrArg nI (by unfold lsO; rw [if_pos (by omega)])) dX6_leastOf_14
  · refine lv_iload_n hx hb dX6_leastOf_4 rfl (lv_at hl 0 rfl) ?_
    refine lv_iconst (v := nI 1) hx hb dX6_leastOf_5 (by decide) ?_
    refine ri_cne (tgt := 13) hx hb dX6_leastOf_6 (by decide) (by omega) (by omega) (fun c6 => ?_) (fun c6 => ?_)
    · refine lv_iconst (v := nI 0) hx hb dX6_leastOf_13 (by decide) ?_
      exact kri (v := nI 0) Y hr hlocks (congrArg nI (by unfold lsO; rw [if_neg (by omega)])) dX6_leastOf_14
    · refine lv_iconst (v := nI 1) hx hb dX6_leastOf_9 (by decide) ?_
      refine lv_goto (tgt := 14) hx hb dX6_leastOf_10 (by decide) ?_
      exact kri (v := nI 1) Y hr hlocks (congrArg nI (by unfold lsO; rw [if_pos (by omega)])) dX6_leastOf_14
set_option maxHeartbeats 4000000 in
set_option maxRecDepth 100000 in
theorem c_X6_mostOf (l : Launch) (dC : Nat → ClassId) (dI : Nat → Nat → Nat) (i : Nat) (h1 : i < 22) : Met l yX6_mostOf (kw yX6_mostOf cX6_mostOf 1 (some .int)) (kR 0 0) (kPr (dC, dI) [.int (nI i)] [] []) (vp_Si (fun res : Int32 => res = nI (msO i))) 0 0 kNo := by
  refine kmet (by decide) ?_
  intro p e s m args below meth c Y hr hlocks hin hv
  obtain ⟨rfl, hP, hK, hZ⟩ := kinR hv
  have hS : va_S kNo s.heap s.heap [] := va_S.rf
  have hx := Y.1
  have hb := Y.2.1
  have hml := Y.2.2.1
  have hown := Y.2.2.2.1
  have hts := Y.2.2.2.2
  have hl := lv_entry ([.int (nI i)]) (n := 1) (Nat.le_of_ble_eq_true rfl)
  rw [lg_entry_eq]
  generalize (lg_sl ([.int (nI i)]) ++ List.replicate (1 - (lg_sl ([.int (nI i)])).length) Slot.unset).toArray = ls at hl ⊢
  have hl : lv_has ls 1 [(0, .int (nI i))] := hl
  refine lv_iload_n hx hb dX6_mostOf_0 rfl (lv_at hl 0 rfl) ?_
  refine ri_zne (tgt := 9) hx hb dX6_mostOf_1 (by decide) (by omega) (fun c1 => ?_) (fun c1 => ?_)
  · refine lv_iload_n hx hb dX6_mostOf_9 rfl (lv_at hl 0 rfl) ?_
    refine lv_iconst (v := nI 1) hx hb dX6_mostOf_10 (by decide) ?_
    refine ri_cne (tgt := 18) hx hb dX6_mostOf_11 (by decide) (by omega) (by omega) (fun c11 => ?_) (fun c11 => ?_)
    · refine lv_iload_n hx hb dX6_mostOf_18 rfl (lv_at hl 0 rfl) ?_
      refine lv_iconst (v := nI 2) hx hb dX6_mostOf_19 (by decide) ?_
      refine ri_cne (tgt := 28) hx hb dX6_mostOf_20 (by decide) (by omega) (by omega) (fun c20 => ?_) (fun c20 => ?_)
      · refine lv_iload_n hx hb dX6_mostOf_28 rfl (lv_at hl 0 rfl) ?_
        refine lv_bipush (v := nI 15) hx hb dX6_mostOf_29 (by decide) ?_
        refine ri_cge (tgt := 39) hx hb dX6_mostOf_31 (by decide) (by omega) (by omega) (fun c31 => ?_) (fun c31 => ?_)
        · refine lv_bipush (v := nI 10) hx hb dX6_mostOf_39 (by decide) ?_
          exact kri (v := nI 10) Y hr hlocks (congrArg nI (by unfold msO; rw [if_neg (by omega), if_neg (by omega), if_neg (by omega), if_neg (by omega)])) dX6_mostOf_41
        · refine lv_bipush (v := nI 99) hx hb dX6_mostOf_34 (by decide) ?_
          refine lv_goto (tgt := 41) hx hb dX6_mostOf_36 (by decide) ?_
          exact kri (v := nI 99) Y hr hlocks (congrArg nI (by unfold msO; rw [if_neg (by omega), if_neg (by omega), if_neg (by omega), if_pos (by omega)])) dX6_mostOf_41
      · refine lv_bipush (v := nI 20) hx hb dX6_mostOf_23 (by decide) ?_
        refine lv_goto (tgt := 41) hx hb dX6_mostOf_25 (by decide) ?_
        exact kri (v := nI 20) Y hr hlocks (congrArg nI (by unfold msO; rw [if_neg (by omega), if_neg (by omega), if_pos (by omega)])) dX6_mostOf_41
    · refine lv_iconst (v := nI 3) hx hb dX6_mostOf_14 (by decide) ?_
      refine lv_goto (tgt := 41) hx hb dX6_mostOf_15 (by decide) ?_
      exact kri (v := nI 3) Y hr hlocks (congrArg nI (by unfold msO; rw [if_neg (by omega), if_pos (by omega)])) dX6_mostOf_41
  · refine lv_bipush (v := nI 7) hx hb dX6_mostOf_4 (by decide) ?_
    refine lv_goto (tgt := 41) hx hb dX6_mostOf_6 (by decide) ?_
    exact kri (v := nI 7) Y hr hlocks (congrArg nI (by unfold msO; rw [if_pos (by omega)])) dX6_mostOf_41
set_option maxHeartbeats 4000000 in
set_option maxRecDepth 100000 in
theorem c_X6_isRight (l : Launch) (dC : Nat → ClassId) (dI : Nat → Nat → Nat) (i : Nat) (x : Int32) (h1 : i < 22) : Met l yX6_isRight (kw yX6_isRight cX6_isRight 2 (some .boolean)) (kR 1 22) (kPr (dC, dI) [.int (nI i), .int x] [] []) (vp_Si (fun res : Int32 => res = b2i (nI (lsO i) ≤ x ∧ x ≤ nI (msO i)))) 0 0 kNo := by
  refine kmet (by decide) ?_
  intro p e s m args below meth c Y hr hlocks hin hv
  obtain ⟨rfl, hP, hK, hZ⟩ := kinR hv
  have hS : va_S kNo s.heap s.heap [] := va_S.rf
  have hx := Y.1
  have hb := Y.2.1
  have hml := Y.2.2.1
  have hown := Y.2.2.2.1
  have hts := Y.2.2.2.2
  have hl := lv_entry ([.int (nI i), .int x]) (n := 2) (Nat.le_of_ble_eq_true rfl)
  rw [lg_entry_eq]
  generalize (lg_sl ([.int (nI i), .int x]) ++ List.replicate (2 - (lg_sl ([.int (nI i), .int x])).length) Slot.unset).toArray = ls at hl ⊢
  have hl : lv_has ls 2 [(0, .int (nI i)), (1, .int x)] := hl
  refine lv_iload_n hx hb dX6_isRight_0 rfl (lv_at hl 1 rfl) ?_
  refine lv_iload_n hx hb dX6_isRight_1 rfl (lv_at hl 0 rfl) ?_
  refine kSi (As := [.int (nI i)]) (rest := [.int x]) Y m_X6_leastOf (c_X6_leastOf l dC dI i (by omega)) qm_X6_62 (kpS hK hP hZ hS [] [] rfl rfl) rfl hl.1 rfl (Nat.le_of_ble_eq_true rfl) dX6_isRight_2 ⟨Nat.le_of_ble_eq_true rfl, Nat.le_of_ble_eq_true rfl⟩ ⟨Nat.zero_le _, Nat.zero_le _⟩ (fun r2 hr2 => ?_)
  obtain rfl : r2 = nI (lsO i) := hr2
  refine lv_iload_n hx hb dX6_isRight_5 rfl (lv_at hl 0 rfl) ?_
  refine kSi (As := [.int (nI i)]) (rest := [.int (nI (lsO i)), .int x]) Y m_X6_mostOf (c_X6_mostOf l dC dI i (by omega)) qm_X6_66 (kpS hK hP hZ hS [] [] rfl rfl) rfl hl.1 rfl (Nat.le_of_ble_eq_true rfl) dX6_isRight_6 ⟨Nat.le_of_ble_eq_true rfl, Nat.le_of_ble_eq_true rfl⟩ ⟨Nat.zero_le _, Nat.zero_le _⟩ (fun r6 hr6 => ?_)
  obtain rfl : r6 = nI (msO i) := hr6
  refine kSi (As := [.int x, .int (nI (lsO i)), .int (nI (msO i))]) (rest := []) Y m_X6_in (c_X6_in l dC dI x (nI (lsO i)) (nI (msO i)) ) qm_X6_69 (kpS hK hP hZ hS [] [] rfl rfl) rfl hl.1 rfl (Nat.le_of_ble_eq_true rfl) dX6_isRight_9 ⟨Nat.le_of_ble_eq_true rfl, Nat.le_of_ble_eq_true rfl⟩ ⟨Nat.zero_le _, Nat.zero_le _⟩ (fun r9 hr9 => ?_)
  obtain rfl : r9 = b2i ((nI (lsO i)) ≤ x ∧ x ≤ (nI (msO i))) := hr9
  exact krz (v := b2i ((nI (lsO i)) ≤ x ∧ x ≤ (nI (msO i)))) Y hr hlocks b2i_n rfl dX6_isRight_12
set_option maxHeartbeats 4000000 in
set_option maxRecDepth 100000 in
theorem c_X6_numbersOf (l : Launch) (dC : Nat → ClassId) (dI : Nat → Nat → Nat) (i : Nat) (h1 : i < 22) : Met l yX6_numbersOf (kw yX6_numbersOf cX6_numbersOf 1 (some .int)) (kR 0 0) (kPr (dC, dI) [.int (nI i)] [] []) (vp_Si (fun res : Int32 => res = nI (nmO i))) 0 0 kNo := by
  refine kmet (by decide) ?_
  intro p e s m args below meth c Y hr hlocks hin hv
  obtain ⟨rfl, hP, hK, hZ⟩ := kinR hv
  have hS : va_S kNo s.heap s.heap [] := va_S.rf
  have hx := Y.1
  have hb := Y.2.1
  have hml := Y.2.2.1
  have hown := Y.2.2.2.1
  have hts := Y.2.2.2.2
  have hl := lv_entry ([.int (nI i)]) (n := 1) (Nat.le_of_ble_eq_true rfl)
  rw [lg_entry_eq]
  generalize (lg_sl ([.int (nI i)]) ++ List.replicate (1 - (lg_sl ([.int (nI i)])).length) Slot.unset).toArray = ls at hl ⊢
  have hl : lv_has ls 1 [(0, .int (nI i))] := hl
  refine lv_iload_n hx hb dX6_numbersOf_0 rfl (lv_at hl 0 rfl) ?_
  refine lv_iconst (v := nI 3) hx hb dX6_numbersOf_1 (by decide) ?_
  refine ri_cge (tgt := 9) hx hb dX6_numbersOf_2 (by decide) (by omega) (by omega) (fun c2 => ?_) (fun c2 => ?_)
  · refine lv_iload_n hx hb dX6_numbersOf_9 rfl (lv_at hl 0 rfl) ?_
    refine lv_iconst (v := nI 3) hx hb dX6_numbersOf_10 (by decide) ?_
    refine ri_cne (tgt := 19) hx hb dX6_numbersOf_11 (by decide) (by omega) (by omega) (fun c11 => ?_) (fun c11 => ?_)
    · refine lv_iload_n hx hb dX6_numbersOf_19 rfl (lv_at hl 0 rfl) ?_
      refine lv_bipush (v := nI 20) hx hb dX6_numbersOf_20 (by decide) ?_
      refine ri_cne (tgt := 29) hx hb dX6_numbersOf_22 (by decide) (by omega) (by omega) (fun c22 => ?_) (fun c22 => ?_)
      · refine lv_iconst (v := nI 5) hx hb dX6_numbersOf_29 (by decide) ?_
        exact kri (v := nI 5) Y hr hlocks (congrArg nI (by unfold nmO; rw [if_neg (by omega), if_neg (by omega), if_neg (by omega)])) dX6_numbersOf_30
      · refine lv_iconst (v := nI 2) hx hb dX6_numbersOf_25 (by decide) ?_
        refine lv_goto (tgt := 30) hx hb dX6_numbersOf_26 (by decide) ?_
        exact kri (v := nI 2) Y hr hlocks (congrArg nI (by unfold nmO; rw [if_neg (by omega), if_neg (by omega), if_pos (by omega)])) dX6_numbersOf_30
    · refine lv_bipush (v := nI 7) hx hb dX6_numbersOf_14 (by decide) ?_
      refine lv_goto (tgt := 30) hx hb dX6_numbersOf_16 (by decide) ?_
      exact kri (v := nI 7) Y hr hlocks (congrArg nI (by unfold nmO; rw [if_neg (by omega), if_pos (by omega)])) dX6_numbersOf_30
  · refine lv_iconst (v := nI 1) hx hb dX6_numbersOf_5 (by decide) ?_
    refine lv_goto (tgt := 30) hx hb dX6_numbersOf_6 (by decide) ?_
    exact kri (v := nI 1) Y hr hlocks (congrArg nI (by unfold nmO; rw [if_pos (by omega)])) dX6_numbersOf_30
set_option maxHeartbeats 4000000 in
set_option maxRecDepth 100000 in
theorem c_X6_choose (l : Launch) (dC : Nat → ClassId) (dI : Nat → Nat → Nat) (n k : Nat) (h1 : n < 8) (h2 : k ≤ n) : Met l yX6_choose (kw yX6_choose cX6_choose 5 (some .long)) (kR 0 0) (kPr (dC, dI) [.int (nI n), .int (nI k)] [] []) (vp_Sl (fun res : Int64 => res = lN (ch n k))) 0 0 kNo := by
  refine kmet (by decide) ?_
  intro p e s m args below meth c Y hr hlocks hin hv
  obtain ⟨rfl, hP, hK, hZ⟩ := kinR hv
  have hS : va_S kNo s.heap s.heap [] := va_S.rf
  have hx := Y.1
  have hb := Y.2.1
  have hml := Y.2.2.1
  have hown := Y.2.2.2.1
  have hts := Y.2.2.2.2
  have hl := lv_entry ([.int (nI n), .int (nI k)]) (n := 5) (Nat.le_of_ble_eq_true rfl)
  rw [lg_entry_eq]
  generalize (lg_sl ([.int (nI n), .int (nI k)]) ++ List.replicate (5 - (lg_sl ([.int (nI n), .int (nI k)])).length) Slot.unset).toArray = ls at hl ⊢
  have hl : lv_has ls 5 [(0, .int (nI n)), (1, .int (nI k))] := hl
  refine lv_iload_n hx hb dX6_choose_0 rfl (lv_at hl 1 rfl) ?_
  refine ri_zlt (tgt := 9) hx hb dX6_choose_1 (by decide) (by omega) (fun c1 => ?_) (fun c1 => ?_)
  · exact absurd c1 (by omega)
  · refine lv_iload_n hx hb dX6_choose_4 rfl (lv_at hl 1 rfl) ?_
    refine lv_iload_n hx hb dX6_choose_5 rfl (lv_at hl 0 rfl) ?_
    refine ri_cle (tgt := 13) hx hb dX6_choose_6 (by decide) (by omega) (by omega) (fun c6 => ?_) (fun c6 => ?_)
    · refine lv_lconst (v := lN 1) hx hb dX6_choose_13 rfl ?_
      refine lv_lstore_n (lv' := [(2, .long (lN 1)), (0, .int (nI n)), (1, .int (nI k))]) hx hb dX6_choose_14 rfl hl (by decide) rfl (fun ls hl => ?_)
      refine lv_iconst (v := nI 0) hx hb dX6_choose_15 (by decide) ?_
      refine lv_istore (lv' := [(4, .int (nI 0)), (2, .long (lN 1)), (0, .int (nI n)), (1, .int (nI k))]) hx hb dX6_choose_16 hl (by decide) rfl (fun ls hl => ?_)
      refine wr2 (fun (t : Nat) (sm : Nat) => k - t) (fun (t : Nat) (sm : Nat) (ls : Array Slot) => lv_has ls 5 [(0, .int (nI n)), (1, .int (nI k)), (2, .long (lN sm)), (4, .int (nI t))] ∧ (t ≤ k ∧ sm = ch n t)) 0 1 (by exact ⟨lv_sub hl [2, 3, 1, 0] rfl, ⟨by omega, (ch_0 n h1).symm⟩⟩) (fun t sm ls hI ih => ?_)
      obtain ⟨hl, ht, hsm⟩ := hI
      have ih18 := ih
      have hc1 := ch_pos n h1 t (by omega)
      have hc2 := ch_le n t
      rw [← hsm] at hc1 hc2
      refine lv_iload hx hb dX6_choose_18 (lv_at hl 3 rfl) ?_
      refine lv_iload_n hx hb dX6_choose_20 rfl (lv_at hl 1 rfl) ?_
      refine ri_cge (tgt := 50) hx hb dX6_choose_21 (by decide) (by omega) (by omega) (fun c21 => ?_) (fun c21 => ?_)
      · refine lv_lload_n hx hb dX6_choose_50 rfl (lv_at hl 2 rfl) ?_
        exact krl (v := lN sm) Y hr hlocks (congrArg lN (by rw [hsm, show t = k by omega])) dX6_choose_51
      · refine lv_lload_n hx hb dX6_choose_24 rfl (lv_at hl 2 rfl) ?_
        refine lv_lconst (v := lN 0) hx hb dX6_choose_25 rfl ?_
        refine rl_len (tgt := 50) hx hb dX6_choose_26 dX6_choose_27 (by decide) (by omega) (by omega) (fun c26 => ?_) (fun c26 => ?_)
        · exact absurd c26 (by omega)
        · refine lv_lload_n hx hb dX6_choose_30 rfl (lv_at hl 2 rfl) ?_
          refine lv_iload_n hx hb dX6_choose_31 rfl (lv_at hl 0 rfl) ?_
          refine lv_iload hx hb dX6_choose_32 (lv_at hl 3 rfl) ?_
          refine ri_sub hx hb dX6_choose_34 (by omega) ?_
          refine ri_i2l hx hb dX6_choose_35 (by omega) ?_
          refine rl_muln hx hb dX6_choose_36 ?_
          refine lv_iload hx hb dX6_choose_37 (lv_at hl 3 rfl) ?_
          refine lv_iconst (v := nI 1) hx hb dX6_choose_39 (by decide) ?_
          refine ri_add hx hb dX6_choose_40 ?_
          refine ri_i2l hx hb dX6_choose_41 (by omega) ?_
          refine rl_divn hx hb dX6_choose_42 (by have := Nat.mul_le_mul hc2 (show n - t ≤ 7 by omega); omega) (by omega) (by omega) ?_
          refine lv_lstore_n (lv' := [(2, .long (lN ((sm * (n - t)) / (t + 1)))), (0, .int (nI n)), (1, .int (nI k)), (4, .int (nI t))]) hx hb dX6_choose_43 rfl hl (by decide) rfl (fun ls hl => ?_)
          refine lv_iinc (v := nI (t + 1)) (lv' := [(4, .int (nI (t + 1))), (2, .long (lN ((sm * (n - t)) / (t + 1)))), (0, .int (nI n)), (1, .int (nI k))]) hx hb dX6_choose_44 hl (k := 3) rfl (inc1 _) (by decide) rfl (fun ls hl => ?_)
          refine lv_goto (tgt := 18) hx hb dX6_choose_47 (by decide) ?_
          exact ih18 (t + 1) ((sm * (n - t)) / (t + 1)) _ (by show _ < _; omega) (by exact ⟨lv_sub hl [2, 3, 1, 0] rfl, ⟨by omega, by rw [hsm]; exact ch_step n h1 t (by omega)⟩⟩)
    · exact absurd c6 (by omega)
set_option maxHeartbeats 4000000 in
set_option maxRecDepth 100000 in
theorem c_X6_denominator (l : Launch) (dC : Nat → ClassId) (dI : Nat → Nat → Nat) (cI cL : ClassId) (m0 m1 m2 m3 m4 m5 m6 m7 m8 m9 m10 m11 m12 : Nat) (bm ty sp fa fp kn lf yo ol : Nat) (un hh : Int64) (dr : Int32)  : Met l yX6_denominator (kw yX6_denominator cX6_denominator 1 (some .long)) (kR 0 0) (kPr (dC, dI) [.ref m0] [(m0, .inr (6, [.ref m1, .ref m2, .int (nI bm), .long un, .ref m3, .int (nI ty), .ref m4, .int (nI sp), .int (nI fa), .int (nI fp), .int (nI kn), .ref m5, .ref m6, .ref m7, .ref m8, .ref m9, .int dr, .ref m10, .ref m11, .int (nI lf), .int (nI yo), .int (nI ol), .ref m12, .long hh]))] []) (vp_Sl (fun res : Int64 => res = un)) 0 0 kNo := by
  refine kmet (by decide) ?_
  intro p e s m args below meth c Y hr hlocks hin hv
  obtain ⟨rfl, hP, hK, hZ⟩ := kinR hv
  have hS : va_S kNo s.heap s.heap [] := va_S.rf
  have hx := Y.1
  have hb := Y.2.1
  have hml := Y.2.2.1
  have hown := Y.2.2.2.1
  have hts := Y.2.2.2.2
  have hl := lv_entry ([.ref m0]) (n := 1) (Nat.le_of_ble_eq_true rfl)
  rw [lg_entry_eq]
  generalize (lg_sl ([.ref m0]) ++ List.replicate (1 - (lg_sl ([.ref m0])).length) Slot.unset).toArray = ls at hl ⊢
  have hl : lv_has ls 1 [(0, .ref m0)] := hl
  refine lv_aload_n hx hb dX6_denominator_0 rfl (lv_at hl 0 rfl) ?_
  refine va_get (D := (dC, dI)) (ci := 6) (v := .long un) (C := RX6) (T := TX6) (N := 24) hx hb hts inlX6 hown hK hP 0 rfl rfl 3 (by decide) (hts _ qf_X6_16) (fun _ h9 => h9) rfl dX6_denominator_1 ?_
  exact krl (v := un) Y hr hlocks rfl dX6_denominator_4
set_option maxHeartbeats 4000000 in
set_option maxRecDepth 100000 in
theorem c_X6_faultKind (l : Launch) (dC : Nat → ClassId) (dI : Nat → Nat → Nat) (cI cL : ClassId) (m0 m1 m2 m3 m4 m5 m6 m7 m8 m9 m10 m11 m12 : Nat) (bm ty sp fa fp kn lf yo ol : Nat) (un hh : Int64) (dr : Int32)  : Met l yX6_faultKind (kw yX6_faultKind cX6_faultKind 1 (some .int)) (kR 0 0) (kPr (dC, dI) [.ref m0] [(m0, .inr (6, [.ref m1, .ref m2, .int (nI bm), .long un, .ref m3, .int (nI ty), .ref m4, .int (nI sp), .int (nI fa), .int (nI fp), .int (nI kn), .ref m5, .ref m6, .ref m7, .ref m8, .ref m9, .int dr, .ref m10, .ref m11, .int (nI lf), .int (nI yo), .int (nI ol), .ref m12, .long hh]))] []) (vp_Si (fun res : Int32 => res = nI fa)) 0 0 kNo := by
  refine kmet (by decide) ?_
  intro p e s m args below meth c Y hr hlocks hin hv
  obtain ⟨rfl, hP, hK, hZ⟩ := kinR hv
  have hS : va_S kNo s.heap s.heap [] := va_S.rf
  have hx := Y.1
  have hb := Y.2.1
  have hml := Y.2.2.1
  have hown := Y.2.2.2.1
  have hts := Y.2.2.2.2
  have hl := lv_entry ([.ref m0]) (n := 1) (Nat.le_of_ble_eq_true rfl)
  rw [lg_entry_eq]
  generalize (lg_sl ([.ref m0]) ++ List.replicate (1 - (lg_sl ([.ref m0])).length) Slot.unset).toArray = ls at hl ⊢
  have hl : lv_has ls 1 [(0, .ref m0)] := hl
  refine lv_aload_n hx hb dX6_faultKind_0 rfl (lv_at hl 0 rfl) ?_
  refine va_get (D := (dC, dI)) (ci := 6) (v := .int (nI fa)) (C := RX6) (T := TX6) (N := 24) hx hb hts inlX6 hown hK hP 0 rfl rfl 8 (by decide) (hts _ qf_X6_91) (fun _ h9 => h9) rfl dX6_faultKind_1 ?_
  exact kri (v := nI fa) Y hr hlocks rfl dX6_faultKind_4
set_option maxHeartbeats 4000000 in
set_option maxRecDepth 100000 in
theorem c_X6_clearText (l : Launch) (dC : Nat → ClassId) (dI : Nat → Nat → Nat) (sz : Nat) (cI cL : ClassId) (m0 m1 m2 m3 m4 m5 m6 m7 m8 m9 m10 m11 m12 : Nat) (bm ty sp fa fp kn lf yo ol : Nat) (un hh : Int64) (dr : Int32)  : Met l yX6_clearText (kw yX6_clearText cX6_clearText 2 (some .int)) (kR 0 0) (kPq (dC, dI) [.ref m0] sz [(m0, .inr (6, [.ref m1, .ref m2, .int (nI bm), .long un, .ref m3, .int (nI ty), .ref m4, .int (nI sp), .int (nI fa), .int (nI fp), .int (nI kn), .ref m5, .ref m6, .ref m7, .ref m8, .ref m9, .int dr, .ref m10, .ref m11, .int (nI lf), .int (nI yo), .int (nI ol), .ref m12, .long hh]))] []) (va_Qi (fun (res : Int32) (u : Unit) => res = nI ty) (fun u : Unit => kB (dC, dI) [] (va_A [(m0, .inr (6, [.ref m1, .ref m2, .int (nI bm), .long un, .ref m3, .int (nI ty), .ref m4, .int (nI sp), .int (nI fa), .int (nI fp), .int (nI kn), .ref m5, .ref m6, .ref m7, .ref m8, .ref m9, .int dr, .ref m10, .ref m11, .int (nI lf), .int (nI yo), .int (nI ol), .ref m12, .long hh]))] sz) ([(m0, .inr (6, [.ref m1, .ref m2, .int (nI bm), .long un, .ref m3, .int (nI 0), .ref m4, .int (nI sp), .int (nI fa), .int (nI fp), .int (nI kn), .ref m5, .ref m6, .ref m7, .ref m8, .ref m9, .int dr, .ref m10, .ref m11, .int (nI lf), .int (nI yo), .int (nI ol), .ref m12, .long hh]))])) (va_A [(m0, .inr (6, [.ref m1, .ref m2, .int (nI bm), .long un, .ref m3, .int (nI ty), .ref m4, .int (nI sp), .int (nI fa), .int (nI fp), .int (nI kn), .ref m5, .ref m6, .ref m7, .ref m8, .ref m9, .int dr, .ref m10, .ref m11, .int (nI lf), .int (nI yo), .int (nI ol), .ref m12, .long hh]))] sz)) 0 0 (va_A [(m0, .inr (6, [.ref m1, .ref m2, .int (nI bm), .long un, .ref m3, .int (nI ty), .ref m4, .int (nI sp), .int (nI fa), .int (nI fp), .int (nI kn), .ref m5, .ref m6, .ref m7, .ref m8, .ref m9, .int dr, .ref m10, .ref m11, .int (nI lf), .int (nI yo), .int (nI ol), .ref m12, .long hh]))] sz) := by
  refine kmet (by decide) ?_
  intro p e s m args below meth c Y hr hlocks hin hv
  obtain ⟨rfl, A, hAe, hsz, hP, hK, hD, hZ, hA⟩ := kinQ hv
  rw [hAe]
  have hS : va_S A s.heap s.heap [] := va_S.rf
  have hx := Y.1
  have hb := Y.2.1
  have hml := Y.2.2.1
  have hown := Y.2.2.2.1
  have hts := Y.2.2.2.2
  have hl := lv_entry ([.ref m0]) (n := 2) (Nat.le_of_ble_eq_true rfl)
  rw [lg_entry_eq]
  generalize (lg_sl ([.ref m0]) ++ List.replicate (2 - (lg_sl ([.ref m0])).length) Slot.unset).toArray = ls at hl ⊢
  have hl : lv_has ls 2 [(0, .ref m0)] := hl
  refine lv_aload_n hx hb dX6_clearText_0 rfl (lv_at hl 0 rfl) ?_
  refine va_get (D := (dC, dI)) (ci := 6) (v := .int (nI ty)) (C := RX6) (T := TX6) (N := 24) hx hb hts inlX6 hown hK hP 0 rfl rfl 5 (by decide) (hts _ qf_X6_81) (fun _ h9 => h9) rfl dX6_clearText_1 ?_
  refine lv_istore_n (lv' := [(1, .int (nI ty)), (0, .ref m0)]) hx hb dX6_clearText_4 rfl hl (by decide) rfl (fun ls hl => ?_)
  refine lv_aload_n hx hb dX6_clearText_5 rfl (lv_at hl 1 rfl) ?_
  refine lv_iconst (v := nI 0) hx hb dX6_clearText_6 (by decide) ?_
  refine va_put (D := (dC, dI)) (ci := 6) (v := .int (nI 0)) (ty := .int) (C := RX6) (T := TX6) (N := 24) hx hb hts inlX6 tyX6 tyX6_ok nmX6 hown hK hP hD hS 0 rfl rfl 5 (by decide) (hts _ qf_X6_81) (fun _ h9 => h9) rfl (by decide +kernel) rfl rfl (Nat.le_of_ble_eq_true rfl) dX6_clearText_7 (fun H locs hP hD hS => ?_)
  have hP : va_P (dC, dI) vwCl [(m0, .inr (6, [.ref m1, .ref m2, .int (nI bm), .long un, .ref m3, .int (nI 0), .ref m4, .int (nI sp), .int (nI fa), .int (nI fp), .int (nI kn), .ref m5, .ref m6, .ref m7, .ref m8, .ref m9, .int dr, .ref m10, .ref m11, .int (nI lf), .int (nI yo), .int (nI ol), .ref m12, .long hh]))] H := hP
  have hD : va_D A [(m0, .inr (6, [.ref m1, .ref m2, .int (nI bm), .long un, .ref m3, .int (nI 0), .ref m4, .int (nI sp), .int (nI fa), .int (nI fp), .int (nI kn), .ref m5, .ref m6, .ref m7, .ref m8, .ref m9, .int dr, .ref m10, .ref m11, .int (nI lf), .int (nI yo), .int (nI ol), .ref m12, .long hh]))] := hD
  refine lv_iload_n hx hb dX6_clearText_10 rfl (lv_at hl 0 rfl) ?_
  exact kqi (w1 := (fun u : Unit => [(m0, .inr (6, [.ref m1, .ref m2, .int (nI bm), .long un, .ref m3, .int (nI 0), .ref m4, .int (nI sp), .int (nI fa), .int (nI fp), .int (nI kn), .ref m5, .ref m6, .ref m7, .ref m8, .ref m9, .int dr, .ref m10, .ref m11, .int (nI lf), .int (nI yo), .int (nI ol), .ref m12, .long hh]))])) (v := nI ty) Y hr hlocks hK hP hD hS [0] (by decide) () rfl rfl dX6_clearText_11
set_option maxHeartbeats 4000000 in
set_option maxRecDepth 100000 in
theorem c_X6_here (l : Launch) (dC : Nat → ClassId) (dI : Nat → Nat → Nat) (cI cL : ClassId) (m0 m1 m2 m3 m4 m5 m6 m7 m8 m9 m10 m11 m12 : Nat) (bm ty sp fa fp kn lf yo ol : Nat) (un hh : Int64) (dr : Int32) (tx : Nat → Nat) (h1 : ty ≤ 60) (h2 : sp < 1000) : Met l yX6_here (kw yX6_here cX6_here 1 (some .int)) (kR 0 0) (kPr (dC, dI) [.ref m0] [(m0, .inr (6, [.ref m1, .ref m2, .int (nI bm), .long un, .ref m3, .int (nI ty), .ref m4, .int (nI sp), .int (nI fa), .int (nI fp), .int (nI kn), .ref m5, .ref m6, .ref m7, .ref m8, .ref m9, .int dr, .ref m10, .ref m11, .int (nI lf), .int (nI yo), .int (nI ol), .ref m12, .long hh])), (m3, .inl (cI, 60, .inl (fun zz => nI (tx zz))))] [(cI, .int)]) (vp_Si (fun res : Int32 => res = hrV tx ty sp)) 0 0 kNo := by
  refine kmet (by decide) ?_
  intro p e s m args below meth c Y hr hlocks hin hv
  obtain ⟨rfl, hP, hK, hZ⟩ := kinR hv
  have hS : va_S kNo s.heap s.heap [] := va_S.rf
  have hx := Y.1
  have hb := Y.2.1
  have hml := Y.2.2.1
  have hown := Y.2.2.2.1
  have hts := Y.2.2.2.2
  have hl := lv_entry ([.ref m0]) (n := 1) (Nat.le_of_ble_eq_true rfl)
  rw [lg_entry_eq]
  generalize (lg_sl ([.ref m0]) ++ List.replicate (1 - (lg_sl ([.ref m0])).length) Slot.unset).toArray = ls at hl ⊢
  have hl : lv_has ls 1 [(0, .ref m0)] := hl
  refine lv_aload_n hx hb dX6_here_0 rfl (lv_at hl 0 rfl) ?_
  refine va_get (D := (dC, dI)) (ci := 6) (v := .int (nI sp)) (C := RX6) (T := TX6) (N := 24) hx hb hts inlX6 hown hK hP 0 rfl rfl 7 (by decide) (hts _ qf_X6_84) (fun _ h9 => h9) rfl dX6_here_1 ?_
  refine lv_aload_n hx hb dX6_here_4 rfl (lv_at hl 0 rfl) ?_
  refine va_get (D := (dC, dI)) (ci := 6) (v := .int (nI ty)) (C := RX6) (T := TX6) (N := 24) hx hb hts inlX6 hown hK hP 0 rfl rfl 5 (by decide) (hts _ qf_X6_81) (fun _ h9 => h9) rfl dX6_here_5 ?_
  refine ri_cge (tgt := 23) hx hb dX6_here_8 (by decide) (by omega) (by omega) (fun c8 => ?_) (fun c8 => ?_)
  · refine lv_bipush (v := -9) hx hb dX6_here_23 (by decide) ?_
    exact kri (v := (-9)) Y hr hlocks (by unfold hrV; rw [if_neg (by omega)]) dX6_here_25
  · refine lv_aload_n hx hb dX6_here_11 rfl (lv_at hl 0 rfl) ?_
    refine va_get (D := (dC, dI)) (ci := 6) (v := .ref m3) (C := RX6) (T := TX6) (N := 24) hx hb hts inlX6 hown hK hP 0 rfl rfl 4 (by decide) (hts _ qf_X6_20) (fun _ h9 => h9) rfl dX6_here_12 ?_
    refine lv_aload_n hx hb dX6_here_15 rfl (lv_at hl 0 rfl) ?_
    refine va_get (D := (dC, dI)) (ci := 6) (v := .int (nI sp)) (C := RX6) (T := TX6) (N := 24) hx hb hts inlX6 hown hK hP 0 rfl rfl 7 (by decide) (hts _ qf_X6_84) (fun _ h9 => h9) rfl dX6_here_16 ?_
    refine ri_ald hx hb hK hP 1 0 (F := tx) rfl rfl dX6_here_19 (by decide) (by omega) ?_
    refine lv_goto (tgt := 25) hx hb dX6_here_20 (by decide) ?_
    exact kri (v := nI (tx sp)) Y hr hlocks (by unfold hrV; rw [if_pos (by omega)]) dX6_here_25
set_option maxHeartbeats 4000000 in
set_option maxRecDepth 100000 in
theorem c_X6_fails (l : Launch) (dC : Nat → ClassId) (dI : Nat → Nat → Nat) (sz : Nat) (cI cL : ClassId) (m0 m1 m2 m3 m4 m5 m6 m7 m8 m9 m10 m11 m12 : Nat) (bm ty sp fa fp kn lf yo ol : Nat) (un hh : Int64) (dr : Int32) (kd po : Nat) (h1 : fa < 4) : Met l yX6_fails (kw yX6_fails cX6_fails 3 none) (kR 0 0) (kPq (dC, dI) [.ref m0, .int (nI kd), .int (nI po)] sz [(m0, .inr (6, [.ref m1, .ref m2, .int (nI bm), .long un, .ref m3, .int (nI ty), .ref m4, .int (nI sp), .int (nI fa), .int (nI fp), .int (nI kn), .ref m5, .ref m6, .ref m7, .ref m8, .ref m9, .int dr, .ref m10, .ref m11, .int (nI lf), .int (nI yo), .int (nI ol), .ref m12, .long hh]))] []) (va_Qv (fun u : Nat × Nat => u.1 = (if fa = 0 then kd else fa) ∧ u.2 = (if fa = 0 then po else fp)) (fun u : Nat × Nat => kB (dC, dI) [] (va_A [(m0, .inr (6, [.ref m1, .ref m2, .int (nI bm), .long un, .ref m3, .int (nI ty), .ref m4, .int (nI sp), .int (nI fa), .int (nI fp), .int (nI kn), .ref m5, .ref m6, .ref m7, .ref m8, .ref m9, .int dr, .ref m10, .ref m11, .int (nI lf), .int (nI yo), .int (nI ol), .ref m12, .long hh]))] sz) ([(m0, .inr (6, [.ref m1, .ref m2, .int (nI bm), .long un, .ref m3, .int (nI ty), .ref m4, .int (nI sp), .int (nI u.1), .int (nI u.2), .int (nI kn), .ref m5, .ref m6, .ref m7, .ref m8, .ref m9, .int dr, .ref m10, .ref m11, .int (nI lf), .int (nI yo), .int (nI ol), .ref m12, .long hh]))])) (va_A [(m0, .inr (6, [.ref m1, .ref m2, .int (nI bm), .long un, .ref m3, .int (nI ty), .ref m4, .int (nI sp), .int (nI fa), .int (nI fp), .int (nI kn), .ref m5, .ref m6, .ref m7, .ref m8, .ref m9, .int dr, .ref m10, .ref m11, .int (nI lf), .int (nI yo), .int (nI ol), .ref m12, .long hh]))] sz)) 0 0 (va_A [(m0, .inr (6, [.ref m1, .ref m2, .int (nI bm), .long un, .ref m3, .int (nI ty), .ref m4, .int (nI sp), .int (nI fa), .int (nI fp), .int (nI kn), .ref m5, .ref m6, .ref m7, .ref m8, .ref m9, .int dr, .ref m10, .ref m11, .int (nI lf), .int (nI yo), .int (nI ol), .ref m12, .long hh]))] sz) := by
  refine kmet (by decide) ?_
  intro p e s m args below meth c Y hr hlocks hin hv
  obtain ⟨rfl, A, hAe, hsz, hP, hK, hD, hZ, hA⟩ := kinQ hv
  rw [hAe]
  have hS : va_S A s.heap s.heap [] := va_S.rf
  have hx := Y.1
  have hb := Y.2.1
  have hml := Y.2.2.1
  have hown := Y.2.2.2.1
  have hts := Y.2.2.2.2
  have hl := lv_entry ([.ref m0, .int (nI kd), .int (nI po)]) (n := 3) (Nat.le_of_ble_eq_true rfl)
  rw [lg_entry_eq]
  generalize (lg_sl ([.ref m0, .int (nI kd), .int (nI po)]) ++ List.replicate (3 - (lg_sl ([.ref m0, .int (nI kd), .int (nI po)])).length) Slot.unset).toArray = ls at hl ⊢
  have hl : lv_has ls 3 [(0, .ref m0), (1, .int (nI kd)), (2, .int (nI po))] := hl
  refine lv_aload_n hx hb dX6_fails_0 rfl (lv_at hl 0 rfl) ?_
  refine va_get (D := (dC, dI)) (ci := 6) (v := .int (nI fa)) (C := RX6) (T := TX6) (N := 24) hx hb hts inlX6 hown hK hP 0 rfl rfl 8 (by decide) (hts _ qf_X6_91) (fun _ h9 => h9) rfl dX6_fails_1 ?_
  refine ri_zne (tgt := 17) hx hb dX6_fails_4 (by decide) (by omega) (fun c4 => ?_) (fun c4 => ?_)
  · exact kqv (w1 := (fun u : Nat × Nat => [(m0, .inr (6, [.ref m1, .ref m2, .int (nI bm), .long un, .ref m3, .int (nI ty), .ref m4, .int (nI sp), .int (nI u.1), .int (nI u.2), .int (nI kn), .ref m5, .ref m6, .ref m7, .ref m8, .ref m9, .int dr, .ref m10, .ref m11, .int (nI lf), .int (nI yo), .int (nI ol), .ref m12, .long hh]))])) Y hr hlocks hK hP hD hS [0] (by decide) (fa, fp) rfl ⟨by rw [if_neg (by omega)], by rw [if_neg (by omega)]⟩ dX6_fails_17
  · refine lv_aload_n hx hb dX6_fails_7 rfl (lv_at hl 0 rfl) ?_
    refine lv_iload_n hx hb dX6_fails_8 rfl (lv_at hl 1 rfl) ?_
    refine va_put (D := (dC, dI)) (ci := 6) (v := .int (nI kd)) (ty := .int) (C := RX6) (T := TX6) (N := 24) hx hb hts inlX6 tyX6 tyX6_ok nmX6 hown hK hP hD hS 0 rfl rfl 8 (by decide) (hts _ qf_X6_91) (fun _ h9 => h9) rfl (by decide +kernel) rfl rfl (Nat.le_of_ble_eq_true rfl) dX6_fails_9 (fun H locs hP hD hS => ?_)
    have hP : va_P (dC, dI) vwCl [(m0, .inr (6, [.ref m1, .ref m2, .int (nI bm), .long un, .ref m3, .int (nI ty), .ref m4, .int (nI sp), .int (nI kd), .int (nI fp), .int (nI kn), .ref m5, .ref m6, .ref m7, .ref m8, .ref m9, .int dr, .ref m10, .ref m11, .int (nI lf), .int (nI yo), .int (nI ol), .ref m12, .long hh]))] H := hP
    have hD : va_D A [(m0, .inr (6, [.ref m1, .ref m2, .int (nI bm), .long un, .ref m3, .int (nI ty), .ref m4, .int (nI sp), .int (nI kd), .int (nI fp), .int (nI kn), .ref m5, .ref m6, .ref m7, .ref m8, .ref m9, .int dr, .ref m10, .ref m11, .int (nI lf), .int (nI yo), .int (nI ol), .ref m12, .long hh]))] := hD
    refine lv_aload_n hx hb dX6_fails_12 rfl (lv_at hl 0 rfl) ?_
    refine lv_iload_n hx hb dX6_fails_13 rfl (lv_at hl 2 rfl) ?_
    refine va_put (D := (dC, dI)) (ci := 6) (v := .int (nI po)) (ty := .int) (C := RX6) (T := TX6) (N := 24) hx hb hts inlX6 tyX6 tyX6_ok nmX6 hown hK hP hD hS 0 rfl rfl 9 (by decide) (hts _ qf_X6_94) (fun _ h9 => h9) rfl (by decide +kernel) rfl rfl (Nat.le_of_ble_eq_true rfl) dX6_fails_14 (fun H locs hP hD hS => ?_)
    have hP : va_P (dC, dI) vwCl [(m0, .inr (6, [.ref m1, .ref m2, .int (nI bm), .long un, .ref m3, .int (nI ty), .ref m4, .int (nI sp), .int (nI kd), .int (nI po), .int (nI kn), .ref m5, .ref m6, .ref m7, .ref m8, .ref m9, .int dr, .ref m10, .ref m11, .int (nI lf), .int (nI yo), .int (nI ol), .ref m12, .long hh]))] H := hP
    have hD : va_D A [(m0, .inr (6, [.ref m1, .ref m2, .int (nI bm), .long un, .ref m3, .int (nI ty), .ref m4, .int (nI sp), .int (nI kd), .int (nI po), .int (nI kn), .ref m5, .ref m6, .ref m7, .ref m8, .ref m9, .int dr, .ref m10, .ref m11, .int (nI lf), .int (nI yo), .int (nI ol), .ref m12, .long hh]))] := hD
    exact kqv (w1 := (fun u : Nat × Nat => [(m0, .inr (6, [.ref m1, .ref m2, .int (nI bm), .long un, .ref m3, .int (nI ty), .ref m4, .int (nI sp), .int (nI u.1), .int (nI u.2), .int (nI kn), .ref m5, .ref m6, .ref m7, .ref m8, .ref m9, .int dr, .ref m10, .ref m11, .int (nI lf), .int (nI yo), .int (nI ol), .ref m12, .long hh]))])) Y hr hlocks hK hP hD hS [0] (by decide) (kd, po) rfl ⟨by rw [if_pos (by omega)], by rw [if_pos (by omega)]⟩ dX6_fails_17
set_option maxHeartbeats 4000000 in
set_option maxRecDepth 100000 in
theorem c_X6_skips (l : Launch) (dC : Nat → ClassId) (dI : Nat → Nat → Nat) (sz : Nat) (cI cL : ClassId) (m0 m1 m2 m3 m4 m5 m6 m7 m8 m9 m10 m11 m12 : Nat) (bm ty sp fa fp kn lf yo ol : Nat) (un hh : Int64) (dr : Int32) (tx : Nat → Nat) (h1 : ty ≤ 60) (h2 : sp < 900) (htx : ∀ k, k < ty → 32 ≤ tx k ∧ tx k ≤ 126) : Met l yX6_skips (kw yX6_skips cX6_skips 1 none) (kR 1 20) (kPq (dC, dI) [.ref m0] sz [(m0, .inr (6, [.ref m1, .ref m2, .int (nI bm), .long un, .ref m3, .int (nI ty), .ref m4, .int (nI sp), .int (nI fa), .int (nI fp), .int (nI kn), .ref m5, .ref m6, .ref m7, .ref m8, .ref m9, .int dr, .ref m10, .ref m11, .int (nI lf), .int (nI yo), .int (nI ol), .ref m12, .long hh])), (m3, .inl (cI, 60, .inl (fun zz => nI (tx zz))))] [(cI, .int)]) (va_Qv (fun u : Unit => True) (fun u : Unit => kB (dC, dI) [(cI, .int)] (va_A [(m0, .inr (6, [.ref m1, .ref m2, .int (nI bm), .long un, .ref m3, .int (nI ty), .ref m4, .int (nI sp), .int (nI fa), .int (nI fp), .int (nI kn), .ref m5, .ref m6, .ref m7, .ref m8, .ref m9, .int dr, .ref m10, .ref m11, .int (nI lf), .int (nI yo), .int (nI ol), .ref m12, .long hh])), (m3, .inl (cI, 60, .inl (fun zz => nI (tx zz))))] sz) ([(m0, .inr (6, [.ref m1, .ref m2, .int (nI bm), .long un, .ref m3, .int (nI ty), .ref m4, .int (nI (skF tx ty sp)), .int (nI fa), .int (nI fp), .int (nI kn), .ref m5, .ref m6, .ref m7, .ref m8, .ref m9, .int dr, .ref m10, .ref m11, .int (nI lf), .int (nI yo), .int (nI ol), .ref m12, .long hh])), (m3, .inl (cI, 60, .inl (fun zz => nI (tx zz))))])) (va_A [(m0, .inr (6, [.ref m1, .ref m2, .int (nI bm), .long un, .ref m3, .int (nI ty), .ref m4, .int (nI sp), .int (nI fa), .int (nI fp), .int (nI kn), .ref m5, .ref m6, .ref m7, .ref m8, .ref m9, .int dr, .ref m10, .ref m11, .int (nI lf), .int (nI yo), .int (nI ol), .ref m12, .long hh])), (m3, .inl (cI, 60, .inl (fun zz => nI (tx zz))))] sz)) 0 0 (va_A [(m0, .inr (6, [.ref m1, .ref m2, .int (nI bm), .long un, .ref m3, .int (nI ty), .ref m4, .int (nI sp), .int (nI fa), .int (nI fp), .int (nI kn), .ref m5, .ref m6, .ref m7, .ref m8, .ref m9, .int dr, .ref m10, .ref m11, .int (nI lf), .int (nI yo), .int (nI ol), .ref m12, .long hh])), (m3, .inl (cI, 60, .inl (fun zz => nI (tx zz))))] sz) := by
  refine kmet (by decide) ?_
  intro p e s m args below meth c Y hr hlocks hin hv
  obtain ⟨rfl, A, hAe, hsz, hP, hK, hD, hZ, hA⟩ := kinQ hv
  rw [hAe]
  have hS : va_S A s.heap s.heap [] := va_S.rf
  have hx := Y.1
  have hb := Y.2.1
  have hml := Y.2.2.1
  have hown := Y.2.2.2.1
  have hts := Y.2.2.2.2
  have hl := lv_entry ([.ref m0]) (n := 1) (Nat.le_of_ble_eq_true rfl)
  rw [lg_entry_eq]
  generalize (lg_sl ([.ref m0]) ++ List.replicate (1 - (lg_sl ([.ref m0])).length) Slot.unset).toArray = ls at hl ⊢
  have hl : lv_has ls 1 [(0, .ref m0)] := hl
  refine wl1 (fun (s9 : Nat) => 1000 - s9) (fun (s9 : Nat) (ls : Array Slot) (H : Heap) (locs : List Loc) => lv_has ls 1 [(0, .ref m0)] ∧ va_P (dC, dI) vwCl [(m0, .inr (6, [.ref m1, .ref m2, .int (nI bm), .long un, .ref m3, .int (nI ty), .ref m4, .int (nI s9), .int (nI fa), .int (nI fp), .int (nI kn), .ref m5, .ref m6, .ref m7, .ref m8, .ref m9, .int dr, .ref m10, .ref m11, .int (nI lf), .int (nI yo), .int (nI ol), .ref m12, .long hh])), (m3, .inl (cI, 60, .inl (fun zz => nI (tx zz))))] H ∧ va_D A [(m0, .inr (6, [.ref m1, .ref m2, .int (nI bm), .long un, .ref m3, .int (nI ty), .ref m4, .int (nI s9), .int (nI fa), .int (nI fp), .int (nI kn), .ref m5, .ref m6, .ref m7, .ref m8, .ref m9, .int dr, .ref m10, .ref m11, .int (nI lf), .int (nI yo), .int (nI ol), .ref m12, .long hh])), (m3, .inl (cI, 60, .inl (fun zz => nI (tx zz))))] ∧ va_S A s.heap H locs ∧ (s9 < 900 ∧ skF tx ty sp = skF tx ty s9)) sp (by exact ⟨lv_sub hl [0] rfl, hP.sub [0, 1] rfl, hD.sub [0, 1] (by decide) rfl, hS, h2, rfl⟩) (fun s9 ls H locs hI ih => ?_)
  obtain ⟨hl, hP, hD, hS, hs1, hs2⟩ := hI
  have ih0 := ih
  refine lv_aload_n hx hb dX6_skips_0 rfl (lv_at hl 0 rfl) ?_
  refine kVi (As := []) (rest := []) Y m_X6_here (c_X6_here l dC dI cI cL m0 m1 m2 m3 m4 m5 m6 m7 m8 m9 m10 m11 m12 bm ty s9 fa fp kn lf yo ol un hh dr tx (by omega) (by omega)) qm_X6_87 (kpV (ci := 6) hK hP hZ hS [0, 1] [0] rfl rfl 0 rfl rfl rfl) rfl hl.1 rfl (Nat.le_of_ble_eq_true rfl) dX6_skips_1 ⟨Nat.le_of_ble_eq_true rfl, Nat.le_of_ble_eq_true rfl⟩ ⟨Nat.zero_le _, Nat.zero_le _⟩ (fun r1 hr1 => ?_)
  obtain rfl : r1 = hrV tx ty s9 := hr1
  refine lv_bipush (v := nI 32) hx hb dX6_skips_4 (by decide) ?_
  refine lv_icmp_ne (tgt := 22) hx hb dX6_skips_6 (by decide) (fun c6 => ?_) (fun c6 => ?_)
  · have e9 : skF tx ty sp = s9 := hs2.trans (skF_e (fun q => c6 ((hr_32 htx).mpr q)))
    rw [← e9] at hP hD
    exact kqv (w1 := (fun u : Unit => [(m0, .inr (6, [.ref m1, .ref m2, .int (nI bm), .long un, .ref m3, .int (nI ty), .ref m4, .int (nI (skF tx ty sp)), .int (nI fa), .int (nI fp), .int (nI kn), .ref m5, .ref m6, .ref m7, .ref m8, .ref m9, .int dr, .ref m10, .ref m11, .int (nI lf), .int (nI yo), .int (nI ol), .ref m12, .long hh])), (m3, .inl (cI, 60, .inl (fun zz => nI (tx zz))))])) Y hr hlocks hK hP hD hS [0, 1] (by decide) () rfl trivial dX6_skips_22
  · have hc9 := (hr_32 htx).mp c6
    refine lv_aload_n hx hb dX6_skips_9 rfl (lv_at hl 0 rfl) ?_
    refine lv_dup hx hb dX6_skips_10 rfl ?_
    refine va_get (D := (dC, dI)) (ci := 6) (v := .int (nI s9)) (C := RX6) (T := TX6) (N := 24) hx hb hts inlX6 hown hK hP 0 rfl rfl 7 (by decide) (hts _ qf_X6_84) (fun _ h9 => h9) rfl dX6_skips_11 ?_
    refine lv_iconst (v := nI 1) hx hb dX6_skips_14 (by decide) ?_
    refine ri_add hx hb dX6_skips_15 ?_
    refine va_put (D := (dC, dI)) (ci := 6) (v := .int (nI (s9 + 1))) (ty := .int) (C := RX6) (T := TX6) (N := 24) hx hb hts inlX6 tyX6 tyX6_ok nmX6 hown hK hP hD hS 0 rfl rfl 7 (by decide) (hts _ qf_X6_84) (fun _ h9 => h9) rfl (by decide +kernel) rfl rfl (Nat.le_of_ble_eq_true rfl) dX6_skips_16 (fun H locs hP hD hS => ?_)
    have hP : va_P (dC, dI) vwCl [(m0, .inr (6, [.ref m1, .ref m2, .int (nI bm), .long un, .ref m3, .int (nI ty), .ref m4, .int (nI (s9 + 1)), .int (nI fa), .int (nI fp), .int (nI kn), .ref m5, .ref m6, .ref m7, .ref m8, .ref m9, .int dr, .ref m10, .ref m11, .int (nI lf), .int (nI yo), .int (nI ol), .ref m12, .long hh])), (m3, .inl (cI, 60, .inl (fun zz => nI (tx zz))))] H := hP
    have hD : va_D A [(m0, .inr (6, [.ref m1, .ref m2, .int (nI bm), .long un, .ref m3, .int (nI ty), .ref m4, .int (nI (s9 + 1)), .int (nI fa), .int (nI fp), .int (nI kn), .ref m5, .ref m6, .ref m7, .ref m8, .ref m9, .int dr, .ref m10, .ref m11, .int (nI lf), .int (nI yo), .int (nI ol), .ref m12, .long hh])), (m3, .inl (cI, 60, .inl (fun zz => nI (tx zz))))] := hD
    refine lv_goto (tgt := 0) hx hb dX6_skips_19 (by decide) ?_
    exact ih0 (s9 + 1) _ _ _ (by show _ < _; omega) (by exact ⟨lv_sub hl [0] rfl, hP.sub [0, 1] rfl, hD.sub [0, 1] (by decide) rfl, hS, by omega, hs2.trans (skF_s hc9.1 hc9.2)⟩)
set_option maxHeartbeats 4000000 in
set_option maxRecDepth 100000 in
theorem c_X6_weighted (l : Launch) (dC : Nat → ClassId) (dI : Nat → Nat → Nat) (cI cL : ClassId) (m0 m1 m2 m3 m4 m5 m6 m7 m8 m9 m10 m11 m12 : Nat) (bm ty sp fa fp kn lf yo ol : Nat) (un hh : Int64) (dr : Int32) (P : Nat → Nat) (hPI : PI P) : Met l yX6_weighted (kw yX6_weighted cX6_weighted 3 (some .int)) (kR 0 0) (kPr (dC, dI) [.ref m0] [(m0, .inr (6, [.ref m1, .ref m2, .int (nI bm), .long un, .ref m3, .int (nI ty), .ref m4, .int (nI sp), .int (nI fa), .int (nI fp), .int (nI kn), .ref m5, .ref m6, .ref m7, .ref m8, .ref m9, .int dr, .ref m10, .ref m11, .int (nI lf), .int (nI yo), .int (nI ol), .ref m12, .long hh])), (m1, .inl (cI, 22, .inl (fun zz => nI (P zz))))] [(cI, .int)]) (vp_Si (fun res : Int32 => res = nI (wgN P))) 0 0 kNo := by
  refine kmet (by decide) ?_
  intro p e s m args below meth c Y hr hlocks hin hv
  obtain ⟨rfl, hP, hK, hZ⟩ := kinR hv
  have hS : va_S kNo s.heap s.heap [] := va_S.rf
  have hx := Y.1
  have hb := Y.2.1
  have hml := Y.2.2.1
  have hown := Y.2.2.2.1
  have hts := Y.2.2.2.2
  have hl := lv_entry ([.ref m0]) (n := 3) (Nat.le_of_ble_eq_true rfl)
  rw [lg_entry_eq]
  generalize (lg_sl ([.ref m0]) ++ List.replicate (3 - (lg_sl ([.ref m0])).length) Slot.unset).toArray = ls at hl ⊢
  have hl : lv_has ls 3 [(0, .ref m0)] := hl
  refine lv_iconst (v := nI 0) hx hb dX6_weighted_0 (by decide) ?_
  refine lv_istore_n (lv' := [(1, .int (nI 0)), (0, .ref m0)]) hx hb dX6_weighted_1 rfl hl (by decide) rfl (fun ls hl => ?_)
  refine lv_iconst (v := nI 0) hx hb dX6_weighted_2 (by decide) ?_
  refine lv_istore_n (lv' := [(2, .int (nI 0)), (1, .int (nI 0)), (0, .ref m0)]) hx hb dX6_weighted_3 rfl hl (by decide) rfl (fun ls hl => ?_)
  refine wr2 (fun (t : Nat) (sm : Nat) => 5 - t) (fun (t : Nat) (sm : Nat) (ls : Array Slot) => lv_has ls 3 [(0, .ref m0), (1, .int (nI sm)), (2, .int (nI t))] ∧ (t ≤ 5 ∧ sm ≤ 1000 + t ∧ sm = sgN (fun t => if 0 < P (15 + t) then 1 else 0) t)) 0 0 (by exact ⟨lv_sub hl [2, 1, 0] rfl, ⟨by omega, by omega, rfl⟩⟩) (fun t sm ls hI ih => ?_)
  obtain ⟨hl, ht, hs9, hsm⟩ := hI
  have ih4 := ih
  have hw9 : t < 5 → P (15 + t) ≤ 10 := fun q => hPI.2.2.2.2.1 t q
  refine lv_iload_n hx hb dX6_weighted_4 rfl (lv_at hl 2 rfl) ?_
  refine lv_iconst (v := nI 5) hx hb dX6_weighted_5 (by decide) ?_
  refine ri_cge (tgt := 35) hx hb dX6_weighted_6 (by decide) (by omega) (by omega) (fun c6 => ?_) (fun c6 => ?_)
  · refine lv_iload_n hx hb dX6_weighted_35 rfl (lv_at hl 1 rfl) ?_
    exact kri (v := nI sm) Y hr hlocks (congrArg nI (by rw [hsm, show t = 5 by omega]; rfl)) dX6_weighted_36
  · refine lv_iload_n hx hb dX6_weighted_9 rfl (lv_at hl 1 rfl) ?_
    refine lv_aload_n hx hb dX6_weighted_10 rfl (lv_at hl 0 rfl) ?_
    refine va_get (D := (dC, dI)) (ci := 6) (v := .ref m1) (C := RX6) (T := TX6) (N := 24) hx hb hts inlX6 hown hK hP 0 rfl rfl 0 (by decide) (hts _ qf_X6_7) (fun _ h9 => h9) rfl dX6_weighted_11 ?_
    refine lv_bipush (v := nI 15) hx hb dX6_weighted_14 (by decide) ?_
    refine lv_iload_n hx hb dX6_weighted_16 rfl (lv_at hl 2 rfl) ?_
    refine ri_add hx hb dX6_weighted_17 ?_
    refine ri_ald hx hb hK hP 1 0 (F := P) rfl rfl dX6_weighted_18 (by decide) (by omega) ?_
    have hw8 := hw9 (by omega)
    refine ri_zle (tgt := 26) hx hb dX6_weighted_19 (by decide) (by omega) (fun c19 => ?_) (fun c19 => ?_)
    · refine lv_iconst (v := nI 0) hx hb dX6_weighted_26 (by decide) ?_
      refine ri_add hx hb dX6_weighted_27 ?_
      refine lv_istore_n (lv' := [(1, .int (nI (sm + 0))), (0, .ref m0), (2, .int (nI t))]) hx hb dX6_weighted_28 rfl hl (by decide) rfl (fun ls hl => ?_)
      refine lv_iinc (v := nI (t + 1)) (lv' := [(2, .int (nI (t + 1))), (1, .int (nI (sm + 0))), (0, .ref m0)]) hx hb dX6_weighted_29 hl (k := 2) rfl (inc1 _) (by decide) rfl (fun ls hl => ?_)
      refine lv_goto (tgt := 4) hx hb dX6_weighted_32 (by decide) ?_
      exact ih4 (t + 1) (sm + 0) _ (by show _ < _; omega) (by exact ⟨lv_sub hl [2, 1, 0] rfl, ⟨by omega, by omega, by rw [hsm]; show _ = sgN _ t + (if 0 < P (15 + t) then 1 else 0); rw [if_neg (by omega)]⟩⟩)
    · refine lv_iconst (v := nI 1) hx hb dX6_weighted_22 (by decide) ?_
      refine lv_goto (tgt := 27) hx hb dX6_weighted_23 (by decide) ?_
      refine ri_add hx hb dX6_weighted_27 ?_
      refine lv_istore_n (lv' := [(1, .int (nI (sm + 1))), (0, .ref m0), (2, .int (nI t))]) hx hb dX6_weighted_28 rfl hl (by decide) rfl (fun ls hl => ?_)
      refine lv_iinc (v := nI (t + 1)) (lv' := [(2, .int (nI (t + 1))), (1, .int (nI (sm + 1))), (0, .ref m0)]) hx hb dX6_weighted_29 hl (k := 2) rfl (inc1 _) (by decide) rfl (fun ls hl => ?_)
      refine lv_goto (tgt := 4) hx hb dX6_weighted_32 (by decide) ?_
      exact ih4 (t + 1) (sm + 1) _ (by show _ < _; omega) (by exact ⟨lv_sub hl [2, 1, 0] rfl, ⟨by omega, by omega, by rw [hsm]; show _ = sgN _ t + (if 0 < P (15 + t) then 1 else 0); rw [if_pos (by omega)]⟩⟩)
