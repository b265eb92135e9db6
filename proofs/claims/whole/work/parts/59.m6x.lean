theorem MZ_s {P sy gz : Nat → Nat} (h : MZ P sy gz) {i j a b : Nat} (h2 : i ≤ P 0) (hj : j ≤ 3) (ha : a ≤ 5) (hb : b ≤ 5) : sy (pB (i + 1) j a b) = SV P (P 20) (P 21) (P 0 - i) j a b := by
  have := h.1 (i + 1) j a b (by omega) (by omega) hj ha hb (by omega)
  rw [show P 0 + 1 - (i + 1) = P 0 - i by omega] at this
  exact this
theorem MZ_1 {P sy gz : Nat → Nat} (h : MZ P sy gz) {j : Nat} (hj : j ≤ 3) : sy (pB 1 j 5 5) = SV P (P 20) (P 21) (P 0) j 5 5 := MZ_s h (i := 0) (Nat.zero_le _) hj (Nat.le_refl _) (Nat.le_refl _)
theorem SVB {P : Nat → Nat} (h : PI P) {c1 c2 d j a b : Nat} (h1 : c1 ≤ 10) (h2 : c2 ≤ 10) (hj : j ≤ 3) (ha : a ≤ 5) (hb : b ≤ 5) : SV P c1 c2 d j a b ≤ 297000000000000000 := Nat.le_trans (SV_le h h1 h2 d ha hb) (B3 hj)
theorem QVB {P : Nat → Nat} (h : PI P) {c1 c2 d j a : Nat} (h1 : c1 ≤ 10) (h2 : c2 ≤ 10) (hj : j ≤ 3) (ha : a ≤ 5) : QV P c1 c2 d j a ≤ 297000000000000000 := Nat.le_trans (QS_le h h1 h2 d j a ha) (B3 hj)
theorem SVBx {P : Nat → Nat} (h : PI P) {c1 c2 : Nat} (h1 : c1 ≤ 10) (h2 : c2 ≤ 10) (d j a b : Nat) (hj : j ≤ 3) (ha : a ≤ 5) (hb : b ≤ 5) : SV P c1 c2 d j a b ≤ 297000000000000000 := SVB h h1 h2 hj ha hb
theorem QVBx {P : Nat → Nat} (h : PI P) {c1 c2 : Nat} (h1 : c1 ≤ 10) (h2 : c2 ≤ 10) (d j a : Nat) (hj : j ≤ 3) (ha : a ≤ 5) : QV P c1 c2 d j a ≤ 297000000000000000 := QVB h h1 h2 hj ha
theorem br_a {j a b q r1 r2 mx : Nat} (hm : mx = max (if a ≠ 5 then max q r1 else q) (if b ≠ 5 then r2 else 0)) (h : j = 0 ∨ q = mx) : 0 = if j = 0 then 0 else if b ≠ 5 ∧ (if a ≠ 5 ∧ q < r1 then r1 else q) < r2 then 2 else if a ≠ 5 ∧ q < r1 then 1 else 0 := by
  by_cases ha : a = 5 <;> by_cases hb : b = 5 <;> simp only [ha, hb, ne_eq, not_true_eq_false, not_false_eq_true, if_true, if_false, true_and, false_and] at hm ⊢ <;> (repeat' split) <;> omega
theorem br_b {j a b q r1 r2 mx : Nat} (hj : ¬ j = 0) (hm : mx = max (if a ≠ 5 then max q r1 else q) (if b ≠ 5 then r2 else 0)) (h : q ≠ mx) (h2 : a ≠ 5 ∧ r1 = mx) : 1 = if j = 0 then 0 else if b ≠ 5 ∧ (if a ≠ 5 ∧ q < r1 then r1 else q) < r2 then 2 else if a ≠ 5 ∧ q < r1 then 1 else 0 := by
  by_cases ha : a = 5 <;> by_cases hb : b = 5 <;> simp only [ha, hb, ne_eq, not_true_eq_false, not_false_eq_true, if_true, if_false, true_and, false_and] at hm h2 ⊢ <;> (repeat' split) <;> omega
theorem br_d {j a b q r1 r2 mx : Nat} (hj : ¬ j = 0) (hm : mx = max (if a ≠ 5 then max q r1 else q) (if b ≠ 5 then r2 else 0)) (h : q ≠ mx) (h2 : ¬ (a ≠ 5 ∧ r1 = mx)) : 2 = if j = 0 then 0 else if b ≠ 5 ∧ (if a ≠ 5 ∧ q < r1 then r1 else q) < r2 then 2 else if a ≠ 5 ∧ q < r1 then 1 else 0 := by
  by_cases ha : a = 5 <;> by_cases hb : b = 5 <;> simp only [ha, hb, ne_eq, not_true_eq_false, not_false_eq_true, if_true, if_false, true_and, false_and] at hm h2 ⊢ <;> (repeat' split) <;> omega
theorem SV_mx {P : Nat → Nat} {c1 c2 d j a b : Nat} (hj : ¬ j = 0) : SV P c1 c2 d j a b = max (if a ≠ 5 then max (QV P c1 c2 d j a) (rcN P (QV P c1 c2 d) c1 j a 5) else QV P c1 c2 d j a) (if b ≠ 5 then rcN P (QV P c1 c2 d) c2 j b a else 0) := if_neg hj
theorem brS_0 {P : Nat → Nat} {c1 c2 d j a b : Nat} (h : j = 0 ∨ QV P c1 c2 d j a = SV P c1 c2 d j a b) : 0 = brS P c1 c2 d j a b := by
  by_cases hj : j = 0
  · exact (if_pos hj).symm
  · exact br_a (SV_mx hj) h
theorem rcW_1 {P : Nat → Nat} {q : Nat → Nat → Nat} {j a b S : Nat} (hs : S ≤ 297000000000000000) (hr : a ≠ 5 → rcN P q (P 20) j a 5 ≤ 297000000000000000) : rcW P q 1 j a b = lN S ↔ (a ≠ 5 ∧ rcN P q (P 20) j a 5 = S) := by
  unfold rcW
  rw [if_pos rfl]
  by_cases ha : a = 5
  · rw [if_pos ha]
    refine ⟨fun h => ?_, fun h => absurd ha h.1⟩
    rw [lN_iN, show (-1 : Int64) = iN (-1) from rfl, iN_inj (by omega) (by omega) (by omega) (by omega)] at h
    omega
  · have := hr ha
    rw [if_neg ha, lN_iN, lN_iN, iN_inj (by omega) (by omega) (by omega) (by omega)]
    omega
theorem brS_1 {P : Nat → Nat} {c2 d j a b : Nat} (hP : PI P) (hc2 : c2 ≤ 10) (hj : ¬ j = 0) (hj3 : j ≤ 3) (ha : a ≤ 5) (hb : b ≤ 5) (h : QV P (P 20) c2 d j a ≠ SV P (P 20) c2 d j a b) (h2 : rcW P (QV P (P 20) c2 d) 1 j a b = lN (SV P (P 20) c2 d j a b)) : 1 = brS P (P 20) c2 d j a b := by
  have hc1 := hP.2.2.2.2.2.2.1
  have h3 := (rcW_1 (SVB hP hc1 hc2 hj3 ha hb) (fun q => rcN_b hP hc1 hc2 hc1 (by omega) hj3 (by omega) (by omega))).mp h2
  exact br_b hj (SV_mx hj) h h3
theorem brS_2 {P : Nat → Nat} {c2 d j a b : Nat} (hP : PI P) (hc2 : c2 ≤ 10) (hj : ¬ j = 0) (hj3 : j ≤ 3) (ha : a ≤ 5) (hb : b ≤ 5) (h : QV P (P 20) c2 d j a ≠ SV P (P 20) c2 d j a b) (h2 : ¬ rcW P (QV P (P 20) c2 d) 1 j a b = lN (SV P (P 20) c2 d j a b)) : 2 = brS P (P 20) c2 d j a b := by
  have hc1 := hP.2.2.2.2.2.2.1
  have h3 := fun q => h2 ((rcW_1 (SVB hP hc1 hc2 hj3 ha hb) (fun q => rcN_b hP hc1 hc2 hc1 (by omega) hj3 (by omega) (by omega))).mpr q)
  exact br_d hj (SV_mx hj) h h3
/-- is a level taken -/
abbrev tkP (P : Nat → Nat) (d j a v : Nat) : Prop := SV P (P 20) (P 21) d j v a ≤ P (10 + v) * 1000000000000000 + SV P (P 20) (P 21) d (j - 1) 5 a
def ltN (P : Nat → Nat) (d j a : Nat) : Nat → Int32
  | 0 => -9
  | t + 1 => if tkP P d j a t ∧ (ltN P d j a t = -9 ∨ nI (P (10 + t)) < ltN P d j a t) then nI (P (10 + t)) else ltN P d j a t
theorem lt_t {P : Nat → Nat} {d j a t : Nat} {lt : Int32} (hl : lt = ltN P d j a t) (h : tkP P d j a t ∧ (lt = -9 ∨ nI (P (10 + t)) < lt)) : nI (P (10 + t)) = ltN P d j a (t + 1) := by
  rw [hl] at h
  exact (if_pos h).symm
theorem lt_f {P : Nat → Nat} {d j a t : Nat} {lt : Int32} (hl : lt = ltN P d j a t) (h : ¬ (tkP P d j a t ∧ (lt = -9 ∨ nI (P (10 + t)) < lt))) : lt = ltN P d j a (t + 1) := by
  rw [hl] at h
  rw [hl]
  exact (if_neg h).symm
abbrev siO (P : Nat → Nat) (a b v w : Int32) : Prop := ((nI 1 ≤ a ∧ a ≤ nI (P 0 + 1)) ∧ (nI 0 ≤ b ∧ b ≤ nI (P 1))) ∧ ((nI 0 ≤ v ∧ v ≤ nI 5) ∧ (nI 0 ≤ w ∧ w ≤ nI 5))
def rcO (P : Nat → Nat) (a b v w : Int32) : Int32 := if siO P a b v w then nI (brS P (P 20) (P 21) (P 0 + 1 - nO a) (nO b) (nO v) (nO w)) else -1
def obO (P : Nat → Nat) (a b v w : Int32) : Int32 := if siO P a b v w then b2i (0 < QV P (P 20) (P 21) (P 0 + 1 - nO a) (nO b) (nO v)) else -1
def clO (P : Nat → Nat) (a b v w : Int32) : Int32 := if ((nI 1 ≤ a ∧ a ≤ nI (P 0)) ∧ (nI 1 ≤ b ∧ b ≤ nI (P 1))) ∧ ((nI 0 ≤ v ∧ v ≤ nI 5) ∧ (nI 0 ≤ w ∧ w ≤ nI 4)) then b2i (tkP P (P 0 - nO a) (nO b) (nO v) (nO w)) else -1
def vtO (P : Nat → Nat) (a b v : Int32) : Int32 := if ((nI 1 ≤ a ∧ a ≤ nI (P 0)) ∧ (nI 1 ≤ b ∧ b ≤ nI (P 1))) ∧ (nI 0 ≤ v ∧ v ≤ nI 5) then ltN P (P 0 - nO a) (nO b) (nO v) 5 else -1
/-- without recalls -/
abbrev noR (P : Nat → Nat) : Nat → Nat := updN (updN P 20 0) 21 0
theorem noR_o {P : Nat → Nat} {k : Nat} (h : k < 20) : noR P k = P k := by
  show updN (updN P 20 0) 21 0 k = P k
  rw [updN_n _ _ (by omega), updN_n _ _ (by omega)]
theorem noR_PI {P : Nat → Nat} (h : PI P) : PI (noR P) := by
  refine ⟨h.1, h.2.1, h.2.2.1, fun k hk => ?_, fun l hl => ?_, h.2.2.2.2.2.1, Nat.zero_le _, Nat.zero_le _⟩
  · rcases Nat.lt_or_ge k 20 with q | q
    · rw [noR_o q]; exact h.le hk
    · rcases (show k = 20 ∨ k = 21 by omega) with rfl | rfl
      · exact Nat.zero_le _
      · exact Nat.zero_le _
  · rw [noR_o (by omega)]; exact h.2.2.2.2.1 l hl
theorem sOf_x {P P' : Nat → Nat} (hP : ∀ k, k < 20 → P k = P' k) {c1 c2 : Nat} {q q' : Nat → Nat → Nat} (hq : ∀ j a, a ≤ 5 → q j a = q' j a) {j a b : Nat} (ha : a ≤ 5) (hb : b ≤ 5) : sOf P c1 c2 q j a b = sOf P' c1 c2 q' j a b := by
  unfold sOf
  by_cases hj : j = 0
  · rw [if_pos hj, if_pos hj]
  · rw [if_neg hj, if_neg hj, hq j a ha, hq (j - 1) 5 (by omega), hq j 5 (by omega), hq (j - 1) a ha]
    refine congr (congrArg max ?_) ?_
    · by_cases c : a = 5
      · rw [if_neg (fun q => q c), if_neg (fun q => q c)]
      · rw [if_pos c, if_pos c, hP (10 + a) (by omega)]
    · by_cases c : b = 5
      · rw [if_neg (fun q => q c), if_neg (fun q => q c)]
      · rw [if_pos c, if_pos c, hP (10 + b) (by omega)]
theorem QV_x {P P' : Nat → Nat} (hP : ∀ k, k < 20 → P k = P' k) {c1 c2 : Nat} : ∀ d j a, a ≤ 5 → QV P c1 c2 d j a = QV P' c1 c2 d j a
  | 0, j, a, _ => rfl
  | d + 1, j, a, ha => by
    show qOf P (sOf P c1 c2 (QV P c1 c2 d)) j a = qOf P' (sOf P' c1 c2 (QV P' c1 c2 d)) j a
    have ih := QV_x hP (c1 := c1) (c2 := c2) d
    unfold qOf
    by_cases hj : j = 0
    · rw [if_pos hj, if_pos hj]
    · rw [if_neg hj, if_neg hj, hP 2 (by omega)]
      refine congrArg (fun x => x / 10 - P' 2 * 1000000000000000) ?_
      refine sgN_c (fun t ht => ?_)
      rw [hP (15 + t) (by omega), hP (10 + t) (by omega), sOf_x hP ih (by omega) ha, sOf_x hP ih (by omega) ha]
theorem SV_x {P P' : Nat → Nat} (hP : ∀ k, k < 20 → P k = P' k) {c1 c2 d j a b : Nat} (ha : a ≤ 5) (hb : b ≤ 5) : SV P c1 c2 d j a b = SV P' c1 c2 d j a b := sOf_x hP (QV_x hP d) ha hb
theorem MZ_z {P sy gz : Nat → Nat} (h : MZ (noR P) sy gz) (hP : P 1 ≤ 3) : sy (pB 1 (P 1) 5 5) = SV P 0 0 (P 0) (P 1) 5 5 := by
  have h1 := MZ_1 h (j := P 1) hP
  rw [h1]
  exact SV_x (fun k hk => noR_o hk) (Nat.le_refl _) (Nat.le_refl _)
theorem noR_back {P : Nat → Nat} : updN (updN (noR P) 20 (P 20)) 21 (P 21) = P := by
  funext x
  by_cases h1 : x = 21
  · subst h1; rw [updN_s]
  · rw [updN_n _ _ h1]
    by_cases h2 : x = 20
    · subst h2; rw [updN_s]
    · rw [updN_n _ _ h2]
      show updN (updN P 20 0) 21 0 x = P x
      rw [updN_n _ _ h1, updN_n _ _ h2]
/-- what recalls bring -/
def gaN (P : Nat → Nat) : Int := (SV P (P 20) (P 21) (P 0) (P 1) 5 5 : Int) - (SV P 0 0 (P 0) (P 1) 5 5 : Int)
theorem lN_dif {x y : Nat} (hx : x ≤ 297000000000000000) (hy : y ≤ 297000000000000000) : lN x - lN y = iN ((x : Int) - (y : Int)) := by
  rw [lN_iN, lN_iN]
  exact iN_sub (by omega) (by omega) (by omega) (by omega)
theorem gaN_b {P : Nat → Nat} (h : PI P) : -297000000000000000 ≤ gaN P ∧ gaN P ≤ 297000000000000000 := by
  have h1 := h.2.1
  have a := SVB h (d := P 0) (j := P 1) (a := 5) (b := 5) h.2.2.2.2.2.2.1 h.2.2.2.2.2.2.2 (by omega) (by omega) (by omega)
  have b := SVB h (c1 := 0) (c2 := 0) (d := P 0) (j := P 1) (a := 5) (b := 5) (by omega) (by omega) (by omega) (by omega) (by omega)
  unfold gaN
  omega
theorem gaN_e {P : Nat → Nat} (h : PI P) : lN (SV P (P 20) (P 21) (P 0) (P 1) 5 5) - lN (SV P 0 0 (P 0) (P 1) 5 5) = iN (gaN P) := by
  have h1 := h.2.1
  exact lN_dif (SVB h h.2.2.2.2.2.2.1 h.2.2.2.2.2.2.2 (by omega) (by omega) (by omega)) (SVB h (by omega) (by omega) (by omega) (by omega) (by omega))
def prV (P : Nat → Nat) : Int := (SV P (P 20) (P 21) (P 0) (P 1 + 1) 5 5 : Int) - (SV P (P 20) (P 21) (P 0) (P 1) 5 5 : Int)
def prR (P : Nat → Nat) : Int := (VR P (P 0) (P 1 + 1) : Int) - (VR P (P 0) (P 1) : Int)
theorem prV_e {P : Nat → Nat} (h : PI P) (hk : P 1 ≤ 2) : lN (SV P (P 20) (P 21) (P 0) (P 1 + 1) 5 5) - lN (SV P (P 20) (P 21) (P 0) (P 1) 5 5) = iN (prV P) ∧ -297000000000000000 ≤ prV P ∧ prV P ≤ 297000000000000000 := by
  have a := SVB h (d := P 0) (j := P 1) (a := 5) (b := 5) h.2.2.2.2.2.2.1 h.2.2.2.2.2.2.2 (by omega) (by omega) (by omega)
  have b := SVB h (d := P 0) (j := P 1 + 1) (a := 5) (b := 5) h.2.2.2.2.2.2.1 h.2.2.2.2.2.2.2 (by omega) (by omega) (by omega)
  refine ⟨lN_dif b a, ?_⟩
  unfold prV
  omega
theorem prR_e {P : Nat → Nat} (h : PI P) (hk : P 1 ≤ 2) : lN (VR P (P 0) (P 1 + 1)) - lN (VR P (P 0) (P 1)) = iN (prR P) ∧ -1496880 ≤ prR P ∧ prR P ≤ 1496880 := by
  have a := VR3 h (d := P 0) (j := P 1) (by omega) (by omega)
  have b := VR3 h (d := P 0) (j := P 1 + 1) (by omega) (by omega)
  refine ⟨lN_dif (by omega) (by omega), ?_⟩
  unfold prR
  omega
def prO (P : Nat → Nat) (vb : Int32) (un : Int64) : Int64 × Int64 := if vb = 0 then frO (¬ P 1 = 3) (prR P) 5040 un else frO (¬ P 1 = 3) (prV P) 1000000000000000 un

set_option maxHeartbeats 4000000 in
set_option maxRecDepth 100000 in
theorem c_X6_isSituation (l : Launch) (dC : Nat → ClassId) (dI : Nat → Nat → Nat) (cI cL : ClassId) (m0 m1 m2 m3 m4 m5 m6 m7 m8 m9 m10 m11 m12 : Nat) (bm ty sp fa fp kn lf yo ol : Nat) (un hh : Int64) (dr : Int32) (P : Nat → Nat) (a b v w : Int32)  : Met l yX6_isSituation (kw yX6_isSituation cX6_isSituation 5 (some .boolean)) (kR 1 22) (kPr (dC, dI) [.ref m0, .int a, .int b, .int v, .int w] [(m0, .inr (6, [.ref m1, .ref m2, .int (nI bm), .long un, .ref m3, .int (nI ty), .ref m4, .int (nI sp), .int (nI fa), .int (nI fp), .int (nI kn), .ref m5, .ref m6, .ref m7, .ref m8, .ref m9, .int dr, .ref m10, .ref m11, .int (nI lf), .int (nI yo), .int (nI ol), .ref m12, .long hh])), (m1, .inl (cI, 22, .inl (fun zz => nI (P zz))))] [(cI, .int)]) (vp_Si (fun res : Int32 => res = b2i (siO P a b v w))) 0 0 kNo := by
  refine kmet (by decide) ?_
  intro p e s m args below meth c Y hr hlocks hin hv
  obtain ⟨rfl, hP, hK, hZ⟩ := kinR hv
  have hS : va_S kNo s.heap s.heap [] := va_S.rf
  have hx := Y.1
  have hb := Y.2.1
  have hml := Y.2.2.1
  have hown := Y.2.2.2.1
  have hts := Y.2.2.2.2
  have hl := lv_entry ([.ref m0, .int a, .int b, .int v, .int w]) (n := 5) (Nat.le_of_ble_eq_true rfl)
  rw [lg_entry_eq]
  generalize (lg_sl ([.ref m0, .int a, .int b, .int v, .int w]) ++ List.replicate (5 - (lg_sl ([.ref m0, .int a, .int b, .int v, .int w])).length) Slot.unset).toArray = ls at hl ⊢
  have hl : lv_has ls 5 [(0, .ref m0), (1, .int a), (2, .int b), (3, .int v), (4, .int w)] := hl
  refine lv_iload_n hx hb dX6_isSituation_0 rfl (lv_at hl 1 rfl) ?_
  refine lv_iconst (v := nI 1) hx hb dX6_isSituation_1 (by decide) ?_
  refine lv_aload_n hx hb dX6_isSituation_2 rfl (lv_at hl 0 rfl) ?_
  refine kVi (As := []) (rest := [.int (nI 1), .int a]) Y m_X6_n (c_X6_n l dC dI cI cL m0 m1 m2 m3 m4 m5 m6 m7 m8 m9 m10 m11 m12 bm ty sp fa fp kn lf yo ol un hh dr P ) qm_X6_123 (kpV (ci := 6) hK hP hZ hS [0, 1] [0] rfl rfl 0 rfl rfl rfl) rfl hl.1 rfl (Nat.le_of_ble_eq_true rfl) dX6_isSituation_3 ⟨Nat.le_of_ble_eq_true rfl, Nat.le_of_ble_eq_true rfl⟩ ⟨Nat.zero_le _, Nat.zero_le _⟩ (fun r3 hr3 => ?_)
  obtain rfl : r3 = nI (P 0) := hr3
  refine lv_iconst (v := nI 1) hx hb dX6_isSituation_6 (by decide) ?_
  refine ri_add hx hb dX6_isSituation_7 ?_
  refine kSi (As := [.int a, .int (nI 1), .int (nI ((P 0) + 1))]) (rest := []) Y m_X6_in (c_X6_in l dC dI a (nI 1) (nI ((P 0) + 1)) ) qm_X6_69 (kpS hK hP hZ hS [] [] rfl rfl) rfl hl.1 rfl (Nat.le_of_ble_eq_true rfl) dX6_isSituation_8 ⟨Nat.le_of_ble_eq_true rfl, Nat.le_of_ble_eq_true rfl⟩ ⟨Nat.zero_le _, Nat.zero_le _⟩ (fun r8 hr8 => ?_)
  obtain rfl : r8 = b2i ((nI 1) ≤ a ∧ a ≤ (nI ((P 0) + 1))) := hr8
  refine ri_beq (tgt := 49) hx hb dX6_isSituation_11 (by decide) (fun c11 => ?_) (fun c11 => ?_)
  · refine lv_iconst (v := nI 0) hx hb dX6_isSituation_49 (by decide) ?_
    exact krz (v := nI 0) Y hr hlocks (by decide) (b2i_f (fun q => c11 q.1.1)).symm dX6_isSituation_50
  · refine lv_iload_n hx hb dX6_isSituation_14 rfl (lv_at hl 2 rfl) ?_
    refine lv_iconst (v := nI 0) hx hb dX6_isSituation_15 (by decide) ?_
    refine lv_aload_n hx hb dX6_isSituation_16 rfl (lv_at hl 0 rfl) ?_
    refine kVi (As := []) (rest := [.int (nI 0), .int b]) Y m_X6_k (c_X6_k l dC dI cI cL m0 m1 m2 m3 m4 m5 m6 m7 m8 m9 m10 m11 m12 bm ty sp fa fp kn lf yo ol un hh dr P ) qm_X6_184 (kpV (ci := 6) hK hP hZ hS [0, 1] [0] rfl rfl 0 rfl rfl rfl) rfl hl.1 rfl (Nat.le_of_ble_eq_true rfl) dX6_isSituation_17 ⟨Nat.le_of_ble_eq_true rfl, Nat.le_of_ble_eq_true rfl⟩ ⟨Nat.zero_le _, Nat.zero_le _⟩ (fun r17 hr17 => ?_)
    obtain rfl : r17 = nI (P 1) := hr17
    refine kSi (As := [.int b, .int (nI 0), .int (nI (P 1))]) (rest := []) Y m_X6_in (c_X6_in l dC dI b (nI 0) (nI (P 1)) ) qm_X6_69 (kpS hK hP hZ hS [] [] rfl rfl) rfl hl.1 rfl (Nat.le_of_ble_eq_true rfl) dX6_isSituation_20 ⟨Nat.le_of_ble_eq_true rfl, Nat.le_of_ble_eq_true rfl⟩ ⟨Nat.zero_le _, Nat.zero_le _⟩ (fun r20 hr20 => ?_)
    obtain rfl : r20 = b2i ((nI 0) ≤ b ∧ b ≤ (nI (P 1))) := hr20
    refine ri_beq (tgt := 49) hx hb dX6_isSituation_23 (by decide) (fun c23 => ?_) (fun c23 => ?_)
    · refine lv_iconst (v := nI 0) hx hb dX6_isSituation_49 (by decide) ?_
      exact krz (v := nI 0) Y hr hlocks (by decide) (b2i_f (fun q => c23 q.1.2)).symm dX6_isSituation_50
    · refine lv_iload_n hx hb dX6_isSituation_26 rfl (lv_at hl 3 rfl) ?_
      refine lv_iconst (v := nI 0) hx hb dX6_isSituation_27 (by decide) ?_
      refine lv_iconst (v := nI 5) hx hb dX6_isSituation_28 (by decide) ?_
      refine kSi (As := [.int v, .int (nI 0), .int (nI 5)]) (rest := []) Y m_X6_in (c_X6_in l dC dI v (nI 0) (nI 5) ) qm_X6_69 (kpS hK hP hZ hS [] [] rfl rfl) rfl hl.1 rfl (Nat.le_of_ble_eq_true rfl) dX6_isSituation_29 ⟨Nat.le_of_ble_eq_true rfl, Nat.le_of_ble_eq_true rfl⟩ ⟨Nat.zero_le _, Nat.zero_le _⟩ (fun r29 hr29 => ?_)
      obtain rfl : r29 = b2i ((nI 0) ≤ v ∧ v ≤ (nI 5)) := hr29
      refine ri_beq (tgt := 49) hx hb dX6_isSituation_32 (by decide) (fun c32 => ?_) (fun c32 => ?_)
      · refine lv_iconst (v := nI 0) hx hb dX6_isSituation_49 (by decide) ?_
        exact krz (v := nI 0) Y hr hlocks (by decide) (b2i_f (fun q => c32 q.2.1)).symm dX6_isSituation_50
      · refine lv_iload hx hb dX6_isSituation_35 (lv_at hl 4 rfl) ?_
        refine lv_iconst (v := nI 0) hx hb dX6_isSituation_37 (by decide) ?_
        refine lv_iconst (v := nI 5) hx hb dX6_isSituation_38 (by decide) ?_
        refine kSi (As := [.int w, .int (nI 0), .int (nI 5)]) (rest := []) Y m_X6_in (c_X6_in l dC dI w (nI 0) (nI 5) ) qm_X6_69 (kpS hK hP hZ hS [] [] rfl rfl) rfl hl.1 rfl (Nat.le_of_ble_eq_true rfl) dX6_isSituation_39 ⟨Nat.le_of_ble_eq_true rfl, Nat.le_of_ble_eq_true rfl⟩ ⟨Nat.zero_le _, Nat.zero_le _⟩ (fun r39 hr39 => ?_)
        obtain rfl : r39 = b2i ((nI 0) ≤ w ∧ w ≤ (nI 5)) := hr39
        refine ri_beq (tgt := 49) hx hb dX6_isSituation_42 (by decide) (fun c42 => ?_) (fun c42 => ?_)
        · refine lv_iconst (v := nI 0) hx hb dX6_isSituation_49 (by decide) ?_
          exact krz (v := nI 0) Y hr hlocks (by decide) (b2i_f (fun q => c42 q.2.2)).symm dX6_isSituation_50
        · refine lv_iconst (v := nI 1) hx hb dX6_isSituation_45 (by decide) ?_
          refine lv_goto (tgt := 50) hx hb dX6_isSituation_46 (by decide) ?_
          exact krz (v := nI 1) Y hr hlocks (by decide) (b2i_t ⟨⟨c11, c23⟩, ⟨c32, c42⟩⟩).symm dX6_isSituation_50
set_option maxHeartbeats 4000000 in
set_option maxRecDepth 100000 in
theorem c_X6_situation (l : Launch) (dC : Nat → ClassId) (dI : Nat → Nat → Nat) (sz : Nat) (cI cL : ClassId) (m0 m1 m2 m3 m4 m5 m6 m7 m8 m9 m10 m11 m12 : Nat) (bm ty sp fa fp kn lf yo ol : Nat) (un hh : Int64) (dr : Int32) (P ww rv sy gz : Nat → Nat) (a b v w : Int32) (hPI : PI P) (hKI : KI P kn ww rv sy gz) : Met l yX6_situation (kw yX6_situation cX6_situation 5 (some .long)) (kR 5 127) (kPq (dC, dI) [.ref m0, .int a, .int b, .int v, .int w] sz [(m0, .inr (6, [.ref m1, .ref m2, .int (nI bm), .long un, .ref m3, .int (nI ty), .ref m4, .int (nI sp), .int (nI fa), .int (nI fp), .int (nI kn), .ref m5, .ref m6, .ref m7, .ref m8, .ref m9, .int dr, .ref m10, .ref m11, .int (nI lf), .int (nI yo), .int (nI ol), .ref m12, .long hh])), (m1, .inl (cI, 22, .inl (fun zz => nI (P zz)))), (m5, .inl (cL, 72, .inr (.inl (fun zz => lN (ww zz))))), (m6, .inl (cL, 40, .inr (.inl (fun zz => lN (rv zz))))), (m7, .inl (cL, 1152, .inr (.inl (fun zz => lN (sy zz))))), (m8, .inl (cL, 1152, .inr (.inl (fun zz => lN (gz zz)))))] [(cI, .int), (cL, .long)]) (va_Ql (fun (res : Int64) (u : Int64 × Nat × (Nat → Nat) × (Nat → Nat) × (Nat → Nat) × (Nat → Nat)) => (res, u.1) = frO (siO P a b v w) ((SV P (P 20) (P 21) (P 0 + 1 - nO a) (nO b) (nO v) (nO w) : Nat) : Int) 1000000000000000 un ∧ KI P u.2.1 u.2.2.1 u.2.2.2.1 u.2.2.2.2.1 u.2.2.2.2.2 ∧ (siO P a b v w → u.2.1 = 1)) (fun u : Int64 × Nat × (Nat → Nat) × (Nat → Nat) × (Nat → Nat) × (Nat → Nat) => kB (dC, dI) [(cI, .int), (cL, .long)] (va_A [(m0, .inr (6, [.ref m1, .ref m2, .int (nI bm), .long un, .ref m3, .int (nI ty), .ref m4, .int (nI sp), .int (nI fa), .int (nI fp), .int (nI kn), .ref m5, .ref m6, .ref m7, .ref m8, .ref m9, .int dr, .ref m10, .ref m11, .int (nI lf), .int (nI yo), .int (nI ol), .ref m12, .long hh])), (m1, .inl (cI, 22, .inl (fun zz => nI (P zz)))), (m5, .inl (cL, 72, .inr (.inl (fun zz => lN (ww zz))))), (m6, .inl (cL, 40, .inr (.inl (fun zz => lN (rv zz))))), (m7, .inl (cL, 1152, .inr (.inl (fun zz => lN (sy zz))))), (m8, .inl (cL, 1152, .inr (.inl (fun zz => lN (gz zz)))))] sz) ([(m0, .inr (6, [.ref m1, .ref m2, .int (nI bm), .long u.1, .ref m3, .int (nI ty), .ref m4, .int (nI sp), .int (nI fa), .int (nI fp), .int (nI u.2.1), .ref m5, .ref m6, .ref m7, .ref m8, .ref m9, .int dr, .ref m10, .ref m11, .int (nI lf), .int (nI yo), .int (nI ol), .ref m12, .long hh])), (m1, .inl (cI, 22, .inl (fun zz => nI (P zz)))), (m5, .inl (cL, 72, .inr (.inl (fun zz => lN (u.2.2.1 zz))))), (m6, .inl (cL, 40, .inr (.inl (fun zz => lN (u.2.2.2.1 zz))))), (m7, .inl (cL, 1152, .inr (.inl (fun zz => lN (u.2.2.2.2.1 zz))))), (m8, .inl (cL, 1152, .inr (.inl (fun zz => lN (u.2.2.2.2.2 zz)))))])) (va_A [(m0, .inr (6, [.ref m1, .ref m2, .int (nI bm), .long un, .ref m3, .int (nI ty), .ref m4, .int (nI sp), .int (nI fa), .int (nI fp), .int (nI kn), .ref m5, .ref m6, .ref m7, .ref m8, .ref m9, .int dr, .ref m10, .ref m11, .int (nI lf), .int (nI yo), .int (nI ol), .ref m12, .long hh])), (m1, .inl (cI, 22, .inl (fun zz => nI (P zz)))), (m5, .inl (cL, 72, .inr (.inl (fun zz => lN (ww zz))))), (m6, .inl (cL, 40, .inr (.inl (fun zz => lN (rv zz))))), (m7, .inl (cL, 1152, .inr (.inl (fun zz => lN (sy zz))))), (m8, .inl (cL, 1152, .inr (.inl (fun zz => lN (gz zz)))))] sz)) 0 0 (va_A [(m0, .inr (6, [.ref m1, .ref m2, .int (nI bm), .long un, .ref m3, .int (nI ty), .ref m4, .int (nI sp), .int (nI fa), .int (nI fp), .int (nI kn), .ref m5, .ref m6, .ref m7, .ref m8, .ref m9, .int dr, .ref m10, .ref m11, .int (nI lf), .int (nI yo), .int (nI ol), .ref m12, .long hh])), (m1, .inl (cI, 22, .inl (fun zz => nI (P zz)))), (m5, .inl (cL, 72, .inr (.inl (fun zz => lN (ww zz))))), (m6, .inl (cL, 40, .inr (.inl (fun zz => lN (rv zz))))), (m7, .inl (cL, 1152, .inr (.inl (fun zz => lN (sy zz))))), (m8, .inl (cL, 1152, .inr (.inl (fun zz => lN (gz zz)))))] sz) := by
  refine kmet (by decide) ?_
  intro p e s m args below meth c Y hr hlocks hin hv
  obtain ⟨rfl, A, hAe, hsz, hP, hK, hD, hZ, hA⟩ := kinQ hv
  rw [hAe]
  have hS : va_S A s.heap s.heap [] := va_S.rf
  have hx := Y.1
  have hb := Y.2.1
  have hml := Y.2.2.1
  have hown := Y.2.2.2.1
  have hts := Y.2.2.2.2
  have hl := lv_entry ([.ref m0, .int a, .int b, .int v, .int w]) (n := 5) (Nat.le_of_ble_eq_true rfl)
  rw [lg_entry_eq]
  generalize (lg_sl ([.ref m0, .int a, .int b, .int v, .int w]) ++ List.replicate (5 - (lg_sl ([.ref m0, .int a, .int b, .int v, .int w])).length) Slot.unset).toArray = ls at hl ⊢
  have hl : lv_has ls 5 [(0, .ref m0), (1, .int a), (2, .int b), (3, .int v), (4, .int w)] := hl
  have hp0 := hPI.1
  have hp1 := hPI.2.1
  have hp2 := hPI.2.2.1
  have hc1 := hPI.2.2.2.2.2.2.1
  have hc2 := hPI.2.2.2.2.2.2.2
  refine lv_aload_n hx hb dX6_situation_0 rfl (lv_at hl 0 rfl) ?_
  refine lv_iload_n hx hb dX6_situation_1 rfl (lv_at hl 1 rfl) ?_
  refine lv_iload_n hx hb dX6_situation_2 rfl (lv_at hl 2 rfl) ?_
  refine lv_iload_n hx hb dX6_situation_3 rfl (lv_at hl 3 rfl) ?_
  refine lv_iload hx hb dX6_situation_4 (lv_at hl 4 rfl) ?_
  refine kVi (As := [.int a, .int b, .int v, .int w]) (rest := []) Y m_X6_isSituation (c_X6_isSituation l dC dI cI cL m0 m1 m2 m3 m4 m5 m6 m7 m8 m9 m10 m11 m12 bm ty sp fa fp kn lf yo ol un hh dr P a b v w ) qm_X6_199 (kpV (ci := 6) hK hP hZ hS [0, 1] [0] rfl rfl 0 rfl rfl rfl) rfl hl.1 rfl (Nat.le_of_ble_eq_true rfl) dX6_situation_6 ⟨Nat.le_of_ble_eq_true rfl, Nat.le_of_ble_eq_true rfl⟩ ⟨Nat.zero_le _, Nat.zero_le _⟩ (fun r6 hr6 => ?_)
  obtain rfl : r6 = b2i (siO P a b v w) := hr6
  refine ri_bne (tgt := 16) hx hb dX6_situation_9 (by decide) (fun c9 => ?_) (fun c9 => ?_)
  · obtain ⟨xa, rfl, hxa1, hxa2⟩ := in_n (by decide) (by omega) c9.1.1
    obtain ⟨xb, rfl, hxb1, hxb2⟩ := in_n (by decide) (by omega) c9.1.2
    obtain ⟨xv, rfl, hxv1, hxv2⟩ := in_n (by decide) (by decide) c9.2.1
    obtain ⟨xw, rfl, hxw1, hxw2⟩ := in_n (by decide) (by decide) c9.2.2
    refine lv_aload_n hx hb dX6_situation_16 rfl (lv_at hl 0 rfl) ?_
    refine kQv (As := []) (rest := []) (wr := []) Y m_X6_knows (c_X6_knows l dC dI _ cI cL m0 m1 m2 m3 m4 m5 m6 m7 m8 m9 m10 m11 m12 bm ty sp fa fp kn lf yo ol un hh dr P ww rv sy gz hPI hKI) qm_X6_178 hP hD hS hA [0, 1, 2, 3, 4, 5] [] rfl rfl (by decide) (by decide) (kqV (ci := 6) hK hP hD hZ hS hA [0, 1, 2, 3, 4, 5] [0, 1] rfl (by decide) rfl 0 rfl rfl rfl) rfl hl.1 rfl (Nat.le_of_ble_eq_true rfl) dX6_situation_17 ⟨Nat.le_of_ble_eq_true rfl, Nat.le_of_ble_eq_true rfl⟩ ⟨Nat.zero_le _, Nat.zero_le _⟩ (fun u17 H locs hr17 hP hD hS => ?_)
    obtain ⟨ww2_17, rv2_17, sy2_17, gz2_17⟩ := u17
    have hP : va_P (dC, dI) vwCl [(m0, .inr (6, [.ref m1, .ref m2, .int (nI bm), .long un, .ref m3, .int (nI ty), .ref m4, .int (nI sp), .int (nI fa), .int (nI fp), .int (nI 1), .ref m5, .ref m6, .ref m7, .ref m8, .ref m9, .int dr, .ref m10, .ref m11, .int (nI lf), .int (nI yo), .int (nI ol), .ref m12, .long hh])), (m1, .inl (cI, 22, .inl (fun zz => nI (P zz)))), (m5, .inl (cL, 72, .inr (.inl (fun zz => lN (ww2_17 zz))))), (m6, .inl (cL, 40, .inr (.inl (fun zz => lN (rv2_17 zz))))), (m7, .inl (cL, 1152, .inr (.inl (fun zz => lN (sy2_17 zz))))), (m8, .inl (cL, 1152, .inr (.inl (fun zz => lN (gz2_17 zz)))))] H := hP
    have hD : va_D A [(m0, .inr (6, [.ref m1, .ref m2, .int (nI bm), .long un, .ref m3, .int (nI ty), .ref m4, .int (nI sp), .int (nI fa), .int (nI fp), .int (nI 1), .ref m5, .ref m6, .ref m7, .ref m8, .ref m9, .int dr, .ref m10, .ref m11, .int (nI lf), .int (nI yo), .int (nI ol), .ref m12, .long hh])), (m1, .inl (cI, 22, .inl (fun zz => nI (P zz)))), (m5, .inl (cL, 72, .inr (.inl (fun zz => lN (ww2_17 zz))))), (m6, .inl (cL, 40, .inr (.inl (fun zz => lN (rv2_17 zz))))), (m7, .inl (cL, 1152, .inr (.inl (fun zz => lN (sy2_17 zz))))), (m8, .inl (cL, 1152, .inr (.inl (fun zz => lN (gz2_17 zz)))))] := hD
    have hr17 : MR P ww2_17 rv2_17 ∧ MZ P sy2_17 gz2_17 := hr17
    refine lv_aload_n hx hb dX6_situation_20 rfl (lv_at hl 0 rfl) ?_
    refine lv_aload_n hx hb dX6_situation_21 rfl (lv_at hl 0 rfl) ?_
    refine va_get (D := (dC, dI)) (ci := 6) (v := .ref m7) (C := RX6) (T := TX6) (N := 24) hx hb hts inlX6 hown hK hP 0 rfl rfl 13 (by decide) (hts _ qf_X6_33) (fun _ h9 => h9) rfl dX6_situation_22 ?_
    refine lv_iload_n hx hb dX6_situation_25 rfl (lv_at hl 1 rfl) ?_
    refine lv_iload_n hx hb dX6_situation_26 rfl (lv_at hl 2 rfl) ?_
    refine lv_iload_n hx hb dX6_situation_27 rfl (lv_at hl 3 rfl) ?_
    refine lv_iload hx hb dX6_situation_28 (lv_at hl 4 rfl) ?_
    refine kSi (As := [.int (nI xa), .int (nI xb), .int (nI xv), .int (nI xw)]) (rest := [.ref m7, .ref m0]) Y m_X6_spotOf (c_X6_spotOf l dC dI xa xb xv xw (by omega)) qm_X6_148 (kpS hK hP hZ hS [] [] rfl rfl) rfl hl.1 rfl (Nat.le_of_ble_eq_true rfl) dX6_situation_30 ⟨Nat.le_of_ble_eq_true rfl, Nat.le_of_ble_eq_true rfl⟩ ⟨Nat.zero_le _, Nat.zero_le _⟩ (fun r30 hr30 => ?_)
    obtain rfl : r30 = nI (pB xa xb xv xw) := hr30
    refine rm_ald hx hb hK hP 4 1 (F := sy2_17) rfl rfl dX6_situation_33 (by decide) (pB_lt (by omega) (by omega) (by omega) (by omega)) ?_
    refine rl_set (x' := iN ((SV P (P 20) (P 21) (P 0 + 1 - xa) xb xv xw : Nat) : Int)) ((congrArg lN (hr17.2.1 xa xb xv xw (by omega) (by omega) (by omega) (by omega) (by omega) (by omega))).trans (lN_iN _)) ?_
    have hwo := SVBx hPI hc1 hc2 (P 0 + 1 - xa) xb xv xw (by omega) (by omega) (by omega)
    refine lv_ldc2 (v := lN 1000000000000000) hx hb hown (hts _ ql_X6_146) dX6_situation_34 ?_
    refine kQl (As := [.long (iN ((SV P (P 20) (P 21) (P 0 + 1 - xa) xb xv xw : Nat) : Int)), .long (lN 1000000000000000)]) (rest := []) (wr := [(m1, .inl (cI, 22, .inl (fun zz => nI (P zz)))), (m5, .inl (cL, 72, .inr (.inl (fun zz => lN (ww2_17 zz))))), (m6, .inl (cL, 40, .inr (.inl (fun zz => lN (rv2_17 zz))))), (m7, .inl (cL, 1152, .inr (.inl (fun zz => lN (sy2_17 zz))))), (m8, .inl (cL, 1152, .inr (.inl (fun zz => lN (gz2_17 zz)))))]) Y m_X6_told (c_X6_told l dC dI H.size cI cL m0 m1 m2 m3 m4 m5 m6 m7 m8 m9 m10 m11 m12 bm ty sp fa fp 1 lf yo ol un hh dr ((SV P (P 20) (P 21) (P 0 + 1 - xa) xb xv xw : Nat) : Int) 1000000000000000 (by omega) (by omega) (by omega) (by omega)) qm_X6_181 hP hD hS hA [0] [1, 2, 3, 4, 5] rfl rfl (by decide) (by decide) (kqV (ci := 6) hK hP hD hZ hS hA [0] [] rfl (by decide) rfl 0 rfl rfl rfl) rfl hl.1 rfl (Nat.le_of_ble_eq_true rfl) dX6_situation_37 ⟨Nat.le_of_ble_eq_true rfl, Nat.le_of_ble_eq_true rfl⟩ ⟨Nat.zero_le _, Nat.zero_le _⟩ (fun r37 u37 H locs hr37 hP hD hS => ?_)
    have hP : va_P (dC, dI) vwCl [(m1, .inl (cI, 22, .inl (fun zz => nI (P zz)))), (m5, .inl (cL, 72, .inr (.inl (fun zz => lN (ww2_17 zz))))), (m6, .inl (cL, 40, .inr (.inl (fun zz => lN (rv2_17 zz))))), (m7, .inl (cL, 1152, .inr (.inl (fun zz => lN (sy2_17 zz))))), (m8, .inl (cL, 1152, .inr (.inl (fun zz => lN (gz2_17 zz))))), (m0, .inr (6, [.ref m1, .ref m2, .int (nI bm), .long (lN (FRd ((SV P (P 20) (P 21) (P 0 + 1 - xa) xb xv xw : Nat) : Int) 1000000000000000)), .ref m3, .int (nI ty), .ref m4, .int (nI sp), .int (nI fa), .int (nI fp), .int (nI 1), .ref m5, .ref m6, .ref m7, .ref m8, .ref m9, .int dr, .ref m10, .ref m11, .int (nI lf), .int (nI yo), .int (nI ol), .ref m12, .long hh]))] H := hP
    have hD : va_D A [(m1, .inl (cI, 22, .inl (fun zz => nI (P zz)))), (m5, .inl (cL, 72, .inr (.inl (fun zz => lN (ww2_17 zz))))), (m6, .inl (cL, 40, .inr (.inl (fun zz => lN (rv2_17 zz))))), (m7, .inl (cL, 1152, .inr (.inl (fun zz => lN (sy2_17 zz))))), (m8, .inl (cL, 1152, .inr (.inl (fun zz => lN (gz2_17 zz))))), (m0, .inr (6, [.ref m1, .ref m2, .int (nI bm), .long (lN (FRd ((SV P (P 20) (P 21) (P 0 + 1 - xa) xb xv xw : Nat) : Int) 1000000000000000)), .ref m3, .int (nI ty), .ref m4, .int (nI sp), .int (nI fa), .int (nI fp), .int (nI 1), .ref m5, .ref m6, .ref m7, .ref m8, .ref m9, .int dr, .ref m10, .ref m11, .int (nI lf), .int (nI yo), .int (nI ol), .ref m12, .long hh]))] := hD
    obtain rfl : r37 = iN (FRn ((SV P (P 20) (P 21) (P 0 + 1 - xa) xb xv xw : Nat) : Int) 1000000000000000) := hr37
    exact kql (w1 := (fun u : Int64 × Nat × (Nat → Nat) × (Nat → Nat) × (Nat → Nat) × (Nat → Nat) => [(m0, .inr (6, [.ref m1, .ref m2, .int (nI bm), .long u.1, .ref m3, .int (nI ty), .ref m4, .int (nI sp), .int (nI fa), .int (nI fp), .int (nI u.2.1), .ref m5, .ref m6, .ref m7, .ref m8, .ref m9, .int dr, .ref m10, .ref m11, .int (nI lf), .int (nI yo), .int (nI ol), .ref m12, .long hh])), (m1, .inl (cI, 22, .inl (fun zz => nI (P zz)))), (m5, .inl (cL, 72, .inr (.inl (fun zz => lN (u.2.2.1 zz))))), (m6, .inl (cL, 40, .inr (.inl (fun zz => lN (u.2.2.2.1 zz))))), (m7, .inl (cL, 1152, .inr (.inl (fun zz => lN (u.2.2.2.2.1 zz))))), (m8, .inl (cL, 1152, .inr (.inl (fun zz => lN (u.2.2.2.2.2 zz)))))])) (v := iN (FRn ((SV P (P 20) (P 21) (P 0 + 1 - xa) xb xv xw : Nat) : Int) 1000000000000000)) Y hr hlocks hK hP hD hS [5, 0, 1, 2, 3, 4] (by decide) (lN (FRd ((SV P (P 20) (P 21) (P 0 + 1 - xa) xb xv xw : Nat) : Int) 1000000000000000), 1, ww2_17, rv2_17, sy2_17, gz2_17) rfl ⟨by rw [nO_n (n := xa) (by omega), nO_n (n := xb) (by omega), nO_n (n := xv) (by omega), nO_n (n := xw) (by omega)]; exact frO_t c9, KI_1 hr17.1 hr17.2, fun _ => rfl⟩ dX6_situation_40
  · refine lv_ldc2 (v := (-4000000000000000000)) hx hb hown (hts _ ql_X6_176) dX6_situation_12 ?_
    exact kql (w1 := (fun u : Int64 × Nat × (Nat → Nat) × (Nat → Nat) × (Nat → Nat) × (Nat → Nat) => [(m0, .inr (6, [.ref m1, .ref m2, .int (nI bm), .long u.1, .ref m3, .int (nI ty), .ref m4, .int (nI sp), .int (nI fa), .int (nI fp), .int (nI u.2.1), .ref m5, .ref m6, .ref m7, .ref m8, .ref m9, .int dr, .ref m10, .ref m11, .int (nI lf), .int (nI yo), .int (nI ol), .ref m12, .long hh])), (m1, .inl (cI, 22, .inl (fun zz => nI (P zz)))), (m5, .inl (cL, 72, .inr (.inl (fun zz => lN (u.2.2.1 zz))))), (m6, .inl (cL, 40, .inr (.inl (fun zz => lN (u.2.2.2.1 zz))))), (m7, .inl (cL, 1152, .inr (.inl (fun zz => lN (u.2.2.2.2.1 zz))))), (m8, .inl (cL, 1152, .inr (.inl (fun zz => lN (u.2.2.2.2.2 zz)))))])) (v := (-4000000000000000000)) Y hr hlocks hK hP hD hS [0, 1, 2, 3, 4, 5] (by decide) (un, kn, ww, rv, sy, gz) rfl ⟨frO_f c9, hKI, fun q => absurd q c9⟩ dX6_situation_15
