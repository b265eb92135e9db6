/-- the model's rank tables -/
def VMp (P : Nat → Nat) (d j i : Nat) (k : Nat) : Nat := smN (fun r => max (VR P d j) (Wo P i r + VR P d (j - 1))) k
theorem VMp_s {P : Nat → Nat} {d j i r sm x : Nat} (h : 1 ≤ r) (hs : sm = VMp P d j i (r - 1)) (hx : x = max (VR P d j) (Wo P i r + VR P d (j - 1))) : sm + x = VMp P d j i (r + 1 - 1) := by
  obtain ⟨k, rfl⟩ : ∃ k, r = k + 1 := ⟨r - 1, by omega⟩
  rw [hs, hx]; rfl
def MW (P ww : Nat → Nat) (i r : Nat) : Prop := ∀ i' r' : Nat, 1 ≤ i' → i' ≤ P 0 → 1 ≤ r' → r' ≤ i' → (i < i' ∨ (i' = i ∧ r' < r)) → ww (8 * i' + r') = Wo P i' r'
def MV (P rv : Nat → Nat) (i j : Nat) : Prop := ∀ i' j' : Nat, 1 ≤ i' → i' ≤ P 0 + 1 → j' ≤ 3 → (i < i' ∨ (i' = i ∧ j' < j)) → rv (4 * i' + j') = VR P (P 0 + 1 - i') j'
def MR (P ww rv : Nat → Nat) : Prop := (∀ i r : Nat, 1 ≤ i → i ≤ P 0 → 1 ≤ r → r ≤ i → ww (8 * i + r) = Wo P i r) ∧ (∀ i j : Nat, 1 ≤ i → i ≤ P 0 + 1 → j ≤ 3 → rv (4 * i + j) = VR P (P 0 + 1 - i) j)
theorem MW_0 {P ww : Nat → Nat} : MW P ww (P 0 + 1) 1 := fun i' r' a b c d e => by omega
theorem MV_0 {P rv : Nat → Nat} : MV P rv (P 0 + 1) 0 := fun i' r' a b c e => by omega
theorem MW_put {P ww : Nat → Nat} {i r v : Nat} (hn : P 0 ≤ 7) (h : MW P ww i r) (h4 : r ≤ i) (hi : i ≤ P 0) (hv : v = Wo P i r) : MW P (updN ww (8 * i + r) v) i (r + 1) := fun i' r' a b c d e => by
  unfold updN
  split
  · rename_i q
    obtain ⟨rfl, rfl⟩ : i' = i ∧ r' = r := by omega
    exact hv
  · exact h i' r' a b c d (by omega)
theorem MW_next {P ww : Nat → Nat} {i r : Nat} (h : MW P ww i r) (hr : i < r ∨ P 0 < i) : MW P ww (i - 1) 1 := fun i' r' a b c d e => h i' r' a b c d (by omega)
theorem MV_put {P rv : Nat → Nat} {i j v : Nat} (h : MV P rv i j) (h4 : j ≤ 3) (hv : v = VR P (P 0 + 1 - i) j) : MV P (updN rv (4 * i + j) v) i (j + 1) := fun i' j' a b c e => by
  unfold updN
  split
  · rename_i q
    obtain ⟨rfl, rfl⟩ : i' = i ∧ j' = j := by omega
    exact hv
  · exact h i' j' a b c (by omega)
theorem MV_next {P rv : Nat → Nat} {i j : Nat} (h : MV P rv i j) (hr : 3 < j) : MV P rv (i - 1) 0 := fun i' j' a b c e => h i' j' a b c (by omega)
theorem MR_e {P ww rv : Nat → Nat} (h1 : MW P ww 0 1) (h2 : MV P rv 0 0) : MR P ww rv := ⟨fun i r a b c d => h1 i r a b c d (by omega), fun i j a b c => h2 i j a b c (by omega)⟩
theorem cut_t {a b : Nat} (ha : a < 4611686018427387904) (hb : b < 4611686018427387904) (h : lN 0 < lN a - lN b) : lN a - lN b = lN (a - b) := by
  rw [lN_iN, lN_iN, lN_iN, iN_sub (by omega) (by omega) (by omega) (by omega), iN_lt (by omega) (by omega) (by omega) (by omega)] at h
  rw [lN_iN, lN_iN, lN_iN, iN_sub (by omega) (by omega) (by omega) (by omega)]
  exact congrArg iN (by omega)
theorem cut_f {a b : Nat} (ha : a < 4611686018427387904) (hb : b < 4611686018427387904) (h : ¬ lN 0 < lN a - lN b) : lN 0 = lN (a - b) := by
  rw [lN_iN, lN_iN, lN_iN, iN_sub (by omega) (by omega) (by omega) (by omega), iN_lt (by omega) (by omega) (by omega) (by omega)] at h
  exact congrArg lN (by omega)
theorem VR_t {P : Nat → Nat} {i j : Nat} (h1 : 1 ≤ i) (h2 : i ≤ P 0) (h3 : 1 ≤ j) : VMp P (P 0 - i) j i i / i - 5040 * P 2 = VR P (P 0 + 1 - i) j := by
  rw [show P 0 + 1 - i = (P 0 - i) + 1 by omega, VR_s P _ h3, show P 0 - (P 0 - i) = i by omega]; rfl
theorem VR_n {P : Nat → Nat} {i j : Nat} (h : j = 0 ∨ P 0 < i) : 0 = VR P (P 0 + 1 - i) j := by
  rcases h with rfl | h
  · rw [VR_0]
  · rw [show P 0 + 1 - i = 0 by omega]; rfl
theorem VR3 {P : Nat → Nat} (h : PI P) {d j : Nat} (hd : d ≤ P 0) (hj : j ≤ 3) : VR P d j ≤ 1496880 := by
  have := VR_le h d j hd; omega
def leadG (f : Nat → Bool) : Nat → Nat → Nat
  | 0, r => r
  | k + 1, r => if f (r + 1) then leadG f k (r + 1) else r
def chB (P : Nat → Nat) (i j r : Nat) : Bool := decide (VR P (P 0 - i) j ≤ Wo P i r + VR P (P 0 - i) (j - 1))
def thF (P : Nat → Nat) (i j : Nat) : Nat := leadG (chB P i j) i 0
theorem lead_s {f : Nat → Bool} {i r : Nat} (h : r < i) (hf : f (r + 1) = true) : leadG f (i - r) r = leadG f (i - (r + 1)) (r + 1) := by
  rw [show i - r = (i - (r + 1)) + 1 by omega]
  show (if f (r + 1) then _ else _) = _
  rw [if_pos hf]
theorem lead_e {f : Nat → Bool} {i r : Nat} (h : ¬ r < i ∨ f (r + 1) = false) : leadG f (i - r) r = r := by
  cases hh : i - r with
  | zero => rfl
  | succ k =>
    show (if f (r + 1) then _ else _) = _
    rcases h with h | h
    · omega
    · rw [h]; rfl
theorem VMp_b {P : Nat → Nat} (h : PI P) {i j : Nat} (h1 : 1 ≤ i) (h2 : i ≤ P 0) (hj : j ≤ 3) : VMp P (P 0 - i) j i i / i ≤ 2000000 := by
  refine Nat.div_le_of_le_mul (smN_le (fun r a b => ?_))
  have x := VR3 h (d := P 0 - i) (j := j) (by omega) hj
  have y := VR3 h (d := P 0 - i) (j := j - 1) (by omega) (by omega)
  have z := Wo_le h (i := i) (r := r) h2 a b
  exact Nat.max_le.mpr ⟨by omega, by omega⟩

set_option maxHeartbeats 4000000 in
set_option maxRecDepth 100000 in
theorem c_X6_worthOf (l : Launch) (dC : Nat → ClassId) (dI : Nat → Nat → Nat) (cI cL : ClassId) (m0 m1 m2 m3 m4 m5 m6 m7 m8 m9 m10 m11 m12 : Nat) (bm ty sp fa fp kn lf yo ol : Nat) (un hh : Int64) (dr : Int32) (P : Nat → Nat) (i r : Nat) (h1 : 1 ≤ i) (h2 : i ≤ P 0) (h4 : 1 ≤ r) (h5 : r ≤ i) (hPI : PI P) : Met l yX6_worthOf (kw yX6_worthOf cX6_worthOf 6 (some .long)) (kR 1 24) (kPr (dC, dI) [.ref m0, .int (nI i), .int (nI r)] [(m0, .inr (6, [.ref m1, .ref m2, .int (nI bm), .long un, .ref m3, .int (nI ty), .ref m4, .int (nI sp), .int (nI fa), .int (nI fp), .int (nI kn), .ref m5, .ref m6, .ref m7, .ref m8, .ref m9, .int dr, .ref m10, .ref m11, .int (nI lf), .int (nI yo), .int (nI ol), .ref m12, .long hh])), (m1, .inl (cI, 22, .inl (fun zz => nI (P zz))))] [(cI, .int)]) (vp_Sl (fun res : Int64 => res = lN (Wo P i r))) 0 0 kNo := by
  refine kmet (by decide) ?_
  intro p e s m args below meth c Y hr hlocks hin hv
  obtain ⟨rfl, hP, hK, hZ⟩ := kinR hv
  have hS : va_S kNo s.heap s.heap [] := va_S.rf
  have hx := Y.1
  have hb := Y.2.1
  have hml := Y.2.2.1
  have hown := Y.2.2.2.1
  have hts := Y.2.2.2.2
  have hl := lv_entry ([.ref m0, .int (nI i), .int (nI r)]) (n := 6) (Nat.le_of_ble_eq_true rfl)
  rw [lg_entry_eq]
  generalize (lg_sl ([.ref m0, .int (nI i), .int (nI r)]) ++ List.replicate (6 - (lg_sl ([.ref m0, .int (nI i), .int (nI r)])).length) Slot.unset).toArray = ls at hl ⊢
  have hl : lv_has ls 6 [(0, .ref m0), (1, .int (nI i)), (2, .int (nI r))] := hl
  have hp0 := hPI.1
  have hp1 := hPI.2.1
  have hp2 := hPI.2.2.1
  refine lv_lconst (v := lN 0) hx hb dX6_worthOf_0 rfl ?_
  refine lv_lstore_n (lv' := [(3, .long (lN 0)), (0, .ref m0), (1, .int (nI i)), (2, .int (nI r))]) hx hb dX6_worthOf_1 rfl hl (by decide) rfl (fun ls hl => ?_)
  refine lv_iload_n hx hb dX6_worthOf_2 rfl (lv_at hl 3 rfl) ?_
  refine lv_istore (lv' := [(5, .int (nI r)), (3, .long (lN 0)), (0, .ref m0), (1, .int (nI i)), (2, .int (nI r))]) hx hb dX6_worthOf_3 hl (by decide) rfl (fun ls hl => ?_)
  refine wr2 (fun (k : Nat) (sm : Nat) => P 0 + 1 - k) (fun (k : Nat) (sm : Nat) (ls : Array Slot) => lv_has ls 6 [(0, .ref m0), (1, .int (nI i)), (2, .int (nI r)), (3, .long (lN sm)), (5, .int (nI k))] ∧ (r ≤ k ∧ k ≤ P 0 - i + r + 1 ∧ sm = sgN (woT P (P 0) i r) (k - r))) r 0 (by exact ⟨lv_sub hl [2, 3, 4, 1, 0] rfl, ⟨by omega, by omega, by rw [Nat.sub_self]; rfl⟩⟩) (fun k sm ls hI ih => ?_)
  obtain ⟨hl, hk1, hk2, hsm⟩ := hI
  have ih5 := ih
  refine lv_iload hx hb dX6_worthOf_5 (lv_at hl 4 rfl) ?_
  refine lv_aload_n hx hb dX6_worthOf_7 rfl (lv_at hl 0 rfl) ?_
  refine kVi (As := []) (rest := [.int (nI k)]) Y m_X6_n (c_X6_n l dC dI cI cL m0 m1 m2 m3 m4 m5 m6 m7 m8 m9 m10 m11 m12 bm ty sp fa fp kn lf yo ol un hh dr P ) qm_X6_123 (kpV (ci := 6) hK hP hZ hS [0, 1] [0] rfl rfl 0 rfl rfl rfl) rfl hl.1 rfl (Nat.le_of_ble_eq_true rfl) dX6_worthOf_8 ⟨Nat.le_of_ble_eq_true rfl, Nat.le_of_ble_eq_true rfl⟩ ⟨Nat.zero_le _, Nat.zero_le _⟩ (fun r8 hr8 => ?_)
  obtain rfl : r8 = nI (P 0) := hr8
  refine lv_iload_n hx hb dX6_worthOf_11 rfl (lv_at hl 1 rfl) ?_
  refine ri_sub hx hb dX6_worthOf_12 (by omega) ?_
  refine lv_iload_n hx hb dX6_worthOf_13 rfl (lv_at hl 2 rfl) ?_
  refine ri_add hx hb dX6_worthOf_14 ?_
  refine ri_cgt (tgt := 64) hx hb dX6_worthOf_15 (by decide) (by omega) (by omega) (fun c15 => ?_) (fun c15 => ?_)
  · refine lv_lload_n hx hb dX6_worthOf_64 rfl (lv_at hl 3 rfl) ?_
    refine lv_ldc2 (v := lN 5040) hx hb hown (hts _ ql_X6_130) dX6_worthOf_65 ?_
    refine lv_aload_n hx hb dX6_worthOf_68 rfl (lv_at hl 0 rfl) ?_
    refine kVi (As := []) (rest := [.long (lN 5040), .long (lN sm)]) Y m_X6_n (c_X6_n l dC dI cI cL m0 m1 m2 m3 m4 m5 m6 m7 m8 m9 m10 m11 m12 bm ty sp fa fp kn lf yo ol un hh dr P ) qm_X6_123 (kpV (ci := 6) hK hP hZ hS [0, 1] [0] rfl rfl 0 rfl rfl rfl) rfl hl.1 rfl (Nat.le_of_ble_eq_true rfl) dX6_worthOf_69 ⟨Nat.le_of_ble_eq_true rfl, Nat.le_of_ble_eq_true rfl⟩ ⟨Nat.zero_le _, Nat.zero_le _⟩ (fun r69 hr69 => ?_)
    obtain rfl : r69 = nI (P 0) := hr69
    refine lv_iload_n hx hb dX6_worthOf_72 rfl (lv_at hl 1 rfl) ?_
    refine kSl (As := [.int (nI (P 0)), .int (nI i)]) (rest := [.long (lN 5040), .long (lN sm)]) Y m_X6_choose (c_X6_choose l dC dI (P 0) i (by omega) (by omega)) qm_X6_126 (kpS hK hP hZ hS [] [] rfl rfl) rfl hl.1 rfl (Nat.le_of_ble_eq_true rfl) dX6_worthOf_73 ⟨Nat.le_of_ble_eq_true rfl, Nat.le_of_ble_eq_true rfl⟩ ⟨Nat.zero_le _, Nat.zero_le _⟩ (fun r73 hr73 => ?_)
    obtain rfl : r73 = lN (ch (P 0) i) := hr73
    have hb3 := ch_pos (P 0) (by omega) i (by omega)
    have hb6 := ch_le (P 0) i
    refine rl_divn hx hb dX6_worthOf_76 (by omega) (by omega) (by omega) ?_
    refine rl_muln hx hb dX6_worthOf_77 ?_
    exact krl (v := lN (sm * (5040 / (ch (P 0) i)))) Y hr hlocks (congrArg lN (by rw [hsm, show k - r = P 0 - i + 1 by omega]; rfl)) dX6_worthOf_78
  · refine lv_lload_n hx hb dX6_worthOf_18 rfl (lv_at hl 3 rfl) ?_
    refine lv_aload_n hx hb dX6_worthOf_19 rfl (lv_at hl 0 rfl) ?_
    refine va_get (D := (dC, dI)) (ci := 6) (v := .ref m1) (C := RX6) (T := TX6) (N := 24) hx hb hts inlX6 hown hK hP 0 rfl rfl 0 (by decide) (hts _ qf_X6_7) (fun _ h9 => h9) rfl dX6_worthOf_20 ?_
    refine lv_iconst (v := nI 3) hx hb dX6_worthOf_23 (by decide) ?_
    refine lv_iload hx hb dX6_worthOf_24 (lv_at hl 4 rfl) ?_
    refine ri_add hx hb dX6_worthOf_26 ?_
    refine lv_iconst (v := nI 1) hx hb dX6_worthOf_27 (by decide) ?_
    refine ri_sub hx hb dX6_worthOf_28 (by omega) ?_
    have hpk := hPI.le (k := 3 + k - 1) (by omega)
    refine ri_ald hx hb hK hP 1 0 (F := P) rfl rfl dX6_worthOf_29 (by decide) (by omega) ?_
    refine ri_i2l hx hb dX6_worthOf_30 (by omega) ?_
    refine lv_iload hx hb dX6_worthOf_31 (lv_at hl 4 rfl) ?_
    refine lv_iconst (v := nI 1) hx hb dX6_worthOf_33 (by decide) ?_
    refine ri_sub hx hb dX6_worthOf_34 (by omega) ?_
    refine lv_iload_n hx hb dX6_worthOf_35 rfl (lv_at hl 2 rfl) ?_
    refine lv_iconst (v := nI 1) hx hb dX6_worthOf_36 (by decide) ?_
    refine ri_sub hx hb dX6_worthOf_37 (by omega) ?_
    refine kSl (As := [.int (nI (k - 1)), .int (nI (r - 1))]) (rest := [.long (lN (P ((3 + k) - 1))), .long (lN sm)]) Y m_X6_choose (c_X6_choose l dC dI (k - 1) (r - 1) (by omega) (by omega)) qm_X6_126 (kpS hK hP hZ hS [] [] rfl rfl) rfl hl.1 rfl (Nat.le_of_ble_eq_true rfl) dX6_worthOf_38 ⟨Nat.le_of_ble_eq_true rfl, Nat.le_of_ble_eq_true rfl⟩ ⟨Nat.zero_le _, Nat.zero_le _⟩ (fun r38 hr38 => ?_)
    obtain rfl : r38 = lN (ch (k - 1) (r - 1)) := hr38
    have hb1 := ch_le (k - 1) (r - 1)
    have hb4 := Nat.mul_le_mul hpk hb1
    refine rl_muln hx hb dX6_worthOf_41 ?_
    refine lv_aload_n hx hb dX6_worthOf_42 rfl (lv_at hl 0 rfl) ?_
    refine kVi (As := []) (rest := [.long (lN ((P ((3 + k) - 1)) * (ch (k - 1) (r - 1)))), .long (lN sm)]) Y m_X6_n (c_X6_n l dC dI cI cL m0 m1 m2 m3 m4 m5 m6 m7 m8 m9 m10 m11 m12 bm ty sp fa fp kn lf yo ol un hh dr P ) qm_X6_123 (kpV (ci := 6) hK hP hZ hS [0, 1] [0] rfl rfl 0 rfl rfl rfl) rfl hl.1 rfl (Nat.le_of_ble_eq_true rfl) dX6_worthOf_43 ⟨Nat.le_of_ble_eq_true rfl, Nat.le_of_ble_eq_true rfl⟩ ⟨Nat.zero_le _, Nat.zero_le _⟩ (fun r43 hr43 => ?_)
    obtain rfl : r43 = nI (P 0) := hr43
    refine lv_iload hx hb dX6_worthOf_46 (lv_at hl 4 rfl) ?_
    refine ri_sub hx hb dX6_worthOf_48 (by omega) ?_
    refine lv_iload_n hx hb dX6_worthOf_49 rfl (lv_at hl 1 rfl) ?_
    refine lv_iload_n hx hb dX6_worthOf_50 rfl (lv_at hl 2 rfl) ?_
    refine ri_sub hx hb dX6_worthOf_51 (by omega) ?_
    refine kSl (As := [.int (nI ((P 0) - k)), .int (nI (i - r))]) (rest := [.long (lN ((P ((3 + k) - 1)) * (ch (k - 1) (r - 1)))), .long (lN sm)]) Y m_X6_choose (c_X6_choose l dC dI ((P 0) - k) (i - r) (by omega) (by omega)) qm_X6_126 (kpS hK hP hZ hS [] [] rfl rfl) rfl hl.1 rfl (Nat.le_of_ble_eq_true rfl) dX6_worthOf_52 ⟨Nat.le_of_ble_eq_true rfl, Nat.le_of_ble_eq_true rfl⟩ ⟨Nat.zero_le _, Nat.zero_le _⟩ (fun r52 hr52 => ?_)
    obtain rfl : r52 = lN (ch ((P 0) - k) (i - r)) := hr52
    have hb2 := ch_le (P 0 - k) (i - r)
    have hb5 := Nat.mul_le_mul hb4 hb2
    refine rl_muln hx hb dX6_worthOf_55 ?_
    refine rl_addn hx hb dX6_worthOf_56 ?_
    refine lv_lstore_n (lv' := [(3, .long (lN (sm + (((P ((3 + k) - 1)) * (ch (k - 1) (r - 1))) * (ch ((P 0) - k) (i - r)))))), (0, .ref m0), (1, .int (nI i)), (2, .int (nI r)), (5, .int (nI k))]) hx hb dX6_worthOf_57 rfl hl (by decide) rfl (fun ls hl => ?_)
    refine lv_iinc (v := nI (k + 1)) (lv' := [(5, .int (nI (k + 1))), (3, .long (lN (sm + (((P ((3 + k) - 1)) * (ch (k - 1) (r - 1))) * (ch ((P 0) - k) (i - r)))))), (0, .ref m0), (1, .int (nI i)), (2, .int (nI r))]) hx hb dX6_worthOf_58 hl (k := 4) rfl (inc1 _) (by decide) rfl (fun ls hl => ?_)
    refine lv_goto (tgt := 5) hx hb dX6_worthOf_61 (by decide) ?_
    exact ih5 (k + 1) (sm + (((P ((3 + k) - 1)) * (ch (k - 1) (r - 1))) * (ch ((P 0) - k) (i - r)))) _ (by show _ < _; omega) (by exact ⟨lv_sub hl [2, 3, 4, 1, 0] rfl, ⟨by omega, by omega, by rw [Nat.mul_assoc]; exact woT_s hk1 hsm⟩⟩)
set_option maxHeartbeats 4000000 in
set_option maxRecDepth 100000 in
theorem c_X6_meanAt (l : Launch) (dC : Nat → ClassId) (dI : Nat → Nat → Nat) (cI cL : ClassId) (m0 m1 m2 m3 m4 m5 m6 m7 m8 m9 m10 m11 m12 : Nat) (bm ty sp fa fp kn lf yo ol : Nat) (un hh : Int64) (dr : Int32) (P ww rv : Nat → Nat) (i j : Nat) (h1 : 1 ≤ i) (h2 : i ≤ P 0) (h3 : 1 ≤ j) (h4 : j ≤ 3) (hPI : PI P) (hMW : ∀ r, 1 ≤ r → r ≤ i → ww (8 * i + r) = Wo P i r) (hMV1 : rv (4 * (i + 1) + j) = VR P (P 0 - i) j) (hMV2 : rv (4 * (i + 1) + (j - 1)) = VR P (P 0 - i) (j - 1)) : Met l yX6_meanAt (kw yX6_meanAt cX6_meanAt 10 (some .long)) (kR 1 21) (kPr (dC, dI) [.ref m0, .int (nI i), .int (nI j)] [(m0, .inr (6, [.ref m1, .ref m2, .int (nI bm), .long un, .ref m3, .int (nI ty), .ref m4, .int (nI sp), .int (nI fa), .int (nI fp), .int (nI kn), .ref m5, .ref m6, .ref m7, .ref m8, .ref m9, .int dr, .ref m10, .ref m11, .int (nI lf), .int (nI yo), .int (nI ol), .ref m12, .long hh])), (m1, .inl (cI, 22, .inl (fun zz => nI (P zz)))), (m5, .inl (cL, 72, .inr (.inl (fun zz => lN (ww zz))))), (m6, .inl (cL, 40, .inr (.inl (fun zz => lN (rv zz)))))] [(cI, .int), (cL, .long)]) (vp_Sl (fun res : Int64 => res = lN (VMp P (P 0 - i) j i i / i))) 0 0 kNo := by
  refine kmet (by decide) ?_
  intro p e s m args below meth c Y hr hlocks hin hv
  obtain ⟨rfl, hP, hK, hZ⟩ := kinR hv
  have hS : va_S kNo s.heap s.heap [] := va_S.rf
  have hx := Y.1
  have hb := Y.2.1
  have hml := Y.2.2.1
  have hown := Y.2.2.2.1
  have hts := Y.2.2.2.2
  have hl := lv_entry ([.ref m0, .int (nI i), .int (nI j)]) (n := 10) (Nat.le_of_ble_eq_true rfl)
  rw [lg_entry_eq]
  generalize (lg_sl ([.ref m0, .int (nI i), .int (nI j)]) ++ List.replicate (10 - (lg_sl ([.ref m0, .int (nI i), .int (nI j)])).length) Slot.unset).toArray = ls at hl ⊢
  have hl : lv_has ls 10 [(0, .ref m0), (1, .int (nI i)), (2, .int (nI j))] := hl
  have hp0 := hPI.1
  have hp1 := hPI.2.1
  have hp2 := hPI.2.2.1
  have hv1 := VR3 hPI (d := P 0 - i) (j := j) (by omega) h4
  have hv2 := VR3 hPI (d := P 0 - i) (j := j - 1) (by omega) (by omega)
  refine lv_lconst (v := lN 0) hx hb dX6_meanAt_0 rfl ?_
  refine lv_lstore_n (lv' := [(3, .long (lN 0)), (0, .ref m0), (1, .int (nI i)), (2, .int (nI j))]) hx hb dX6_meanAt_1 rfl hl (by decide) rfl (fun ls hl => ?_)
  refine lv_iconst (v := nI 1) hx hb dX6_meanAt_2 (by decide) ?_
  refine lv_istore (lv' := [(5, .int (nI 1)), (3, .long (lN 0)), (0, .ref m0), (1, .int (nI i)), (2, .int (nI j))]) hx hb dX6_meanAt_3 hl (by decide) rfl (fun ls hl => ?_)
  refine wr2 (fun (r : Nat) (sm : Nat) => i + 1 - r) (fun (r : Nat) (sm : Nat) (ls : Array Slot) => lv_has ls 10 [(0, .ref m0), (1, .int (nI i)), (2, .int (nI j)), (3, .long (lN sm)), (5, .int (nI r))] ∧ (1 ≤ r ∧ r ≤ i + 1 ∧ sm ≤ 2000000 * (r - 1) ∧ sm = VMp P (P 0 - i) j i (r - 1))) 1 0 (by exact ⟨lv_sub hl [2, 3, 4, 1, 0] rfl, ⟨by omega, by omega, by omega, rfl⟩⟩) (fun r sm ls hI ih => ?_)
  obtain ⟨hl, hr1, hr2, hsb, hsm⟩ := hI
  have ih5 := ih
  refine lv_iload hx hb dX6_meanAt_5 (lv_at hl 4 rfl) ?_
  refine lv_iload_n hx hb dX6_meanAt_7 rfl (lv_at hl 1 rfl) ?_
  refine ri_cgt (tgt := 78) hx hb dX6_meanAt_8 (by decide) (by omega) (by omega) (fun c8 => ?_) (fun c8 => ?_)
  · refine lv_lload_n hx hb dX6_meanAt_78 rfl (lv_at hl 3 rfl) ?_
    refine lv_iload_n hx hb dX6_meanAt_79 rfl (lv_at hl 1 rfl) ?_
    refine ri_i2l hx hb dX6_meanAt_80 (by omega) ?_
    refine rl_divn hx hb dX6_meanAt_81 (by omega) (by omega) (by omega) ?_
    exact krl (v := lN (sm / i)) Y hr hlocks (congrArg lN (by rw [hsm, show r - 1 = i by omega])) dX6_meanAt_82
  · have hw1 := hMW r (by omega) (by omega)
    have hw2 := Wo_le hPI (i := i) (r := r) h2 (by omega) (by omega)
    refine lv_aload_n hx hb dX6_meanAt_11 rfl (lv_at hl 0 rfl) ?_
    refine va_get (D := (dC, dI)) (ci := 6) (v := .ref m5) (C := RX6) (T := TX6) (N := 24) hx hb hts inlX6 hown hK hP 0 rfl rfl 11 (by decide) (hts _ qf_X6_26) (fun _ h9 => h9) rfl dX6_meanAt_12 ?_
    refine lv_bipush (v := nI 8) hx hb dX6_meanAt_15 (by decide) ?_
    refine lv_iload_n hx hb dX6_meanAt_17 rfl (lv_at hl 1 rfl) ?_
    refine ri_mul hx hb dX6_meanAt_18 ?_
    refine lv_iload hx hb dX6_meanAt_19 (lv_at hl 4 rfl) ?_
    refine ri_add hx hb dX6_meanAt_21 ?_
    refine rm_ald hx hb hK hP 2 1 (F := ww) rfl rfl dX6_meanAt_22 (by decide) (by omega) ?_
    refine lv_aload_n hx hb dX6_meanAt_23 rfl (lv_at hl 0 rfl) ?_
    refine va_get (D := (dC, dI)) (ci := 6) (v := .ref m6) (C := RX6) (T := TX6) (N := 24) hx hb hts inlX6 hown hK hP 0 rfl rfl 12 (by decide) (hts _ qf_X6_30) (fun _ h9 => h9) rfl dX6_meanAt_24 ?_
    refine lv_iload_n hx hb dX6_meanAt_27 rfl (lv_at hl 1 rfl) ?_
    refine lv_iconst (v := nI 1) hx hb dX6_meanAt_28 (by decide) ?_
    refine ri_add hx hb dX6_meanAt_29 ?_
    refine lv_iload_n hx hb dX6_meanAt_30 rfl (lv_at hl 2 rfl) ?_
    refine lv_iconst (v := nI 1) hx hb dX6_meanAt_31 (by decide) ?_
    refine ri_sub hx hb dX6_meanAt_32 (by omega) ?_
    refine kSi (As := [.int (nI (i + 1)), .int (nI (j - 1))]) (rest := [.ref m6, .long (lN (ww ((8 * i) + r)))]) Y m_X6_at (c_X6_at l dC dI (i + 1) (j - 1) ) qm_X6_138 (kpS hK hP hZ hS [] [] rfl rfl) rfl hl.1 rfl (Nat.le_of_ble_eq_true rfl) dX6_meanAt_33 ⟨Nat.le_of_ble_eq_true rfl, Nat.le_of_ble_eq_true rfl⟩ ⟨Nat.zero_le _, Nat.zero_le _⟩ (fun r33 hr33 => ?_)
    obtain rfl : r33 = nI (4 * (i + 1) + (j - 1)) := hr33
    refine rm_ald hx hb hK hP 3 1 (F := rv) rfl rfl dX6_meanAt_36 (by decide) (by omega) ?_
    refine rl_addn hx hb dX6_meanAt_37 ?_
    refine lv_lstore (lv' := [(6, .long (lN ((ww ((8 * i) + r)) + (rv (4 * (i + 1) + (j - 1)))))), (0, .ref m0), (1, .int (nI i)), (2, .int (nI j)), (3, .long (lN sm)), (5, .int (nI r))]) hx hb dX6_meanAt_38 hl (by decide) rfl (fun ls hl => ?_)
    refine lv_aload_n hx hb dX6_meanAt_40 rfl (lv_at hl 1 rfl) ?_
    refine va_get (D := (dC, dI)) (ci := 6) (v := .ref m6) (C := RX6) (T := TX6) (N := 24) hx hb hts inlX6 hown hK hP 0 rfl rfl 12 (by decide) (hts _ qf_X6_30) (fun _ h9 => h9) rfl dX6_meanAt_41 ?_
    refine lv_iload_n hx hb dX6_meanAt_44 rfl (lv_at hl 2 rfl) ?_
    refine lv_iconst (v := nI 1) hx hb dX6_meanAt_45 (by decide) ?_
    refine ri_add hx hb dX6_meanAt_46 ?_
    refine lv_iload_n hx hb dX6_meanAt_47 rfl (lv_at hl 3 rfl) ?_
    refine kSi (As := [.int (nI (i + 1)), .int (nI j)]) (rest := [.ref m6]) Y m_X6_at (c_X6_at l dC dI (i + 1) j ) qm_X6_138 (kpS hK hP hZ hS [] [] rfl rfl) rfl hl.1 rfl (Nat.le_of_ble_eq_true rfl) dX6_meanAt_48 ⟨Nat.le_of_ble_eq_true rfl, Nat.le_of_ble_eq_true rfl⟩ ⟨Nat.zero_le _, Nat.zero_le _⟩ (fun r48 hr48 => ?_)
    obtain rfl : r48 = nI (4 * (i + 1) + j) := hr48
    refine rm_ald hx hb hK hP 3 1 (F := rv) rfl rfl dX6_meanAt_51 (by decide) (by omega) ?_
    refine lv_lstore (lv' := [(8, .long (lN (rv (4 * (i + 1) + j)))), (6, .long (lN ((ww ((8 * i) + r)) + (rv (4 * (i + 1) + (j - 1)))))), (0, .ref m0), (1, .int (nI i)), (2, .int (nI j)), (3, .long (lN sm)), (5, .int (nI r))]) hx hb dX6_meanAt_52 hl (by decide) rfl (fun ls hl => ?_)
    refine lv_lload_n hx hb dX6_meanAt_54 rfl (lv_at hl 5 rfl) ?_
    refine lv_lload hx hb dX6_meanAt_55 (lv_at hl 1 rfl) ?_
    refine lv_lload hx hb dX6_meanAt_57 (lv_at hl 0 rfl) ?_
    refine rl_len (tgt := 68) hx hb dX6_meanAt_59 dX6_meanAt_60 (by decide) (by omega) (by omega) (fun c59 => ?_) (fun c59 => ?_)
    · refine lv_lload hx hb dX6_meanAt_68 (lv_at hl 0 rfl) ?_
      refine rl_addn hx hb dX6_meanAt_70 ?_
      refine lv_lstore_n (lv' := [(3, .long (lN (sm + (rv (4 * (i + 1) + j))))), (8, .long (lN (rv (4 * (i + 1) + j)))), (6, .long (lN ((ww ((8 * i) + r)) + (rv (4 * (i + 1) + (j - 1)))))), (0, .ref m0), (1, .int (nI i)), (2, .int (nI j)), (5, .int (nI r))]) hx hb dX6_meanAt_71 rfl hl (by decide) rfl (fun ls hl => ?_)
      refine lv_iinc (v := nI (r + 1)) (lv' := [(5, .int (nI (r + 1))), (3, .long (lN (sm + (rv (4 * (i + 1) + j))))), (8, .long (lN (rv (4 * (i + 1) + j)))), (6, .long (lN ((ww ((8 * i) + r)) + (rv (4 * (i + 1) + (j - 1)))))), (0, .ref m0), (1, .int (nI i)), (2, .int (nI j))]) hx hb dX6_meanAt_72 hl (k := 6) rfl (inc1 _) (by decide) rfl (fun ls hl => ?_)
      refine lv_goto (tgt := 5) hx hb dX6_meanAt_75 (by decide) ?_
      exact ih5 (r + 1) (sm + (rv (4 * (i + 1) + j))) _ (by show _ < _; omega) (by exact ⟨lv_sub hl [4, 5, 6, 1, 0] rfl, ⟨by omega, by omega, by omega, VMp_s hr1 hsm (by omega)⟩⟩)
    · refine lv_lload hx hb dX6_meanAt_63 (lv_at hl 1 rfl) ?_
      refine lv_goto (tgt := 70) hx hb dX6_meanAt_65 (by decide) ?_
      refine rl_addn hx hb dX6_meanAt_70 ?_
      refine lv_lstore_n (lv' := [(3, .long (lN (sm + ((ww ((8 * i) + r)) + (rv (4 * (i + 1) + (j - 1))))))), (8, .long (lN (rv (4 * (i + 1) + j)))), (6, .long (lN ((ww ((8 * i) + r)) + (rv (4 * (i + 1) + (j - 1)))))), (0, .ref m0), (1, .int (nI i)), (2, .int (nI j)), (5, .int (nI r))]) hx hb dX6_meanAt_71 rfl hl (by decide) rfl (fun ls hl => ?_)
      refine lv_iinc (v := nI (r + 1)) (lv' := [(5, .int (nI (r + 1))), (3, .long (lN (sm + ((ww ((8 * i) + r)) + (rv (4 * (i + 1) + (j - 1))))))), (8, .long (lN (rv (4 * (i + 1) + j)))), (6, .long (lN ((ww ((8 * i) + r)) + (rv (4 * (i + 1) + (j - 1)))))), (0, .ref m0), (1, .int (nI i)), (2, .int (nI j))]) hx hb dX6_meanAt_72 hl (k := 6) rfl (inc1 _) (by decide) rfl (fun ls hl => ?_)
      refine lv_goto (tgt := 5) hx hb dX6_meanAt_75 (by decide) ?_
      exact ih5 (r + 1) (sm + ((ww ((8 * i) + r)) + (rv (4 * (i + 1) + (j - 1))))) _ (by show _ < _; omega) (by exact ⟨lv_sub hl [4, 5, 6, 1, 0] rfl, ⟨by omega, by omega, by omega, VMp_s hr1 hsm (by omega)⟩⟩)
set_option maxHeartbeats 4000000 in
set_option maxRecDepth 100000 in
theorem c_X6_isChosen (l : Launch) (dC : Nat → ClassId) (dI : Nat → Nat → Nat) (cI cL : ClassId) (m0 m1 m2 m3 m4 m5 m6 m7 m8 m9 m10 m11 m12 : Nat) (bm ty sp fa fp kn lf yo ol : Nat) (un hh : Int64) (dr : Int32) (P ww rv : Nat → Nat) (i j r : Nat) (h1 : 1 ≤ i) (h2 : i ≤ P 0) (h3 : 1 ≤ j) (h4 : j ≤ 3) (h5 : 1 ≤ r) (h6 : r ≤ i) (hPI : PI P) (hMR : MR P ww rv) : Met l yX6_isChosen (kw yX6_isChosen cX6_isChosen 4 (some .boolean)) (kR 1 21) (kPr (dC, dI) [.ref m0, .int (nI i), .int (nI j), .int (nI r)] [(m0, .inr (6, [.ref m1, .ref m2, .int (nI bm), .long un, .ref m3, .int (nI ty), .ref m4, .int (nI sp), .int (nI fa), .int (nI fp), .int (nI kn), .ref m5, .ref m6, .ref m7, .ref m8, .ref m9, .int dr, .ref m10, .ref m11, .int (nI lf), .int (nI yo), .int (nI ol), .ref m12, .long hh])), (m1, .inl (cI, 22, .inl (fun zz => nI (P zz)))), (m5, .inl (cL, 72, .inr (.inl (fun zz => lN (ww zz))))), (m6, .inl (cL, 40, .inr (.inl (fun zz => lN (rv zz)))))] [(cI, .int), (cL, .long)]) (vp_Si (fun res : Int32 => res = b2i (VR P (P 0 - i) j ≤ Wo P i r + VR P (P 0 - i) (j - 1)))) 0 0 kNo := by
  refine kmet (by decide) ?_
  intro p e s m args below meth c Y hr hlocks hin hv
  obtain ⟨rfl, hP, hK, hZ⟩ := kinR hv
  have hS : va_S kNo s.heap s.heap [] := va_S.rf
  have hx := Y.1
  have hb := Y.2.1
  have hml := Y.2.2.1
  have hown := Y.2.2.2.1
  have hts := Y.2.2.2.2
  have hl := lv_entry ([.ref m0, .int (nI i), .int (nI j), .int (nI r)]) (n := 4) (Nat.le_of_ble_eq_true rfl)
  rw [lg_entry_eq]
  generalize (lg_sl ([.ref m0, .int (nI i), .int (nI j), .int (nI r)]) ++ List.replicate (4 - (lg_sl ([.ref m0, .int (nI i), .int (nI j), .int (nI r)])).length) Slot.unset).toArray = ls at hl ⊢
  have hl : lv_has ls 4 [(0, .ref m0), (1, .int (nI i)), (2, .int (nI j)), (3, .int (nI r))] := hl
  have hp0 := hPI.1
  have hp1 := hPI.2.1
  have hp2 := hPI.2.2.1
  have hv1 := VR3 hPI (d := P 0 - i) (j := j) (by omega) h4
  have hv2 := VR3 hPI (d := P 0 - i) (j := j - 1) (by omega) (by omega)
  have hw1 := hMR.1 i r h1 h2 h5 h6
  have hw2 := Wo_le hPI (i := i) (r := r) h2 h5 h6
  have hq1 := hMR.2 (i + 1) j (by omega) (by omega) h4
  have hq2 := hMR.2 (i + 1) (j - 1) (by omega) (by omega) (by omega)
  rw [show P 0 + 1 - (i + 1) = P 0 - i by omega] at hq1 hq2
  refine lv_aload_n hx hb dX6_isChosen_0 rfl (lv_at hl 0 rfl) ?_
  refine va_get (D := (dC, dI)) (ci := 6) (v := .ref m5) (C := RX6) (T := TX6) (N := 24) hx hb hts inlX6 hown hK hP 0 rfl rfl 11 (by decide) (hts _ qf_X6_26) (fun _ h9 => h9) rfl dX6_isChosen_1 ?_
  refine lv_bipush (v := nI 8) hx hb dX6_isChosen_4 (by decide) ?_
  refine lv_iload_n hx hb dX6_isChosen_6 rfl (lv_at hl 1 rfl) ?_
  refine ri_mul hx hb dX6_isChosen_7 ?_
  refine lv_iload_n hx hb dX6_isChosen_8 rfl (lv_at hl 3 rfl) ?_
  refine ri_add hx hb dX6_isChosen_9 ?_
  refine rm_ald hx hb hK hP 2 1 (F := ww) rfl rfl dX6_isChosen_10 (by decide) (by omega) ?_
  refine lv_aload_n hx hb dX6_isChosen_11 rfl (lv_at hl 0 rfl) ?_
  refine va_get (D := (dC, dI)) (ci := 6) (v := .ref m6) (C := RX6) (T := TX6) (N := 24) hx hb hts inlX6 hown hK hP 0 rfl rfl 12 (by decide) (hts _ qf_X6_30) (fun _ h9 => h9) rfl dX6_isChosen_12 ?_
  refine lv_iload_n hx hb dX6_isChosen_15 rfl (lv_at hl 1 rfl) ?_
  refine lv_iconst (v := nI 1) hx hb dX6_isChosen_16 (by decide) ?_
  refine ri_add hx hb dX6_isChosen_17 ?_
  refine lv_iload_n hx hb dX6_isChosen_18 rfl (lv_at hl 2 rfl) ?_
  refine lv_iconst (v := nI 1) hx hb dX6_isChosen_19 (by decide) ?_
  refine ri_sub hx hb dX6_isChosen_20 (by omega) ?_
  refine kSi (As := [.int (nI (i + 1)), .int (nI (j - 1))]) (rest := [.ref m6, .long (lN (ww ((8 * i) + r)))]) Y m_X6_at (c_X6_at l dC dI (i + 1) (j - 1) ) qm_X6_138 (kpS hK hP hZ hS [] [] rfl rfl) rfl hl.1 rfl (Nat.le_of_ble_eq_true rfl) dX6_isChosen_21 ⟨Nat.le_of_ble_eq_true rfl, Nat.le_of_ble_eq_true rfl⟩ ⟨Nat.zero_le _, Nat.zero_le _⟩ (fun r21 hr21 => ?_)
  obtain rfl : r21 = nI (4 * (i + 1) + (j - 1)) := hr21
  refine rm_ald hx hb hK hP 3 1 (F := rv) rfl rfl dX6_isChosen_24 (by decide) (by omega) ?_
  refine rl_addn hx hb dX6_isChosen_25 ?_
  refine lv_aload_n hx hb dX6_isChosen_26 rfl (lv_at hl 0 rfl) ?_
  refine va_get (D := (dC, dI)) (ci := 6) (v := .ref m6) (C := RX6) (T := TX6) (N := 24) hx hb hts inlX6 hown hK hP 0 rfl rfl 12 (by decide) (hts _ qf_X6_30) (fun _ h9 => h9) rfl dX6_isChosen_27 ?_
  refine lv_iload_n hx hb dX6_isChosen_30 rfl (lv_at hl 1 rfl) ?_
  refine lv_iconst (v := nI 1) hx hb dX6_isChosen_31 (by decide) ?_
  refine ri_add hx hb dX6_isChosen_32 ?_
  refine lv_iload_n hx hb dX6_isChosen_33 rfl (lv_at hl 2 rfl) ?_
  refine kSi (As := [.int (nI (i + 1)), .int (nI j)]) (rest := [.ref m6, .long (lN ((ww ((8 * i) + r)) + (rv (4 * (i + 1) + (j - 1)))))]) Y m_X6_at (c_X6_at l dC dI (i + 1) j ) qm_X6_138 (kpS hK hP hZ hS [] [] rfl rfl) rfl hl.1 rfl (Nat.le_of_ble_eq_true rfl) dX6_isChosen_34 ⟨Nat.le_of_ble_eq_true rfl, Nat.le_of_ble_eq_true rfl⟩ ⟨Nat.zero_le _, Nat.zero_le _⟩ (fun r34 hr34 => ?_)
  obtain rfl : r34 = nI (4 * (i + 1) + j) := hr34
  refine rm_ald hx hb hK hP 3 1 (F := rv) rfl rfl dX6_isChosen_37 (by decide) (by omega) ?_
  refine rl_ltn (tgt := 46) hx hb dX6_isChosen_38 dX6_isChosen_39 (by decide) (by omega) (by omega) (fun c38 => ?_) (fun c38 => ?_)
  · refine lv_iconst (v := nI 0) hx hb dX6_isChosen_46 (by decide) ?_
    exact krz (v := nI 0) Y hr hlocks (by decide) (b2i_f (by omega)).symm dX6_isChosen_47
  · refine lv_iconst (v := nI 1) hx hb dX6_isChosen_42 (by decide) ?_
    refine lv_goto (tgt := 47) hx hb dX6_isChosen_43 (by decide) ?_
    exact krz (v := nI 1) Y hr hlocks (by decide) (b2i_t (by omega)).symm dX6_isChosen_47
set_option maxHeartbeats 4000000 in
set_option maxRecDepth 100000 in
theorem c_X6_thresholdAt (l : Launch) (dC : Nat → ClassId) (dI : Nat → Nat → Nat) (cI cL : ClassId) (m0 m1 m2 m3 m4 m5 m6 m7 m8 m9 m10 m11 m12 : Nat) (bm ty sp fa fp kn lf yo ol : Nat) (un hh : Int64) (dr : Int32) (P ww rv : Nat → Nat) (i j : Nat) (h1 : 1 ≤ i) (h2 : i ≤ P 0) (h3 : 1 ≤ j) (h4 : j ≤ 3) (hPI : PI P) (hMR : MR P ww rv) : Met l yX6_thresholdAt (kw yX6_thresholdAt cX6_thresholdAt 4 (some .int)) (kR 2 44) (kPr (dC, dI) [.ref m0, .int (nI i), .int (nI j)] [(m0, .inr (6, [.ref m1, .ref m2, .int (nI bm), .long un, .ref m3, .int (nI ty), .ref m4, .int (nI sp), .int (nI fa), .int (nI fp), .int (nI kn), .ref m5, .ref m6, .ref m7, .ref m8, .ref m9, .int dr, .ref m10, .ref m11, .int (nI lf), .int (nI yo), .int (nI ol), .ref m12, .long hh])), (m1, .inl (cI, 22, .inl (fun zz => nI (P zz)))), (m5, .inl (cL, 72, .inr (.inl (fun zz => lN (ww zz))))), (m6, .inl (cL, 40, .inr (.inl (fun zz => lN (rv zz)))))] [(cI, .int), (cL, .long)]) (vp_Si (fun res : Int32 => res = nI (thF P i j))) 0 0 kNo := by
  refine kmet (by decide) ?_
  intro p e s m args below meth c Y hr hlocks hin hv
  obtain ⟨rfl, hP, hK, hZ⟩ := kinR hv
  have hS : va_S kNo s.heap s.heap [] := va_S.rf
  have hx := Y.1
  have hb := Y.2.1
  have hml := Y.2.2.1
  have hown := Y.2.2.2.1
  have hts := Y.2.2.2.2
  have hl := lv_entry ([.ref m0, .int (nI i), .int (nI j)]) (n := 4) (Nat.le_of_ble_eq_true rfl)
  rw [lg_entry_eq]
  generalize (lg_sl ([.ref m0, .int (nI i), .int (nI j)]) ++ List.replicate (4 - (lg_sl ([.ref m0, .int (nI i), .int (nI j)])).length) Slot.unset).toArray = ls at hl ⊢
  have hl : lv_has ls 4 [(0, .ref m0), (1, .int (nI i)), (2, .int (nI j))] := hl
  have hp0 := hPI.1
  have hp1 := hPI.2.1
  have hp2 := hPI.2.2.1
  refine lv_iconst (v := nI 0) hx hb dX6_thresholdAt_0 (by decide) ?_
  refine lv_istore_n (lv' := [(3, .int (nI 0)), (0, .ref m0), (1, .int (nI i)), (2, .int (nI j))]) hx hb dX6_thresholdAt_1 rfl hl (by decide) rfl (fun ls hl => ?_)
  refine wr1 (fun (r : Nat) => i - r) (fun (r : Nat) (ls : Array Slot) => lv_has ls 4 [(0, .ref m0), (1, .int (nI i)), (2, .int (nI j)), (3, .int (nI r))] ∧ (r ≤ i ∧ thF P i j = leadG (chB P i j) (i - r) r)) 0 (by exact ⟨lv_sub hl [1, 2, 3, 0] rfl, ⟨by omega, rfl⟩⟩) (fun r ls hI ih => ?_)
  obtain ⟨hl, hri, hq⟩ := hI
  have ih2 := ih
  refine lv_iload_n hx hb dX6_thresholdAt_2 rfl (lv_at hl 3 rfl) ?_
  refine lv_iload_n hx hb dX6_thresholdAt_3 rfl (lv_at hl 1 rfl) ?_
  refine ri_cge (tgt := 25) hx hb dX6_thresholdAt_4 (by decide) (by omega) (by omega) (fun c4 => ?_) (fun c4 => ?_)
  · refine lv_iload_n hx hb dX6_thresholdAt_25 rfl (lv_at hl 3 rfl) ?_
    exact kri (v := nI r) Y hr hlocks (congrArg nI (hq.trans (lead_e (Or.inl (by omega)))).symm) dX6_thresholdAt_26
  · refine lv_aload_n hx hb dX6_thresholdAt_7 rfl (lv_at hl 0 rfl) ?_
    refine lv_iload_n hx hb dX6_thresholdAt_8 rfl (lv_at hl 1 rfl) ?_
    refine lv_iload_n hx hb dX6_thresholdAt_9 rfl (lv_at hl 2 rfl) ?_
    refine lv_iload_n hx hb dX6_thresholdAt_10 rfl (lv_at hl 3 rfl) ?_
    refine lv_iconst (v := nI 1) hx hb dX6_thresholdAt_11 (by decide) ?_
    refine ri_add hx hb dX6_thresholdAt_12 ?_
    refine kVi (As := [.int (nI i), .int (nI j), .int (nI (r + 1))]) (rest := []) Y m_X6_isChosen (c_X6_isChosen l dC dI cI cL m0 m1 m2 m3 m4 m5 m6 m7 m8 m9 m10 m11 m12 bm ty sp fa fp kn lf yo ol un hh dr P ww rv i j (r + 1) (by omega) (by omega) (by omega) (by omega) (by omega) (by omega) hPI hMR) qm_X6_187 (kpV (ci := 6) hK hP hZ hS [0, 1, 2, 3] [0, 1] rfl rfl 0 rfl rfl rfl) rfl hl.1 rfl (Nat.le_of_ble_eq_true rfl) dX6_thresholdAt_13 ⟨Nat.le_of_ble_eq_true rfl, Nat.le_of_ble_eq_true rfl⟩ ⟨Nat.zero_le _, Nat.zero_le _⟩ (fun r13 hr13 => ?_)
    obtain rfl : r13 = b2i (VR P (P 0 - i) j ≤ Wo P i (r + 1) + VR P (P 0 - i) (j - 1)) := hr13
    refine ri_beq (tgt := 25) hx hb dX6_thresholdAt_16 (by decide) (fun c16 => ?_) (fun c16 => ?_)
    · refine lv_iload_n hx hb dX6_thresholdAt_25 rfl (lv_at hl 3 rfl) ?_
      exact kri (v := nI r) Y hr hlocks (congrArg nI (hq.trans (lead_e (Or.inr (decide_eq_false c16)))).symm) dX6_thresholdAt_26
    · refine lv_iinc (v := nI (r + 1)) (lv' := [(3, .int (nI (r + 1))), (0, .ref m0), (1, .int (nI i)), (2, .int (nI j))]) hx hb dX6_thresholdAt_19 hl (k := 3) rfl (inc1 _) (by decide) rfl (fun ls hl => ?_)
      refine lv_goto (tgt := 2) hx hb dX6_thresholdAt_22 (by decide) ?_
      exact ih2 (r + 1) _ (by show _ < _; omega) (by exact ⟨lv_sub hl [1, 2, 3, 0] rfl, ⟨by omega, hq.trans (lead_s (by omega) (decide_eq_true c16))⟩⟩)
