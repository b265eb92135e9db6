theorem iN_neg (x : Int) : -(iN x) = iN (-x) := Int64.toBitVec.inj (by simp [iN, BitVec.ofInt_neg])
theorem iN_abs1 {x : Int} (h1 : -4611686018427387904 ≤ x) (h2 : x < 4611686018427387904) (h : lN 0 ≤ iN x) : iN x = lN x.natAbs := by
  rw [lN_iN, iN_le (by omega) (by omega) (by omega) (by omega)] at h
  rw [lN_iN]
  exact congrArg iN (by omega)
theorem iN_abs2 {x : Int} (h1 : -4611686018427387904 ≤ x) (h2 : x < 4611686018427387904) (h : ¬ lN 0 ≤ iN x) : -(iN x) = lN x.natAbs := by
  rw [lN_iN, iN_le (by omega) (by omega) (by omega) (by omega)] at h
  rw [lN_iN, iN_neg]
  exact congrArg iN (by omega)
theorem lN_z9 {n : Nat} (h0 : 0 < n) (h : n < 4611686018427387904) : ¬ lN n = 0 := fun q => by
  have q : lN n = lN 0 := q
  rw [lN_iN, lN_iN, iN_inj (by omega) (by omega) (by omega) (by omega)] at q
  omega
/-- a fraction in lowest terms -/
def FRg (x : Int) (d : Nat) : Nat := Nat.gcd x.natAbs d
def FRn (x : Int) (d : Nat) : Int := x / (FRg x d : Int)
def FRd (x : Int) (d : Nat) : Nat := d / FRg x d
theorem FRg_p {x : Int} {d : Nat} (h : 0 < d) : 0 < FRg x d := Nat.gcd_pos_of_pos_right _ h
theorem FRg_le {x : Int} {d : Nat} (h : 0 < d) : FRg x d ≤ d := Nat.le_of_dvd h (Nat.gcd_dvd_right _ _)
theorem FR_div {x : Int} {d : Nat} (h1 : -4611686018427387904 ≤ x) (h2 : x < 4611686018427387904) (h : 0 < d) (hd : d < 4611686018427387904) : iN x / lN (FRg x d) = iN (FRn x d) := by
  have a := FRg_p (x := x) h
  have b := FRg_le (x := x) h
  rw [lN_iN]
  exact iN_div (by omega) (by omega) (by omega) (by omega) (Int.ofNat_dvd_left.mpr (Nat.gcd_dvd_left _ _))
theorem gcd_s (a b : Nat) : Nat.gcd a b = Nat.gcd b (a % b) := by rw [Nat.gcd_comm a b, Nat.gcd_rec b a, Nat.gcd_comm]
theorem cpy_0 {f g : Nat → Nat} {sp dp : Nat} : va_cpy f g sp dp 0 = g := by
  funext j; unfold va_cpy; rw [if_neg (by omega)]
theorem cpy_nx {f g : Nat → Nat} {sp dp n k m : Nat} (hk : k = dp + n) (hm : m = sp + n) : updN (va_cpy f g sp dp n) k (f m) = va_cpy f g sp dp (n + 1) := by
  funext j
  unfold updN va_cpy
  by_cases h : j = k
  · rw [if_pos h, if_pos ⟨by omega, by omega⟩]; exact congrArg f (by omega)
  · rw [if_neg h]
    by_cases h2 : dp ≤ j ∧ j < dp + n
    · rw [if_pos h2, if_pos ⟨h2.1, by omega⟩]
    · rw [if_neg h2, if_neg (fun q => by omega)]
def recB (hs : Nat → Nat) (bm : Nat) : Nat → Nat := if bm = 8 then va_cpy hs hs 22 0 154 else hs
def recM (bm : Nat) : Nat := if bm = 8 then 8 - 1 else bm
theorem recS_e {P hs : Nat → Nat} {bm : Nat} : recS P hs bm = va_cpy P (recB hs bm) 0 (recM bm * 22) 22 := rfl
theorem recN_le {bm : Nat} (h : bm ≤ 8) : recN bm ≤ 8 := by unfold recN; split <;> omega
def undO (P hs : Nat → Nat) (bm kn : Nat) : Int32 × (Nat → Nat) × Nat × Nat := if bm = 0 then (-2, P, bm, kn) else (nI (bm - 1), va_cpy hs P ((bm - 1) * 22) 0 22, bm - 1, 0)
def setO (P hs : Nat → Nat) (bm kn : Nat) (ok : Prop) [Decidable ok] (i v : Nat) : Int32 × (Nat → Nat) × (Nat → Nat) × Nat × Nat := if ok then (nI (P i), updN P i v, recS P hs bm, recN bm, 0) else (-1, P, hs, bm, kn)
theorem lsO_b (i : Nat) : lsO i ≤ 1 := by unfold lsO; split <;> omega
theorem msO_b (i : Nat) : msO i ≤ 99 := by unfold msO; (repeat' split) <;> omega
def shW (P : Nat → Nat) (a b v : Nat) : Nat → Nat := updN (updN P (15 + a) (P (15 + a) - v)) (15 + b) ((updN P (15 + a) (P (15 + a) - v)) (15 + b) + v)
def shO (P hs : Nat → Nat) (bm kn : Nat) (a b v : Int32) : Int32 × (Nat → Nat) × (Nat → Nat) × Nat × Nat := if ((nI 0 ≤ a ∧ a ≤ nI 4) ∧ (nI 0 ≤ b ∧ b ≤ nI 4)) ∧ (nI 0 ≤ v ∧ v ≤ nI (P (15 + nO a))) then (nI (shW P (nO a) (nO b) (nO v) (15 + nO b)), shW P (nO a) (nO b) (nO v), recS P hs bm, recN bm, 0) else (-1, P, hs, bm, kn)
def typO (tx : Nat → Nat) (ty : Nat) (c : Int32) : Int32 × (Nat → Nat) × Nat := if ¬ (nI 32 ≤ c ∧ c ≤ nI 126) then (-1, tx, ty) else if ty = 60 then (-3, tx, ty) else (nI (ty + 1), updN tx ty (nO c), ty + 1)

set_option maxHeartbeats 4000000 in
set_option maxRecDepth 100000 in
theorem c_X6_divisor (l : Launch) (dC : Nat → ClassId) (dI : Nat → Nat → Nat) (x : Int) (d : Nat) (h1 : -4611686018427387904 ≤ x) (h2 : x < 4611686018427387904) (h3 : d < 4611686018427387904) : Met l yX6_divisor (kw yX6_divisor cX6_divisor 10 (some .long)) (kR 0 0) (kPr (dC, dI) [.long (iN x), .long (lN d)] [] []) (vp_Sl (fun res : Int64 => res = lN (FRg x d))) 0 0 kNo := by
  refine kmet (by decide) ?_
  intro p e s m args below meth c Y hr hlocks hin hv
  obtain ⟨rfl, hP, hK, hZ⟩ := kinR hv
  have hS : va_S kNo s.heap s.heap [] := va_S.rf
  have hx := Y.1
  have hb := Y.2.1
  have hml := Y.2.2.1
  have hown := Y.2.2.2.1
  have hts := Y.2.2.2.2
  have hl := lv_entry ([.long (iN x), .long (lN d)]) (n := 10) (Nat.le_of_ble_eq_true rfl)
  rw [lg_entry_eq]
  generalize (lg_sl ([.long (iN x), .long (lN d)]) ++ List.replicate (10 - (lg_sl ([.long (iN x), .long (lN d)])).length) Slot.unset).toArray = ls at hl ⊢
  have hl : lv_has ls 10 [(0, .long (iN x)), (2, .long (lN d))] := hl
  refine lv_lload_n hx hb dX6_divisor_0 rfl (lv_at hl 0 rfl) ?_
  refine lv_lconst (v := lN 0) hx hb dX6_divisor_1 rfl ?_
  refine rl_ge (tgt := 11) hx hb dX6_divisor_2 dX6_divisor_3 (by decide) (fun c2 => ?_) (fun c2 => ?_)
  · refine lv_lload_n hx hb dX6_divisor_11 rfl (lv_at hl 0 rfl) ?_
    refine rl_set (x' := lN x.natAbs) (iN_abs1 h1 h2 c2) ?_
    refine lv_lstore (lv' := [(4, .long (lN x.natAbs)), (0, .long (iN x)), (2, .long (lN d))]) hx hb dX6_divisor_12 hl (by decide) rfl (fun ls hl => ?_)
    refine lv_lload_n hx hb dX6_divisor_14 rfl (lv_at hl 2 rfl) ?_
    refine lv_lstore (lv' := [(6, .long (lN d)), (4, .long (lN x.natAbs)), (0, .long (iN x)), (2, .long (lN d))]) hx hb dX6_divisor_15 hl (by decide) rfl (fun ls hl => ?_)
    refine wr2 (fun (aa : Nat) (bb : Nat) => bb) (fun (aa : Nat) (bb : Nat) (ls : Array Slot) => lv_has ls 10 [(4, .long (lN aa)), (6, .long (lN bb))] ∧ (aa < 4611686018427387905 ∧ bb < 4611686018427387904 ∧ FRg x d = Nat.gcd aa bb)) x.natAbs d (by exact ⟨lv_sub hl [1, 0] rfl, ⟨by omega, h3, rfl⟩⟩) (fun aa bb ls hI ih => ?_)
    obtain ⟨hl, ha, hb9, hq⟩ := hI
    have ih17 := ih
    refine lv_lload hx hb dX6_divisor_17 (lv_at hl 1 rfl) ?_
    refine lv_lconst (v := lN 0) hx hb dX6_divisor_19 rfl ?_
    refine rl_len (tgt := 42) hx hb dX6_divisor_20 dX6_divisor_21 (by decide) (by omega) (by omega) (fun c20 => ?_) (fun c20 => ?_)
    · obtain rfl : bb = 0 := by omega
      refine lv_lload hx hb dX6_divisor_42 (lv_at hl 0 rfl) ?_
      exact krl (v := lN aa) Y hr hlocks (congrArg lN (hq.trans (Nat.gcd_zero_right aa)).symm) dX6_divisor_44
    · refine lv_lload hx hb dX6_divisor_24 (lv_at hl 0 rfl) ?_
      refine lv_lload hx hb dX6_divisor_26 (lv_at hl 1 rfl) ?_
      refine rl_remn hx hb dX6_divisor_28 (by omega) (by omega) (by omega) ?_
      refine lv_lstore (lv' := [(8, .long (lN (aa % bb))), (4, .long (lN aa)), (6, .long (lN bb))]) hx hb dX6_divisor_29 hl (by decide) rfl (fun ls hl => ?_)
      refine lv_lload hx hb dX6_divisor_31 (lv_at hl 2 rfl) ?_
      refine lv_lstore (lv' := [(4, .long (lN bb)), (8, .long (lN (aa % bb))), (6, .long (lN bb))]) hx hb dX6_divisor_33 hl (by decide) rfl (fun ls hl => ?_)
      refine lv_lload hx hb dX6_divisor_35 (lv_at hl 1 rfl) ?_
      refine lv_lstore (lv' := [(6, .long (lN (aa % bb))), (4, .long (lN bb)), (8, .long (lN (aa % bb)))]) hx hb dX6_divisor_37 hl (by decide) rfl (fun ls hl => ?_)
      refine lv_goto (tgt := 17) hx hb dX6_divisor_39 (by decide) ?_
      exact ih17 bb (aa % bb) _ (Nat.mod_lt aa (show 0 < bb by omega)) (by exact ⟨lv_sub hl [1, 0] rfl, ⟨by omega, by have := Nat.mod_lt aa (show 0 < bb by omega); omega, hq.trans (gcd_s aa bb)⟩⟩)
  · refine lv_lload_n hx hb dX6_divisor_6 rfl (lv_at hl 0 rfl) ?_
    refine lv_lneg hx hb dX6_divisor_7 ?_
    refine lv_goto (tgt := 12) hx hb dX6_divisor_8 (by decide) ?_
    refine rl_set (x' := lN x.natAbs) (iN_abs2 h1 h2 c2) ?_
    refine lv_lstore (lv' := [(4, .long (lN x.natAbs)), (0, .long (iN x)), (2, .long (lN d))]) hx hb dX6_divisor_12 hl (by decide) rfl (fun ls hl => ?_)
    refine lv_lload_n hx hb dX6_divisor_14 rfl (lv_at hl 2 rfl) ?_
    refine lv_lstore (lv' := [(6, .long (lN d)), (4, .long (lN x.natAbs)), (0, .long (iN x)), (2, .long (lN d))]) hx hb dX6_divisor_15 hl (by decide) rfl (fun ls hl => ?_)
    refine wr2 (fun (aa : Nat) (bb : Nat) => bb) (fun (aa : Nat) (bb : Nat) (ls : Array Slot) => lv_has ls 10 [(4, .long (lN aa)), (6, .long (lN bb))] ∧ (aa < 4611686018427387905 ∧ bb < 4611686018427387904 ∧ FRg x d = Nat.gcd aa bb)) x.natAbs d (by exact ⟨lv_sub hl [1, 0] rfl, ⟨by omega, h3, rfl⟩⟩) (fun aa bb ls hI ih => ?_)
    obtain ⟨hl, ha, hb9, hq⟩ := hI
    have ih17 := ih
    refine lv_lload hx hb dX6_divisor_17 (lv_at hl 1 rfl) ?_
    refine lv_lconst (v := lN 0) hx hb dX6_divisor_19 rfl ?_
    refine rl_len (tgt := 42) hx hb dX6_divisor_20 dX6_divisor_21 (by decide) (by omega) (by omega) (fun c20 => ?_) (fun c20 => ?_)
    · obtain rfl : bb = 0 := by omega
      refine lv_lload hx hb dX6_divisor_42 (lv_at hl 0 rfl) ?_
      exact krl (v := lN aa) Y hr hlocks (congrArg lN (hq.trans (Nat.gcd_zero_right aa)).symm) dX6_divisor_44
    · refine lv_lload hx hb dX6_divisor_24 (lv_at hl 0 rfl) ?_
      refine lv_lload hx hb dX6_divisor_26 (lv_at hl 1 rfl) ?_
      refine rl_remn hx hb dX6_divisor_28 (by omega) (by omega) (by omega) ?_
      refine lv_lstore (lv' := [(8, .long (lN (aa % bb))), (4, .long (lN aa)), (6, .long (lN bb))]) hx hb dX6_divisor_29 hl (by decide) rfl (fun ls hl => ?_)
      refine lv_lload hx hb dX6_divisor_31 (lv_at hl 2 rfl) ?_
      refine lv_lstore (lv' := [(4, .long (lN bb)), (8, .long (lN (aa % bb))), (6, .long (lN bb))]) hx hb dX6_divisor_33 hl (by decide) rfl (fun ls hl => ?_)
      refine lv_lload hx hb dX6_divisor_35 (lv_at hl 1 rfl) ?_
      refine lv_lstore (lv' := [(6, .long (lN (aa % bb))), (4, .long (lN bb)), (8, .long (lN (aa % bb)))]) hx hb dX6_divisor_37 hl (by decide) rfl (fun ls hl => ?_)
      refine lv_goto (tgt := 17) hx hb dX6_divisor_39 (by decide) ?_
      exact ih17 bb (aa % bb) _ (Nat.mod_lt aa (show 0 < bb by omega)) (by exact ⟨lv_sub hl [1, 0] rfl, ⟨by omega, by have := Nat.mod_lt aa (show 0 < bb by omega); omega, hq.trans (gcd_s aa bb)⟩⟩)
set_option maxHeartbeats 4000000 in
set_option maxRecDepth 100000 in
theorem c_X6_told (l : Launch) (dC : Nat → ClassId) (dI : Nat → Nat → Nat) (sz : Nat) (cI cL : ClassId) (m0 m1 m2 m3 m4 m5 m6 m7 m8 m9 m10 m11 m12 : Nat) (bm ty sp fa fp kn lf yo ol : Nat) (un hh : Int64) (dr : Int32) (x : Int) (d : Nat) (h1 : -4611686018427387904 ≤ x) (h2 : x < 4611686018427387904) (h3 : 0 < d) (h4 : d < 4611686018427387904) : Met l yX6_told (kw yX6_told cX6_told 7 (some .long)) (kR 1 29) (kPq (dC, dI) [.ref m0, .long (iN x), .long (lN d)] sz [(m0, .inr (6, [.ref m1, .ref m2, .int (nI bm), .long un, .ref m3, .int (nI ty), .ref m4, .int (nI sp), .int (nI fa), .int (nI fp), .int (nI kn), .ref m5, .ref m6, .ref m7, .ref m8, .ref m9, .int dr, .ref m10, .ref m11, .int (nI lf), .int (nI yo), .int (nI ol), .ref m12, .long hh]))] []) (va_Ql (fun (res : Int64) (u : Unit) => res = iN (FRn x d)) (fun u : Unit => kB (dC, dI) [] (va_A [(m0, .inr (6, [.ref m1, .ref m2, .int (nI bm), .long un, .ref m3, .int (nI ty), .ref m4, .int (nI sp), .int (nI fa), .int (nI fp), .int (nI kn), .ref m5, .ref m6, .ref m7, .ref m8, .ref m9, .int dr, .ref m10, .ref m11, .int (nI lf), .int (nI yo), .int (nI ol), .ref m12, .long hh]))] sz) ([(m0, .inr (6, [.ref m1, .ref m2, .int (nI bm), .long (lN (FRd x d)), .ref m3, .int (nI ty), .ref m4, .int (nI sp), .int (nI fa), .int (nI fp), .int (nI kn), .ref m5, .ref m6, .ref m7, .ref m8, .ref m9, .int dr, .ref m10, .ref m11, .int (nI lf), .int (nI yo), .int (nI ol), .ref m12, .long hh]))])) (va_A [(m0, .inr (6, [.ref m1, .ref m2, .int (nI bm), .long un, .ref m3, .int (nI ty), .ref m4, .int (nI sp), .int (nI fa), .int (nI fp), .int (nI kn), .ref m5, .ref m6, .ref m7, .ref m8, .ref m9, .int dr, .ref m10, .ref m11, .int (nI lf), .int (nI yo), .int (nI ol), .ref m12, .long hh]))] sz)) 0 0 (va_A [(m0, .inr (6, [.ref m1, .ref m2, .int (nI bm), .long un, .ref m3, .int (nI ty), .ref m4, .int (nI sp), .int (nI fa), .int (nI fp), .int (nI kn), .ref m5, .ref m6, .ref m7, .ref m8, .ref m9, .int dr, .ref m10, .ref m11, .int (nI lf), .int (nI yo), .int (nI ol), .ref m12, .long hh]))] sz) := by
  refine kmet (by decide) ?_
  intro p e s m args below meth c Y hr hlocks hin hv
  obtain ⟨rfl, A, hAe, hsz, hP, hK, hD, hZ, hA⟩ := kinQ hv
  rw [hAe]
  have hS : va_S A s.heap s.heap [] := va_S.rf
  have hx := Y.1
  have hb := Y.2.1
  have hml := Y.2.2.1
  have hown := Y.2.2.2.1
  have hts := Y.2.2.2.2
  have hl := lv_entry ([.ref m0, .long (iN x), .long (lN d)]) (n := 7) (Nat.le_of_ble_eq_true rfl)
  rw [lg_entry_eq]
  generalize (lg_sl ([.ref m0, .long (iN x), .long (lN d)]) ++ List.replicate (7 - (lg_sl ([.ref m0, .long (iN x), .long (lN d)])).length) Slot.unset).toArray = ls at hl ⊢
  have hl : lv_has ls 7 [(0, .ref m0), (1, .long (iN x)), (3, .long (lN d))] := hl
  refine lv_lload_n hx hb dX6_told_0 rfl (lv_at hl 1 rfl) ?_
  refine lv_lload_n hx hb dX6_told_1 rfl (lv_at hl 2 rfl) ?_
  refine kSl (As := [.long (iN x), .long (lN d)]) (rest := []) Y m_X6_divisor (c_X6_divisor l dC dI x d (by omega) (by omega) (by omega)) qm_X6_119 (kpS hK hP hZ hS [] [] rfl rfl) rfl hl.1 rfl (Nat.le_of_ble_eq_true rfl) dX6_told_2 ⟨Nat.le_of_ble_eq_true rfl, Nat.le_of_ble_eq_true rfl⟩ ⟨Nat.zero_le _, Nat.zero_le _⟩ (fun r2 hr2 => ?_)
  obtain rfl : r2 = lN (FRg x d) := hr2
  have hg1 := FRg_p (x := x) h3
  have hg2 := FRg_le (x := x) h3
  refine lv_lstore (lv' := [(5, .long (lN (FRg x d))), (0, .ref m0), (1, .long (iN x)), (3, .long (lN d))]) hx hb dX6_told_5 hl (by decide) rfl (fun ls hl => ?_)
  refine lv_aload_n hx hb dX6_told_7 rfl (lv_at hl 1 rfl) ?_
  refine lv_lload_n hx hb dX6_told_8 rfl (lv_at hl 3 rfl) ?_
  refine lv_lload hx hb dX6_told_9 (lv_at hl 0 rfl) ?_
  refine rl_divn hx hb dX6_told_11 (by omega) (by omega) (by omega) ?_
  refine va_put (D := (dC, dI)) (ci := 6) (v := .long (lN (d / (FRg x d)))) (ty := .long) (C := RX6) (T := TX6) (N := 24) hx hb hts inlX6 tyX6 tyX6_ok nmX6 hown hK hP hD hS 0 rfl rfl 3 (by decide) (hts _ qf_X6_16) (fun _ h9 => h9) rfl (by decide +kernel) rfl rfl (Nat.le_of_ble_eq_true rfl) dX6_told_12 (fun H locs hP hD hS => ?_)
  have hP : va_P (dC, dI) vwCl [(m0, .inr (6, [.ref m1, .ref m2, .int (nI bm), .long (lN (d / (FRg x d))), .ref m3, .int (nI ty), .ref m4, .int (nI sp), .int (nI fa), .int (nI fp), .int (nI kn), .ref m5, .ref m6, .ref m7, .ref m8, .ref m9, .int dr, .ref m10, .ref m11, .int (nI lf), .int (nI yo), .int (nI ol), .ref m12, .long hh]))] H := hP
  have hD : va_D A [(m0, .inr (6, [.ref m1, .ref m2, .int (nI bm), .long (lN (d / (FRg x d))), .ref m3, .int (nI ty), .ref m4, .int (nI sp), .int (nI fa), .int (nI fp), .int (nI kn), .ref m5, .ref m6, .ref m7, .ref m8, .ref m9, .int dr, .ref m10, .ref m11, .int (nI lf), .int (nI yo), .int (nI ol), .ref m12, .long hh]))] := hD
  refine lv_lload_n hx hb dX6_told_15 rfl (lv_at hl 2 rfl) ?_
  refine lv_lload hx hb dX6_told_16 (lv_at hl 0 rfl) ?_
  refine lv_ldiv hx hb dX6_told_18 (lN_z9 (by omega) (by omega)) ?_
  refine rl_set (x' := iN (FRn x d)) (FR_div h1 h2 h3 h4) ?_
  exact kql (w1 := (fun u : Unit => [(m0, .inr (6, [.ref m1, .ref m2, .int (nI bm), .long (lN (FRd x d)), .ref m3, .int (nI ty), .ref m4, .int (nI sp), .int (nI fa), .int (nI fp), .int (nI kn), .ref m5, .ref m6, .ref m7, .ref m8, .ref m9, .int dr, .ref m10, .ref m11, .int (nI lf), .int (nI yo), .int (nI ol), .ref m12, .long hh]))])) (v := iN (FRn x d)) Y hr hlocks hK hP hD hS [0] (by decide) () rfl rfl dX6_told_19
