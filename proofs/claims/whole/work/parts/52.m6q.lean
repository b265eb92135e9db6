/-- the number of states at which nothing is left to win -/
def quG (P : Nat → Nat) (i j : Nat) : Nat := if VR P (P 0 + 1 - i) j = 0 then 1 else 0
def quR (P : Nat → Nat) (i : Nat) : Nat := smN (quG P i) (P 1)
def quN (P : Nat → Nat) : Nat := smN (quR P) (P 0)
theorem smN_n {f : Nat → Nat} {j : Nat} (h : 1 ≤ j) : smN f (j + 1 - 1) = smN f (j - 1) + f j := by
  obtain ⟨k, rfl⟩ : ∃ k, j = k + 1 := ⟨j - 1, by omega⟩
  rfl

set_option maxHeartbeats 4000000 in
set_option maxRecDepth 100000 in
theorem c_X6_quits (l : Launch) (dC : Nat → ClassId) (dI : Nat → Nat → Nat) (sz : Nat) (cI cL : ClassId) (m0 m1 m2 m3 m4 m5 m6 m7 m8 m9 m10 m11 m12 : Nat) (bm ty sp fa fp kn lf yo ol : Nat) (un hh : Int64) (dr : Int32) (P ww rv sy gz : Nat → Nat) (hPI : PI P) (hKI : KI P kn ww rv sy gz) : Met l yX6_quits (kw yX6_quits cX6_quits 4 (some .int)) (kR 5 127) (kPq (dC, dI) [.ref m0] sz [(m0, .inr (6, [.ref m1, .ref m2, .int (nI bm), .long un, .ref m3, .int (nI ty), .ref m4, .int (nI sp), .int (nI fa), .int (nI fp), .int (nI kn), .ref m5, .ref m6, .ref m7, .ref m8, .ref m9, .int dr, .ref m10, .ref m11, .int (nI lf), .int (nI yo), .int (nI ol), .ref m12, .long hh])), (m1, .inl (cI, 22, .inl (fun zz => nI (P zz)))), (m5, .inl (cL, 72, .inr (.inl (fun zz => lN (ww zz))))), (m6, .inl (cL, 40, .inr (.inl (fun zz => lN (rv zz))))), (m7, .inl (cL, 1152, .inr (.inl (fun zz => lN (sy zz))))), (m8, .inl (cL, 1152, .inr (.inl (fun zz => lN (gz zz)))))] [(cI, .int), (cL, .long)]) (va_Qi (fun (res : Int32) (u : Nat × (Nat → Nat) × (Nat → Nat) × (Nat → Nat) × (Nat → Nat)) => res = nI (quN P) ∧ KI P u.1 u.2.1 u.2.2.1 u.2.2.2.1 u.2.2.2.2) (fun u : Nat × (Nat → Nat) × (Nat → Nat) × (Nat → Nat) × (Nat → Nat) => kB (dC, dI) [(cI, .int), (cL, .long)] (va_A [(m0, .inr (6, [.ref m1, .ref m2, .int (nI bm), .long un, .ref m3, .int (nI ty), .ref m4, .int (nI sp), .int (nI fa), .int (nI fp), .int (nI kn), .ref m5, .ref m6, .ref m7, .ref m8, .ref m9, .int dr, .ref m10, .ref m11, .int (nI lf), .int (nI yo), .int (nI ol), .ref m12, .long hh])), (m1, .inl (cI, 22, .inl (fun zz => nI (P zz)))), (m5, .inl (cL, 72, .inr (.inl (fun zz => lN (ww zz))))), (m6, .inl (cL, 40, .inr (.inl (fun zz => lN (rv zz))))), (m7, .inl (cL, 1152, .inr (.inl (fun zz => lN (sy zz))))), (m8, .inl (cL, 1152, .inr (.inl (fun zz => lN (gz zz)))))] sz) ([(m0, .inr (6, [.ref m1, .ref m2, .int (nI bm), .long un, .ref m3, .int (nI ty), .ref m4, .int (nI sp), .int (nI fa), .int (nI fp), .int (nI u.1), .ref m5, .ref m6, .ref m7, .ref m8, .ref m9, .int dr, .ref m10, .ref m11, .int (nI lf), .int (nI yo), .int (nI ol), .ref m12, .long hh])), (m1, .inl (cI, 22, .inl (fun zz => nI (P zz)))), (m5, .inl (cL, 72, .inr (.inl (fun zz => lN (u.2.1 zz))))), (m6, .inl (cL, 40, .inr (.inl (fun zz => lN (u.2.2.1 zz))))), (m7, .inl (cL, 1152, .inr (.inl (fun zz => lN (u.2.2.2.1 zz))))), (m8, .inl (cL, 1152, .inr (.inl (fun zz => lN (u.2.2.2.2 zz)))))])) (va_A [(m0, .inr (6, [.ref m1, .ref m2, .int (nI bm), .long un, .ref m3, .int (nI ty), .ref m4, .int (nI sp), .int (nI fa), .int (nI fp), .int (nI kn), .ref m5, .ref m6, .ref m7, .ref m8, .ref m9, .int dr, .ref m10, .ref m11, .int (nI lf), .int (nI yo), .int (nI ol), .ref m12, .long hh])), (m1, .inl (cI, 22, .inl (fun zz => nI (P zz)))), (m5, .inl (cL, 72, .inr (.inl (fun zz => lN (ww zz))))), (m6, .inl (cL, 40, .inr (.inl (fun zz => lN (rv zz))))), (m7, .inl (cL, 1152, .inr (.inl (fun zz => lN (sy zz))))), (m8, .inl (cL, 1152, .inr (.inl (fun zz => lN (gz zz)))))] sz)) 0 0 (va_A [(m0, .inr (6, [.ref m1, .ref m2, .int (nI bm), .long un, .ref m3, .int (nI ty), .ref m4, .int (nI sp), .int (nI fa), .int (nI fp), .int (nI kn), .ref m5, .ref m6, .ref m7, .ref m8, .ref m9, .int dr, .ref m10, .ref m11, .int (nI lf), .int (nI yo), .int (nI ol), .ref m12, .long hh])), (m1, .inl (cI, 22, .inl (fun zz => nI (P zz)))), (m5, .inl (cL, 72, .inr (.inl (fun zz => lN (ww zz))))), (m6, .inl (cL, 40, .inr (.inl (fun zz => lN (rv zz))))), (m7, .inl (cL, 1152, .inr (.inl (fun zz => lN (sy zz))))), (m8, .inl (cL, 1152, .inr (.inl (fun zz => lN (gz zz)))))] sz) := by
  refine kmet (by decide) ?_
  intro p e s m args below meth c Y hr hlocks hin hv
  obtain ⟨rfl, A, hAe, hsz, hP, hK, hD, hZ, hA⟩ := kinQ hv
  rw [hAe]
  have hS : va_S A s.heap s.heap [] := va_S.rf
  have hx := Y.1
  have hb := Y.2.1
  have hml := Y.2.2.1
  have hown := Y.2.2.2.1
  have hts := Y.2.2.2.2
  have hl := lv_entry ([.ref m0]) (n := 4) (Nat.le_of_ble_eq_true rfl)
  rw [lg_entry_eq]
  generalize (lg_sl ([.ref m0]) ++ List.replicate (4 - (lg_sl ([.ref m0])).length) Slot.unset).toArray = ls at hl ⊢
  have hl : lv_has ls 4 [(0, .ref m0)] := hl
  have hp0 := hPI.1
  have hp1 := hPI.2.1
  have hp2 := hPI.2.2.1
  refine lv_aload_n hx hb dX6_quits_0 rfl (lv_at hl 0 rfl) ?_
  refine kQv (As := []) (rest := []) (wr := []) Y m_X6_knows (c_X6_knows l dC dI _ cI cL m0 m1 m2 m3 m4 m5 m6 m7 m8 m9 m10 m11 m12 bm ty sp fa fp kn lf yo ol un hh dr P ww rv sy gz hPI hKI) qm_X6_178 hP hD hS hA [0, 1, 2, 3, 4, 5] [] rfl rfl (by decide) (by decide) (kqV (ci := 6) hK hP hD hZ hS hA [0, 1, 2, 3, 4, 5] [0, 1] rfl (by decide) rfl 0 rfl rfl rfl) rfl hl.1 rfl (Nat.le_of_ble_eq_true rfl) dX6_quits_1 ⟨Nat.le_of_ble_eq_true rfl, Nat.le_of_ble_eq_true rfl⟩ ⟨Nat.zero_le _, Nat.zero_le _⟩ (fun u1 H locs hr1 hP hD hS => ?_)
  obtain ⟨ww2_1, rv2_1, sy2_1, gz2_1⟩ := u1
  have hP : va_P (dC, dI) vwCl [(m0, .inr (6, [.ref m1, .ref m2, .int (nI bm), .long un, .ref m3, .int (nI ty), .ref m4, .int (nI sp), .int (nI fa), .int (nI fp), .int (nI 1), .ref m5, .ref m6, .ref m7, .ref m8, .ref m9, .int dr, .ref m10, .ref m11, .int (nI lf), .int (nI yo), .int (nI ol), .ref m12, .long hh])), (m1, .inl (cI, 22, .inl (fun zz => nI (P zz)))), (m5, .inl (cL, 72, .inr (.inl (fun zz => lN (ww2_1 zz))))), (m6, .inl (cL, 40, .inr (.inl (fun zz => lN (rv2_1 zz))))), (m7, .inl (cL, 1152, .inr (.inl (fun zz => lN (sy2_1 zz))))), (m8, .inl (cL, 1152, .inr (.inl (fun zz => lN (gz2_1 zz)))))] H := hP
  have hD : va_D A [(m0, .inr (6, [.ref m1, .ref m2, .int (nI bm), .long un, .ref m3, .int (nI ty), .ref m4, .int (nI sp), .int (nI fa), .int (nI fp), .int (nI 1), .ref m5, .ref m6, .ref m7, .ref m8, .ref m9, .int dr, .ref m10, .ref m11, .int (nI lf), .int (nI yo), .int (nI ol), .ref m12, .long hh])), (m1, .inl (cI, 22, .inl (fun zz => nI (P zz)))), (m5, .inl (cL, 72, .inr (.inl (fun zz => lN (ww2_1 zz))))), (m6, .inl (cL, 40, .inr (.inl (fun zz => lN (rv2_1 zz))))), (m7, .inl (cL, 1152, .inr (.inl (fun zz => lN (sy2_1 zz))))), (m8, .inl (cL, 1152, .inr (.inl (fun zz => lN (gz2_1 zz)))))] := hD
  have hr1 : MR P ww2_1 rv2_1 ∧ MZ P sy2_1 gz2_1 := hr1
  refine lv_iconst (v := nI 0) hx hb dX6_quits_4 (by decide) ?_
  refine lv_istore_n (lv' := [(1, .int (nI 0)), (0, .ref m0)]) hx hb dX6_quits_5 rfl hl (by decide) rfl (fun ls hl => ?_)
  refine lv_iconst (v := nI 1) hx hb dX6_quits_6 (by decide) ?_
  refine lv_istore_n (lv' := [(2, .int (nI 1)), (1, .int (nI 0)), (0, .ref m0)]) hx hb dX6_quits_7 rfl hl (by decide) rfl (fun ls hl => ?_)
  refine wl2 (fun (i : Nat) (cc : Nat) => P 0 + 1 - i) (fun (i : Nat) (cc : Nat) (ls : Array Slot) (H : Heap) (locs : List Loc) => lv_has ls 4 [(0, .ref m0), (1, .int (nI cc)), (2, .int (nI i))] ∧ va_P (dC, dI) vwCl [(m0, .inr (6, [.ref m1, .ref m2, .int (nI bm), .long un, .ref m3, .int (nI ty), .ref m4, .int (nI sp), .int (nI fa), .int (nI fp), .int (nI 1), .ref m5, .ref m6, .ref m7, .ref m8, .ref m9, .int dr, .ref m10, .ref m11, .int (nI lf), .int (nI yo), .int (nI ol), .ref m12, .long hh])), (m1, .inl (cI, 22, .inl (fun zz => nI (P zz)))), (m5, .inl (cL, 72, .inr (.inl (fun zz => lN (ww2_1 zz))))), (m6, .inl (cL, 40, .inr (.inl (fun zz => lN (rv2_1 zz))))), (m7, .inl (cL, 1152, .inr (.inl (fun zz => lN (sy2_1 zz))))), (m8, .inl (cL, 1152, .inr (.inl (fun zz => lN (gz2_1 zz)))))] H ∧ va_D A [(m0, .inr (6, [.ref m1, .ref m2, .int (nI bm), .long un, .ref m3, .int (nI ty), .ref m4, .int (nI sp), .int (nI fa), .int (nI fp), .int (nI 1), .ref m5, .ref m6, .ref m7, .ref m8, .ref m9, .int dr, .ref m10, .ref m11, .int (nI lf), .int (nI yo), .int (nI ol), .ref m12, .long hh])), (m1, .inl (cI, 22, .inl (fun zz => nI (P zz)))), (m5, .inl (cL, 72, .inr (.inl (fun zz => lN (ww2_1 zz))))), (m6, .inl (cL, 40, .inr (.inl (fun zz => lN (rv2_1 zz))))), (m7, .inl (cL, 1152, .inr (.inl (fun zz => lN (sy2_1 zz))))), (m8, .inl (cL, 1152, .inr (.inl (fun zz => lN (gz2_1 zz)))))] ∧ va_S A s.heap H locs ∧ (1 ≤ i ∧ i ≤ P 0 + 1 ∧ cc ≤ 10 * i ∧ cc = smN (quR P) (i - 1))) 1 0 (by exact ⟨lv_sub hl [2, 1, 0] rfl, hP.sub [0, 1, 2, 3, 4, 5] rfl, hD.sub [0, 1, 2, 3, 4, 5] (by decide) rfl, hS, by omega, by omega, by omega, rfl⟩) (fun i cc ls H locs hI ih => ?_)
  obtain ⟨hl, hP, hD, hS, hi1, hi2, hcb, hcc⟩ := hI
  have ih8 := ih
  refine lv_iload_n hx hb dX6_quits_8 rfl (lv_at hl 2 rfl) ?_
  refine lv_aload_n hx hb dX6_quits_9 rfl (lv_at hl 0 rfl) ?_
  refine kVi (As := []) (rest := [.int (nI i)]) Y m_X6_n (c_X6_n l dC dI cI cL m0 m1 m2 m3 m4 m5 m6 m7 m8 m9 m10 m11 m12 bm ty sp fa fp 1 lf yo ol un hh dr P ) qm_X6_123 (kpV (ci := 6) hK hP hZ hS [0, 1] [0] rfl rfl 0 rfl rfl rfl) rfl hl.1 rfl (Nat.le_of_ble_eq_true rfl) dX6_quits_10 ⟨Nat.le_of_ble_eq_true rfl, Nat.le_of_ble_eq_true rfl⟩ ⟨Nat.zero_le _, Nat.zero_le _⟩ (fun r10 hr10 => ?_)
  obtain rfl : r10 = nI (P 0) := hr10
  refine ri_cgt (tgt := 61) hx hb dX6_quits_13 (by decide) (by omega) (by omega) (fun c13 => ?_) (fun c13 => ?_)
  · refine lv_iload_n hx hb dX6_quits_61 rfl (lv_at hl 1 rfl) ?_
    exact kqi (w1 := (fun u : Nat × (Nat → Nat) × (Nat → Nat) × (Nat → Nat) × (Nat → Nat) => [(m0, .inr (6, [.ref m1, .ref m2, .int (nI bm), .long un, .ref m3, .int (nI ty), .ref m4, .int (nI sp), .int (nI fa), .int (nI fp), .int (nI u.1), .ref m5, .ref m6, .ref m7, .ref m8, .ref m9, .int dr, .ref m10, .ref m11, .int (nI lf), .int (nI yo), .int (nI ol), .ref m12, .long hh])), (m1, .inl (cI, 22, .inl (fun zz => nI (P zz)))), (m5, .inl (cL, 72, .inr (.inl (fun zz => lN (u.2.1 zz))))), (m6, .inl (cL, 40, .inr (.inl (fun zz => lN (u.2.2.1 zz))))), (m7, .inl (cL, 1152, .inr (.inl (fun zz => lN (u.2.2.2.1 zz))))), (m8, .inl (cL, 1152, .inr (.inl (fun zz => lN (u.2.2.2.2 zz)))))])) (v := nI cc) Y hr hlocks hK hP hD hS [0, 1, 2, 3, 4, 5] (by decide) (1, ww2_1, rv2_1, sy2_1, gz2_1) rfl ⟨congrArg nI (by rw [hcc, show i - 1 = P 0 by omega]; rfl), KI_1 hr1.1 hr1.2⟩ dX6_quits_62
  · refine lv_iconst (v := nI 1) hx hb dX6_quits_16 (by decide) ?_
    refine lv_istore_n (lv' := [(3, .int (nI 1)), (0, .ref m0), (1, .int (nI cc)), (2, .int (nI i))]) hx hb dX6_quits_17 rfl hl (by decide) rfl (fun ls hl => ?_)
    refine wl2 (fun (j : Nat) (c9 : Nat) => P 1 + 1 - j) (fun (j : Nat) (c9 : Nat) (ls : Array Slot) (H : Heap) (locs : List Loc) => lv_has ls 4 [(0, .ref m0), (1, .int (nI c9)), (2, .int (nI i)), (3, .int (nI j))] ∧ va_P (dC, dI) vwCl [(m0, .inr (6, [.ref m1, .ref m2, .int (nI bm), .long un, .ref m3, .int (nI ty), .ref m4, .int (nI sp), .int (nI fa), .int (nI fp), .int (nI 1), .ref m5, .ref m6, .ref m7, .ref m8, .ref m9, .int dr, .ref m10, .ref m11, .int (nI lf), .int (nI yo), .int (nI ol), .ref m12, .long hh])), (m1, .inl (cI, 22, .inl (fun zz => nI (P zz)))), (m5, .inl (cL, 72, .inr (.inl (fun zz => lN (ww2_1 zz))))), (m6, .inl (cL, 40, .inr (.inl (fun zz => lN (rv2_1 zz))))), (m7, .inl (cL, 1152, .inr (.inl (fun zz => lN (sy2_1 zz))))), (m8, .inl (cL, 1152, .inr (.inl (fun zz => lN (gz2_1 zz)))))] H ∧ va_D A [(m0, .inr (6, [.ref m1, .ref m2, .int (nI bm), .long un, .ref m3, .int (nI ty), .ref m4, .int (nI sp), .int (nI fa), .int (nI fp), .int (nI 1), .ref m5, .ref m6, .ref m7, .ref m8, .ref m9, .int dr, .ref m10, .ref m11, .int (nI lf), .int (nI yo), .int (nI ol), .ref m12, .long hh])), (m1, .inl (cI, 22, .inl (fun zz => nI (P zz)))), (m5, .inl (cL, 72, .inr (.inl (fun zz => lN (ww2_1 zz))))), (m6, .inl (cL, 40, .inr (.inl (fun zz => lN (rv2_1 zz))))), (m7, .inl (cL, 1152, .inr (.inl (fun zz => lN (sy2_1 zz))))), (m8, .inl (cL, 1152, .inr (.inl (fun zz => lN (gz2_1 zz)))))] ∧ va_S A s.heap H locs ∧ (1 ≤ j ∧ j ≤ P 1 + 1 ∧ c9 ≤ 10 * i + j ∧ c9 = smN (quR P) (i - 1) + smN (quG P i) (j - 1))) 1 cc (by exact ⟨lv_sub hl [1, 2, 3, 0] rfl, hP.sub [0, 1, 2, 3, 4, 5] rfl, hD.sub [0, 1, 2, 3, 4, 5] (by decide) rfl, hS, by omega, by omega, by omega, hcc⟩) (fun j c9 ls H locs hI ih => ?_)
    obtain ⟨hl, hP, hD, hS, hj1, hj2, hcb9, hc9⟩ := hI
    have ih18 := ih
    refine lv_iload_n hx hb dX6_quits_18 rfl (lv_at hl 3 rfl) ?_
    refine lv_aload_n hx hb dX6_quits_19 rfl (lv_at hl 0 rfl) ?_
    refine kVi (As := []) (rest := [.int (nI j)]) Y m_X6_k (c_X6_k l dC dI cI cL m0 m1 m2 m3 m4 m5 m6 m7 m8 m9 m10 m11 m12 bm ty sp fa fp 1 lf yo ol un hh dr P ) qm_X6_184 (kpV (ci := 6) hK hP hZ hS [0, 1] [0] rfl rfl 0 rfl rfl rfl) rfl hl.1 rfl (Nat.le_of_ble_eq_true rfl) dX6_quits_20 ⟨Nat.le_of_ble_eq_true rfl, Nat.le_of_ble_eq_true rfl⟩ ⟨Nat.zero_le _, Nat.zero_le _⟩ (fun r20 hr20 => ?_)
    obtain rfl : r20 = nI (P 1) := hr20
    refine ri_cgt (tgt := 55) hx hb dX6_quits_23 (by decide) (by omega) (by omega) (fun c23 => ?_) (fun c23 => ?_)
    · refine lv_iinc (v := nI (i + 1)) (lv' := [(2, .int (nI (i + 1))), (0, .ref m0), (1, .int (nI c9)), (3, .int (nI j))]) hx hb dX6_quits_55 hl (k := 2) rfl (inc1 _) (by decide) rfl (fun ls hl => ?_)
      refine lv_goto (tgt := 8) hx hb dX6_quits_58 (by decide) ?_
      exact ih8 (i + 1) c9 _ _ _ (by show _ < _; omega) (by exact ⟨lv_sub hl [1, 2, 0] rfl, hP.sub [0, 1, 2, 3, 4, 5] rfl, hD.sub [0, 1, 2, 3, 4, 5] (by decide) rfl, hS, by omega, by omega, by omega, by rw [smN_n hi1, hc9]; unfold quR; rw [show j - 1 = P 1 by omega]⟩)
    · have hrv := hr1.1.2 i j (by omega) (by omega) (by omega)
      have hv3 := VR3 hPI (d := P 0 + 1 - i) (j := j) (by omega) (by omega)
      have hqg : quG P i j = if VR P (P 0 + 1 - i) j = 0 then 1 else 0 := rfl
      refine lv_iload_n hx hb dX6_quits_26 rfl (lv_at hl 1 rfl) ?_
      refine lv_aload_n hx hb dX6_quits_27 rfl (lv_at hl 0 rfl) ?_
      refine va_get (D := (dC, dI)) (ci := 6) (v := .ref m6) (C := RX6) (T := TX6) (N := 24) hx hb hts inlX6 hown hK hP 0 rfl rfl 12 (by decide) (hts _ qf_X6_30) (fun _ h9 => h9) rfl dX6_quits_28 ?_
      refine lv_iload_n hx hb dX6_quits_31 rfl (lv_at hl 2 rfl) ?_
      refine lv_iload_n hx hb dX6_quits_32 rfl (lv_at hl 3 rfl) ?_
      refine kSi (As := [.int (nI i), .int (nI j)]) (rest := [.ref m6, .int (nI c9)]) Y m_X6_at (c_X6_at l dC dI i j ) qm_X6_138 (kpS hK hP hZ hS [] [] rfl rfl) rfl hl.1 rfl (Nat.le_of_ble_eq_true rfl) dX6_quits_33 ⟨Nat.le_of_ble_eq_true rfl, Nat.le_of_ble_eq_true rfl⟩ ⟨Nat.zero_le _, Nat.zero_le _⟩ (fun r33 hr33 => ?_)
      obtain rfl : r33 = nI (4 * i + j) := hr33
      refine rm_ald hx hb hK hP 3 1 (F := rv2_1) rfl rfl dX6_quits_36 (by decide) (by omega) ?_
      refine lv_lconst (v := lN 0) hx hb dX6_quits_37 rfl ?_
      refine rl_nen (tgt := 46) hx hb dX6_quits_38 dX6_quits_39 (by decide) (by omega) (by omega) (fun c38 => ?_) (fun c38 => ?_)
      · refine lv_iconst (v := nI 0) hx hb dX6_quits_46 (by decide) ?_
        refine ri_add hx hb dX6_quits_47 ?_
        refine lv_istore_n (lv' := [(1, .int (nI (c9 + 0))), (0, .ref m0), (2, .int (nI i)), (3, .int (nI j))]) hx hb dX6_quits_48 rfl hl (by decide) rfl (fun ls hl => ?_)
        refine lv_iinc (v := nI (j + 1)) (lv' := [(3, .int (nI (j + 1))), (1, .int (nI (c9 + 0))), (0, .ref m0), (2, .int (nI i))]) hx hb dX6_quits_49 hl (k := 3) rfl (inc1 _) (by decide) rfl (fun ls hl => ?_)
        refine lv_goto (tgt := 18) hx hb dX6_quits_52 (by decide) ?_
        exact ih18 (j + 1) (c9 + 0) _ _ _ (by show _ < _; omega) (by exact ⟨lv_sub hl [2, 1, 3, 0] rfl, hP.sub [0, 1, 2, 3, 4, 5] rfl, hD.sub [0, 1, 2, 3, 4, 5] (by decide) rfl, hS, by omega, by omega, by omega, by rw [smN_n hj1, hqg, if_neg (show ¬ VR P (P 0 + 1 - i) j = 0 by omega)]; omega⟩)
      · refine lv_iconst (v := nI 1) hx hb dX6_quits_42 (by decide) ?_
        refine lv_goto (tgt := 47) hx hb dX6_quits_43 (by decide) ?_
        refine ri_add hx hb dX6_quits_47 ?_
        refine lv_istore_n (lv' := [(1, .int (nI (c9 + 1))), (0, .ref m0), (2, .int (nI i)), (3, .int (nI j))]) hx hb dX6_quits_48 rfl hl (by decide) rfl (fun ls hl => ?_)
        refine lv_iinc (v := nI (j + 1)) (lv' := [(3, .int (nI (j + 1))), (1, .int (nI (c9 + 1))), (0, .ref m0), (2, .int (nI i))]) hx hb dX6_quits_49 hl (k := 3) rfl (inc1 _) (by decide) rfl (fun ls hl => ?_)
        refine lv_goto (tgt := 18) hx hb dX6_quits_52 (by decide) ?_
        exact ih18 (j + 1) (c9 + 1) _ _ _ (by show _ < _; omega) (by exact ⟨lv_sub hl [2, 1, 3, 0] rfl, hP.sub [0, 1, 2, 3, 4, 5] rfl, hD.sub [0, 1, 2, 3, 4, 5] (by decide) rfl, hS, by omega, by omega, by omega, by rw [smN_n hj1, hqg, if_pos (show VR P (P 0 + 1 - i) j = 0 by omega)]; omega⟩)
