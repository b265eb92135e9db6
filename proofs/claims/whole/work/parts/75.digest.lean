def cnO (P : Nat → Nat) (ty bm : Nat) (a : Int32) : Int32 := if nI 0 ≤ a ∧ a ≤ nI 3 then (if nO a = 0 then nI ty else if nO a = 1 then nI bm else if nO a = 2 then nI (wgN P) else nI (quN P)) else -1
theorem cn_k {P : Nat → Nat} {ty bm k : Nat} (h : k ≤ 3) : cnO P ty bm (nI k) = (if k = 0 then nI ty else if k = 1 then nI bm else if k = 2 then nI (wgN P) else nI (quN P)) := by
  unfold cnO
  rw [if_pos ((in_iff (by omega) (by omega) (by omega)).mpr ⟨by omega, by omega⟩), nO_n (by omega)]
theorem frO_v {ok : Prop} [Decidable ok] {x : Int} {d : Nat} {un r u : Int64} (h : (r, u) = frO ok x d un) (hk : ok) : r = iN (FRn x d) ∧ u = lN (FRd x d) := by
  unfold frO at h
  rw [if_pos hk] at h
  injection h with h1 h2
  exact ⟨h1, h2⟩
/-- the hash: a value, a fraction, a run of them -/
def mix (h v : Int64) : Int64 := (lN 31 * h) + v
def mixR (h : Int64) (x : Int) (d : Nat) : Int64 := (lN 31 * ((lN 31 * h) + iN (FRn x d))) + lN (FRd x d)
def itG (f : Nat → Int64 → Int64) : Nat → Int64 → Int64 | 0, h => h | n + 1, h => f n (itG f n h)
theorem itG_s {f : Nat → Int64 → Int64} {n : Nat} {h h9 v : Int64} (e : h9 = itG f n h) (hv : v = f n h9) : v = itG f (n + 1) h := by rw [hv, e]; rfl
theorem itG_r {f : Nat → Int64 → Int64} {n : Nat} {h h9 v : Int64} (h1 : 1 ≤ n) (e : h9 = itG f (n - 1) h) (hv : v = f (n - 1) h9) : v = itG f (n + 1 - 1) h := by
  obtain ⟨k, rfl⟩ : ∃ k, n = k + 1 := ⟨n - 1, by omega⟩
  exact itG_s e hv
def d0f (P : Nat → Nat) (k : Nat) (h : Int64) : Int64 := mix h (lN (P k))
def d1f (P : Nat → Nat) (j : Nat) (h : Int64) : Int64 := mixR h ((VR P (P 0) j : Nat) : Int) 5040
def d2g (P : Nat → Nat) (i j : Nat) (h : Int64) : Int64 := mix h (lN (thF P (i + 1) (j + 1)))
def d2f (P : Nat → Nat) (i : Nat) (h : Int64) : Int64 := itG (d2g P i) (P 1) h
def d3f (P : Nat → Nat) (w : Nat) (h : Int64) : Int64 := mixR h ((EX P w (P 0) (P 1) : Nat) : Int) 5040
def d4f (P : Nat → Nat) (j : Nat) (h : Int64) : Int64 := mixR h ((SV P (P 20) (P 21) (P 0) j 5 5 : Nat) : Int) 1000000000000000
def d5f (P : Nat → Nat) (i : Nat) (h : Int64) : Int64 := mix (mix h (lN (brS P (P 20) (P 21) (P 0 - i) (P 1) 0 4))) (ltN P (P 0 - (i + 1)) (P 1) 5 5).toInt64
def d6f (P : Nat → Nat) (ty bm k : Nat) (h : Int64) : Int64 := mix h (cnO P ty bm (nI k)).toInt64
def dgA (P : Nat → Nat) (h : Int64) : Int64 := itG (d3f P) 3 (itG (d2f P) (P 0) (itG (d1f P) (P 1 + 1) h))
def dgB (P : Nat → Nat) (h : Int64) : Int64 := itG (d4f P) (P 1 + 1) (mix (dgA P h) (lN (argG (fun z => SK P z (P 0) (P 1)) (P 0))))
def dgM (P : Nat → Nat) (h : Int64) : Int64 := mixR (mix (itG (d5f P) (P 0) (dgB P h)) (lN (argG (fun z => FX P z (P 0) (P 1)) 99))) (gaN P) 1000000000000000
def dgO (P : Nat → Nat) (ty bm : Nat) : Int64 := itG (d6f P ty bm) 4 (dgM P (itG (d0f P) 22 (lN 18474)))
theorem leadG_le (f : Nat → Bool) : ∀ k r, leadG f k r ≤ r + k := by
  intro k
  induction k with
  | zero => intro r; exact Nat.le_refl _
  | succ k ih =>
    intro r
    show (if f (r + 1) then leadG f k (r + 1) else r) ≤ _
    split
    · have := ih (r + 1); omega
    · omega
theorem thF_le (P : Nat → Nat) (i j : Nat) : thF P i j ≤ i := by have := leadG_le (chB P i j) i 0; unfold thF; omega
theorem brS_le (P : Nat → Nat) (c1 c2 d j a b : Nat) : brS P c1 c2 d j a b ≤ 2 := by have := brS_c P c1 c2 d j a b; omega

set_option maxHeartbeats 4000000 in
set_option maxRecDepth 100000 in
theorem c_X6_count (l : Launch) (dC : Nat → ClassId) (dI : Nat → Nat → Nat) (sz : Nat) (cI cL : ClassId) (m0 m1 m2 m3 m4 m5 m6 m7 m8 m9 m10 m11 m12 : Nat) (bm ty sp fa fp kn lf yo ol : Nat) (un hh : Int64) (dr : Int32) (P ww rv sy gz : Nat → Nat) (a : Int32) (hPI : PI P) (hKI : KI P kn ww rv sy gz) : Met l yX6_count (kw yX6_count cX6_count 2 (some .int)) (kR 6 150) (kPq (dC, dI) [.ref m0, .int a] sz [(m0, .inr (6, [.ref m1, .ref m2, .int (nI bm), .long un, .ref m3, .int (nI ty), .ref m4, .int (nI sp), .int (nI fa), .int (nI fp), .int (nI kn), .ref m5, .ref m6, .ref m7, .ref m8, .ref m9, .int dr, .ref m10, .ref m11, .int (nI lf), .int (nI yo), .int (nI ol), .ref m12, .long hh])), (m1, .inl (cI, 22, .inl (fun zz => nI (P zz)))), (m5, .inl (cL, 72, .inr (.inl (fun zz => lN (ww zz))))), (m6, .inl (cL, 40, .inr (.inl (fun zz => lN (rv zz))))), (m7, .inl (cL, 1152, .inr (.inl (fun zz => lN (sy zz))))), (m8, .inl (cL, 1152, .inr (.inl (fun zz => lN (gz zz)))))] [(cI, .int), (cL, .long)]) (va_Qi (fun (res : Int32) (u : Nat × (Nat → Nat) × (Nat → Nat) × (Nat → Nat) × (Nat → Nat)) => res = cnO P ty bm a ∧ KI P u.1 u.2.1 u.2.2.1 u.2.2.2.1 u.2.2.2.2) (fun u : Nat × (Nat → Nat) × (Nat → Nat) × (Nat → Nat) × (Nat → Nat) => kB (dC, dI) [(cI, .int), (cL, .long)] (va_A [(m0, .inr (6, [.ref m1, .ref m2, .int (nI bm), .long un, .ref m3, .int (nI ty), .ref m4, .int (nI sp), .int (nI fa), .int (nI fp), .int (nI kn), .ref m5, .ref m6, .ref m7, .ref m8, .ref m9, .int dr, .ref m10, .ref m11, .int (nI lf), .int (nI yo), .int (nI ol), .ref m12, .long hh])), (m1, .inl (cI, 22, .inl (fun zz => nI (P zz)))), (m5, .inl (cL, 72, .inr (.inl (fun zz => lN (ww zz))))), (m6, .inl (cL, 40, .inr (.inl (fun zz => lN (rv zz))))), (m7, .inl (cL, 1152, .inr (.inl (fun zz => lN (sy zz))))), (m8, .inl (cL, 1152, .inr (.inl (fun zz => lN (gz zz)))))] sz) ([(m0, .inr (6, [.ref m1, .ref m2, .int (nI bm), .long un, .ref m3, .int (nI ty), .ref m4, .int (nI sp), .int (nI fa), .int (nI fp), .int (nI u.1), .ref m5, .ref m6, .ref m7, .ref m8, .ref m9, .int dr, .ref m10, .ref m11, .int (nI lf), .int (nI yo), .int (nI ol), .ref m12, .long hh])), (m1, .inl (cI, 22, .inl (fun zz => nI (P zz)))), (m5, .inl (cL, 72, .inr (.inl (fun zz => lN (u.2.1 zz))))), (m6, .inl (cL, 40, .inr (.inl (fun zz => lN (u.2.2.1 zz))))), (m7, .inl (cL, 1152, .inr (.inl (fun zz => lN (u.2.2.2.1 zz))))), (m8, .inl (cL, 1152, .inr (.inl (fun zz => lN (u.2.2.2.2 zz)))))])) (va_A [(m0, .inr (6, [.ref m1, .ref m2, .int (nI bm), .long un, .ref m3, .int (nI ty), .ref m4, .int (nI sp), .int (nI fa), .int (nI fp), .int (nI kn), .ref m5, .ref m6, .ref m7, .ref m8, .ref m9, .int dr, .ref m10, .ref m11, .int (nI lf), .int (nI yo), .int (nI ol), .ref m12, .long hh])), (m1, .inl (cI, 22, .inl (fun zz => nI (P zz)))), (m5, .inl (cL, 72, .inr (.inl (fun zz => lN (ww zz))))), (m6, .inl (cL, 40, .inr (.inl (fun zz => lN (rv zz))))), (m7, .inl (cL, 1152, .inr (.inl (fun zz => lN (sy zz))))), (m8, .inl (cL, 1152, .inr (.inl (fun zz => lN (gz zz)))))] sz)) 0 0 (va_A [(m0, .inr (6, [.ref m1, .ref m2, .int (nI bm), .long un, .ref m3, .int (nI ty), .ref m4, .int (nI sp), .int (nI fa), .int (nI fp), .int (nI kn), .ref m5, .ref m6, .ref m7, .ref m8, .ref m9, .int dr, .ref m10, .ref m11, .int (nI lf), .int (nI yo), .int (nI ol), .ref m12, .long hh])), (m1, .inl (cI, 22, .inl (fun zz => nI (P zz)))), (m5, .inl (cL, 72, .inr (.inl (fun zz => lN (ww zz))))), (m6, .inl (cL, 40, .inr (.inl (fun zz => lN (rv zz))))), (m7, .inl (cL, 1152, .inr (.inl (fun zz => lN (sy zz))))), (m8, .inl (cL, 1152, .inr (.inl (fun zz => lN (gz zz)))))] sz) := by
  refine kmet (by decide) ?_
  intro p e s m args below meth c Y hr hlocks hin hv
  obtain ⟨rfl, A, hAe, hsz, hP, hK, hD, hZ, hA⟩ := kinQ hv
  rw [hAe]
  have hS : va_S A s.heap s.heap [] := va_S.rf
  have hx := Y.1
  have hb := Y.2.1
  have hml := Y.2.2.1
  have hown := Y.2.2.2.1
  have hts := Y.2.2.2.2
  have hl := lv_entry ([.ref m0, .int a]) (n := 2) (Nat.le_of_ble_eq_true rfl)
  rw [lg_entry_eq]
  generalize (lg_sl ([.ref m0, .int a]) ++ List.replicate (2 - (lg_sl ([.ref m0, .int a])).length) Slot.unset).toArray = ls at hl ⊢
  have hl : lv_has ls 2 [(0, .ref m0), (1, .int a)] := hl
  refine lv_iload_n hx hb dX6_count_0 rfl (lv_at hl 1 rfl) ?_
  by_cases hsw : nI 0 ≤ a ∧ a ≤ nI 3
  · obtain ⟨xn, rfl, hxn1, hxn2⟩ := in_n (by decide) (by decide) hsw
    rcases (show xn = 0 ∨ xn = 1 ∨ xn = 2 ∨ xn = 3 by omega) with rfl | rfl | rfl | rfl
    · refine lv_tableIn (off := 31) (tgt := 32) hx hb dX6_count_1 (by decide) (by decide) rfl (by decide) ?_
      refine lv_aload_n hx hb dX6_count_32 rfl (lv_at hl 0 rfl) ?_
      refine va_get (D := (dC, dI)) (ci := 6) (v := .int (nI ty)) (C := RX6) (T := TX6) (N := 24) hx hb hts inlX6 hown hK hP 0 rfl rfl 5 (by decide) (hts _ qf_X6_81) (fun _ h9 => h9) rfl dX6_count_33 ?_
      exact kqi (w1 := (fun u : Nat × (Nat → Nat) × (Nat → Nat) × (Nat → Nat) × (Nat → Nat) => [(m0, .inr (6, [.ref m1, .ref m2, .int (nI bm), .long un, .ref m3, .int (nI ty), .ref m4, .int (nI sp), .int (nI fa), .int (nI fp), .int (nI u.1), .ref m5, .ref m6, .ref m7, .ref m8, .ref m9, .int dr, .ref m10, .ref m11, .int (nI lf), .int (nI yo), .int (nI ol), .ref m12, .long hh])), (m1, .inl (cI, 22, .inl (fun zz => nI (P zz)))), (m5, .inl (cL, 72, .inr (.inl (fun zz => lN (u.2.1 zz))))), (m6, .inl (cL, 40, .inr (.inl (fun zz => lN (u.2.2.1 zz))))), (m7, .inl (cL, 1152, .inr (.inl (fun zz => lN (u.2.2.2.1 zz))))), (m8, .inl (cL, 1152, .inr (.inl (fun zz => lN (u.2.2.2.2 zz)))))])) (v := nI ty) Y hr hlocks hK hP hD hS [0, 1, 2, 3, 4, 5] (by decide) (kn, ww, rv, sy, gz) rfl ⟨(cn_k (k := 0) (by omega)).symm, hKI⟩ dX6_count_36
    · refine lv_tableIn (off := 36) (tgt := 37) hx hb dX6_count_1 (by decide) (by decide) rfl (by decide) ?_
      refine lv_aload_n hx hb dX6_count_37 rfl (lv_at hl 0 rfl) ?_
      refine va_get (D := (dC, dI)) (ci := 6) (v := .int (nI bm)) (C := RX6) (T := TX6) (N := 24) hx hb hts inlX6 hown hK hP 0 rfl rfl 2 (by decide) (hts _ qf_X6_51) (fun _ h9 => h9) rfl dX6_count_38 ?_
      exact kqi (w1 := (fun u : Nat × (Nat → Nat) × (Nat → Nat) × (Nat → Nat) × (Nat → Nat) => [(m0, .inr (6, [.ref m1, .ref m2, .int (nI bm), .long un, .ref m3, .int (nI ty), .ref m4, .int (nI sp), .int (nI fa), .int (nI fp), .int (nI u.1), .ref m5, .ref m6, .ref m7, .ref m8, .ref m9, .int dr, .ref m10, .ref m11, .int (nI lf), .int (nI yo), .int (nI ol), .ref m12, .long hh])), (m1, .inl (cI, 22, .inl (fun zz => nI (P zz)))), (m5, .inl (cL, 72, .inr (.inl (fun zz => lN (u.2.1 zz))))), (m6, .inl (cL, 40, .inr (.inl (fun zz => lN (u.2.2.1 zz))))), (m7, .inl (cL, 1152, .inr (.inl (fun zz => lN (u.2.2.2.1 zz))))), (m8, .inl (cL, 1152, .inr (.inl (fun zz => lN (u.2.2.2.2 zz)))))])) (v := nI bm) Y hr hlocks hK hP hD hS [0, 1, 2, 3, 4, 5] (by decide) (kn, ww, rv, sy, gz) rfl ⟨(cn_k (k := 1) (by omega)).symm, hKI⟩ dX6_count_41
    · refine lv_tableIn (off := 41) (tgt := 42) hx hb dX6_count_1 (by decide) (by decide) rfl (by decide) ?_
      refine lv_aload_n hx hb dX6_count_42 rfl (lv_at hl 0 rfl) ?_
      refine kVi (As := []) (rest := []) Y m_X6_weighted (c_X6_weighted l dC dI cI cL m0 m1 m2 m3 m4 m5 m6 m7 m8 m9 m10 m11 m12 bm ty sp fa fp kn lf yo ol un hh dr P hPI) qm_X6_249 (kpV (ci := 6) hK hP hZ hS [0, 1] [0] rfl rfl 0 rfl rfl rfl) rfl hl.1 rfl (Nat.le_of_ble_eq_true rfl) dX6_count_43 ⟨Nat.le_of_ble_eq_true rfl, Nat.le_of_ble_eq_true rfl⟩ ⟨Nat.zero_le _, Nat.zero_le _⟩ (fun r43 hr43 => ?_)
      obtain rfl : r43 = nI (wgN P) := hr43
      exact kqi (w1 := (fun u : Nat × (Nat → Nat) × (Nat → Nat) × (Nat → Nat) × (Nat → Nat) => [(m0, .inr (6, [.ref m1, .ref m2, .int (nI bm), .long un, .ref m3, .int (nI ty), .ref m4, .int (nI sp), .int (nI fa), .int (nI fp), .int (nI u.1), .ref m5, .ref m6, .ref m7, .ref m8, .ref m9, .int dr, .ref m10, .ref m11, .int (nI lf), .int (nI yo), .int (nI ol), .ref m12, .long hh])), (m1, .inl (cI, 22, .inl (fun zz => nI (P zz)))), (m5, .inl (cL, 72, .inr (.inl (fun zz => lN (u.2.1 zz))))), (m6, .inl (cL, 40, .inr (.inl (fun zz => lN (u.2.2.1 zz))))), (m7, .inl (cL, 1152, .inr (.inl (fun zz => lN (u.2.2.2.1 zz))))), (m8, .inl (cL, 1152, .inr (.inl (fun zz => lN (u.2.2.2.2 zz)))))])) (v := nI (wgN P)) Y hr hlocks hK hP hD hS [0, 1, 2, 3, 4, 5] (by decide) (kn, ww, rv, sy, gz) rfl ⟨(cn_k (k := 2) (by omega)).symm, hKI⟩ dX6_count_46
    · refine lv_tableIn (off := 46) (tgt := 47) hx hb dX6_count_1 (by decide) (by decide) rfl (by decide) ?_
      refine lv_aload_n hx hb dX6_count_47 rfl (lv_at hl 0 rfl) ?_
      refine kQi (As := []) (rest := []) (wr := []) Y m_X6_quits (c_X6_quits l dC dI _ cI cL m0 m1 m2 m3 m4 m5 m6 m7 m8 m9 m10 m11 m12 bm ty sp fa fp kn lf yo ol un hh dr P ww rv sy gz hPI hKI) qm_X6_252 hP hD hS hA [0, 1, 2, 3, 4, 5] [] rfl rfl (by decide) (by decide) (kqV (ci := 6) hK hP hD hZ hS hA [0, 1, 2, 3, 4, 5] [0, 1] rfl (by decide) rfl 0 rfl rfl rfl) rfl hl.1 rfl (Nat.le_of_ble_eq_true rfl) dX6_count_48 ⟨Nat.le_of_ble_eq_true rfl, Nat.le_of_ble_eq_true rfl⟩ ⟨Nat.zero_le _, Nat.zero_le _⟩ (fun r48 u48 H locs hr48 hP hD hS => ?_)
      obtain ⟨kn2_48, ww2_48, rv2_48, sy2_48, gz2_48⟩ := u48
      have hP : va_P (dC, dI) vwCl [(m0, .inr (6, [.ref m1, .ref m2, .int (nI bm), .long un, .ref m3, .int (nI ty), .ref m4, .int (nI sp), .int (nI fa), .int (nI fp), .int (nI kn2_48), .ref m5, .ref m6, .ref m7, .ref m8, .ref m9, .int dr, .ref m10, .ref m11, .int (nI lf), .int (nI yo), .int (nI ol), .ref m12, .long hh])), (m1, .inl (cI, 22, .inl (fun zz => nI (P zz)))), (m5, .inl (cL, 72, .inr (.inl (fun zz => lN (ww2_48 zz))))), (m6, .inl (cL, 40, .inr (.inl (fun zz => lN (rv2_48 zz))))), (m7, .inl (cL, 1152, .inr (.inl (fun zz => lN (sy2_48 zz))))), (m8, .inl (cL, 1152, .inr (.inl (fun zz => lN (gz2_48 zz)))))] H := hP
      have hD : va_D A [(m0, .inr (6, [.ref m1, .ref m2, .int (nI bm), .long un, .ref m3, .int (nI ty), .ref m4, .int (nI sp), .int (nI fa), .int (nI fp), .int (nI kn2_48), .ref m5, .ref m6, .ref m7, .ref m8, .ref m9, .int dr, .ref m10, .ref m11, .int (nI lf), .int (nI yo), .int (nI ol), .ref m12, .long hh])), (m1, .inl (cI, 22, .inl (fun zz => nI (P zz)))), (m5, .inl (cL, 72, .inr (.inl (fun zz => lN (ww2_48 zz))))), (m6, .inl (cL, 40, .inr (.inl (fun zz => lN (rv2_48 zz))))), (m7, .inl (cL, 1152, .inr (.inl (fun zz => lN (sy2_48 zz))))), (m8, .inl (cL, 1152, .inr (.inl (fun zz => lN (gz2_48 zz)))))] := hD
      have hr48 : r48 = nI (quN P) ∧ KI P kn2_48 ww2_48 rv2_48 sy2_48 gz2_48 := hr48
      exact kqi (w1 := (fun u : Nat × (Nat → Nat) × (Nat → Nat) × (Nat → Nat) × (Nat → Nat) => [(m0, .inr (6, [.ref m1, .ref m2, .int (nI bm), .long un, .ref m3, .int (nI ty), .ref m4, .int (nI sp), .int (nI fa), .int (nI fp), .int (nI u.1), .ref m5, .ref m6, .ref m7, .ref m8, .ref m9, .int dr, .ref m10, .ref m11, .int (nI lf), .int (nI yo), .int (nI ol), .ref m12, .long hh])), (m1, .inl (cI, 22, .inl (fun zz => nI (P zz)))), (m5, .inl (cL, 72, .inr (.inl (fun zz => lN (u.2.1 zz))))), (m6, .inl (cL, 40, .inr (.inl (fun zz => lN (u.2.2.1 zz))))), (m7, .inl (cL, 1152, .inr (.inl (fun zz => lN (u.2.2.2.1 zz))))), (m8, .inl (cL, 1152, .inr (.inl (fun zz => lN (u.2.2.2.2 zz)))))])) (v := r48) Y hr hlocks hK hP hD hS [0, 1, 2, 3, 4, 5] (by decide) (kn2_48, ww2_48, rv2_48, sy2_48, gz2_48) rfl ⟨hr48.1.trans (cn_k (k := 3) (by omega)).symm, hr48.2⟩ dX6_count_51
  · refine lv_tableOut (tgt := 52) hx hb dX6_count_1 (sw_o (lo := 0) (hi := 3) (by decide) (by decide) hsw) (by decide) ?_
    refine lv_iconst (v := -1) hx hb dX6_count_52 (by decide) ?_
    exact kqi (w1 := (fun u : Nat × (Nat → Nat) × (Nat → Nat) × (Nat → Nat) × (Nat → Nat) => [(m0, .inr (6, [.ref m1, .ref m2, .int (nI bm), .long un, .ref m3, .int (nI ty), .ref m4, .int (nI sp), .int (nI fa), .int (nI fp), .int (nI u.1), .ref m5, .ref m6, .ref m7, .ref m8, .ref m9, .int dr, .ref m10, .ref m11, .int (nI lf), .int (nI yo), .int (nI ol), .ref m12, .long hh])), (m1, .inl (cI, 22, .inl (fun zz => nI (P zz)))), (m5, .inl (cL, 72, .inr (.inl (fun zz => lN (u.2.1 zz))))), (m6, .inl (cL, 40, .inr (.inl (fun zz => lN (u.2.2.1 zz))))), (m7, .inl (cL, 1152, .inr (.inl (fun zz => lN (u.2.2.2.1 zz))))), (m8, .inl (cL, 1152, .inr (.inl (fun zz => lN (u.2.2.2.2 zz)))))])) (v := (-1)) Y hr hlocks hK hP hD hS [0, 1, 2, 3, 4, 5] (by decide) (kn, ww, rv, sy, gz) rfl ⟨(if_neg hsw).symm, hKI⟩ dX6_count_53
