theorem in21 {a : Int32} : a < nI 22 ↔ a ≤ nI 21 := by
  rw [Int32.lt_iff_toInt_lt, Int32.le_iff_toInt_le, nI_toInt (by decide), nI_toInt (by decide)]
  omega
theorem EQ_cl {x : TSt} {P tx S : Nat → Nat} {tn fp nu nb np : Nat} (h : x = goF tx tn tn 0 (0, fp, 0, 7, nu, 0, nb, np, va_cpy P S 0 0 22)) : EQt x (g0 P tx tn) := by
  rw [h]
  refine EQ_go _ _ _ _ (EQ_0 (fun _ => rfl) (fun q => absurd rfl q) (fun q => absurd rfl q) (fun k hk => ?_))
  unfold va_cpy
  rw [if_pos ⟨by omega, by omega⟩]
  exact congrArg P (by omega)
theorem TIs_fin {s : TSt} {n : Nat} (h : TIs s) : TIs (finS s n) := by
  obtain ⟨fl, fp, its, it, nu, di, nb, np, S⟩ := s
  have e := TIs_endN (fl := fl) (fp := fp) (its := its) (show TIv it nu di nb np S from h)
  unfold finS
  split
  · exact h
  · split
    · exact e
    · exact e
theorem TIs_go {tx : Nat → Nat} {n : Nat} : ∀ f pos : Nat, ∀ s : TSt, TIs s → pos + f ≤ 60 → TIs (goF tx n f pos s) := by
  intro f
  induction f with
  | zero => intro pos s h _; exact TIs_fin h
  | succ f ih =>
    intro pos s h hp
    show TIs (if s.1 ≠ 0 then s else goF tx n f (pos + 1) (stepc s (tx pos) pos))
    split
    · exact h
    · exact ih _ _ (TIs_step h (by omega)) (by omega)
theorem TIs_cl {fl2 fp2 its2 it2 nu2 di2 nb2 np2 : Nat} {S2 : Nat → Nat} {P tx S : Nat → Nat} {tn fp nu nb np : Nat} (h2 : tn ≤ 60) (h3 : nb ≤ 99) (h4 : np ≤ 60) (hP : PI P) (h : (fl2, fp2, its2, it2, nu2, di2, nb2, np2, S2) = goF tx tn tn 0 (0, fp, 0, 7, nu, 0, nb, np, va_cpy P S 0 0 22)) : nb2 ≤ 99 ∧ np2 ≤ 60 := by
  have e : TIs (goF tx tn tn 0 (0, fp, 0, 7, nu, 0, nb, np, va_cpy P S 0 0 22)) := TIs_go _ _ _ ⟨by show 7 ≤ 7; omega, fun q => absurd (show (7 : Nat) < 7 from q) (by decide), by show 0 ≤ 2; omega, fun _ => rfl, h3, fun q => absurd (show (0 : Nat) = 1 from q) (by decide), h4, fun k hk => by show va_cpy P S 0 0 22 k ≤ 99; unfold va_cpy; rw [if_pos ⟨by omega, by omega⟩]; exact hP.le (by omega)⟩ (by omega)
  rw [← h] at e
  exact ⟨e.2.2.2.2.1, e.2.2.2.2.2.2.1⟩
theorem fl_go {tx : Nat → Nat} {n : Nat} : ∀ f pos : Nat, ∀ s : TSt, s.1 ≤ 3 → (goF tx n f pos s).1 ≤ 3 := by
  intro f
  induction f with
  | zero =>
    intro pos s h
    show (finS s n).1 ≤ 3
    unfold finS
    split
    · exact h
    · split
      · show 1 ≤ 3; omega
      · exact endN_fl h
  | succ f ih =>
    intro pos s h
    show (if s.1 ≠ 0 then s else goF tx n f (pos + 1) (stepc s (tx pos) pos)).1 ≤ 3
    split
    · exact h
    · exact ih _ _ (stepc_fl h)
theorem fl_cl {fl2 fp2 its2 it2 nu2 di2 nb2 np2 : Nat} {S2 : Nat → Nat} {P tx S : Nat → Nat} {tn fp nu nb np : Nat} (h : (fl2, fp2, its2, it2, nu2, di2, nb2, np2, S2) = goF tx tn tn 0 (0, fp, 0, 7, nu, 0, nb, np, va_cpy P S 0 0 22)) : fl2 ≤ 3 := by
  have e := fl_go (tx := tx) (n := tn) tn 0 (0, fp, 0, 7, nu, 0, nb, np, va_cpy P S 0 0 22) (show 0 ≤ 3 by omega)
  rw [← h] at e
  exact e
theorem ldO_cf {x g : TSt} {P hs : Nat → Nat} {hn k : Nat} (h : EQt x g) (h0 : x.1 ≠ 0) : (-10 - nI x.2.1, P, hs, hn, k, x.1) = ldO P hs hn k g := by
  have e := EQ_f h
  unfold ldO
  rw [if_pos (by rw [← e]; exact h0), ← e, ← EQ_p h h0]
theorem ldO_ck {x g : TSt} {P hs : Nat → Nat} {hn k : Nat} (h : EQt x g) (h0 : x.1 = 0) : (nI x.2.2.1, va_cpy x.2.2.2.2.2.2.2.2 P 0 0 22, recS P hs hn, recN hn, 0, x.1) = ldO P hs hn k g := by
  have e := EQ_f h
  have e2 := EQ_e h h0
  unfold ldO
  rw [if_neg (fun q => q (by rw [← e]; exact h0)), ← e2.1, cpy_x e2.2, h0]

set_option maxHeartbeats 4000000 in
set_option maxRecDepth 100000 in
theorem c_X5_undo (l : Launch) (dC : Nat → ClassId) (dI : Nat → Nat → Nat) (sz : Nat) (cI : ClassId) (x0 pa t0 y0 r0 a0 b0 s0 : Nat) (fa : Nat) (un : Int64) (y1 hn : Nat) (hs P : Nat → Nat) (q1 q2 q3 : Nat) (sv n : Nat) (co : Int64) (v1 v2 v3 v4 v5 : Nat) (vsv vn vco vc1 vc2 : Nat) (w1 w2 w3 w4 w5 : Nat) (usv uwn uco uc1 uc2 : Nat) (h1 : hn ≤ 8) : Met l yX5_undo (kw yX5_undo cX5_undo 1 (some .int)) (kR 2 61) (kPq (dC, dI) [.ref x0] sz [(x0, .inr (5, [.ref pa, .ref t0, .ref y0, .ref r0, .ref a0, .ref b0, .ref s0, .int (nI fa), .long un])), (pa, .inl (cI, 22, .inl (fun zz => nI (P zz)))), (y0, .inr (0, [.ref y1, .int (nI hn)])), (y1, .inl (cI, 176, .inl (fun zz => nI (hs zz)))), (r0, .inr (1, [.ref q1, .ref q2, .ref q3, .int (nI sv), .int (nI n), .long co])), (a0, .inr (4, [.int (nI 1), .ref v1, .ref v2, .ref v3, .ref v4, .ref v5, .int (nI vsv), .int (nI vn), .long (lN vco), .int (nI vc1), .int (nI vc2)])), (b0, .inr (4, [.int (nI 0), .ref w1, .ref w2, .ref w3, .ref w4, .ref w5, .int (nI usv), .int (nI uwn), .long (lN uco), .int (nI uc1), .int (nI uc2)]))] [(cI, .int)]) (va_Qi (fun (res : Int32) (u : (Nat → Nat) × Nat × Nat) => (res, u.1, u.2.1, u.2.2) = undO P hs hn 1) (fun u : (Nat → Nat) × Nat × Nat => kB (dC, dI) [(cI, .int)] (va_A [(x0, .inr (5, [.ref pa, .ref t0, .ref y0, .ref r0, .ref a0, .ref b0, .ref s0, .int (nI fa), .long un])), (pa, .inl (cI, 22, .inl (fun zz => nI (P zz)))), (y0, .inr (0, [.ref y1, .int (nI hn)])), (y1, .inl (cI, 176, .inl (fun zz => nI (hs zz)))), (r0, .inr (1, [.ref q1, .ref q2, .ref q3, .int (nI sv), .int (nI n), .long co])), (a0, .inr (4, [.int (nI 1), .ref v1, .ref v2, .ref v3, .ref v4, .ref v5, .int (nI vsv), .int (nI vn), .long (lN vco), .int (nI vc1), .int (nI vc2)])), (b0, .inr (4, [.int (nI 0), .ref w1, .ref w2, .ref w3, .ref w4, .ref w5, .int (nI usv), .int (nI uwn), .long (lN uco), .int (nI uc1), .int (nI uc2)]))] sz) ([(x0, .inr (5, [.ref pa, .ref t0, .ref y0, .ref r0, .ref a0, .ref b0, .ref s0, .int (nI fa), .long un])), (pa, .inl (cI, 22, .inl (fun zz => nI (u.1 zz)))), (y0, .inr (0, [.ref y1, .int (nI u.2.1)])), (y1, .inl (cI, 176, .inl (fun zz => nI (hs zz)))), (r0, .inr (1, [.ref q1, .ref q2, .ref q3, .int (nI (if u.2.2 = 0 then 0 else sv)), .int (nI n), .long co])), (a0, .inr (4, [.int (nI 1), .ref v1, .ref v2, .ref v3, .ref v4, .ref v5, .int (nI (if u.2.2 = 0 then 0 else vsv)), .int (nI vn), .long (lN vco), .int (nI vc1), .int (nI vc2)])), (b0, .inr (4, [.int (nI 0), .ref w1, .ref w2, .ref w3, .ref w4, .ref w5, .int (nI (if u.2.2 = 0 then 0 else usv)), .int (nI uwn), .long (lN uco), .int (nI uc1), .int (nI uc2)]))])) (va_A [(x0, .inr (5, [.ref pa, .ref t0, .ref y0, .ref r0, .ref a0, .ref b0, .ref s0, .int (nI fa), .long un])), (pa, .inl (cI, 22, .inl (fun zz => nI (P zz)))), (y0, .inr (0, [.ref y1, .int (nI hn)])), (y1, .inl (cI, 176, .inl (fun zz => nI (hs zz)))), (r0, .inr (1, [.ref q1, .ref q2, .ref q3, .int (nI sv), .int (nI n), .long co])), (a0, .inr (4, [.int (nI 1), .ref v1, .ref v2, .ref v3, .ref v4, .ref v5, .int (nI vsv), .int (nI vn), .long (lN vco), .int (nI vc1), .int (nI vc2)])), (b0, .inr (4, [.int (nI 0), .ref w1, .ref w2, .ref w3, .ref w4, .ref w5, .int (nI usv), .int (nI uwn), .long (lN uco), .int (nI uc1), .int (nI uc2)]))] sz)) 0 0 (va_A [(x0, .inr (5, [.ref pa, .ref t0, .ref y0, .ref r0, .ref a0, .ref b0, .ref s0, .int (nI fa), .long un])), (pa, .inl (cI, 22, .inl (fun zz => nI (P zz)))), (y0, .inr (0, [.ref y1, .int (nI hn)])), (y1, .inl (cI, 176, .inl (fun zz => nI (hs zz)))), (r0, .inr (1, [.ref q1, .ref q2, .ref q3, .int (nI sv), .int (nI n), .long co])), (a0, .inr (4, [.int (nI 1), .ref v1, .ref v2, .ref v3, .ref v4, .ref v5, .int (nI vsv), .int (nI vn), .long (lN vco), .int (nI vc1), .int (nI vc2)])), (b0, .inr (4, [.int (nI 0), .ref w1, .ref w2, .ref w3, .ref w4, .ref w5, .int (nI usv), .int (nI uwn), .long (lN uco), .int (nI uc1), .int (nI uc2)]))] sz) := by
  refine kmet (by decide) ?_
  intro p e s m args below meth c Y hr hlocks hin hv
  obtain ⟨rfl, A, hAe, hsz, hP, hK, hD, hZ, hA⟩ := kinQ hv
  rw [hAe]
  have hS : va_S A s.heap s.heap [] := va_S.rf
  have hx := Y.1
  have hb := Y.2.1
  have hml := Y.2.2.1
  have hown := Y.2.2.2.1
  have hts := Y.2.2.2.2
  have hl := lv_entry ([.ref x0]) (n := 1) (Nat.le_of_ble_eq_true rfl)
  rw [lg_entry_eq]
  generalize (lg_sl ([.ref x0]) ++ List.replicate (1 - (lg_sl ([.ref x0])).length) Slot.unset).toArray = ls at hl ⊢
  have hl : lv_has ls 1 [(0, .ref x0)] := hl
  refine lv_aload_n hx hb dX5_undo_0 rfl (lv_at hl 0 rfl) ?_
  refine va_get (D := (dC, dI)) (ci := 5) (v := .ref y0) (C := RX5) (T := TX5) (N := 9) hx hb hts inlX5 hown hK hP 0 rfl rfl 2 (by decide) (hts _ qf_X5_32) (fun _ h9 => h9) rfl dX5_undo_1 ?_
  refine kVi (As := []) (rest := []) Y m_X0_size (c_X0_size l dC dI y0 y1 hn ) qm_X5_202 (kpV (ci := 0) hK hP hZ hS [2] [] rfl rfl 0 rfl rfl rfl) rfl hl.1 rfl (Nat.le_of_ble_eq_true rfl) dX5_undo_4 ⟨Nat.le_of_ble_eq_true rfl, Nat.le_of_ble_eq_true rfl⟩ ⟨Nat.zero_le _, Nat.zero_le _⟩ (fun r4 hr4 => ?_)
  obtain rfl : r4 = nI hn := hr4
  refine ri_zne (tgt := 13) hx hb dX5_undo_7 (by decide) (by omega) (fun c7 => ?_) (fun c7 => ?_)
  · refine lv_aload_n hx hb dX5_undo_13 rfl (lv_at hl 0 rfl) ?_
    refine va_get (D := (dC, dI)) (ci := 5) (v := .ref y0) (C := RX5) (T := TX5) (N := 9) hx hb hts inlX5 hown hK hP 0 rfl rfl 2 (by decide) (hts _ qf_X5_32) (fun _ h9 => h9) rfl dX5_undo_14 ?_
    refine lv_aload_n hx hb dX5_undo_17 rfl (lv_at hl 0 rfl) ?_
    refine va_get (D := (dC, dI)) (ci := 5) (v := .ref pa) (C := RX5) (T := TX5) (N := 9) hx hb hts inlX5 hown hK hP 0 rfl rfl 0 (by decide) (hts _ qf_X5_9) (fun _ h9 => h9) rfl dX5_undo_18 ?_
    refine kQv (As := [.ref pa]) (rest := []) (wr := [(x0, .inr (5, [.ref pa, .ref t0, .ref y0, .ref r0, .ref a0, .ref b0, .ref s0, .int (nI fa), .long un])), (r0, .inr (1, [.ref q1, .ref q2, .ref q3, .int (nI sv), .int (nI n), .long co])), (a0, .inr (4, [.int (nI 1), .ref v1, .ref v2, .ref v3, .ref v4, .ref v5, .int (nI vsv), .int (nI vn), .long (lN vco), .int (nI vc1), .int (nI vc2)])), (b0, .inr (4, [.int (nI 0), .ref w1, .ref w2, .ref w3, .ref w4, .ref w5, .int (nI usv), .int (nI uwn), .long (lN uco), .int (nI uc1), .int (nI uc2)]))]) Y m_X0_restore (c_X0_restore l dC dI _ cI y0 y1 pa hs P hn (by omega) (by omega)) qm_X5_205 hP hD hS hA [2, 3, 1] [0, 4, 5, 6] rfl rfl (by decide) (by decide) (kqV (ci := 0) hK hP hD hZ hS hA [2, 3, 1] [0] rfl (by decide) rfl 0 rfl rfl rfl) rfl hl.1 rfl (Nat.le_of_ble_eq_true rfl) dX5_undo_21 ⟨Nat.le_of_ble_eq_true rfl, Nat.le_of_ble_eq_true rfl⟩ ⟨Nat.zero_le _, Nat.zero_le _⟩ (fun u21 H locs hr21 hP hD hS => ?_)
    have hP : va_P (dC, dI) vwCl [(x0, .inr (5, [.ref pa, .ref t0, .ref y0, .ref r0, .ref a0, .ref b0, .ref s0, .int (nI fa), .long un])), (r0, .inr (1, [.ref q1, .ref q2, .ref q3, .int (nI sv), .int (nI n), .long co])), (a0, .inr (4, [.int (nI 1), .ref v1, .ref v2, .ref v3, .ref v4, .ref v5, .int (nI vsv), .int (nI vn), .long (lN vco), .int (nI vc1), .int (nI vc2)])), (b0, .inr (4, [.int (nI 0), .ref w1, .ref w2, .ref w3, .ref w4, .ref w5, .int (nI usv), .int (nI uwn), .long (lN uco), .int (nI uc1), .int (nI uc2)])), (y0, .inr (0, [.ref y1, .int (nI (hn - 1))])), (y1, .inl (cI, 176, .inl (fun zz => nI (hs zz)))), (pa, .inl (cI, 22, .inl (fun zz => nI (va_cpy hs P ((hn - 1) * 22) 0 22 zz))))] H := hP
    have hD : va_D A [(x0, .inr (5, [.ref pa, .ref t0, .ref y0, .ref r0, .ref a0, .ref b0, .ref s0, .int (nI fa), .long un])), (r0, .inr (1, [.ref q1, .ref q2, .ref q3, .int (nI sv), .int (nI n), .long co])), (a0, .inr (4, [.int (nI 1), .ref v1, .ref v2, .ref v3, .ref v4, .ref v5, .int (nI vsv), .int (nI vn), .long (lN vco), .int (nI vc1), .int (nI vc2)])), (b0, .inr (4, [.int (nI 0), .ref w1, .ref w2, .ref w3, .ref w4, .ref w5, .int (nI usv), .int (nI uwn), .long (lN uco), .int (nI uc1), .int (nI uc2)])), (y0, .inr (0, [.ref y1, .int (nI (hn - 1))])), (y1, .inl (cI, 176, .inl (fun zz => nI (hs zz)))), (pa, .inl (cI, 22, .inl (fun zz => nI (va_cpy hs P ((hn - 1) * 22) 0 22 zz))))] := hD
    refine lv_aload_n hx hb dX5_undo_24 rfl (lv_at hl 0 rfl) ?_
    refine kQv (As := []) (rest := []) (wr := [(y0, .inr (0, [.ref y1, .int (nI (hn - 1))])), (y1, .inl (cI, 176, .inl (fun zz => nI (hs zz)))), (pa, .inl (cI, 22, .inl (fun zz => nI (va_cpy hs P ((hn - 1) * 22) 0 22 zz))))]) Y m_X5_forgetSolutions (c_X5_forgetSolutions l dC dI H.size x0 pa t0 y0 r0 a0 b0 s0 fa un q1 q2 q3 sv n co v1 v2 v3 v4 v5 vsv vn vco vc1 vc2 w1 w2 w3 w4 w5 usv uwn uco uc1 uc2 ) qm_X5_208 hP hD hS hA [0, 1, 2, 3] [4, 5, 6] rfl rfl (by decide) (by decide) (kqV (ci := 5) hK hP hD hZ hS hA [0, 1, 2, 3] [] rfl (by decide) rfl 0 rfl rfl rfl) rfl hl.1 rfl (Nat.le_of_ble_eq_true rfl) dX5_undo_25 ⟨Nat.le_of_ble_eq_true rfl, Nat.le_of_ble_eq_true rfl⟩ ⟨Nat.zero_le _, Nat.zero_le _⟩ (fun u25 H locs hr25 hP hD hS => ?_)
    have hP : va_P (dC, dI) vwCl [(y0, .inr (0, [.ref y1, .int (nI (hn - 1))])), (y1, .inl (cI, 176, .inl (fun zz => nI (hs zz)))), (pa, .inl (cI, 22, .inl (fun zz => nI (va_cpy hs P ((hn - 1) * 22) 0 22 zz)))), (x0, .inr (5, [.ref pa, .ref t0, .ref y0, .ref r0, .ref a0, .ref b0, .ref s0, .int (nI fa), .long un])), (r0, .inr (1, [.ref q1, .ref q2, .ref q3, .int (nI 0), .int (nI n), .long co])), (a0, .inr (4, [.int (nI 1), .ref v1, .ref v2, .ref v3, .ref v4, .ref v5, .int (nI 0), .int (nI vn), .long (lN vco), .int (nI vc1), .int (nI vc2)])), (b0, .inr (4, [.int (nI 0), .ref w1, .ref w2, .ref w3, .ref w4, .ref w5, .int (nI 0), .int (nI uwn), .long (lN uco), .int (nI uc1), .int (nI uc2)]))] H := hP
    have hD : va_D A [(y0, .inr (0, [.ref y1, .int (nI (hn - 1))])), (y1, .inl (cI, 176, .inl (fun zz => nI (hs zz)))), (pa, .inl (cI, 22, .inl (fun zz => nI (va_cpy hs P ((hn - 1) * 22) 0 22 zz)))), (x0, .inr (5, [.ref pa, .ref t0, .ref y0, .ref r0, .ref a0, .ref b0, .ref s0, .int (nI fa), .long un])), (r0, .inr (1, [.ref q1, .ref q2, .ref q3, .int (nI 0), .int (nI n), .long co])), (a0, .inr (4, [.int (nI 1), .ref v1, .ref v2, .ref v3, .ref v4, .ref v5, .int (nI 0), .int (nI vn), .long (lN vco), .int (nI vc1), .int (nI vc2)])), (b0, .inr (4, [.int (nI 0), .ref w1, .ref w2, .ref w3, .ref w4, .ref w5, .int (nI 0), .int (nI uwn), .long (lN uco), .int (nI uc1), .int (nI uc2)]))] := hD
    refine lv_aload_n hx hb dX5_undo_28 rfl (lv_at hl 0 rfl) ?_
    refine va_get (D := (dC, dI)) (ci := 5) (v := .ref y0) (C := RX5) (T := TX5) (N := 9) hx hb hts inlX5 hown hK hP 3 rfl rfl 2 (by decide) (hts _ qf_X5_32) (fun _ h9 => h9) rfl dX5_undo_29 ?_
    refine kVi (As := []) (rest := []) Y m_X0_size (c_X0_size l dC dI y0 y1 (hn - 1) ) qm_X5_202 (kpV (ci := 0) hK hP hZ hS [0] [] rfl rfl 0 rfl rfl rfl) rfl hl.1 rfl (Nat.le_of_ble_eq_true rfl) dX5_undo_32 ⟨Nat.le_of_ble_eq_true rfl, Nat.le_of_ble_eq_true rfl⟩ ⟨Nat.zero_le _, Nat.zero_le _⟩ (fun r32 hr32 => ?_)
    obtain rfl : r32 = nI (hn - 1) := hr32
    exact kqi (w1 := (fun u : (Nat → Nat) × Nat × Nat => [(x0, .inr (5, [.ref pa, .ref t0, .ref y0, .ref r0, .ref a0, .ref b0, .ref s0, .int (nI fa), .long un])), (pa, .inl (cI, 22, .inl (fun zz => nI (u.1 zz)))), (y0, .inr (0, [.ref y1, .int (nI u.2.1)])), (y1, .inl (cI, 176, .inl (fun zz => nI (hs zz)))), (r0, .inr (1, [.ref q1, .ref q2, .ref q3, .int (nI (if u.2.2 = 0 then 0 else sv)), .int (nI n), .long co])), (a0, .inr (4, [.int (nI 1), .ref v1, .ref v2, .ref v3, .ref v4, .ref v5, .int (nI (if u.2.2 = 0 then 0 else vsv)), .int (nI vn), .long (lN vco), .int (nI vc1), .int (nI vc2)])), (b0, .inr (4, [.int (nI 0), .ref w1, .ref w2, .ref w3, .ref w4, .ref w5, .int (nI (if u.2.2 = 0 then 0 else usv)), .int (nI uwn), .long (lN uco), .int (nI uc1), .int (nI uc2)]))])) (v := nI (hn - 1)) Y hr hlocks hK hP hD hS [3, 2, 0, 1, 4, 5, 6] (by decide) (va_cpy hs P ((hn - 1) * 22) 0 22, hn - 1, 0) rfl (if_neg (by omega)).symm dX5_undo_35
  · refine lv_bipush (v := -2) hx hb dX5_undo_10 (by decide) ?_
    exact kqi (w1 := (fun u : (Nat → Nat) × Nat × Nat => [(x0, .inr (5, [.ref pa, .ref t0, .ref y0, .ref r0, .ref a0, .ref b0, .ref s0, .int (nI fa), .long un])), (pa, .inl (cI, 22, .inl (fun zz => nI (u.1 zz)))), (y0, .inr (0, [.ref y1, .int (nI u.2.1)])), (y1, .inl (cI, 176, .inl (fun zz => nI (hs zz)))), (r0, .inr (1, [.ref q1, .ref q2, .ref q3, .int (nI (if u.2.2 = 0 then 0 else sv)), .int (nI n), .long co])), (a0, .inr (4, [.int (nI 1), .ref v1, .ref v2, .ref v3, .ref v4, .ref v5, .int (nI (if u.2.2 = 0 then 0 else vsv)), .int (nI vn), .long (lN vco), .int (nI vc1), .int (nI vc2)])), (b0, .inr (4, [.int (nI 0), .ref w1, .ref w2, .ref w3, .ref w4, .ref w5, .int (nI (if u.2.2 = 0 then 0 else usv)), .int (nI uwn), .long (lN uco), .int (nI uc1), .int (nI uc2)]))])) (v := (-2)) Y hr hlocks hK hP hD hS [0, 1, 2, 3, 4, 5, 6] (by decide) (P, hn, 1) rfl (if_pos (by omega)).symm dX5_undo_12
set_option maxHeartbeats 4000000 in
set_option maxRecDepth 100000 in
theorem c_X5_shiftWeight (l : Launch) (dC : Nat → ClassId) (dI : Nat → Nat → Nat) (sz : Nat) (cI : ClassId) (x0 pa t0 y0 r0 a0 b0 s0 : Nat) (fa : Nat) (un : Int64) (y1 hn : Nat) (hs P : Nat → Nat) (q1 q2 q3 : Nat) (sv n : Nat) (co : Int64) (v1 v2 v3 v4 v5 : Nat) (vsv vn vco vc1 vc2 : Nat) (w1 w2 w3 w4 w5 : Nat) (usv uwn uco uc1 uc2 : Nat) (a b v : Int32) (h1 : hn ≤ 8) (hPI : PI P) : Met l yX5_shiftWeight (kw yX5_shiftWeight cX5_shiftWeight 4 (some .int)) (kR 3 81) (kPq (dC, dI) [.ref x0, .int a, .int b, .int v] sz [(x0, .inr (5, [.ref pa, .ref t0, .ref y0, .ref r0, .ref a0, .ref b0, .ref s0, .int (nI fa), .long un])), (pa, .inl (cI, 22, .inl (fun zz => nI (P zz)))), (y0, .inr (0, [.ref y1, .int (nI hn)])), (y1, .inl (cI, 176, .inl (fun zz => nI (hs zz)))), (r0, .inr (1, [.ref q1, .ref q2, .ref q3, .int (nI sv), .int (nI n), .long co])), (a0, .inr (4, [.int (nI 1), .ref v1, .ref v2, .ref v3, .ref v4, .ref v5, .int (nI vsv), .int (nI vn), .long (lN vco), .int (nI vc1), .int (nI vc2)])), (b0, .inr (4, [.int (nI 0), .ref w1, .ref w2, .ref w3, .ref w4, .ref w5, .int (nI usv), .int (nI uwn), .long (lN uco), .int (nI uc1), .int (nI uc2)]))] [(cI, .int)]) (va_Qi (fun (res : Int32) (u : (Nat → Nat) × (Nat → Nat) × Nat × Nat) => (res, u.1, u.2.1, u.2.2.1, u.2.2.2) = shO P hs hn 1 a b v) (fun u : (Nat → Nat) × (Nat → Nat) × Nat × Nat => kB (dC, dI) [(cI, .int)] (va_A [(x0, .inr (5, [.ref pa, .ref t0, .ref y0, .ref r0, .ref a0, .ref b0, .ref s0, .int (nI fa), .long un])), (pa, .inl (cI, 22, .inl (fun zz => nI (P zz)))), (y0, .inr (0, [.ref y1, .int (nI hn)])), (y1, .inl (cI, 176, .inl (fun zz => nI (hs zz)))), (r0, .inr (1, [.ref q1, .ref q2, .ref q3, .int (nI sv), .int (nI n), .long co])), (a0, .inr (4, [.int (nI 1), .ref v1, .ref v2, .ref v3, .ref v4, .ref v5, .int (nI vsv), .int (nI vn), .long (lN vco), .int (nI vc1), .int (nI vc2)])), (b0, .inr (4, [.int (nI 0), .ref w1, .ref w2, .ref w3, .ref w4, .ref w5, .int (nI usv), .int (nI uwn), .long (lN uco), .int (nI uc1), .int (nI uc2)]))] sz) ([(x0, .inr (5, [.ref pa, .ref t0, .ref y0, .ref r0, .ref a0, .ref b0, .ref s0, .int (nI fa), .long un])), (pa, .inl (cI, 22, .inl (fun zz => nI (u.1 zz)))), (y0, .inr (0, [.ref y1, .int (nI u.2.2.1)])), (y1, .inl (cI, 176, .inl (fun zz => nI (u.2.1 zz)))), (r0, .inr (1, [.ref q1, .ref q2, .ref q3, .int (nI (if u.2.2.2 = 0 then 0 else sv)), .int (nI n), .long co])), (a0, .inr (4, [.int (nI 1), .ref v1, .ref v2, .ref v3, .ref v4, .ref v5, .int (nI (if u.2.2.2 = 0 then 0 else vsv)), .int (nI vn), .long (lN vco), .int (nI vc1), .int (nI vc2)])), (b0, .inr (4, [.int (nI 0), .ref w1, .ref w2, .ref w3, .ref w4, .ref w5, .int (nI (if u.2.2.2 = 0 then 0 else usv)), .int (nI uwn), .long (lN uco), .int (nI uc1), .int (nI uc2)]))])) (va_A [(x0, .inr (5, [.ref pa, .ref t0, .ref y0, .ref r0, .ref a0, .ref b0, .ref s0, .int (nI fa), .long un])), (pa, .inl (cI, 22, .inl (fun zz => nI (P zz)))), (y0, .inr (0, [.ref y1, .int (nI hn)])), (y1, .inl (cI, 176, .inl (fun zz => nI (hs zz)))), (r0, .inr (1, [.ref q1, .ref q2, .ref q3, .int (nI sv), .int (nI n), .long co])), (a0, .inr (4, [.int (nI 1), .ref v1, .ref v2, .ref v3, .ref v4, .ref v5, .int (nI vsv), .int (nI vn), .long (lN vco), .int (nI vc1), .int (nI vc2)])), (b0, .inr (4, [.int (nI 0), .ref w1, .ref w2, .ref w3, .ref w4, .ref w5, .int (nI usv), .int (nI uwn), .long (lN uco), .int (nI uc1), .int (nI uc2)]))] sz)) 0 0 (va_A [(x0, .inr (5, [.ref pa, .ref t0, .ref y0, .ref r0, .ref a0, .ref b0, .ref s0, .int (nI fa), .long un])), (pa, .inl (cI, 22, .inl (fun zz => nI (P zz)))), (y0, .inr (0, [.ref y1, .int (nI hn)])), (y1, .inl (cI, 176, .inl (fun zz => nI (hs zz)))), (r0, .inr (1, [.ref q1, .ref q2, .ref q3, .int (nI sv), .int (nI n), .long co])), (a0, .inr (4, [.int (nI 1), .ref v1, .ref v2, .ref v3, .ref v4, .ref v5, .int (nI vsv), .int (nI vn), .long (lN vco), .int (nI vc1), .int (nI vc2)])), (b0, .inr (4, [.int (nI 0), .ref w1, .ref w2, .ref w3, .ref w4, .ref w5, .int (nI usv), .int (nI uwn), .long (lN uco), .int (nI uc1), .int (nI uc2)]))] sz) := by
  refine kmet (by decide) ?_
  intro p e s m args below meth c Y hr hlocks hin hv
  obtain ⟨rfl, A, hAe, hsz, hP, hK, hD, hZ, hA⟩ := kinQ hv
  rw [hAe]
  have hS : va_S A s.heap s.heap [] := va_S.rf
  have hx := Y.1
  have hb := Y.2.1
  have hml := Y.2.2.1
  have hown := Y.2.2.2.1
  have hts := Y.2.2.2.2
  have hl := lv_entry ([.ref x0, .int a, .int b, .int v]) (n := 4) (Nat.le_of_ble_eq_true rfl)
  rw [lg_entry_eq]
  generalize (lg_sl ([.ref x0, .int a, .int b, .int v]) ++ List.replicate (4 - (lg_sl ([.ref x0, .int a, .int b, .int v])).length) Slot.unset).toArray = ls at hl ⊢
  have hl : lv_has ls 4 [(0, .ref x0), (1, .int a), (2, .int b), (3, .int v)] := hl
  refine lv_iload_n hx hb dX5_shiftWeight_0 rfl (lv_at hl 1 rfl) ?_
  refine kSi (As := [.int a]) (rest := []) Y m_X5_isNoLevel (c_X5_isNoLevel l dC dI a ) qm_X5_105 (kpS hK hP hZ hS [] [] rfl rfl) rfl hl.1 rfl (Nat.le_of_ble_eq_true rfl) dX5_shiftWeight_1 ⟨Nat.le_of_ble_eq_true rfl, Nat.le_of_ble_eq_true rfl⟩ ⟨Nat.zero_le _, Nat.zero_le _⟩ (fun r1 hr1 => ?_)
  obtain rfl : r1 = b2i (¬ (nI 0 ≤ a ∧ a ≤ nI 4)) := hr1
  refine ri_bne (tgt := 14) hx hb dX5_shiftWeight_4 (by decide) (fun c4 => ?_) (fun c4 => ?_)
  · refine lv_iconst (v := -1) hx hb dX5_shiftWeight_14 (by decide) ?_
    exact kqi (w1 := (fun u : (Nat → Nat) × (Nat → Nat) × Nat × Nat => [(x0, .inr (5, [.ref pa, .ref t0, .ref y0, .ref r0, .ref a0, .ref b0, .ref s0, .int (nI fa), .long un])), (pa, .inl (cI, 22, .inl (fun zz => nI (u.1 zz)))), (y0, .inr (0, [.ref y1, .int (nI u.2.2.1)])), (y1, .inl (cI, 176, .inl (fun zz => nI (u.2.1 zz)))), (r0, .inr (1, [.ref q1, .ref q2, .ref q3, .int (nI (if u.2.2.2 = 0 then 0 else sv)), .int (nI n), .long co])), (a0, .inr (4, [.int (nI 1), .ref v1, .ref v2, .ref v3, .ref v4, .ref v5, .int (nI (if u.2.2.2 = 0 then 0 else vsv)), .int (nI vn), .long (lN vco), .int (nI vc1), .int (nI vc2)])), (b0, .inr (4, [.int (nI 0), .ref w1, .ref w2, .ref w3, .ref w4, .ref w5, .int (nI (if u.2.2.2 = 0 then 0 else usv)), .int (nI uwn), .long (lN uco), .int (nI uc1), .int (nI uc2)]))])) (v := (-1)) Y hr hlocks hK hP hD hS [0, 1, 2, 3, 4, 5, 6] (by decide) (P, hs, hn, 1) rfl (if_neg (fun q => c4 q.1.1)).symm dX5_shiftWeight_15
  · refine lv_iload_n hx hb dX5_shiftWeight_7 rfl (lv_at hl 2 rfl) ?_
    refine kSi (As := [.int b]) (rest := []) Y m_X5_isNoLevel (c_X5_isNoLevel l dC dI b ) qm_X5_105 (kpS hK hP hZ hS [] [] rfl rfl) rfl hl.1 rfl (Nat.le_of_ble_eq_true rfl) dX5_shiftWeight_8 ⟨Nat.le_of_ble_eq_true rfl, Nat.le_of_ble_eq_true rfl⟩ ⟨Nat.zero_le _, Nat.zero_le _⟩ (fun r8 hr8 => ?_)
    obtain rfl : r8 = b2i (¬ (nI 0 ≤ b ∧ b ≤ nI 4)) := hr8
    refine ri_beq (tgt := 16) hx hb dX5_shiftWeight_11 (by decide) (fun c11 => ?_) (fun c11 => ?_)
    · have cA := Decidable.not_not.mp c4
      have cB := Decidable.not_not.mp c11
      refine lv_iload_n hx hb dX5_shiftWeight_16 rfl (lv_at hl 3 rfl) ?_
      refine lv_if_lt (tgt := 33) hx hb dX5_shiftWeight_17 (by decide) (fun c17 => ?_) (fun c17 => ?_)
      · refine lv_iconst (v := -1) hx hb dX5_shiftWeight_33 (by decide) ?_
        exact kqi (w1 := (fun u : (Nat → Nat) × (Nat → Nat) × Nat × Nat => [(x0, .inr (5, [.ref pa, .ref t0, .ref y0, .ref r0, .ref a0, .ref b0, .ref s0, .int (nI fa), .long un])), (pa, .inl (cI, 22, .inl (fun zz => nI (u.1 zz)))), (y0, .inr (0, [.ref y1, .int (nI u.2.2.1)])), (y1, .inl (cI, 176, .inl (fun zz => nI (u.2.1 zz)))), (r0, .inr (1, [.ref q1, .ref q2, .ref q3, .int (nI (if u.2.2.2 = 0 then 0 else sv)), .int (nI n), .long co])), (a0, .inr (4, [.int (nI 1), .ref v1, .ref v2, .ref v3, .ref v4, .ref v5, .int (nI (if u.2.2.2 = 0 then 0 else vsv)), .int (nI vn), .long (lN vco), .int (nI vc1), .int (nI vc2)])), (b0, .inr (4, [.int (nI 0), .ref w1, .ref w2, .ref w3, .ref w4, .ref w5, .int (nI (if u.2.2.2 = 0 then 0 else usv)), .int (nI uwn), .long (lN uco), .int (nI uc1), .int (nI uc2)]))])) (v := (-1)) Y hr hlocks hK hP hD hS [0, 1, 2, 3, 4, 5, 6] (by decide) (P, hs, hn, 1) rfl (if_neg (fun q => absurd c17 (Int32.not_lt.mpr q.2.1))).symm dX5_shiftWeight_34
      · refine lv_iload_n hx hb dX5_shiftWeight_20 rfl (lv_at hl 3 rfl) ?_
        refine lv_aload_n hx hb dX5_shiftWeight_21 rfl (lv_at hl 0 rfl) ?_
        refine va_get (D := (dC, dI)) (ci := 5) (v := .ref pa) (C := RX5) (T := TX5) (N := 9) hx hb hts inlX5 hown hK hP 0 rfl rfl 0 (by decide) (hts _ qf_X5_9) (fun _ h9 => h9) rfl dX5_shiftWeight_22 ?_
        obtain ⟨xa, rfl, hxa1, hxa2⟩ := in_n (by decide) (by decide) cA
        have hpa := hPI.2.2.2.2.1 xa (by omega)
        refine lv_bipush (v := nI 15) hx hb dX5_shiftWeight_25 (by decide) ?_
        refine lv_iload_n hx hb dX5_shiftWeight_27 rfl (lv_at hl 1 rfl) ?_
        refine ri_add hx hb dX5_shiftWeight_28 ?_
        refine ri_ald hx hb hK hP 1 0 (F := P) rfl rfl dX5_shiftWeight_29 (by decide) (by omega) ?_
        refine lv_icmp_le (tgt := 35) hx hb dX5_shiftWeight_30 (by decide) (fun c30 => ?_) (fun c30 => ?_)
        · have cC : nI 0 ≤ v ∧ v ≤ nI (P (15 + xa)) := And.intro (Int32.not_lt.mp c17) c30
          obtain ⟨xb, rfl, hxb1, hxb2⟩ := in_n (by decide) (by decide) cB
          obtain ⟨xv, rfl, hxv1, hxv2⟩ := in_n (by decide) (by omega) cC
          refine lv_aload_n hx hb dX5_shiftWeight_35 rfl (lv_at hl 0 rfl) ?_
          refine kQv (As := []) (rest := []) (wr := []) Y m_X5_beginChange (c_X5_beginChange l dC dI _ cI x0 pa t0 y0 r0 a0 b0 s0 fa un y1 hn hs P q1 q2 q3 sv n co v1 v2 v3 v4 v5 vsv vn vco vc1 vc2 w1 w2 w3 w4 w5 usv uwn uco uc1 uc2 (by omega)) qm_X5_92 hP hD hS hA [0, 1, 2, 3, 4, 5, 6] [] rfl rfl (by decide) (by decide) (kqV (ci := 5) hK hP hD hZ hS hA [0, 1, 2, 3, 4, 5, 6] [0] rfl (by decide) rfl 0 rfl rfl rfl) rfl hl.1 rfl (Nat.le_of_ble_eq_true rfl) dX5_shiftWeight_36 ⟨Nat.le_of_ble_eq_true rfl, Nat.le_of_ble_eq_true rfl⟩ ⟨Nat.zero_le _, Nat.zero_le _⟩ (fun u36 H locs hr36 hP hD hS => ?_)
          have hP : va_P (dC, dI) vwCl [(x0, .inr (5, [.ref pa, .ref t0, .ref y0, .ref r0, .ref a0, .ref b0, .ref s0, .int (nI fa), .long un])), (pa, .inl (cI, 22, .inl (fun zz => nI (P zz)))), (y0, .inr (0, [.ref y1, .int (nI (recN hn))])), (y1, .inl (cI, 176, .inl (fun zz => nI (recS P hs hn zz)))), (r0, .inr (1, [.ref q1, .ref q2, .ref q3, .int (nI 0), .int (nI n), .long co])), (a0, .inr (4, [.int (nI 1), .ref v1, .ref v2, .ref v3, .ref v4, .ref v5, .int (nI 0), .int (nI vn), .long (lN vco), .int (nI vc1), .int (nI vc2)])), (b0, .inr (4, [.int (nI 0), .ref w1, .ref w2, .ref w3, .ref w4, .ref w5, .int (nI 0), .int (nI uwn), .long (lN uco), .int (nI uc1), .int (nI uc2)]))] H := hP
          have hD : va_D A [(x0, .inr (5, [.ref pa, .ref t0, .ref y0, .ref r0, .ref a0, .ref b0, .ref s0, .int (nI fa), .long un])), (pa, .inl (cI, 22, .inl (fun zz => nI (P zz)))), (y0, .inr (0, [.ref y1, .int (nI (recN hn))])), (y1, .inl (cI, 176, .inl (fun zz => nI (recS P hs hn zz)))), (r0, .inr (1, [.ref q1, .ref q2, .ref q3, .int (nI 0), .int (nI n), .long co])), (a0, .inr (4, [.int (nI 1), .ref v1, .ref v2, .ref v3, .ref v4, .ref v5, .int (nI 0), .int (nI vn), .long (lN vco), .int (nI vc1), .int (nI vc2)])), (b0, .inr (4, [.int (nI 0), .ref w1, .ref w2, .ref w3, .ref w4, .ref w5, .int (nI 0), .int (nI uwn), .long (lN uco), .int (nI uc1), .int (nI uc2)]))] := hD
          refine lv_aload_n hx hb dX5_shiftWeight_39 rfl (lv_at hl 0 rfl) ?_
          refine va_get (D := (dC, dI)) (ci := 5) (v := .ref pa) (C := RX5) (T := TX5) (N := 9) hx hb hts inlX5 hown hK hP 0 rfl rfl 0 (by decide) (hts _ qf_X5_9) (fun _ h9 => h9) rfl dX5_shiftWeight_40 ?_
          refine lv_bipush (v := nI 15) hx hb dX5_shiftWeight_43 (by decide) ?_
          refine lv_iload_n hx hb dX5_shiftWeight_45 rfl (lv_at hl 1 rfl) ?_
          refine ri_add hx hb dX5_shiftWeight_46 ?_
          refine lv_dup2_11 hx hb dX5_shiftWeight_47 rfl rfl ?_
          refine ri_ald hx hb hK hP 1 0 (F := P) rfl rfl dX5_shiftWeight_48 (by decide) (by omega) ?_
          refine lv_iload_n hx hb dX5_shiftWeight_49 rfl (lv_at hl 3 rfl) ?_
          refine ri_sub hx hb dX5_shiftWeight_50 (by omega) ?_
          refine ri_ast hx hb hK hP hD hS 1 0 (F := P) rfl rfl dX5_shiftWeight_51 (by decide) (by omega) (fun H locs hP hD hS => ?_)
          have hP : va_P (dC, dI) vwCl [(x0, .inr (5, [.ref pa, .ref t0, .ref y0, .ref r0, .ref a0, .ref b0, .ref s0, .int (nI fa), .long un])), (pa, .inl (cI, 22, .inl (fun zz => nI (updN P (15 + xa) ((P (15 + xa)) - xv) zz)))), (y0, .inr (0, [.ref y1, .int (nI (recN hn))])), (y1, .inl (cI, 176, .inl (fun zz => nI (recS P hs hn zz)))), (r0, .inr (1, [.ref q1, .ref q2, .ref q3, .int (nI 0), .int (nI n), .long co])), (a0, .inr (4, [.int (nI 1), .ref v1, .ref v2, .ref v3, .ref v4, .ref v5, .int (nI 0), .int (nI vn), .long (lN vco), .int (nI vc1), .int (nI vc2)])), (b0, .inr (4, [.int (nI 0), .ref w1, .ref w2, .ref w3, .ref w4, .ref w5, .int (nI 0), .int (nI uwn), .long (lN uco), .int (nI uc1), .int (nI uc2)]))] H := hP
          have hD : va_D A [(x0, .inr (5, [.ref pa, .ref t0, .ref y0, .ref r0, .ref a0, .ref b0, .ref s0, .int (nI fa), .long un])), (pa, .inl (cI, 22, .inl (fun zz => nI (updN P (15 + xa) ((P (15 + xa)) - xv) zz)))), (y0, .inr (0, [.ref y1, .int (nI (recN hn))])), (y1, .inl (cI, 176, .inl (fun zz => nI (recS P hs hn zz)))), (r0, .inr (1, [.ref q1, .ref q2, .ref q3, .int (nI 0), .int (nI n), .long co])), (a0, .inr (4, [.int (nI 1), .ref v1, .ref v2, .ref v3, .ref v4, .ref v5, .int (nI 0), .int (nI vn), .long (lN vco), .int (nI vc1), .int (nI vc2)])), (b0, .inr (4, [.int (nI 0), .ref w1, .ref w2, .ref w3, .ref w4, .ref w5, .int (nI 0), .int (nI uwn), .long (lN uco), .int (nI uc1), .int (nI uc2)]))] := hD
          refine lv_aload_n hx hb dX5_shiftWeight_52 rfl (lv_at hl 0 rfl) ?_
          refine va_get (D := (dC, dI)) (ci := 5) (v := .ref pa) (C := RX5) (T := TX5) (N := 9) hx hb hts inlX5 hown hK hP 0 rfl rfl 0 (by decide) (hts _ qf_X5_9) (fun _ h9 => h9) rfl dX5_shiftWeight_53 ?_
          refine lv_bipush (v := nI 15) hx hb dX5_shiftWeight_56 (by decide) ?_
          refine lv_iload_n hx hb dX5_shiftWeight_58 rfl (lv_at hl 2 rfl) ?_
          refine ri_add hx hb dX5_shiftWeight_59 ?_
          refine lv_dup2_11 hx hb dX5_shiftWeight_60 rfl rfl ?_
          refine ri_ald hx hb hK hP 1 0 (F := (updN P (15 + xa) ((P (15 + xa)) - xv))) rfl rfl dX5_shiftWeight_61 (by decide) (by omega) ?_
          refine lv_iload_n hx hb dX5_shiftWeight_62 rfl (lv_at hl 3 rfl) ?_
          refine ri_add hx hb dX5_shiftWeight_63 ?_
          refine ri_ast hx hb hK hP hD hS 1 0 (F := (updN P (15 + xa) ((P (15 + xa)) - xv))) rfl rfl dX5_shiftWeight_64 (by decide) (by omega) (fun H locs hP hD hS => ?_)
          have hP : va_P (dC, dI) vwCl [(x0, .inr (5, [.ref pa, .ref t0, .ref y0, .ref r0, .ref a0, .ref b0, .ref s0, .int (nI fa), .long un])), (pa, .inl (cI, 22, .inl (fun zz => nI (updN (updN P (15 + xa) ((P (15 + xa)) - xv)) (15 + xb) (((updN P (15 + xa) ((P (15 + xa)) - xv)) (15 + xb)) + xv) zz)))), (y0, .inr (0, [.ref y1, .int (nI (recN hn))])), (y1, .inl (cI, 176, .inl (fun zz => nI (recS P hs hn zz)))), (r0, .inr (1, [.ref q1, .ref q2, .ref q3, .int (nI 0), .int (nI n), .long co])), (a0, .inr (4, [.int (nI 1), .ref v1, .ref v2, .ref v3, .ref v4, .ref v5, .int (nI 0), .int (nI vn), .long (lN vco), .int (nI vc1), .int (nI vc2)])), (b0, .inr (4, [.int (nI 0), .ref w1, .ref w2, .ref w3, .ref w4, .ref w5, .int (nI 0), .int (nI uwn), .long (lN uco), .int (nI uc1), .int (nI uc2)]))] H := hP
          have hD : va_D A [(x0, .inr (5, [.ref pa, .ref t0, .ref y0, .ref r0, .ref a0, .ref b0, .ref s0, .int (nI fa), .long un])), (pa, .inl (cI, 22, .inl (fun zz => nI (updN (updN P (15 + xa) ((P (15 + xa)) - xv)) (15 + xb) (((updN P (15 + xa) ((P (15 + xa)) - xv)) (15 + xb)) + xv) zz)))), (y0, .inr (0, [.ref y1, .int (nI (recN hn))])), (y1, .inl (cI, 176, .inl (fun zz => nI (recS P hs hn zz)))), (r0, .inr (1, [.ref q1, .ref q2, .ref q3, .int (nI 0), .int (nI n), .long co])), (a0, .inr (4, [.int (nI 1), .ref v1, .ref v2, .ref v3, .ref v4, .ref v5, .int (nI 0), .int (nI vn), .long (lN vco), .int (nI vc1), .int (nI vc2)])), (b0, .inr (4, [.int (nI 0), .ref w1, .ref w2, .ref w3, .ref w4, .ref w5, .int (nI 0), .int (nI uwn), .long (lN uco), .int (nI uc1), .int (nI uc2)]))] := hD
          refine lv_aload_n hx hb dX5_shiftWeight_65 rfl (lv_at hl 0 rfl) ?_
          refine va_get (D := (dC, dI)) (ci := 5) (v := .ref pa) (C := RX5) (T := TX5) (N := 9) hx hb hts inlX5 hown hK hP 0 rfl rfl 0 (by decide) (hts _ qf_X5_9) (fun _ h9 => h9) rfl dX5_shiftWeight_66 ?_
          refine lv_bipush (v := nI 15) hx hb dX5_shiftWeight_69 (by decide) ?_
          refine lv_iload_n hx hb dX5_shiftWeight_71 rfl (lv_at hl 2 rfl) ?_
          refine ri_add hx hb dX5_shiftWeight_72 ?_
          refine ri_ald hx hb hK hP 1 0 (F := (updN (updN P (15 + xa) ((P (15 + xa)) - xv)) (15 + xb) (((updN P (15 + xa) ((P (15 + xa)) - xv)) (15 + xb)) + xv))) rfl rfl dX5_shiftWeight_73 (by decide) (by omega) ?_
          exact kqi (w1 := (fun u : (Nat → Nat) × (Nat → Nat) × Nat × Nat => [(x0, .inr (5, [.ref pa, .ref t0, .ref y0, .ref r0, .ref a0, .ref b0, .ref s0, .int (nI fa), .long un])), (pa, .inl (cI, 22, .inl (fun zz => nI (u.1 zz)))), (y0, .inr (0, [.ref y1, .int (nI u.2.2.1)])), (y1, .inl (cI, 176, .inl (fun zz => nI (u.2.1 zz)))), (r0, .inr (1, [.ref q1, .ref q2, .ref q3, .int (nI (if u.2.2.2 = 0 then 0 else sv)), .int (nI n), .long co])), (a0, .inr (4, [.int (nI 1), .ref v1, .ref v2, .ref v3, .ref v4, .ref v5, .int (nI (if u.2.2.2 = 0 then 0 else vsv)), .int (nI vn), .long (lN vco), .int (nI vc1), .int (nI vc2)])), (b0, .inr (4, [.int (nI 0), .ref w1, .ref w2, .ref w3, .ref w4, .ref w5, .int (nI (if u.2.2.2 = 0 then 0 else usv)), .int (nI uwn), .long (lN uco), .int (nI uc1), .int (nI uc2)]))])) (v := nI ((updN (updN P (15 + xa) ((P (15 + xa)) - xv)) (15 + xb) (((updN P (15 + xa) ((P (15 + xa)) - xv)) (15 + xb)) + xv)) (15 + xb))) Y hr hlocks hK hP hD hS [0, 1, 2, 3, 4, 5, 6] (by decide) (updN (updN P (15 + xa) ((P (15 + xa)) - xv)) (15 + xb) (((updN P (15 + xa) ((P (15 + xa)) - xv)) (15 + xb)) + xv), recS P hs hn, recN hn, 0) rfl (by unfold shO; rw [nO_n (n := xa) (by omega), nO_n (n := xb) (by omega), nO_n (n := xv) (by omega)]; exact (if_pos ⟨⟨cA, cB⟩, cC⟩).symm) dX5_shiftWeight_74
        · refine lv_iconst (v := -1) hx hb dX5_shiftWeight_33 (by decide) ?_
          exact kqi (w1 := (fun u : (Nat → Nat) × (Nat → Nat) × Nat × Nat => [(x0, .inr (5, [.ref pa, .ref t0, .ref y0, .ref r0, .ref a0, .ref b0, .ref s0, .int (nI fa), .long un])), (pa, .inl (cI, 22, .inl (fun zz => nI (u.1 zz)))), (y0, .inr (0, [.ref y1, .int (nI u.2.2.1)])), (y1, .inl (cI, 176, .inl (fun zz => nI (u.2.1 zz)))), (r0, .inr (1, [.ref q1, .ref q2, .ref q3, .int (nI (if u.2.2.2 = 0 then 0 else sv)), .int (nI n), .long co])), (a0, .inr (4, [.int (nI 1), .ref v1, .ref v2, .ref v3, .ref v4, .ref v5, .int (nI (if u.2.2.2 = 0 then 0 else vsv)), .int (nI vn), .long (lN vco), .int (nI vc1), .int (nI vc2)])), (b0, .inr (4, [.int (nI 0), .ref w1, .ref w2, .ref w3, .ref w4, .ref w5, .int (nI (if u.2.2.2 = 0 then 0 else usv)), .int (nI uwn), .long (lN uco), .int (nI uc1), .int (nI uc2)]))])) (v := (-1)) Y hr hlocks hK hP hD hS [0, 1, 2, 3, 4, 5, 6] (by decide) (P, hs, hn, 1) rfl (by unfold shO; rw [nO_n (n := xa) (by omega)]; exact (if_neg (fun q => c30 q.2.2)).symm) dX5_shiftWeight_34
    · refine lv_iconst (v := -1) hx hb dX5_shiftWeight_14 (by decide) ?_
      exact kqi (w1 := (fun u : (Nat → Nat) × (Nat → Nat) × Nat × Nat => [(x0, .inr (5, [.ref pa, .ref t0, .ref y0, .ref r0, .ref a0, .ref b0, .ref s0, .int (nI fa), .long un])), (pa, .inl (cI, 22, .inl (fun zz => nI (u.1 zz)))), (y0, .inr (0, [.ref y1, .int (nI u.2.2.1)])), (y1, .inl (cI, 176, .inl (fun zz => nI (u.2.1 zz)))), (r0, .inr (1, [.ref q1, .ref q2, .ref q3, .int (nI (if u.2.2.2 = 0 then 0 else sv)), .int (nI n), .long co])), (a0, .inr (4, [.int (nI 1), .ref v1, .ref v2, .ref v3, .ref v4, .ref v5, .int (nI (if u.2.2.2 = 0 then 0 else vsv)), .int (nI vn), .long (lN vco), .int (nI vc1), .int (nI vc2)])), (b0, .inr (4, [.int (nI 0), .ref w1, .ref w2, .ref w3, .ref w4, .ref w5, .int (nI (if u.2.2.2 = 0 then 0 else usv)), .int (nI uwn), .long (lN uco), .int (nI uc1), .int (nI uc2)]))])) (v := (-1)) Y hr hlocks hK hP hD hS [0, 1, 2, 3, 4, 5, 6] (by decide) (P, hs, hn, 1) rfl (if_neg (fun q => c11 q.1.2)).symm dX5_shiftWeight_15
set_option maxHeartbeats 4000000 in
set_option maxRecDepth 100000 in
theorem c_X5_parameter (l : Launch) (dC : Nat → ClassId) (dI : Nat → Nat → Nat) (cI cL : ClassId) (x0 pa t0 y0 r0 a0 b0 s0 : Nat) (fa : Nat) (un : Int64) (P : Nat → Nat) (a : Int32)  : Met l yX5_parameter (kw yX5_parameter cX5_parameter 2 (some .int)) (kR 0 0) (kPr (dC, dI) [.ref x0, .int a] [(x0, .inr (5, [.ref pa, .ref t0, .ref y0, .ref r0, .ref a0, .ref b0, .ref s0, .int (nI fa), .long un])), (pa, .inl (cI, 22, .inl (fun zz => nI (P zz))))] [(cI, .int)]) (vp_Si (fun res : Int32 => res = if nI 0 ≤ a ∧ a ≤ nI 21 then nI (P (nO a)) else -1)) 0 0 kNo := by
  refine kmet (by decide) ?_
  intro p e s m args below meth c Y hr hlocks hin hv
  obtain ⟨rfl, hP, hK, hZ⟩ := kinR hv
  have hS : va_S kNo s.heap s.heap [] := va_S.rf
  have hx := Y.1
  have hb := Y.2.1
  have hml := Y.2.2.1
  have hown := Y.2.2.2.1
  have hts := Y.2.2.2.2
  have hl := lv_entry ([.ref x0, .int a]) (n := 2) (Nat.le_of_ble_eq_true rfl)
  rw [lg_entry_eq]
  generalize (lg_sl ([.ref x0, .int a]) ++ List.replicate (2 - (lg_sl ([.ref x0, .int a])).length) Slot.unset).toArray = ls at hl ⊢
  have hl : lv_has ls 2 [(0, .ref x0), (1, .int a)] := hl
  refine lv_iload_n hx hb dX5_parameter_0 rfl (lv_at hl 1 rfl) ?_
  refine lv_if_lt (tgt := 10) hx hb dX5_parameter_1 (by decide) (fun c1 => ?_) (fun c1 => ?_)
  · refine lv_iconst (v := -1) hx hb dX5_parameter_10 (by decide) ?_
    exact kri (v := (-1)) Y hr hlocks (if_neg (fun q => absurd c1 (Int32.not_lt.mpr q.1))).symm dX5_parameter_11
  · refine lv_iload_n hx hb dX5_parameter_4 rfl (lv_at hl 1 rfl) ?_
    refine lv_bipush (v := nI 22) hx hb dX5_parameter_5 (by decide) ?_
    refine lv_icmp_lt (tgt := 12) hx hb dX5_parameter_7 (by decide) (fun c7 => ?_) (fun c7 => ?_)
    · have cA : nI 0 ≤ a ∧ a ≤ nI 21 := And.intro (Int32.not_lt.mp c1) (in21.mp c7)
      obtain ⟨xa, rfl, hxa1, hxa2⟩ := in_n (by decide) (by decide) cA
      refine lv_aload_n hx hb dX5_parameter_12 rfl (lv_at hl 0 rfl) ?_
      refine va_get (D := (dC, dI)) (ci := 5) (v := .ref pa) (C := RX5) (T := TX5) (N := 9) hx hb hts inlX5 hown hK hP 0 rfl rfl 0 (by decide) (hts _ qf_X5_9) (fun _ h9 => h9) rfl dX5_parameter_13 ?_
      refine lv_iload_n hx hb dX5_parameter_16 rfl (lv_at hl 1 rfl) ?_
      refine ri_ald hx hb hK hP 1 0 (F := P) rfl rfl dX5_parameter_17 (by decide) (by omega) ?_
      exact kri (v := nI (P xa)) Y hr hlocks (by rw [if_pos cA, nO_n (by omega)]) dX5_parameter_18
    · refine lv_iconst (v := -1) hx hb dX5_parameter_10 (by decide) ?_
      exact kri (v := (-1)) Y hr hlocks (if_neg (fun q => c7 (in21.mpr q.2))).symm dX5_parameter_11
