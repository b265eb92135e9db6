set_option maxHeartbeats 4000000 in
set_option maxRecDepth 100000 in
theorem c_X6_leastTaken (l : Launch) (dC : Nat → ClassId) (dI : Nat → Nat → Nat) (cI cL : ClassId) (m0 m1 m2 m3 m4 m5 m6 m7 m8 m9 m10 m11 m12 : Nat) (bm ty sp fa fp kn lf yo ol : Nat) (un hh : Int64) (dr : Int32) (P sy gz : Nat → Nat) (i j a : Nat) (h1 : 1 ≤ i) (h2 : i ≤ P 0) (h3 : 1 ≤ j) (h4 : j ≤ 3) (h5 : a ≤ 5) (hPI : PI P) (hMZ : MZ P sy gz) : Met l yX6_leastTaken (kw yX6_leastTaken cX6_leastTaken 7 (some .int)) (kR 2 47) (kPr (dC, dI) [.ref m0, .int (nI i), .int (nI j), .int (nI a)] [(m0, .inr (6, [.ref m1, .ref m2, .int (nI bm), .long un, .ref m3, .int (nI ty), .ref m4, .int (nI sp), .int (nI fa), .int (nI fp), .int (nI kn), .ref m5, .ref m6, .ref m7, .ref m8, .ref m9, .int dr, .ref m10, .ref m11, .int (nI lf), .int (nI yo), .int (nI ol), .ref m12, .long hh])), (m1, .inl (cI, 22, .inl (fun zz => nI (P zz)))), (m7, .inl (cL, 1152, .inr (.inl (fun zz => lN (sy zz))))), (m8, .inl (cL, 1152, .inr (.inl (fun zz => lN (gz zz)))))] [(cI, .int), (cL, .long)]) (vp_Si (fun res : Int32 => res = ltN P (P 0 - i) j a 5)) 0 0 kNo := by
  refine kmet (by decide) ?_
  intro p e s m args below meth c Y hr hlocks hin hv
  obtain ⟨rfl, hP, hK, hZ⟩ := kinR hv
  have hS : va_S kNo s.heap s.heap [] := va_S.rf
  have hx := Y.1
  have hb := Y.2.1
  have hml := Y.2.2.1
  have hown := Y.2.2.2.1
  have hts := Y.2.2.2.2
  have hl := lv_entry ([.ref m0, .int (nI i), .int (nI j), .int (nI a)]) (n := 7) (Nat.le_of_ble_eq_true rfl)
  rw [lg_entry_eq]
  generalize (lg_sl ([.ref m0, .int (nI i), .int (nI j), .int (nI a)]) ++ List.replicate (7 - (lg_sl ([.ref m0, .int (nI i), .int (nI j), .int (nI a)])).length) Slot.unset).toArray = ls at hl ⊢
  have hl : lv_has ls 7 [(0, .ref m0), (1, .int (nI i)), (2, .int (nI j)), (3, .int (nI a))] := hl
  refine lv_bipush (v := -9) hx hb dX6_leastTaken_0 (by decide) ?_
  refine lv_istore (lv' := [(4, .int (-9)), (0, .ref m0), (1, .int (nI i)), (2, .int (nI j)), (3, .int (nI a))]) hx hb dX6_leastTaken_2 hl (by decide) rfl (fun ls hl => ?_)
  refine lv_iconst (v := nI 0) hx hb dX6_leastTaken_4 (by decide) ?_
  refine lv_istore (lv' := [(5, .int (nI 0)), (4, .int (-9)), (0, .ref m0), (1, .int (nI i)), (2, .int (nI j)), (3, .int (nI a))]) hx hb dX6_leastTaken_5 hl (by decide) rfl (fun ls hl => ?_)
  refine wr2 (fun (t : Nat) (lt : Int32) => 5 - t) (fun (t : Nat) (lt : Int32) (ls : Array Slot) => lv_has ls 7 [(0, .ref m0), (1, .int (nI i)), (2, .int (nI j)), (3, .int (nI a)), (4, .int lt), (5, .int (nI t))] ∧ (t ≤ 5 ∧ lt = ltN P (P 0 - i) j a t)) 0 (-9) (by exact ⟨lv_sub hl [2, 3, 4, 5, 1, 0] rfl, by omega, rfl⟩) (fun t lt ls hI ih => ?_)
  obtain ⟨hl, ht, hlt⟩ := hI
  have ih7 := ih
  refine lv_iload hx hb dX6_leastTaken_7 (lv_at hl 5 rfl) ?_
  refine lv_iconst (v := nI 5) hx hb dX6_leastTaken_9 (by decide) ?_
  refine ri_cge (tgt := 74) hx hb dX6_leastTaken_10 (by decide) (by omega) (by omega) (fun c10 => ?_) (fun c10 => ?_)
  · refine lv_iload hx hb dX6_leastTaken_74 (lv_at hl 4 rfl) ?_
    exact kri (v := lt) Y hr hlocks (by rw [hlt, show t = 5 by omega]) dX6_leastTaken_76
  · refine lv_aload_n hx hb dX6_leastTaken_13 rfl (lv_at hl 0 rfl) ?_
    refine lv_iload_n hx hb dX6_leastTaken_14 rfl (lv_at hl 1 rfl) ?_
    refine lv_iload_n hx hb dX6_leastTaken_15 rfl (lv_at hl 2 rfl) ?_
    refine lv_iload_n hx hb dX6_leastTaken_16 rfl (lv_at hl 3 rfl) ?_
    refine lv_iload hx hb dX6_leastTaken_17 (lv_at hl 5 rfl) ?_
    refine kVi (As := [.int (nI i), .int (nI j), .int (nI a), .int (nI t)]) (rest := []) Y m_X6_isTaken (c_X6_isTaken l dC dI cI cL m0 m1 m2 m3 m4 m5 m6 m7 m8 m9 m10 m11 m12 bm ty sp fa fp kn lf yo ol un hh dr P sy gz i j a t (by omega) (by omega) (by omega) (by omega) (by omega) (by omega) hPI hMZ) qm_X6_206 (kpV (ci := 6) hK hP hZ hS [0, 1, 2, 3] [0, 1] rfl rfl 0 rfl rfl rfl) rfl hl.1 rfl (Nat.le_of_ble_eq_true rfl) dX6_leastTaken_19 ⟨Nat.le_of_ble_eq_true rfl, Nat.le_of_ble_eq_true rfl⟩ ⟨Nat.zero_le _, Nat.zero_le _⟩ (fun r19 hr19 => ?_)
    obtain rfl : r19 = b2i (tkP P (P 0 - i) j a t) := hr19
    refine ri_beq (tgt := 47) hx hb dX6_leastTaken_22 (by decide) (fun c22 => ?_) (fun c22 => ?_)
    · refine lv_iconst (v := nI 0) hx hb dX6_leastTaken_47 (by decide) ?_
      refine lv_istore (lv' := [(6, .int (nI 0)), (0, .ref m0), (1, .int (nI i)), (2, .int (nI j)), (3, .int (nI a)), (4, .int lt), (5, .int (nI t))]) hx hb dX6_leastTaken_48 hl (by decide) rfl (fun ls hl => ?_)
      refine lv_iload hx hb dX6_leastTaken_50 (lv_at hl 0 rfl) ?_
      refine ri_zeq (tgt := 64) hx hb dX6_leastTaken_52 (by decide) (by omega) (fun c52 => ?_) (fun c52 => ?_)
      · refine lv_iload hx hb dX6_leastTaken_64 (lv_at hl 5 rfl) ?_
        refine lv_istore (lv' := [(4, .int lt), (6, .int (nI 0)), (0, .ref m0), (1, .int (nI i)), (2, .int (nI j)), (3, .int (nI a)), (5, .int (nI t))]) hx hb dX6_leastTaken_66 hl (by decide) rfl (fun ls hl => ?_)
        refine lv_iinc (v := nI (t + 1)) (lv' := [(5, .int (nI (t + 1))), (4, .int lt), (6, .int (nI 0)), (0, .ref m0), (1, .int (nI i)), (2, .int (nI j)), (3, .int (nI a))]) hx hb dX6_leastTaken_68 hl (k := 6) rfl (inc1 _) (by decide) rfl (fun ls hl => ?_)
        refine lv_goto (tgt := 7) hx hb dX6_leastTaken_71 (by decide) ?_
        exact ih7 (t + 1) lt _ (by show _ < _; omega) (by exact ⟨lv_sub hl [3, 4, 5, 6, 1, 0] rfl, by omega, lt_f hlt (fun q => c22 q.1)⟩)
      · exact absurd c52 (by decide)
    · refine lv_iload hx hb dX6_leastTaken_25 (lv_at hl 4 rfl) ?_
      refine lv_bipush (v := -9) hx hb dX6_leastTaken_27 (by decide) ?_
      refine lv_icmp_eq (tgt := 43) hx hb dX6_leastTaken_29 (by decide) (fun c29 => ?_) (fun c29 => ?_)
      · refine lv_iconst (v := nI 1) hx hb dX6_leastTaken_43 (by decide) ?_
        refine lv_goto (tgt := 48) hx hb dX6_leastTaken_44 (by decide) ?_
        refine lv_istore (lv' := [(6, .int (nI 1)), (0, .ref m0), (1, .int (nI i)), (2, .int (nI j)), (3, .int (nI a)), (4, .int lt), (5, .int (nI t))]) hx hb dX6_leastTaken_48 hl (by decide) rfl (fun ls hl => ?_)
        refine lv_iload hx hb dX6_leastTaken_50 (lv_at hl 0 rfl) ?_
        refine ri_zeq (tgt := 64) hx hb dX6_leastTaken_52 (by decide) (by omega) (fun c52 => ?_) (fun c52 => ?_)
        · exact absurd c52 (by decide)
        · refine lv_aload_n hx hb dX6_leastTaken_55 rfl (lv_at hl 1 rfl) ?_
          refine lv_iload hx hb dX6_leastTaken_56 (lv_at hl 6 rfl) ?_
          refine kVi (As := [.int (nI t)]) (rest := []) Y m_X6_valueOf (c_X6_valueOf l dC dI cI cL m0 m1 m2 m3 m4 m5 m6 m7 m8 m9 m10 m11 m12 bm ty sp fa fp kn lf yo ol un hh dr P t (by omega)) qm_X6_143 (kpV (ci := 6) hK hP hZ hS [0, 1] [0] rfl rfl 0 rfl rfl rfl) rfl hl.1 rfl (Nat.le_of_ble_eq_true rfl) dX6_leastTaken_58 ⟨Nat.le_of_ble_eq_true rfl, Nat.le_of_ble_eq_true rfl⟩ ⟨Nat.zero_le _, Nat.zero_le _⟩ (fun r58 hr58 => ?_)
          obtain rfl : r58 = nI (P (10 + t)) := hr58
          refine lv_goto (tgt := 66) hx hb dX6_leastTaken_61 (by decide) ?_
          refine lv_istore (lv' := [(4, .int (nI (P (10 + t)))), (6, .int (nI 1)), (0, .ref m0), (1, .int (nI i)), (2, .int (nI j)), (3, .int (nI a)), (5, .int (nI t))]) hx hb dX6_leastTaken_66 hl (by decide) rfl (fun ls hl => ?_)
          refine lv_iinc (v := nI (t + 1)) (lv' := [(5, .int (nI (t + 1))), (4, .int (nI (P (10 + t)))), (6, .int (nI 1)), (0, .ref m0), (1, .int (nI i)), (2, .int (nI j)), (3, .int (nI a))]) hx hb dX6_leastTaken_68 hl (k := 6) rfl (inc1 _) (by decide) rfl (fun ls hl => ?_)
          refine lv_goto (tgt := 7) hx hb dX6_leastTaken_71 (by decide) ?_
          exact ih7 (t + 1) (nI (P (10 + t))) _ (by show _ < _; omega) (by exact ⟨lv_sub hl [3, 4, 5, 6, 1, 0] rfl, by omega, lt_t hlt ⟨c22, Or.inl c29⟩⟩)
      · refine lv_aload_n hx hb dX6_leastTaken_32 rfl (lv_at hl 0 rfl) ?_
        refine lv_iload hx hb dX6_leastTaken_33 (lv_at hl 5 rfl) ?_
        refine kVi (As := [.int (nI t)]) (rest := []) Y m_X6_valueOf (c_X6_valueOf l dC dI cI cL m0 m1 m2 m3 m4 m5 m6 m7 m8 m9 m10 m11 m12 bm ty sp fa fp kn lf yo ol un hh dr P t (by omega)) qm_X6_143 (kpV (ci := 6) hK hP hZ hS [0, 1] [0] rfl rfl 0 rfl rfl rfl) rfl hl.1 rfl (Nat.le_of_ble_eq_true rfl) dX6_leastTaken_35 ⟨Nat.le_of_ble_eq_true rfl, Nat.le_of_ble_eq_true rfl⟩ ⟨Nat.zero_le _, Nat.zero_le _⟩ (fun r35 hr35 => ?_)
        obtain rfl : r35 = nI (P (10 + t)) := hr35
        refine lv_iload hx hb dX6_leastTaken_38 (lv_at hl 4 rfl) ?_
        refine lv_icmp_ge (tgt := 47) hx hb dX6_leastTaken_40 (by decide) (fun c40 => ?_) (fun c40 => ?_)
        · refine lv_iconst (v := nI 0) hx hb dX6_leastTaken_47 (by decide) ?_
          refine lv_istore (lv' := [(6, .int (nI 0)), (0, .ref m0), (1, .int (nI i)), (2, .int (nI j)), (3, .int (nI a)), (4, .int lt), (5, .int (nI t))]) hx hb dX6_leastTaken_48 hl (by decide) rfl (fun ls hl => ?_)
          refine lv_iload hx hb dX6_leastTaken_50 (lv_at hl 0 rfl) ?_
          refine ri_zeq (tgt := 64) hx hb dX6_leastTaken_52 (by decide) (by omega) (fun c52 => ?_) (fun c52 => ?_)
          · refine lv_iload hx hb dX6_leastTaken_64 (lv_at hl 5 rfl) ?_
            refine lv_istore (lv' := [(4, .int lt), (6, .int (nI 0)), (0, .ref m0), (1, .int (nI i)), (2, .int (nI j)), (3, .int (nI a)), (5, .int (nI t))]) hx hb dX6_leastTaken_66 hl (by decide) rfl (fun ls hl => ?_)
            refine lv_iinc (v := nI (t + 1)) (lv' := [(5, .int (nI (t + 1))), (4, .int lt), (6, .int (nI 0)), (0, .ref m0), (1, .int (nI i)), (2, .int (nI j)), (3, .int (nI a))]) hx hb dX6_leastTaken_68 hl (k := 6) rfl (inc1 _) (by decide) rfl (fun ls hl => ?_)
            refine lv_goto (tgt := 7) hx hb dX6_leastTaken_71 (by decide) ?_
            exact ih7 (t + 1) lt _ (by show _ < _; omega) (by exact ⟨lv_sub hl [3, 4, 5, 6, 1, 0] rfl, by omega, lt_f hlt (fun q => q.2.elim c29 (fun z => absurd c40 (Int32.not_le.mpr z)))⟩)
          · exact absurd c52 (by decide)
        · refine lv_iconst (v := nI 1) hx hb dX6_leastTaken_43 (by decide) ?_
          refine lv_goto (tgt := 48) hx hb dX6_leastTaken_44 (by decide) ?_
          refine lv_istore (lv' := [(6, .int (nI 1)), (0, .ref m0), (1, .int (nI i)), (2, .int (nI j)), (3, .int (nI a)), (4, .int lt), (5, .int (nI t))]) hx hb dX6_leastTaken_48 hl (by decide) rfl (fun ls hl => ?_)
          refine lv_iload hx hb dX6_leastTaken_50 (lv_at hl 0 rfl) ?_
          refine ri_zeq (tgt := 64) hx hb dX6_leastTaken_52 (by decide) (by omega) (fun c52 => ?_) (fun c52 => ?_)
          · exact absurd c52 (by decide)
          · refine lv_aload_n hx hb dX6_leastTaken_55 rfl (lv_at hl 1 rfl) ?_
            refine lv_iload hx hb dX6_leastTaken_56 (lv_at hl 6 rfl) ?_
            refine kVi (As := [.int (nI t)]) (rest := []) Y m_X6_valueOf (c_X6_valueOf l dC dI cI cL m0 m1 m2 m3 m4 m5 m6 m7 m8 m9 m10 m11 m12 bm ty sp fa fp kn lf yo ol un hh dr P t (by omega)) qm_X6_143 (kpV (ci := 6) hK hP hZ hS [0, 1] [0] rfl rfl 0 rfl rfl rfl) rfl hl.1 rfl (Nat.le_of_ble_eq_true rfl) dX6_leastTaken_58 ⟨Nat.le_of_ble_eq_true rfl, Nat.le_of_ble_eq_true rfl⟩ ⟨Nat.zero_le _, Nat.zero_le _⟩ (fun r58 hr58 => ?_)
            obtain rfl : r58 = nI (P (10 + t)) := hr58
            refine lv_goto (tgt := 66) hx hb dX6_leastTaken_61 (by decide) ?_
            refine lv_istore (lv' := [(4, .int (nI (P (10 + t)))), (6, .int (nI 1)), (0, .ref m0), (1, .int (nI i)), (2, .int (nI j)), (3, .int (nI a)), (5, .int (nI t))]) hx hb dX6_leastTaken_66 hl (by decide) rfl (fun ls hl => ?_)
            refine lv_iinc (v := nI (t + 1)) (lv' := [(5, .int (nI (t + 1))), (4, .int (nI (P (10 + t)))), (6, .int (nI 1)), (0, .ref m0), (1, .int (nI i)), (2, .int (nI j)), (3, .int (nI a))]) hx hb dX6_leastTaken_68 hl (k := 6) rfl (inc1 _) (by decide) rfl (fun ls hl => ?_)
            refine lv_goto (tgt := 7) hx hb dX6_leastTaken_71 (by decide) ?_
            exact ih7 (t + 1) (nI (P (10 + t))) _ (by show _ < _; omega) (by exact ⟨lv_sub hl [3, 4, 5, 6, 1, 0] rfl, by omega, lt_t hlt ⟨c22, Or.inr (Int32.not_le.mp c40)⟩⟩)
set_option maxHeartbeats 4000000 in
set_option maxRecDepth 100000 in
theorem c_X6_valueThreshold (l : Launch) (dC : Nat → ClassId) (dI : Nat → Nat → Nat) (sz : Nat) (cI cL : ClassId) (m0 m1 m2 m3 m4 m5 m6 m7 m8 m9 m10 m11 m12 : Nat) (bm ty sp fa fp kn lf yo ol : Nat) (un hh : Int64) (dr : Int32) (P ww rv sy gz : Nat → Nat) (a b v : Int32) (hPI : PI P) (hKI : KI P kn ww rv sy gz) : Met l yX6_valueThreshold (kw yX6_valueThreshold cX6_valueThreshold 4 (some .int)) (kR 5 127) (kPq (dC, dI) [.ref m0, .int a, .int b, .int v] sz [(m0, .inr (6, [.ref m1, .ref m2, .int (nI bm), .long un, .ref m3, .int (nI ty), .ref m4, .int (nI sp), .int (nI fa), .int (nI fp), .int (nI kn), .ref m5, .ref m6, .ref m7, .ref m8, .ref m9, .int dr, .ref m10, .ref m11, .int (nI lf), .int (nI yo), .int (nI ol), .ref m12, .long hh])), (m1, .inl (cI, 22, .inl (fun zz => nI (P zz)))), (m5, .inl (cL, 72, .inr (.inl (fun zz => lN (ww zz))))), (m6, .inl (cL, 40, .inr (.inl (fun zz => lN (rv zz))))), (m7, .inl (cL, 1152, .inr (.inl (fun zz => lN (sy zz))))), (m8, .inl (cL, 1152, .inr (.inl (fun zz => lN (gz zz)))))] [(cI, .int), (cL, .long)]) (va_Qi (fun (res : Int32) (u : Nat × (Nat → Nat) × (Nat → Nat) × (Nat → Nat) × (Nat → Nat)) => res = vtO P a b v ∧ KI P u.1 u.2.1 u.2.2.1 u.2.2.2.1 u.2.2.2.2) (fun u : Nat × (Nat → Nat) × (Nat → Nat) × (Nat → Nat) × (Nat → Nat) => kB (dC, dI) [(cI, .int), (cL, .long)] (va_A [(m0, .inr (6, [.ref m1, .ref m2, .int (nI bm), .long un, .ref m3, .int (nI ty), .ref m4, .int (nI sp), .int (nI fa), .int (nI fp), .int (nI kn), .ref m5, .ref m6, .ref m7, .ref m8, .ref m9, .int dr, .ref m10, .ref m11, .int (nI lf), .int (nI yo), .int (nI ol), .ref m12, .long hh])), (m1, .inl (cI, 22, .inl (fun zz => nI (P zz)))), (m5, .inl (cL, 72, .inr (.inl (fun zz => lN (ww zz))))), (m6, .inl (cL, 40, .inr (.inl (fun zz => lN (rv zz))))), (m7, .inl (cL, 1152, .inr (.inl (fun zz => lN (sy zz))))), (m8, .inl (cL, 1152, .inr (.inl (fun zz => lN (gz zz)))))] sz) ([(m0, .inr (6, [.ref m1, .ref m2, .int (nI bm), .long un, .ref m3, .int (nI ty), .ref m4, .int (nI sp), .int (nI fa), .int (nI fp), .int (nI u.1), .ref m5, .ref m6, .ref m7, .ref m8, .ref m9, .int dr, .ref m10, .ref m11, .int (nI lf), .int (nI yo), .int (nI ol), .ref m12, .long hh])), (m1, .inl (cI, 22, .inl (fun zz => nI (P zz)))), (m5, .inl (cL, 72, .inr (.inl (fun zz => lN (u.2.1 zz))))), (m6, .inl (cL, 40, .inr (.inl (fun zz => lN (u.2.2.1 zz))))), (m7, .inl (cL, 1152, .inr (.inl (fun zz => lN (u.2.2.2.1 zz))))), (m8, .inl (cL, 1152, .inr (.inl (fun zz => lN (u.2.2.2.2 zz)))))])) (va_A [(m0, .inr (6, [.ref m1, .ref m2, .int (nI bm), .long un, .ref m3, .int (nI ty), .ref m4, .int (nI sp), .int (nI fa), .int (nI fp), .int (nI kn), .ref m5, .ref m6, .ref m7, .ref m8, .ref m9, .int dr, .ref m10, .ref m11, .int (nI lf), .int (nI yo), .int (nI ol), .ref m12, .long hh])), (m1, .inl (cI, 22, .inl (fun zz => nI (P zz)))), (m5, .inl (cL, 72, .inr (.inl (fun zz => lN (ww zz))))), (m6, .inl (cL, 40, .inr (.inl (fun zz => lN (rv zz))))), (m7, .inl (cL, 1152, .inr (.inl (fun zz => lN (sy zz))))), (m8, .inl (cL, 1152, .inr (.inl (fun zz => lN (gz zz)))))] sz)) 0 0 (va_A [(m0, .inr (6, [.ref m1, .ref m2, .int (nI bm), .long un, .ref m3, .int (nI ty), .ref m4, .int (nI sp), .int (nI fa), .int (nI fp), .int (nI kn), .ref m5, .ref m6, .ref m7, .ref m8, .ref m9, .int dr, .ref m10, .ref m11, .int (nI lf), .int (nI yo), .int (nI ol), .ref m12, .long hh])), (m1, .inl (cI, 22, .inl (fun zz => nI (P zz)))), (m5, .inl (cL, 72, .inr (.inl (fun zz => lN (ww zz))))), (m6, .inl (cL, 40, .inr (.inl (fun zz => lN (rv zz))))), (m7, .inl (cL, 1152, .inr (.inl (fun zz => lN (sy zz))))), (m8, .inl (cL, 1152, .inr (.inl (fun zz => lN (gz zz)))))] sz) := by
  refine kmet (by decide) ?_
  intro p e s m args below meth c Y hr hlocks hin hv
  obtain ⟨rfl, A, hAe, hsz, hP, hK, hD, hZ, hA⟩ := kinQ hv
  rw [hAe]
  have hS : va_S A s.heap s.heap [] := va_S.rf
  have hx := Y.1
  have hb := Y.2.1
  have hml := Y.2.2.1
  have hown := Y.2.2.2.1
  have hts := Y.2.2.2.2
  have hl := lv_entry ([.ref m0, .int a, .int b, .int v]) (n := 4) (Nat.le_of_ble_eq_true rfl)
  rw [lg_entry_eq]
  generalize (lg_sl ([.ref m0, .int a, .int b, .int v]) ++ List.replicate (4 - (lg_sl ([.ref m0, .int a, .int b, .int v])).length) Slot.unset).toArray = ls at hl ⊢
  have hl : lv_has ls 4 [(0, .ref m0), (1, .int a), (2, .int b), (3, .int v)] := hl
  have hp0 := hPI.1
  have hp1 := hPI.2.1
  have hp2 := hPI.2.2.1
  have hc1 := hPI.2.2.2.2.2.2.1
  have hc2 := hPI.2.2.2.2.2.2.2
  refine lv_aload_n hx hb dX6_valueThreshold_0 rfl (lv_at hl 0 rfl) ?_
  refine lv_iload_n hx hb dX6_valueThreshold_1 rfl (lv_at hl 1 rfl) ?_
  refine kVi (As := [.int a]) (rest := []) Y m_X6_isCandidate (c_X6_isCandidate l dC dI cI cL m0 m1 m2 m3 m4 m5 m6 m7 m8 m9 m10 m11 m12 bm ty sp fa fp kn lf yo ol un hh dr P a ) qm_X6_172 (kpV (ci := 6) hK hP hZ hS [0, 1] [0] rfl rfl 0 rfl rfl rfl) rfl hl.1 rfl (Nat.le_of_ble_eq_true rfl) dX6_valueThreshold_2 ⟨Nat.le_of_ble_eq_true rfl, Nat.le_of_ble_eq_true rfl⟩ ⟨Nat.zero_le _, Nat.zero_le _⟩ (fun r2 hr2 => ?_)
  obtain rfl : r2 = b2i (nI 1 ≤ a ∧ a ≤ nI (P 0)) := hr2
  refine ri_beq (tgt := 29) hx hb dX6_valueThreshold_5 (by decide) (fun c5 => ?_) (fun c5 => ?_)
  · refine lv_iconst (v := -1) hx hb dX6_valueThreshold_29 (by decide) ?_
    exact kqi (w1 := (fun u : Nat × (Nat → Nat) × (Nat → Nat) × (Nat → Nat) × (Nat → Nat) => [(m0, .inr (6, [.ref m1, .ref m2, .int (nI bm), .long un, .ref m3, .int (nI ty), .ref m4, .int (nI sp), .int (nI fa), .int (nI fp), .int (nI u.1), .ref m5, .ref m6, .ref m7, .ref m8, .ref m9, .int dr, .ref m10, .ref m11, .int (nI lf), .int (nI yo), .int (nI ol), .ref m12, .long hh])), (m1, .inl (cI, 22, .inl (fun zz => nI (P zz)))), (m5, .inl (cL, 72, .inr (.inl (fun zz => lN (u.2.1 zz))))), (m6, .inl (cL, 40, .inr (.inl (fun zz => lN (u.2.2.1 zz))))), (m7, .inl (cL, 1152, .inr (.inl (fun zz => lN (u.2.2.2.1 zz))))), (m8, .inl (cL, 1152, .inr (.inl (fun zz => lN (u.2.2.2.2 zz)))))])) (v := (-1)) Y hr hlocks hK hP hD hS [0, 1, 2, 3, 4, 5] (by decide) (kn, ww, rv, sy, gz) rfl ⟨(if_neg (fun q => c5 q.1.1)).symm, hKI⟩ dX6_valueThreshold_30
  · refine lv_iload_n hx hb dX6_valueThreshold_8 rfl (lv_at hl 2 rfl) ?_
    refine lv_iconst (v := nI 1) hx hb dX6_valueThreshold_9 (by decide) ?_
    refine lv_aload_n hx hb dX6_valueThreshold_10 rfl (lv_at hl 0 rfl) ?_
    refine kVi (As := []) (rest := [.int (nI 1), .int b]) Y m_X6_k (c_X6_k l dC dI cI cL m0 m1 m2 m3 m4 m5 m6 m7 m8 m9 m10 m11 m12 bm ty sp fa fp kn lf yo ol un hh dr P ) qm_X6_184 (kpV (ci := 6) hK hP hZ hS [0, 1] [0] rfl rfl 0 rfl rfl rfl) rfl hl.1 rfl (Nat.le_of_ble_eq_true rfl) dX6_valueThreshold_11 ⟨Nat.le_of_ble_eq_true rfl, Nat.le_of_ble_eq_true rfl⟩ ⟨Nat.zero_le _, Nat.zero_le _⟩ (fun r11 hr11 => ?_)
    obtain rfl : r11 = nI (P 1) := hr11
    refine kSi (As := [.int b, .int (nI 1), .int (nI (P 1))]) (rest := []) Y m_X6_in (c_X6_in l dC dI b (nI 1) (nI (P 1)) ) qm_X6_69 (kpS hK hP hZ hS [] [] rfl rfl) rfl hl.1 rfl (Nat.le_of_ble_eq_true rfl) dX6_valueThreshold_14 ⟨Nat.le_of_ble_eq_true rfl, Nat.le_of_ble_eq_true rfl⟩ ⟨Nat.zero_le _, Nat.zero_le _⟩ (fun r14 hr14 => ?_)
    obtain rfl : r14 = b2i ((nI 1) ≤ b ∧ b ≤ (nI (P 1))) := hr14
    refine ri_beq (tgt := 29) hx hb dX6_valueThreshold_17 (by decide) (fun c17 => ?_) (fun c17 => ?_)
    · refine lv_iconst (v := -1) hx hb dX6_valueThreshold_29 (by decide) ?_
      exact kqi (w1 := (fun u : Nat × (Nat → Nat) × (Nat → Nat) × (Nat → Nat) × (Nat → Nat) => [(m0, .inr (6, [.ref m1, .ref m2, .int (nI bm), .long un, .ref m3, .int (nI ty), .ref m4, .int (nI sp), .int (nI fa), .int (nI fp), .int (nI u.1), .ref m5, .ref m6, .ref m7, .ref m8, .ref m9, .int dr, .ref m10, .ref m11, .int (nI lf), .int (nI yo), .int (nI ol), .ref m12, .long hh])), (m1, .inl (cI, 22, .inl (fun zz => nI (P zz)))), (m5, .inl (cL, 72, .inr (.inl (fun zz => lN (u.2.1 zz))))), (m6, .inl (cL, 40, .inr (.inl (fun zz => lN (u.2.2.1 zz))))), (m7, .inl (cL, 1152, .inr (.inl (fun zz => lN (u.2.2.2.1 zz))))), (m8, .inl (cL, 1152, .inr (.inl (fun zz => lN (u.2.2.2.2 zz)))))])) (v := (-1)) Y hr hlocks hK hP hD hS [0, 1, 2, 3, 4, 5] (by decide) (kn, ww, rv, sy, gz) rfl ⟨(if_neg (fun q => c17 q.1.2)).symm, hKI⟩ dX6_valueThreshold_30
    · refine lv_iload_n hx hb dX6_valueThreshold_20 rfl (lv_at hl 3 rfl) ?_
      refine lv_iconst (v := nI 0) hx hb dX6_valueThreshold_21 (by decide) ?_
      refine lv_iconst (v := nI 5) hx hb dX6_valueThreshold_22 (by decide) ?_
      refine kSi (As := [.int v, .int (nI 0), .int (nI 5)]) (rest := []) Y m_X6_in (c_X6_in l dC dI v (nI 0) (nI 5) ) qm_X6_69 (kpS hK hP hZ hS [] [] rfl rfl) rfl hl.1 rfl (Nat.le_of_ble_eq_true rfl) dX6_valueThreshold_23 ⟨Nat.le_of_ble_eq_true rfl, Nat.le_of_ble_eq_true rfl⟩ ⟨Nat.zero_le _, Nat.zero_le _⟩ (fun r23 hr23 => ?_)
      obtain rfl : r23 = b2i ((nI 0) ≤ v ∧ v ≤ (nI 5)) := hr23
      refine ri_bne (tgt := 31) hx hb dX6_valueThreshold_26 (by decide) (fun c26 => ?_) (fun c26 => ?_)
      · have c9 := And.intro (And.intro c5 c17) c26
        obtain ⟨xa, rfl, hxa1, hxa2⟩ := in_n (by decide) (by omega) c9.1.1
        obtain ⟨xb, rfl, hxb1, hxb2⟩ := in_n (by decide) (by omega) c9.1.2
        obtain ⟨xv, rfl, hxv1, hxv2⟩ := in_n (by decide) (by decide) c9.2
        refine lv_aload_n hx hb dX6_valueThreshold_31 rfl (lv_at hl 0 rfl) ?_
        refine kQv (As := []) (rest := []) (wr := []) Y m_X6_knows (c_X6_knows l dC dI _ cI cL m0 m1 m2 m3 m4 m5 m6 m7 m8 m9 m10 m11 m12 bm ty sp fa fp kn lf yo ol un hh dr P ww rv sy gz hPI hKI) qm_X6_178 hP hD hS hA [0, 1, 2, 3, 4, 5] [] rfl rfl (by decide) (by decide) (kqV (ci := 6) hK hP hD hZ hS hA [0, 1, 2, 3, 4, 5] [0, 1] rfl (by decide) rfl 0 rfl rfl rfl) rfl hl.1 rfl (Nat.le_of_ble_eq_true rfl) dX6_valueThreshold_32 ⟨Nat.le_of_ble_eq_true rfl, Nat.le_of_ble_eq_true rfl⟩ ⟨Nat.zero_le _, Nat.zero_le _⟩ (fun u32 H locs hr32 hP hD hS => ?_)
        obtain ⟨ww2_32, rv2_32, sy2_32, gz2_32⟩ := u32
        have hP : va_P (dC, dI) vwCl [(m0, .inr (6, [.ref m1, .ref m2, .int (nI bm), .long un, .ref m3, .int (nI ty), .ref m4, .int (nI sp), .int (nI fa), .int (nI fp), .int (nI 1), .ref m5, .ref m6, .ref m7, .ref m8, .ref m9, .int dr, .ref m10, .ref m11, .int (nI lf), .int (nI yo), .int (nI ol), .ref m12, .long hh])), (m1, .inl (cI, 22, .inl (fun zz => nI (P zz)))), (m5, .inl (cL, 72, .inr (.inl (fun zz => lN (ww2_32 zz))))), (m6, .inl (cL, 40, .inr (.inl (fun zz => lN (rv2_32 zz))))), (m7, .inl (cL, 1152, .inr (.inl (fun zz => lN (sy2_32 zz))))), (m8, .inl (cL, 1152, .inr (.inl (fun zz => lN (gz2_32 zz)))))] H := hP
        have hD : va_D A [(m0, .inr (6, [.ref m1, .ref m2, .int (nI bm), .long un, .ref m3, .int (nI ty), .ref m4, .int (nI sp), .int (nI fa), .int (nI fp), .int (nI 1), .ref m5, .ref m6, .ref m7, .ref m8, .ref m9, .int dr, .ref m10, .ref m11, .int (nI lf), .int (nI yo), .int (nI ol), .ref m12, .long hh])), (m1, .inl (cI, 22, .inl (fun zz => nI (P zz)))), (m5, .inl (cL, 72, .inr (.inl (fun zz => lN (ww2_32 zz))))), (m6, .inl (cL, 40, .inr (.inl (fun zz => lN (rv2_32 zz))))), (m7, .inl (cL, 1152, .inr (.inl (fun zz => lN (sy2_32 zz))))), (m8, .inl (cL, 1152, .inr (.inl (fun zz => lN (gz2_32 zz)))))] := hD
        have hr32 : MR P ww2_32 rv2_32 ∧ MZ P sy2_32 gz2_32 := hr32
        refine lv_aload_n hx hb dX6_valueThreshold_35 rfl (lv_at hl 0 rfl) ?_
        refine lv_iload_n hx hb dX6_valueThreshold_36 rfl (lv_at hl 1 rfl) ?_
        refine lv_iload_n hx hb dX6_valueThreshold_37 rfl (lv_at hl 2 rfl) ?_
        refine lv_iload_n hx hb dX6_valueThreshold_38 rfl (lv_at hl 3 rfl) ?_
        refine kVi (As := [.int (nI xa), .int (nI xb), .int (nI xv)]) (rest := []) Y m_X6_leastTaken (c_X6_leastTaken l dC dI cI cL m0 m1 m2 m3 m4 m5 m6 m7 m8 m9 m10 m11 m12 bm ty sp fa fp 1 lf yo ol un hh dr P sy2_32 gz2_32 xa xb xv (by omega) (by omega) (by omega) (by omega) (by omega) hPI hr32.2) qm_X6_209 (kpV (ci := 6) hK hP hZ hS [0, 1, 4, 5] [0, 1] rfl rfl 0 rfl rfl rfl) rfl hl.1 rfl (Nat.le_of_ble_eq_true rfl) dX6_valueThreshold_39 ⟨Nat.le_of_ble_eq_true rfl, Nat.le_of_ble_eq_true rfl⟩ ⟨Nat.zero_le _, Nat.zero_le _⟩ (fun r39 hr39 => ?_)
        obtain rfl : r39 = ltN P (P 0 - xa) xb xv 5 := hr39
        exact kqi (w1 := (fun u : Nat × (Nat → Nat) × (Nat → Nat) × (Nat → Nat) × (Nat → Nat) => [(m0, .inr (6, [.ref m1, .ref m2, .int (nI bm), .long un, .ref m3, .int (nI ty), .ref m4, .int (nI sp), .int (nI fa), .int (nI fp), .int (nI u.1), .ref m5, .ref m6, .ref m7, .ref m8, .ref m9, .int dr, .ref m10, .ref m11, .int (nI lf), .int (nI yo), .int (nI ol), .ref m12, .long hh])), (m1, .inl (cI, 22, .inl (fun zz => nI (P zz)))), (m5, .inl (cL, 72, .inr (.inl (fun zz => lN (u.2.1 zz))))), (m6, .inl (cL, 40, .inr (.inl (fun zz => lN (u.2.2.1 zz))))), (m7, .inl (cL, 1152, .inr (.inl (fun zz => lN (u.2.2.2.1 zz))))), (m8, .inl (cL, 1152, .inr (.inl (fun zz => lN (u.2.2.2.2 zz)))))])) (v := ltN P (P 0 - xa) xb xv 5) Y hr hlocks hK hP hD hS [0, 1, 2, 3, 4, 5] (by decide) (1, ww2_32, rv2_32, sy2_32, gz2_32) rfl ⟨by unfold vtO; rw [if_pos c9, nO_n (n := xa) (by omega), nO_n (n := xb) (by omega), nO_n (n := xv) (by omega)], KI_1 hr32.1 hr32.2⟩ dX6_valueThreshold_42
      · refine lv_iconst (v := -1) hx hb dX6_valueThreshold_29 (by decide) ?_
        exact kqi (w1 := (fun u : Nat × (Nat → Nat) × (Nat → Nat) × (Nat → Nat) × (Nat → Nat) => [(m0, .inr (6, [.ref m1, .ref m2, .int (nI bm), .long un, .ref m3, .int (nI ty), .ref m4, .int (nI sp), .int (nI fa), .int (nI fp), .int (nI u.1), .ref m5, .ref m6, .ref m7, .ref m8, .ref m9, .int dr, .ref m10, .ref m11, .int (nI lf), .int (nI yo), .int (nI ol), .ref m12, .long hh])), (m1, .inl (cI, 22, .inl (fun zz => nI (P zz)))), (m5, .inl (cL, 72, .inr (.inl (fun zz => lN (u.2.1 zz))))), (m6, .inl (cL, 40, .inr (.inl (fun zz => lN (u.2.2.1 zz))))), (m7, .inl (cL, 1152, .inr (.inl (fun zz => lN (u.2.2.2.1 zz))))), (m8, .inl (cL, 1152, .inr (.inl (fun zz => lN (u.2.2.2.2 zz)))))])) (v := (-1)) Y hr hlocks hK hP hD hS [0, 1, 2, 3, 4, 5] (by decide) (kn, ww, rv, sy, gz) rfl ⟨(if_neg (fun q => c26 q.2)).symm, hKI⟩ dX6_valueThreshold_30
