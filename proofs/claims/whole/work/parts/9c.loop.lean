theorem arr_known {args : Array Value} {s : State} {ty : FieldType} (hp : ∀ C, ty ≠ .object C) (h : (Cond.arrayClass ty).before args s = true) : ∃ cA : ClassId, ArrOfT s cA ty ∧ va_RA s cA ty := by
  obtain ⟨cA, kA, comp, h1, h2, h3⟩ := Cond.arrayClass_spec h
  refine ⟨cA, fun n z => ⟨fun k h => (by cases h), kA, h2, comp, h3⟩, ?_⟩
  cases ty with
  | object C => exact absurd rfl (hp C)
  | _ => exact h1
abbrev lwG : List Cond := flatC (Jvm.Cond.and given_1 narrow_1)
theorem sta_T {args : Array Value} {s : State} {C n d : String} {ty : FieldType} {N : Nat} {f : Nat → Nat} {A : Nat → Prop} (hs : ∀ c ∈ lwG, c.before args s = true) (hN : N < 2 ^ 31) (h1 : Cond.arrayOf (.static C n d) ty ∈ lwG) (h2 : Cond.eq (.length (.static C n d)) (.int (Int32.ofNat N)) ∈ lwG) (h3 : ∀ j, j < N → Cond.eq (.elem (.static C n d) (.int (Int32.ofNat j))) (.int (nI (f j))) ∈ lwG) (hl : (Cond.laysStatic C n d).before args s = true) (hini : (Cond.initialized C).before args s = true) (hA : ∀ a : Nat, a < s.heap.size → ¬ A a) : kT C n d ty N f A s s.heap := by
  obtain ⟨t, ht, hT⟩ := va_Tof (f := fun j => .int (nI (f j))) hN (hs _ h1) (va_eqt (hs _ h2)) (fun j hj => va_eqt (hs _ (h3 j hj))) hA
  exact ⟨t, va_Zref hl hini ht hA, hT⟩
theorem lw_gt {i L : Nat} (hL : L ≤ 2560) (hi : i ≤ L) (h : ¬ nI L - nI 5 < nI i) : i + 5 ≤ L := by
  rcases Nat.lt_or_ge L 5 with q | q
  · exfalso
    apply h
    rw [Int32.lt_iff_toInt_lt, nI_toInt (n := i) (by omega)]
    have : (nI L - nI 5).toInt < 0 := by
      rcases (show L = 0 ∨ L = 1 ∨ L = 2 ∨ L = 3 ∨ L = 4 by omega) with rfl | rfl | rfl | rfl | rfl <;> decide
    omega
  · rw [nI_sub q, Int32.lt_iff_toInt_lt, nI_toInt (n := i) (by omega), nI_toInt (n := L - 5) (by omega)] at h
    omega

theorem sta_INITIAL {args : Array Value} {s : State} {A : Nat → Prop} (hs : ∀ c ∈ lwG, c.before args s = true) (hts : ∀ w ∈ lw_tbl, w.before args s = true) (hA : ∀ a : Nat, a < s.heap.size → ¬ A a) : kT "StoppingPlanner" "INITIAL" "[I" .int 22 (tbl tINI) A s s.heap := sta_T hs (by decide) (by decide +kernel) (by decide +kernel) (by decide +kernel) (hts _ (qr_1 _ (List.mem_of_getElem? (l := tables_1_1) (i := 19) rfl))) (hts _ (AW_tbl _ qz_RX5)) hA
theorem sta_LEAST {args : Array Value} {s : State} {A : Nat → Prop} (hs : ∀ c ∈ lwG, c.before args s = true) (hts : ∀ w ∈ lw_tbl, w.before args s = true) (hA : ∀ a : Nat, a < s.heap.size → ¬ A a) : kT "StoppingPlanner" "LEAST" "[I" .int 22 (tbl tLEA) A s s.heap := sta_T hs (by decide) (by decide +kernel) (by decide +kernel) (by decide +kernel) (hts _ (qr_2 _ (List.mem_of_getElem? (l := tables_1_2) (i := 0) rfl))) (hts _ (AW_tbl _ qz_RX5)) hA
theorem sta_MOST {args : Array Value} {s : State} {A : Nat → Prop} (hs : ∀ c ∈ lwG, c.before args s = true) (hts : ∀ w ∈ lw_tbl, w.before args s = true) (hA : ∀ a : Nat, a < s.heap.size → ¬ A a) : kT "StoppingPlanner" "MOST" "[I" .int 22 (tbl tMOS) A s s.heap := sta_T hs (by decide) (by decide +kernel) (by decide +kernel) (by decide +kernel) (hts _ (qr_2 _ (List.mem_of_getElem? (l := tables_1_2) (i := 2) rfl))) (hts _ (AW_tbl _ qz_RX5)) hA
theorem sta_BINOMIALS {args : Array Value} {s : State} {A : Nat → Prop} (hs : ∀ c ∈ lwG, c.before args s = true) (hts : ∀ w ∈ lw_tbl, w.before args s = true) (hA : ∀ a : Nat, a < s.heap.size → ¬ A a) : kT "StoppingPlanner$RankProblem" "BINOMIALS" "[I" .int 64 (tbl tBIN) A s s.heap := sta_T hs (by decide) (by decide +kernel) (by decide +kernel) (by decide +kernel) (hts _ (qr_2 _ (List.mem_of_getElem? (l := tables_1_2) (i := 126) rfl))) (hts _ (AW_tbl _ qz_RX1)) hA
theorem sta_LETTERS {args : Array Value} {s : State} {A : Nat → Prop} (hs : ∀ c ∈ lwG, c.before args s = true) (hts : ∀ w ∈ lw_tbl, w.before args s = true) (hA : ∀ a : Nat, a < s.heap.size → ¬ A a) : kT "StoppingPlanner$Text" "LETTERS" "[C" .char 7 (tbl tLET) A s s.heap := sta_T hs (by decide) (by decide +kernel) (by decide +kernel) (by decide +kernel) (hts _ (qr_2 _ (List.mem_of_getElem? (l := tables_1_2) (i := 25) rfl))) (hts _ (AW_tbl _ qz_RX3)) hA
theorem sta_FIRST {args : Array Value} {s : State} {A : Nat → Prop} (hs : ∀ c ∈ lwG, c.before args s = true) (hts : ∀ w ∈ lw_tbl, w.before args s = true) (hA : ∀ a : Nat, a < s.heap.size → ¬ A a) : kT "StoppingPlanner$Text" "FIRST" "[I" .int 7 (tbl tFIR) A s s.heap := sta_T hs (by decide) (by decide +kernel) (by decide +kernel) (by decide +kernel) (hts _ (qr_1 _ (List.mem_of_getElem? (l := tables_1_1) (i := 236) rfl))) (hts _ (AW_tbl _ qz_RX3)) hA
theorem sta_FEWEST_NUMBERS {args : Array Value} {s : State} {A : Nat → Prop} (hs : ∀ c ∈ lwG, c.before args s = true) (hts : ∀ w ∈ lw_tbl, w.before args s = true) (hA : ∀ a : Nat, a < s.heap.size → ¬ A a) : kT "StoppingPlanner$Text" "FEWEST_NUMBERS" "[I" .int 7 (tbl tFEW) A s s.heap := sta_T hs (by decide) (by decide +kernel) (by decide +kernel) (by decide +kernel) (hts _ (qr_2 _ (List.mem_of_getElem? (l := tables_1_2) (i := 8) rfl))) (hts _ (AW_tbl _ qz_RX3)) hA
theorem sta_MOST_NUMBERS {args : Array Value} {s : State} {A : Nat → Prop} (hs : ∀ c ∈ lwG, c.before args s = true) (hts : ∀ w ∈ lw_tbl, w.before args s = true) (hA : ∀ a : Nat, a < s.heap.size → ¬ A a) : kT "StoppingPlanner$Text" "MOST_NUMBERS" "[I" .int 7 (tbl tMOR) A s s.heap := sta_T hs (by decide) (by decide +kernel) (by decide +kernel) (by decide +kernel) (hts _ (qr_1 _ (List.mem_of_getElem? (l := tables_1_1) (i := 238) rfl))) (hts _ (AW_tbl _ qz_RX3)) hA
theorem sta_all {args : Array Value} {s : State} {A : Nat → Prop} (hs : ∀ c ∈ lwG, c.before args s = true) (hts : ∀ w ∈ lw_tbl, w.before args s = true) (hA : ∀ a : Nat, a < s.heap.size → ¬ A a) : kSta A s s.heap := ⟨sta_INITIAL hs hts hA, sta_LEAST hs hts hA, sta_MOST hs hts hA, sta_BINOMIALS hs hts hA, sta_LETTERS hs hts hA, sta_FIRST hs hts hA, sta_FEWEST_NUMBERS hs hts hA, sta_MOST_NUMBERS hs hts hA, va_Nw.of rfl (hts _ (qr_1 _ (List.mem_of_getElem? (l := tables_1_1) (i := 239) rfl))), va_Nw.of rfl (hts _ (qr_2 _ (List.mem_of_getElem? (l := tables_1_2) (i := 1) rfl)))⟩

set_option maxHeartbeats 8000000 in
set_option maxRecDepth 100000 in
theorem lw_loop {p : Program} {l : Launch} {e : Env} {s : State} {m : MethodId} {below : List Frame} {meth : Method} {c : Code} {A : Nat → Prop} {dC : Nat → ClassId} {dI : Nat → Nat → Nat} {cI cL : ClassId} {b L : Nat} {xs : Nat → Int32} {x0 pa t0 t1 t2 y0 y1 r0 q1 q2 q3 a0 v1 v2 v3 v4 v5 b0 w1 w2 w3 w4 w5 s0 s1 s2 s3 m0 m1 m2 m3 m4 m5 m6 m7 m8 m9 m10 m11 m12 : Nat} (Y : kY p m c cL_law 4 s #[Value.ref b] RL) (hL : L ≤ 2560) (hX : va_X b L xs s s.heap) (hbl : b < s.heap.size) (hbA : ¬ A b) (hA : ∀ q, s.heap.size ≤ q → A q) (hZ : kSta A s s.heap) (hK : va_K (dC, dI) vwCl [(cI, .int), (cL, .long)] s) (hr : meth.sig.returnType = ret) (hlocks : meth.locks = false) (hAf : ∀ q, A q → s.heap.size ≤ q) {i : Nat} (hi : i ≤ L) {ls : Array Slot} {H : Heap} {locs : List Loc} (hl : lv_has ls 4 [(0, .ref b), (1, .ref x0), (2, .ref m0), (3, .int (nI i))]) (hS : va_S A s.heap H locs) (hY : SYS (dC, dI) cI cL x0 pa t0 t1 t2 y0 y1 r0 q1 q2 q3 a0 v1 v2 v3 v4 v5 b0 w1 w2 w3 w4 w5 s0 s1 s2 s3 m0 m1 m2 m3 m4 m5 m6 m7 m8 m9 m10 m11 m12 A H) : W p l e room_1 s m #[Value.ref b] below meth c H locs 40 6021 (lw_Z below #[Value.ref b] s) (F0 m 18 ls []) := by
  have hx := Y.1
  have hb := Y.2.1
  have hml := Y.2.2.1
  have hown := Y.2.2.2.1
  have hts := Y.2.2.2.2
  refine wl1 (fun (i : Nat) => L - i) (fun (i : Nat) (ls : Array Slot) (H : Heap) (locs : List Loc) => lv_has ls 4 [(0, .ref b), (1, .ref x0), (2, .ref m0), (3, .int (nI i))] ∧ va_S A s.heap H locs ∧ SYS (dC, dI) cI cL x0 pa t0 t1 t2 y0 y1 r0 q1 q2 q3 a0 v1 v2 v3 v4 v5 b0 w1 w2 w3 w4 w5 s0 s1 s2 s3 m0 m1 m2 m3 m4 m5 m6 m7 m8 m9 m10 m11 m12 A H ∧ i ≤ L) i (by exact ⟨hl, hS, hY, hi⟩) (fun i ls H locs hI ih => ?_)
  obtain ⟨hl, hS, hY, hi⟩ := hI
  refine lv_iload_n hx hb dL_law_18 rfl (lv_at hl 3 rfl) ?_
  refine lv_aload_n hx hb dL_law_19 rfl (lv_at hl 0 rfl) ?_
  refine va_slen hx hb hX hbl hbA hS dL_law_20 ?_
  refine ri_set hx hb (x' := nI L) rfl ?_
  refine lv_iconst (v := nI 5) hx hb dL_law_21 (by decide) ?_
  refine lv_isub hx hb dL_law_22 ?_
  refine lv_icmp_gt (tgt := 1124) hx hb dL_law_23 (by decide) (fun c23 => ?_) (fun c23 => ?_)
  · refine lv_iconst (v := nI 1) hx hb dL_law_1124 (by decide) ?_
    refine va_forget (fun q hq => hAf _ (hS.2.2 q hq)) ?_
    exact lw_ret hx hb hr hlocks dL_law_1125
  · have hi5 : i + 5 ≤ L := lw_gt hL hi c23
    have hk : ∀ (ls : Array Slot) (H : Heap) (locs : List Loc), lv_has ls 4 [(0, .ref b), (1, .ref x0), (2, .ref m0), (3, .int (nI i))] → va_S A s.heap H locs → SYS (dC, dI) cI cL x0 pa t0 t1 t2 y0 y1 r0 q1 q2 q3 a0 v1 v2 v3 v4 v5 b0 w1 w2 w3 w4 w5 s0 s1 s2 s3 m0 m1 m2 m3 m4 m5 m6 m7 m8 m9 m10 m11 m12 A H → W p l e room_1 s m #[Value.ref b] below meth c H locs 40 6021 (lw_Z below #[Value.ref b] s) (F0 m 1118 ls []) := by
      intro ls H locs hl hS hY
      refine lv_iinc (v := nI (i + 5)) (lv' := [(3, .int (nI (i + 5))), (0, .ref b), (1, .ref x0), (2, .ref m0)]) hx hb dL_law_1118 hl (k := 3) rfl (inc5 _) (by decide) rfl (fun ls hl => ?_)
      refine lv_goto (tgt := 18) hx hb dL_law_1121 (by decide) ?_
      exact ih (i + 5) _ _ _ (by show L - (i + 5) < L - i; omega) ⟨lv_sub hl [1, 2, 3, 0] rfl, hS, hY, by omega⟩
    refine lv_aload_n hx hb dL_law_26 rfl (lv_at hl 0 rfl) ?_
    refine lv_iload_n hx hb dL_law_27 rfl (lv_at hl 3 rfl) ?_
    refine r_scr hx hb hX hbl hbA hS (by omega) (by omega) dL_law_28 ?_
    refine lv_bipush (v := nI 31) hx hb dL_law_29 (by decide) ?_
    refine lv_iand hx hb dL_law_31 ?_
    refine ri_set hx hb (x' := nI ((xs i).toBitVec.toNat % 2 ^ 5)) (pk_and (xs i) 5 (by decide)) ?_
    have hk9 : (xs i).toBitVec.toNat % 2 ^ 5 < 32 := Nat.mod_lt _ (by decide)
    generalize (xs i).toBitVec.toNat % 2 ^ 5 = kk at hk9 ⊢
    rcases (show kk = 0 ∨ kk = 1 ∨ kk = 2 ∨ kk = 3 ∨ kk = 4 ∨ kk = 5 ∨ kk = 6 ∨ kk = 7 ∨ kk = 8 ∨ kk = 9 ∨ kk = 10 ∨ kk = 11 ∨ kk = 12 ∨ kk = 13 ∨ kk = 14 ∨ kk = 15 ∨ kk = 16 ∨ kk = 17 ∨ kk = 18 ∨ kk = 19 ∨ kk = 20 ∨ kk = 21 ∨ kk = 22 ∨ kk = 23 ∨ kk = 24 ∨ kk = 25 ∨ kk = 26 ∨ kk = 27 ∨ kk = 28 ∨ kk = 29 ∨ kk = 30 ∨ kk = 31 by omega) with rfl | rfl | rfl | rfl | rfl | rfl | rfl | rfl | rfl | rfl | rfl | rfl | rfl | rfl | rfl | rfl | rfl | rfl | rfl | rfl | rfl | rfl | rfl | rfl | rfl | rfl | rfl | rfl | rfl | rfl | rfl | rfl
    · refine lv_tableIn (off := 144) (tgt := 176) hx hb dL_law_32 (by decide) (by decide) rfl (by decide) ?_
      exact lw_c0 Y hL hX hbl hbA hA hZ hK hi5 hl hS hY hk
    · refine lv_tableIn (off := 167) (tgt := 199) hx hb dL_law_32 (by decide) (by decide) rfl (by decide) ?_
      exact lw_c1 Y hL hX hbl hbA hA hZ hK hi5 hl hS hY hk
    · refine lv_tableIn (off := 180) (tgt := 212) hx hb dL_law_32 (by decide) (by decide) rfl (by decide) ?_
      exact lw_c2 Y hL hX hbl hbA hA hZ hK hi5 hl hS hY hk
    · refine lv_tableIn (off := 193) (tgt := 225) hx hb dL_law_32 (by decide) (by decide) rfl (by decide) ?_
      exact lw_c3 Y hL hX hbl hbA hA hZ hK hi5 hl hS hY hk
    · refine lv_tableIn (off := 206) (tgt := 238) hx hb dL_law_32 (by decide) (by decide) rfl (by decide) ?_
      exact lw_c4 Y hL hX hbl hbA hA hZ hK hi5 hl hS hY hk
    · refine lv_tableIn (off := 239) (tgt := 271) hx hb dL_law_32 (by decide) (by decide) rfl (by decide) ?_
      exact lw_c5 Y hL hX hbl hbA hA hZ hK hi5 hl hS hY hk
    · refine lv_tableIn (off := 272) (tgt := 304) hx hb dL_law_32 (by decide) (by decide) rfl (by decide) ?_
      exact lw_c6 Y hL hX hbl hbA hA hZ hK hi5 hl hS hY hk
    · refine lv_tableIn (off := 305) (tgt := 337) hx hb dL_law_32 (by decide) (by decide) rfl (by decide) ?_
      exact lw_c7 Y hL hX hbl hbA hA hZ hK hi5 hl hS hY hk
    · refine lv_tableIn (off := 338) (tgt := 370) hx hb dL_law_32 (by decide) (by decide) rfl (by decide) ?_
      exact lw_c8 Y hL hX hbl hbA hA hZ hK hi5 hl hS hY hk
    · refine lv_tableIn (off := 381) (tgt := 413) hx hb dL_law_32 (by decide) (by decide) rfl (by decide) ?_
      exact lw_c9 Y hL hX hbl hbA hA hZ hK hi5 hl hS hY hk
    · refine lv_tableIn (off := 404) (tgt := 436) hx hb dL_law_32 (by decide) (by decide) rfl (by decide) ?_
      exact lw_c10 Y hL hX hbl hbA hA hZ hK hi5 hl hS hY hk
    · refine lv_tableIn (off := 438) (tgt := 470) hx hb dL_law_32 (by decide) (by decide) rfl (by decide) ?_
      exact lw_c11 Y hL hX hbl hbA hA hZ hK hi5 hl hS hY hk
    · refine lv_tableIn (off := 472) (tgt := 504) hx hb dL_law_32 (by decide) (by decide) rfl (by decide) ?_
      exact lw_c12 Y hL hX hbl hbA hA hZ hK hi5 hl hS hY hk
    · refine lv_tableIn (off := 515) (tgt := 547) hx hb dL_law_32 (by decide) (by decide) rfl (by decide) ?_
      exact lw_c13 Y hL hX hbl hbA hA hZ hK hi5 hl hS hY hk
    · refine lv_tableIn (off := 548) (tgt := 580) hx hb dL_law_32 (by decide) (by decide) rfl (by decide) ?_
      exact lw_c14 Y hL hX hbl hbA hA hZ hK hi5 hl hS hY hk
    · refine lv_tableIn (off := 572) (tgt := 604) hx hb dL_law_32 (by decide) (by decide) rfl (by decide) ?_
      exact lw_c15 Y hL hX hbl hbA hA hZ hK hi5 hl hS hY hk
    · refine lv_tableIn (off := 596) (tgt := 628) hx hb dL_law_32 (by decide) (by decide) rfl (by decide) ?_
      exact lw_c16 Y hL hX hbl hbA hA hZ hK hi5 hl hS hY hk
    · refine lv_tableIn (off := 609) (tgt := 641) hx hb dL_law_32 (by decide) (by decide) rfl (by decide) ?_
      exact lw_c17 Y hL hX hbl hbA hA hZ hK hi5 hl hS hY hk
    · refine lv_tableIn (off := 663) (tgt := 695) hx hb dL_law_32 (by decide) (by decide) rfl (by decide) ?_
      exact lw_c18 Y hL hX hbl hbA hA hZ hK hi5 hl hS hY hk
    · refine lv_tableIn (off := 716) (tgt := 748) hx hb dL_law_32 (by decide) (by decide) rfl (by decide) ?_
      exact lw_c19 Y hL hX hbl hbA hA hZ hK hi5 hl hS hY hk
    · refine lv_tableIn (off := 769) (tgt := 801) hx hb dL_law_32 (by decide) (by decide) rfl (by decide) ?_
      exact lw_c20 Y hL hX hbl hbA hA hZ hK hi5 hl hS hY hk
    · refine lv_tableIn (off := 822) (tgt := 854) hx hb dL_law_32 (by decide) (by decide) rfl (by decide) ?_
      exact lw_c21 Y hL hX hbl hbA hA hZ hK hi5 hl hS hY hk
    · refine lv_tableIn (off := 865) (tgt := 897) hx hb dL_law_32 (by decide) (by decide) rfl (by decide) ?_
      exact lw_c22 Y hL hX hbl hbA hA hZ hK hi5 hl hS hY hk
    · refine lv_tableIn (off := 889) (tgt := 921) hx hb dL_law_32 (by decide) (by decide) rfl (by decide) ?_
      exact lw_c23 Y hL hX hbl hbA hA hZ hK hi5 hl hS hY hk
    · refine lv_tableIn (off := 902) (tgt := 934) hx hb dL_law_32 (by decide) (by decide) rfl (by decide) ?_
      exact lw_c24 Y hL hX hbl hbA hA hZ hK hi5 hl hS hY hk
    · refine lv_tableIn (off := 916) (tgt := 948) hx hb dL_law_32 (by decide) (by decide) rfl (by decide) ?_
      exact lw_c25 Y hL hX hbl hbA hA hZ hK hi5 hl hS hY hk
    · refine lv_tableIn (off := 956) (tgt := 988) hx hb dL_law_32 (by decide) (by decide) rfl (by decide) ?_
      exact lw_c26 Y hL hX hbl hbA hA hZ hK hi5 hl hS hY hk
    · refine lv_tableIn (off := 970) (tgt := 1002) hx hb dL_law_32 (by decide) (by decide) rfl (by decide) ?_
      exact lw_c27 Y hL hX hbl hbA hA hZ hK hi5 hl hS hY hk
    · refine lv_tableIn (off := 1003) (tgt := 1035) hx hb dL_law_32 (by decide) (by decide) rfl (by decide) ?_
      exact lw_c28 Y hL hX hbl hbA hA hZ hK hi5 hl hS hY hk
    · refine lv_tableIn (off := 1036) (tgt := 1068) hx hb dL_law_32 (by decide) (by decide) rfl (by decide) ?_
      exact lw_c29 Y hL hX hbl hbA hA hZ hK hi5 hl hS hY hk
    · refine lv_tableIn (off := 1049) (tgt := 1081) hx hb dL_law_32 (by decide) (by decide) rfl (by decide) ?_
      exact lw_c30 Y hL hX hbl hbA hA hZ hK hi5 hl hS hY hk
    · refine lv_tableIn (off := 1072) (tgt := 1104) hx hb dL_law_32 (by decide) (by decide) rfl (by decide) ?_
      exact lw_c31 Y hL hX hbl hbA hA hZ hK hi5 hl hS hY hk

