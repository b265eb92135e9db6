set_option maxHeartbeats 8000000 in
set_option maxRecDepth 100000 in
/-- parameter -/
theorem lw_c9 {p : Program} {l : Launch} {e : Env} {s : State} {m : MethodId} {below : List Frame} {meth : Method} {c : Code} {Q : State → Prop} {A : Nat → Prop} {dC : Nat → ClassId} {dI : Nat → Nat → Nat} {cI cL : ClassId} {b L : Nat} {xs : Nat → Int32} {x0 pa t0 t1 t2 y0 y1 r0 q1 q2 q3 a0 v1 v2 v3 v4 v5 b0 w1 w2 w3 w4 w5 s0 s1 s2 s3 m0 m1 m2 m3 m4 m5 m6 m7 m8 m9 m10 m11 m12 : Nat} (Y : kY p m c cL_law 4 s #[Value.ref b] RL) (hL : L ≤ 2560) (hX : va_X b L xs s s.heap) (hbl : b < s.heap.size) (hbA : ¬ A b) (hA : ∀ q, s.heap.size ≤ q → A q) (hZ : kSta A s s.heap) (hK : va_K (dC, dI) vwCl [(cI, .int), (cL, .long)] s) {i : Nat} (hi : i + 5 ≤ L) {ls : Array Slot} {H : Heap} {locs : List Loc} (hl : lv_has ls 4 [(0, .ref b), (1, .ref x0), (2, .ref m0), (3, .int (nI i))]) (hS : va_S A s.heap H locs) (hY : SYS (dC, dI) cI cL x0 pa t0 t1 t2 y0 y1 r0 q1 q2 q3 a0 v1 v2 v3 v4 v5 b0 w1 w2 w3 w4 w5 s0 s1 s2 s3 m0 m1 m2 m3 m4 m5 m6 m7 m8 m9 m10 m11 m12 A H) (hk : ∀ (ls : Array Slot) (H : Heap) (locs : List Loc), lv_has ls 4 [(0, .ref b), (1, .ref x0), (2, .ref m0), (3, .int (nI i))] → va_S A s.heap H locs → SYS (dC, dI) cI cL x0 pa t0 t1 t2 y0 y1 r0 q1 q2 q3 a0 v1 v2 v3 v4 v5 b0 w1 w2 w3 w4 w5 s0 s1 s2 s3 m0 m1 m2 m3 m4 m5 m6 m7 m8 m9 m10 m11 m12 A H → W p l e room_1 s m #[Value.ref b] below meth c H locs 40 6021 Q (F0 m 1118 ls [])) : W p l e room_1 s m #[Value.ref b] below meth c H locs 40 6021 Q (F0 m 413 ls []) := by
  have hx := Y.1
  have hb := Y.2.1
  have hml := Y.2.2.1
  have hown := Y.2.2.2.1
  have hts := Y.2.2.2.2
  refine SYS_e hY (fun P hs tx S Sd bf af lv wt ub ua ul ut ww rv sy gz rrC frC rr fr wz bz fz fl ufl xe rs rsC bm ty fa sv n vsv vn vco vc1 vc2 usv uwn uco uc1 uc2 tf tp its it nu di nb np sp fp kn lf yo ol un co hh dr zC hPI hHI hty htx hfa hKI hRI hVI hFZ hWI hnb hnp hP hD => ?_)
  have hb8 := hHI.1
  have htxn : ∀ k, k < ty → 32 ≤ tx k ∧ tx k ≤ 126 := htx
  refine lv_aload_n hx hb dL_law_413 rfl (lv_at hl 1 rfl) ?_
  refine lv_aload_n hx hb dL_law_414 rfl (lv_at hl 0 rfl) ?_
  refine lv_iload_n hx hb dL_law_415 rfl (lv_at hl 3 rfl) ?_
  refine lv_iconst (v := nI 1) hx hb dL_law_416 (by decide) ?_
  refine ri_add hx hb dL_law_417 ?_
  refine r_scr hx hb hX hbl hbA hS (by omega) (by omega) dL_law_418 ?_
  refine kVi (As := [.int (xs (i + 1))]) (rest := []) Y m_X5_parameter (c_X5_parameter l dC dI cI cL x0 pa t0 y0 r0 a0 b0 s0 fa un P (xs (i + 1)) ) qm_L_53 (kpV (ci := 5) hK hP hZ hS [0, 1] [0] rfl rfl 0 rfl rfl rfl) rfl hl.1 rfl (Nat.le_of_ble_eq_true rfl) dL_law_419 ⟨Nat.le_of_ble_eq_true rfl, Nat.le_of_ble_eq_true rfl⟩ ⟨Nat.le_of_ble_eq_true rfl, Nat.le_of_ble_eq_true rfl⟩ (fun r419 hr419 => ?_)
  obtain rfl : r419 = if nI 0 ≤ (xs (i + 1)) ∧ (xs (i + 1)) ≤ nI 21 then nI (P (nO (xs (i + 1)))) else -1 := hr419
  refine lv_aload_n hx hb dL_law_422 rfl (lv_at hl 2 rfl) ?_
  refine lv_aload_n hx hb dL_law_423 rfl (lv_at hl 0 rfl) ?_
  refine lv_iload_n hx hb dL_law_424 rfl (lv_at hl 3 rfl) ?_
  refine lv_iconst (v := nI 1) hx hb dL_law_425 (by decide) ?_
  refine ri_add hx hb dL_law_426 ?_
  refine r_scr hx hb hX hbl hbA hS (by omega) (by omega) dL_law_427 ?_
  refine kVi (As := [.int (xs (i + 1))]) (rest := [.int (if nI 0 ≤ (xs (i + 1)) ∧ (xs (i + 1)) ≤ nI 21 then nI (P (nO (xs (i + 1)))) else -1)]) Y m_X6_parameter (c_X6_parameter l dC dI cI cL m0 m1 m2 m3 m4 m5 m6 m7 m8 m9 m10 m11 m12 bm ty sp fa fp kn lf yo ol un hh dr P (xs (i + 1)) ) qm_L_56 (kpV (ci := 6) hK hP hZ hS [27, 28] [0] rfl rfl 0 rfl rfl rfl) rfl hl.1 rfl (Nat.le_of_ble_eq_true rfl) dL_law_428 ⟨Nat.le_of_ble_eq_true rfl, Nat.le_of_ble_eq_true rfl⟩ ⟨Nat.le_of_ble_eq_true rfl, Nat.le_of_ble_eq_true rfl⟩ (fun r428 hr428 => ?_)
  obtain rfl : r428 = if nI 0 ≤ (xs (i + 1)) ∧ (xs (i + 1)) ≤ nI 21 then nI (P (nO (xs (i + 1)))) else -1 := hr428
  refine lv_icmp_eq (tgt := 1118) hx hb dL_law_431 (by decide) (fun c431 => ?_) (fun c431 => ?_)
  · exact hk ls H locs (lv_sub hl [0, 1, 2, 3] rfl) hS ⟨P, hs, tx, S, Sd, bf, af, lv, wt, ub, ua, ul, ut, ww, rv, sy, gz, rrC, frC, rr, fr, wz, bz, fz, fl, ufl, xe, rs, rsC, bm, ty, fa, sv, n, vsv, vn, vco, vc1, vc2, usv, uwn, uco, uc1, uc2, tf, tp, its, it, nu, di, nb, np, sp, fp, kn, lf, yo, ol, un, co, hh, dr, zC, ⟨hPI, hHI, hty, htx, hfa, hKI, hRI, hVI, hFZ, hWI, hnb, hnp⟩, hP.sub [0, 1, 2, 3, 4, 5, 6, 7, 8, 9, 10, 11, 12, 13, 14, 15, 16, 17, 18, 19, 20, 21, 22, 23, 24, 25, 26, 27, 28, 29, 30, 31, 32, 33, 34, 35, 36, 37, 38, 39] rfl, hD.sub [0, 1, 2, 3, 4, 5, 6, 7, 8, 9, 10, 11, 12, 13, 14, 15, 16, 17, 18, 19, 20, 21, 22, 23, 24, 25, 26, 27, 28, 29, 30, 31, 32, 33, 34, 35, 36, 37, 38, 39] (by decide) rfl⟩
  · exact absurd rfl c431

