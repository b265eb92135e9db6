set_option maxHeartbeats 8000000 in
set_option maxRecDepth 100000 in
/-- faultKind -/
theorem lw_c3 {p : Program} {l : Launch} {e : Env} {s : State} {m : MethodId} {below : List Frame} {meth : Method} {c : Code} {Q : State → Prop} {A : Nat → Prop} {dC : Nat → ClassId} {dI : Nat → Nat → Nat} {cI cL : ClassId} {b L : Nat} {xs : Nat → Int32} {x0 pa t0 t1 t2 y0 y1 r0 q1 q2 q3 a0 v1 v2 v3 v4 v5 b0 w1 w2 w3 w4 w5 s0 s1 s2 s3 m0 m1 m2 m3 m4 m5 m6 m7 m8 m9 m10 m11 m12 : Nat} (Y : kY p m c cL_law 4 s #[Value.ref b] RL) (hL : L ≤ 2560) (hX : va_X b L xs s s.heap) (hbl : b < s.heap.size) (hbA : ¬ A b) (hA : ∀ q, s.heap.size ≤ q → A q) (hZ : kSta A s s.heap) (hK : va_K (dC, dI) vwCl [(cI, .int), (cL, .long)] s) {i : Nat} (hi : i + 5 ≤ L) {ls : Array Slot} {H : Heap} {locs : List Loc} (hl : lv_has ls 4 [(0, .ref b), (1, .ref x0), (2, .ref m0), (3, .int (nI i))]) (hS : va_S A s.heap H locs) (hY : SYS (dC, dI) cI cL x0 pa t0 t1 t2 y0 y1 r0 q1 q2 q3 a0 v1 v2 v3 v4 v5 b0 w1 w2 w3 w4 w5 s0 s1 s2 s3 m0 m1 m2 m3 m4 m5 m6 m7 m8 m9 m10 m11 m12 A H) (hk : ∀ (ls : Array Slot) (H : Heap) (locs : List Loc), lv_has ls 4 [(0, .ref b), (1, .ref x0), (2, .ref m0), (3, .int (nI i))] → va_S A s.heap H locs → SYS (dC, dI) cI cL x0 pa t0 t1 t2 y0 y1 r0 q1 q2 q3 a0 v1 v2 v3 v4 v5 b0 w1 w2 w3 w4 w5 s0 s1 s2 s3 m0 m1 m2 m3 m4 m5 m6 m7 m8 m9 m10 m11 m12 A H → W p l e room_1 s m #[Value.ref b] below meth c H locs 40 6021 Q (F0 m 1118 ls [])) : W p l e room_1 s m #[Value.ref b] below meth c H locs 40 6021 Q (F0 m 225 ls []) := by
  have hx := Y.1
  have hb := Y.2.1
  have hml := Y.2.2.1
  have hown := Y.2.2.2.1
  have hts := Y.2.2.2.2
  refine SYS_e hY (fun P hs tx S Sd bf af lv wt ub ua ul ut ww rv sy gz rrC frC rr fr wz bz fz fl ufl xe rs rsC bm ty fa sv n vsv vn vco vc1 vc2 usv uwn uco uc1 uc2 tf tp its it nu di nb np sp fp kn lf yo ol un co hh dr zC hPI hHI hty htx hfa hKI hRI hVI hFZ hWI hnb hnp hP hD => ?_)
  have hb8 := hHI.1
  have htxn : ∀ k, k < ty → 32 ≤ tx k ∧ tx k ≤ 126 := htx
  refine lv_aload_n hx hb dL_law_225 rfl (lv_at hl 1 rfl) ?_
  refine kVi (As := []) (rest := []) Y m_X5_faultKind (c_X5_faultKind l dC dI cI cL x0 pa t0 y0 r0 a0 b0 s0 fa un ) qm_L_27 (kpV (ci := 5) hK hP hZ hS [0] [] rfl rfl 0 rfl rfl rfl) rfl hl.1 rfl (Nat.le_of_ble_eq_true rfl) dL_law_226 ⟨Nat.le_of_ble_eq_true rfl, Nat.le_of_ble_eq_true rfl⟩ ⟨Nat.le_of_ble_eq_true rfl, Nat.le_of_ble_eq_true rfl⟩ (fun r226 hr226 => ?_)
  obtain rfl : r226 = nI fa := hr226
  refine lv_aload_n hx hb dL_law_229 rfl (lv_at hl 2 rfl) ?_
  refine kVi (As := []) (rest := [.int (nI fa)]) Y m_X6_faultKind (c_X6_faultKind l dC dI cI cL m0 m1 m2 m3 m4 m5 m6 m7 m8 m9 m10 m11 m12 bm ty sp fa fp kn lf yo ol un hh dr ) qm_L_30 (kpV (ci := 6) hK hP hZ hS [27] [] rfl rfl 0 rfl rfl rfl) rfl hl.1 rfl (Nat.le_of_ble_eq_true rfl) dL_law_230 ⟨Nat.le_of_ble_eq_true rfl, Nat.le_of_ble_eq_true rfl⟩ ⟨Nat.le_of_ble_eq_true rfl, Nat.le_of_ble_eq_true rfl⟩ (fun r230 hr230 => ?_)
  obtain rfl : r230 = nI fa := hr230
  refine lv_icmp_eq (tgt := 1118) hx hb dL_law_233 (by decide) (fun c233 => ?_) (fun c233 => ?_)
  · exact hk ls H locs (lv_sub hl [0, 1, 2, 3] rfl) hS ⟨P, hs, tx, S, Sd, bf, af, lv, wt, ub, ua, ul, ut, ww, rv, sy, gz, rrC, frC, rr, fr, wz, bz, fz, fl, ufl, xe, rs, rsC, bm, ty, fa, sv, n, vsv, vn, vco, vc1, vc2, usv, uwn, uco, uc1, uc2, tf, tp, its, it, nu, di, nb, np, sp, fp, kn, lf, yo, ol, un, co, hh, dr, zC, ⟨hPI, hHI, hty, htx, hfa, hKI, hRI, hVI, hFZ, hWI, hnb, hnp⟩, hP.sub [0, 1, 2, 3, 4, 5, 6, 7, 8, 9, 10, 11, 12, 13, 14, 15, 16, 17, 18, 19, 20, 21, 22, 23, 24, 25, 26, 27, 28, 29, 30, 31, 32, 33, 34, 35, 36, 37, 38, 39] rfl, hD.sub [0, 1, 2, 3, 4, 5, 6, 7, 8, 9, 10, 11, 12, 13, 14, 15, 16, 17, 18, 19, 20, 21, 22, 23, 24, 25, 26, 27, 28, 29, 30, 31, 32, 33, 34, 35, 36, 37, 38, 39] (by decide) rfl⟩
  · exact absurd rfl c233

