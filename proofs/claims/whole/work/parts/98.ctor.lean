abbrev kRc (f L mc ms : Nat) : Room := { frames := f, cells := mc, slots := ms, locals := L }
def zN : Nat → Nat := fun _ => 0
def zL : Nat → Int64 := fun _ => lN 0
def zI : Nat → Int32 := fun _ => nI 0
section KNEW
variable {p : Program} {l : Launch} {e : Env} {R : Room} {s : State} {m : MethodId} {args : Array Value} {below : List Frame} {meth : Method} {c : Code} {H : Heap} {locs : List Loc} {cells slots : Nat} {Q : State → Prop}
variable {cc : ByteArray} {nL : Nat} {own C : String} {pc : Nat} {ls : Array Slot} {rest st0 As : List Value} {D : va_G} {tys tc : List (ClassId × FieldType)} {ws wc wr : va_W} {A : Nat → Prop} {b : Nat}
variable {y : MethodName} {bytes : ByteArray} {maxL n index : Nat} {ret : Option FieldType} {f L mc ms : Nat}
theorem kcI (Y : kY p m c cc nL s args own) (M : kmI y bytes maxL n) (hl : Cond.methodLink own index y ∈ AW) (hR : f + 1 ≤ R.frames ∧ 8 + (maxL + 11) + L ≤ R.locals) : CallB R s args own index y bytes maxL none (kw y bytes maxL none) (kRc f L mc ms) mc ms n ∧ y.name = "<init>" ∧ (Cond.instanceMethod y).before args s = true := by
  obtain ⟨hc, hi, hz, hn, hm1, hm2, hd⟩ := M
  have ht := Y.2.2.2.2
  exact ⟨callB_of n ht (kw_in hc) rfl rfl rfl (ht _ hz) (ht _ hl) ⟨hm1, hm2, hd⟩ hR, hn, ht _ hi⟩
theorem kQI {Sg : Type} {post : Sg → Prop} {w1 : Sg → va_W} (Y : kY p m c cc nL s args own) (M : kmI y bytes maxL n) (hM : Met l y (kw y bytes maxL none) (kRc f L mc ms) (kPq D (.ref b :: As) H.size wc tc) (va_Qv post (fun u => kB D tc (va_A wc H.size) (w1 u)) (va_A wc H.size)) mc ms (va_A wc H.size)) (hl : Cond.methodLink own index y ∈ AW) (hP : va_P D vwCl ws H) (hD : va_D A ws) (hS : va_S A s.heap H locs) (hA : ∀ q, s.heap.size ≤ q → A q) (isC isR : List Nat) (hC : isC.map (fun i => ws[i]?) = wc.map some) (hRr : isR.map (fun i => ws[i]?) = wr.map some) (hnr : va_nd isR = true) (hdis : ∀ i ∈ isR, i ∉ isC) (hp : PreS s H (kPq D (.ref b :: As) H.size wc tc) (.ref b :: As)) (hn : As.length = n) (hsz : ls.size = nL) (hst : st0 = As.reverse ++ .ref b :: rest) (hW : (rest.map fun v => v.category).sum ≤ 8) (hdg : decode cc pc = .ok (.invokespecial index, 3)) (hR : f + 1 ≤ R.frames ∧ 8 + (maxL + 11) + L ≤ R.locals) (hf : cells + mc ≤ R.cells ∧ slots + ms ≤ R.slots)
    (kk : ∀ (u : Sg) (H1 : Heap) (locs1 : List Loc), post u → va_P D vwCl (wr ++ w1 u) H1 → va_D A (wr ++ w1 u) → va_S A s.heap H1 locs1 → W p l e R s m args below meth c H1 locs1 (cells + mc) (slots + ms) Q (F0 m (pc + 3) ls rest)) : W p l e R s m args below meth c H locs cells slots Q (F0 m pc ls st0) := by
  have hFc := va_free hD hS hA isC hC
  refine va_callv (va_runI Y hM (kcI Y M hl hR) hp rfl hn hsz hst (lv_room hW) hdg hf) hS (fun q _ h => hFc q h) hFc (fun u t H1 locs1 ht hvm hw hB hz1 hk1 hS1 => ?_)
  obtain ⟨hP1, hK1, hD1⟩ := hB
  rw [ht] at hP1
  obtain ⟨hP2, hD2⟩ := va_join hP hD isC isR hC hRr hnr hdis hk1 hFc hP1 hD1
  exact kk u H1 locs1 hw hP2 hD2 hS1
theorem kqvC {Sg : Type} {post : Sg → Prop} {w1 : Sg → va_W} (Y : kY p m c cc nL s args own) (hr : meth.sig.returnType = none) (hlocks : meth.locks = false) (hK : va_K D vwCl tc s) (hP : va_P D vwCl ws H) (hD : va_D A ws) (hS : va_S A s.heap H locs) (is : List Nat) (hn : va_nd is = true) (u : Sg) (hs : is.map (fun i => ws[i]?) = (w1 u).map some) (h : post u) (hdg : decode cc pc = .ok (.return_, 1)) : W p l e R s m args below meth c H locs mc ms (MQ below (va_Qv post (fun u => kB D tc A (w1 u)) A) args s mc ms A) (F0 m pc ls []) :=
  W.vret Y.1 Y.2.1 hr (fun _ ht hW => ⟨⟨u, rfl, h, by rw [ht]; exact hP.sub is (k_fm is hs), va_K.moved hW.alike hK, hD.sub is hn hs⟩, hS.F ht⟩) hS.2.2 hdg hlocks
theorem r_newI (Y : kY p m c cc nL s args own) (hK : va_K D vwCl tys s) (hP : va_P D vwCl ws H) (hD : va_D A ws) (hS : va_S A s.heap H locs) (hA : ∀ q, s.heap.size ≤ q → A q) (t0 : Nat) {cI : ClassId} (ht : tys[t0]? = some (cI, .int)) {N : Nat} (hN : N < 2147483648) (hby : N * 4 ≤ 536870912) (hcells : cells + 1 ≤ R.cells) (hslots : slots + N ≤ R.slots) (hdg : decode cc pc = .ok (.newarray .int, 2))
    (kk : ∀ (q : Nat) (H1 : Heap), va_P D vwCl (ws ++ [(q, .inl (cI, N, .inl (fun _ => nI 0)))]) H1 → va_D A (ws ++ [(q, .inl (cI, N, .inl (fun _ => nI 0)))]) → va_S A s.heap H1 locs → W p l e R s m args below meth c H1 locs (cells + 1) (slots + N) Q (F0 m (pc + 2) ls (.ref q :: rest))) : W p l e R s m args below meth c H locs cells slots Q (F0 m pc ls (.int (nI N) :: rest)) := by
  refine va_newa (atype := .int) (ty := .int) (a0 := (N, .inl (fun _ => nI 0))) Y.1 Y.2.1 (Y.2.2.2.2 _ qa_int) rfl hK hP hD hS hA (fun cA => rfl) (nI_nn hN) (nI_cl hN) hby hcells hslots hdg (fun q cA H1 hK1 hP1 hD1 hS1 => ?_)
  have e1 := va_nm_int (hK.2 t0 _ ht).2
  have e2 := va_nm_int (hK1.2 tys.length (cA, .int) (by rw [List.getElem?_append_right (Nat.le_refl _), Nat.sub_self]; rfl)).2
  have e3 : cA = cI := Option.some.inj (e2.symm.trans e1)
  subst e3
  exact kk q H1 hP1 hD1 hS1
theorem r_newL (Y : kY p m c cc nL s args own) (hK : va_K D vwCl tys s) (hP : va_P D vwCl ws H) (hD : va_D A ws) (hS : va_S A s.heap H locs) (hA : ∀ q, s.heap.size ≤ q → A q) (t0 : Nat) {cI : ClassId} (ht : tys[t0]? = some (cI, .long)) {N : Nat} (hN : N < 2147483648) (hby : N * 8 ≤ 536870912) (hcells : cells + 1 ≤ R.cells) (hslots : slots + N ≤ R.slots) (hdg : decode cc pc = .ok (.newarray .long, 2))
    (kk : ∀ (q : Nat) (H1 : Heap), va_P D vwCl (ws ++ [(q, .inl (cI, N, .inr (.inl (fun _ => lN 0))))]) H1 → va_D A (ws ++ [(q, .inl (cI, N, .inr (.inl (fun _ => lN 0))))]) → va_S A s.heap H1 locs → W p l e R s m args below meth c H1 locs (cells + 1) (slots + N) Q (F0 m (pc + 2) ls (.ref q :: rest))) : W p l e R s m args below meth c H locs cells slots Q (F0 m pc ls (.int (nI N) :: rest)) := by
  refine va_newa (atype := .long) (ty := .long) (a0 := (N, .inr (.inl (fun _ => lN 0)))) Y.1 Y.2.1 (Y.2.2.2.2 _ qa_long) rfl hK hP hD hS hA (fun cA => rfl) (nI_nn hN) (nI_cl hN) hby hcells hslots hdg (fun q cA H1 hK1 hP1 hD1 hS1 => ?_)
  have e1 := va_nm_long (hK.2 t0 _ ht).2
  have e2 := va_nm_long (hK1.2 tys.length (cA, .long) (by rw [List.getElem?_append_right (Nat.le_refl _), Nat.sub_self]; rfl)).2
  have e3 : cA = cI := Option.some.inj (e2.symm.trans e1)
  subst e3
  exact kk q H1 hP1 hD1 hS1
/-- arraycopy out of a static array of ints -/
theorem r_copyT {lv : List (Nat × Value)} (Y : kY p m c cc nL s args own) (hl : lv_has ls nL lv) {a0 a n0 n1 : Nat} {c1 : ClassId} {F G : Nat → Nat} (hX : va_T .int a0 n0 (fun j => .int (nI (F j))) A s s.heap) (hK : va_K D vwCl tys s) (hP : va_P D vwCl ws H) (hD : va_D A ws) (hS : va_S A s.heap H locs) (q1 t1 : Nat) (ha1 : ws[q1]? = some (a, .inl (c1, n1, .inl (fun j => nI (G j))))) (ht1 : tys[t1]? = some (c1, .int)) {sp dp n : Nat} (hlk : Cond.methodLink own index arraycopyName ∈ AW) (hdg : decode cc pc = .ok (.invokestatic index, 3)) (hn0 : n0 < 2147483648) (hn1 : n1 < 2147483648) (h4 : sp + n ≤ n0) (h5 : dp + n ≤ n1) (hfr : 1 ≤ R.frames) (hlo : (rest.map fun v => v.category).sum + (nativeFrameWords "java/lang/System" "arraycopy" 5 + 11) ≤ R.locals)
    (kk : ∀ (H1 : Heap) (locs1 : List Loc), va_P D vwCl (ws.set q1 (a, .inl (c1, n1, .inl (fun j => nI (va_cpy F G sp dp n j))))) H1 → va_D A (ws.set q1 (a, .inl (c1, n1, .inl (fun j => nI (va_cpy F G sp dp n j))))) → va_S A s.heap H1 locs1 → W p l e R s m args below meth c H1 locs1 cells slots Q (F0 m (pc + 3) ls rest)) : W p l e R s m args below meth c H locs cells slots Q (F0 m pc ls (.int (nI n) :: .int (nI dp) :: .ref a :: .int (nI sp) :: .ref a0 :: rest)) := by
  have b1 : sp < 2147483648 := by omega
  have b2 : dp < 2147483648 := by omega
  have b3 : n < 2147483648 := by omega
  have hts := Y.2.2.2.2
  intro T hT X
  obtain ⟨scr, hs1, hs2, hs3, hs4, -, hs5, hs7⟩ := hX
  have hc0 : H[a0]? = some scr := by rw [hS.2.1 a0 (Array.getElem?_eq_some_iff.mp hs1).1 hs7]; exact hs1
  have hc1 : H[a]? = some (vp_cell c1 (n1, .inl (fun j => nI (G j)))) := hP q1 _ ha1
  obtain ⟨hs6, k0, hk0, cm0, hkk0⟩ := hs2
  obtain ⟨-, k1, hk1, cm1, hkk1⟩ := (hK.2 t1 _ ht1).1 n1 (fun j => .int (nI (G j)))
  obtain ⟨vm', X', step⟩ := X.arraycopy Y.1 Y.2.2.2.1 (hts _ hlk) (hts _ qv_arraycopyName) (hts _ qt_arraycopyName) (hts _ qz_java_lang_System) (src := a0) (dst := a) (cs := scr) (cd := vp_cell c1 (n1, .inl (fun j => nI (G j)))) (srcPos := nI sp) (destPos := nI dp) (n := nI n) (by rw [hT]; exact hc0) (by rw [hT]; exact hc1)
    hs6 (fun _ h => by cases h) hs3 (fun h => by cases h) hk0 hk1 hkk0 hkk1 (by simp [refKind]) (nI_nn b1) (nI_nn b2) (nI_nn b3)
    (by rw [nI_toInt b1, nI_toInt b3]; omega)
    (by rw [nI_toInt b2, nI_toInt b3]; show ¬ _ > ((arrV c1 n1 (fun j => .int (nI (G j)))).slots.size : Int); rw [arrV_size]; omega)
    (fun vm₁ _ i hi => by
      rw [nI_cl b3] at hi
      have e : scr.slots.getD ((nI sp).toNatClampNeg + i) .null = .int (nI (F (sp + i))) := by
        rw [nI_cl b1, Array.getD_eq_getD_getElem?, hs5 _ (by omega)]
        rfl
      refine ⟨?_, ?_⟩
      · rw [e]; rfl
      · rw [e]; exact trivial)
    (g := F0 m pc ls (.int (nI n) :: .int (nI dp) :: .ref a :: .int (nI sp) :: .ref a0 :: rest)) rfl (by show ls.size = _; rw [Y.2.2.1]; exact hl.1) (rest := rest) rfl (by rw [Y.2.1]; exact hdg) hfr (by show 2 * 0 + _ + _ ≤ _; omega)
  have e1 : copied scr (vp_cell c1 (n1, .inl (fun j => nI (G j)))) (nI sp) (nI dp) (nI n) = vp_cell c1 (n1, .inl (va_cpy (fun j => nI (F j)) (fun j => nI (G j)) sp dp n)) := by
    have e := va_copiedX (fun z => .int z) scr c1 (n1 := n1) (dp := dp) (fun j => nI (F j)) (fun j => nI (G j)) hs5 h4
    unfold copied
    rw [nI_cl b1, nI_cl b2, nI_cl b3]
    exact e
  rw [e1, cpy_nI] at X' step
  have hl2 : a < H.size := (Array.getElem?_eq_some_iff.mp hc1).1
  have hheap : ((T.setVm vm').setCell a (vp_cell c1 (n1, .inl (fun j => nI (va_cpy F G sp dp n j))))).heap = H.setIfInBounds a (vp_cell c1 (n1, .inl (fun j => nI (va_cpy F G sp dp n j)))) := by rw [← hT]; rfl
  have oq : ∀ q : Nat, q ≠ a → (H.setIfInBounds a (vp_cell c1 (n1, .inl (fun j => nI (va_cpy F G sp dp n j)))))[q]? = H[q]? := fun q hq => by simp [Array.getElem?_setIfInBounds, Ne.symm hq]
  obtain ⟨t, a1, b4⟩ := kk _ _ (hP.set hD ha1 (show (H.setIfInBounds a _)[a]? = some _ by simp [Array.getElem?_setIfInBounds, hl2]) oq) (hD.set ha1) ⟨by simp; exact hS.1, fun q g1 g2 => by
      rw [oq q (fun e => g2 (by rw [e]; exact hD.2 q1 _ ha1))]
      exact hS.2.1 q g1 g2, fun q hq => by
      rcases List.mem_append.mp hq with h | h
      · exact hS.2.2 q h
      · obtain ⟨z, -, hz⟩ := List.mem_map.mp h
        rw [← hz]
        exact hD.2 q1 _ ha1⟩ _ hheap X'
  exact ⟨t, step t a1, b4⟩
end KNEW
theorem ini_out {x : Nat} (h : 22 ≤ x) : tbl tINI x = 0 := by
  have h2 : tINI.length ≤ x := h
  simp [tbl, List.getD, List.getElem?_eq_none h2]
theorem ini_in : ∀ x, x < 22 → tbl tINI x = (if 10 ≤ x ∧ x < 15 then 10 * (x - 10) else if 15 ≤ x ∧ x < 20 then 2 else if x = 0 then 5 else if x = 1 then 1 else if x = 3 then 99 else 0) := by decide +kernel
theorem ini_e {R9 : Nat → Nat} {l9 : Nat} (h5 : l9 = 5) (h : ∀ x, R9 x = (if 10 ≤ x ∧ x < 10 + l9 then 10 * (x - 10) else if 15 ≤ x ∧ x < 15 + l9 then 2 else if x = 0 then 5 else if x = 1 then 1 else if x = 3 then 99 else 0)) : R9 = tbl tINI := by
  subst h5
  funext x
  rw [h x]
  rcases Nat.lt_or_ge x 22 with q | q
  · rw [ini_in x q]
  · rw [ini_out q, if_neg (by omega), if_neg (by omega), if_neg (by omega), if_neg (by omega), if_neg (by omega)]
theorem cpy_ini : va_cpy (tbl tINI) zN 0 0 22 = tbl tINI := by
  funext x
  unfold va_cpy
  rcases Nat.lt_or_ge x 22 with q | q
  · rw [if_pos ⟨by omega, by omega⟩]; exact congrArg (tbl tINI) (by omega)
  · rw [if_neg (by omega), ini_out q]; rfl
theorem PI_ini : PI (tbl tINI) := by
  refine PI_of ?_ (by decide +kernel)
  decide +kernel

set_option maxHeartbeats 4000000 in
set_option maxRecDepth 100000 in
theorem c_X0_init (l : Launch) (dC : Nat → ClassId) (dI : Nat → Nat → Nat) (sz : Nat) (cI cL : ClassId) (h0 : Nat)  : Met l yX0_init (kw yX0_init cX0_init 1 none) (kRc 1 20 1 176) (kPq (dC, dI) [.ref h0] sz [(h0, .inr (0, [.null, .int (nI 0)]))] [(cI, .int), (cL, .long)]) (va_Qv (fun u : Nat => True) (fun u : Nat => kB (dC, dI) [(cI, .int), (cL, .long)] (va_A [(h0, .inr (0, [.null, .int (nI 0)]))] sz) ([(h0, .inr (0, [.ref u, .int (nI 0)])), (u, .inl (cI, 176, .inl (fun zz => nI (zN zz))))])) (va_A [(h0, .inr (0, [.null, .int (nI 0)]))] sz)) 1 176 (va_A [(h0, .inr (0, [.null, .int (nI 0)]))] sz) := by
  refine kmet (by decide) ?_
  intro p e s m args below meth c Y hr hlocks hin hv
  obtain ⟨rfl, A, hAe, hsz, hP, hK, hD, hZ, hA⟩ := kinQ hv
  rw [hAe]
  have hS : va_S A s.heap s.heap [] := va_S.rf
  have hx := Y.1
  have hb := Y.2.1
  have hml := Y.2.2.1
  have hown := Y.2.2.2.1
  have hts := Y.2.2.2.2
  have hl := lv_entry ([.ref h0]) (n := 1) (Nat.le_of_ble_eq_true rfl)
  rw [lg_entry_eq]
  generalize (lg_sl ([.ref h0]) ++ List.replicate (1 - (lg_sl ([.ref h0])).length) Slot.unset).toArray = ls at hl ⊢
  have hl : lv_has ls 1 [(0, .ref h0)] := hl
  refine lv_aload_n hx hb dX0_init_0 rfl (lv_at hl 0 rfl) ?_
  refine W.objInit hx hb hown (hts _ qm_X0_3) (hts _ qn_objectInit) (hts _ qc_objectInit) rfl (by rw [hml]; exact hl.1) rfl dX0_init_1 (Nat.le_of_ble_eq_true rfl) (Nat.le_of_ble_eq_true rfl) ?_
  refine W.eq (g2 := F0 m 4 ls []) rfl ?_
  refine lv_aload_n hx hb dX0_init_4 rfl (lv_at hl 0 rfl) ?_
  refine lv_sipush (v := nI 176) hx hb dX0_init_5 (by decide) ?_
  refine r_newI Y hK hP hD hS hA 0 rfl (Nat.le_of_ble_eq_true rfl) (Nat.le_of_ble_eq_true rfl) (Nat.le_of_ble_eq_true rfl) (Nat.le_of_ble_eq_true rfl) dX0_init_8 (fun d1 H hP hD hS => ?_)
  have hP : va_P (dC, dI) vwCl [(h0, .inr (0, [.null, .int (nI 0)])), (d1, .inl (cI, 176, .inl (fun zz => nI (zN zz))))] H := hP
  have hD : va_D A [(h0, .inr (0, [.null, .int (nI 0)])), (d1, .inl (cI, 176, .inl (fun zz => nI (zN zz))))] := hD
  refine va_putF (D := (dC, dI)) (ci := 0) (v := .ref d1) (ty := (.array .int)) (C := RX0) (T := TX0) (N := 2) hx hb hts inlX0 tyX0 tyX0_ok nmX0 hown hK hP hD hS 0 rfl rfl 0 (by decide) (hts _ qf_X0_11) (fun _ h9 => h9) rfl hin rfl (by decide +kernel) rfl rfl (Nat.le_of_ble_eq_true rfl) dX0_init_10 (fun H locs hP hD hS => ?_)
  have hP : va_P (dC, dI) vwCl [(h0, .inr (0, [.ref d1, .int (nI 0)])), (d1, .inl (cI, 176, .inl (fun zz => nI (zN zz))))] H := hP
  have hD : va_D A [(h0, .inr (0, [.ref d1, .int (nI 0)])), (d1, .inl (cI, 176, .inl (fun zz => nI (zN zz))))] := hD
  exact kqvC (w1 := (fun u : Nat => [(h0, .inr (0, [.ref u, .int (nI 0)])), (u, .inl (cI, 176, .inl (fun zz => nI (zN zz))))])) Y hr hlocks hK hP hD hS [0, 1] (by decide) (d1) rfl trivial dX0_init_13
set_option maxHeartbeats 4000000 in
set_option maxRecDepth 100000 in
theorem c_X1_init (l : Launch) (dC : Nat → ClassId) (dI : Nat → Nat → Nat) (sz : Nat) (cI cL : ClassId) (h0 : Nat)  : Met l yX1_init (kw yX1_init cX1_init 1 none) (kRc 1 20 3 113) (kPq (dC, dI) [.ref h0] sz [(h0, .inr (1, [.null, .null, .null, .int (nI 0), .int (nI 0), .long (lN 0)]))] [(cI, .int), (cL, .long)]) (va_Qv (fun u : Nat × Nat × Nat => True) (fun u : Nat × Nat × Nat => kB (dC, dI) [(cI, .int), (cL, .long)] (va_A [(h0, .inr (1, [.null, .null, .null, .int (nI 0), .int (nI 0), .long (lN 0)]))] sz) ([(h0, .inr (1, [.ref u.1, .ref u.2.1, .ref u.2.2, .int (nI 0), .int (nI 0), .long (lN 0)])), (u.1, .inl (cL, 49, .inr (.inl zL))), (u.2.1, .inl (cL, 32, .inr (.inl zL))), (u.2.2, .inl (cL, 32, .inr (.inl zL)))])) (va_A [(h0, .inr (1, [.null, .null, .null, .int (nI 0), .int (nI 0), .long (lN 0)]))] sz)) 3 113 (va_A [(h0, .inr (1, [.null, .null, .null, .int (nI 0), .int (nI 0), .long (lN 0)]))] sz) := by
  refine kmet (by decide) ?_
  intro p e s m args below meth c Y hr hlocks hin hv
  obtain ⟨rfl, A, hAe, hsz, hP, hK, hD, hZ, hA⟩ := kinQ hv
  rw [hAe]
  have hS : va_S A s.heap s.heap [] := va_S.rf
  have hx := Y.1
  have hb := Y.2.1
  have hml := Y.2.2.1
  have hown := Y.2.2.2.1
  have hts := Y.2.2.2.2
  have hl := lv_entry ([.ref h0]) (n := 1) (Nat.le_of_ble_eq_true rfl)
  rw [lg_entry_eq]
  generalize (lg_sl ([.ref h0]) ++ List.replicate (1 - (lg_sl ([.ref h0])).length) Slot.unset).toArray = ls at hl ⊢
  have hl : lv_has ls 1 [(0, .ref h0)] := hl
  refine lv_aload_n hx hb dX1_init_0 rfl (lv_at hl 0 rfl) ?_
  refine W.objInit hx hb hown (hts _ qm_X1_3) (hts _ qn_objectInit) (hts _ qc_objectInit) rfl (by rw [hml]; exact hl.1) rfl dX1_init_1 (Nat.le_of_ble_eq_true rfl) (Nat.le_of_ble_eq_true rfl) ?_
  refine W.eq (g2 := F0 m 4 ls []) rfl ?_
  refine lv_aload_n hx hb dX1_init_4 rfl (lv_at hl 0 rfl) ?_
  refine lv_bipush (v := nI 49) hx hb dX1_init_5 (by decide) ?_
  refine r_newL Y hK hP hD hS hA 1 rfl (Nat.le_of_ble_eq_true rfl) (Nat.le_of_ble_eq_true rfl) (Nat.le_of_ble_eq_true rfl) (Nat.le_of_ble_eq_true rfl) dX1_init_7 (fun d1 H hP hD hS => ?_)
  have hP : va_P (dC, dI) vwCl [(h0, .inr (1, [.null, .null, .null, .int (nI 0), .int (nI 0), .long (lN 0)])), (d1, .inl (cL, 49, .inr (.inl zL)))] H := hP
  have hD : va_D A [(h0, .inr (1, [.null, .null, .null, .int (nI 0), .int (nI 0), .long (lN 0)])), (d1, .inl (cL, 49, .inr (.inl zL)))] := hD
  refine va_putF (D := (dC, dI)) (ci := 1) (v := .ref d1) (ty := (.array .long)) (C := RX1) (T := TX1) (N := 6) hx hb hts inlX1 tyX1 tyX1_ok nmX1 hown hK hP hD hS 0 rfl rfl 0 (by decide) (hts _ qf_X1_9) (fun _ h9 => h9) rfl hin rfl (by decide +kernel) rfl rfl (Nat.le_of_ble_eq_true rfl) dX1_init_9 (fun H locs hP hD hS => ?_)
  have hP : va_P (dC, dI) vwCl [(h0, .inr (1, [.ref d1, .null, .null, .int (nI 0), .int (nI 0), .long (lN 0)])), (d1, .inl (cL, 49, .inr (.inl zL)))] H := hP
  have hD : va_D A [(h0, .inr (1, [.ref d1, .null, .null, .int (nI 0), .int (nI 0), .long (lN 0)])), (d1, .inl (cL, 49, .inr (.inl zL)))] := hD
  refine lv_aload_n hx hb dX1_init_12 rfl (lv_at hl 0 rfl) ?_
  refine lv_bipush (v := nI 32) hx hb dX1_init_13 (by decide) ?_
  refine r_newL Y hK hP hD hS hA 1 rfl (Nat.le_of_ble_eq_true rfl) (Nat.le_of_ble_eq_true rfl) (Nat.le_of_ble_eq_true rfl) (Nat.le_of_ble_eq_true rfl) dX1_init_15 (fun d2 H hP hD hS => ?_)
  have hP : va_P (dC, dI) vwCl [(h0, .inr (1, [.ref d1, .null, .null, .int (nI 0), .int (nI 0), .long (lN 0)])), (d1, .inl (cL, 49, .inr (.inl zL))), (d2, .inl (cL, 32, .inr (.inl zL)))] H := hP
  have hD : va_D A [(h0, .inr (1, [.ref d1, .null, .null, .int (nI 0), .int (nI 0), .long (lN 0)])), (d1, .inl (cL, 49, .inr (.inl zL))), (d2, .inl (cL, 32, .inr (.inl zL)))] := hD
  refine va_putF (D := (dC, dI)) (ci := 1) (v := .ref d2) (ty := (.array .long)) (C := RX1) (T := TX1) (N := 6) hx hb hts inlX1 tyX1 tyX1_ok nmX1 hown hK hP hD hS 0 rfl rfl 1 (by decide) (hts _ qf_X1_15) (fun _ h9 => h9) rfl hin rfl (by decide +kernel) rfl rfl (Nat.le_of_ble_eq_true rfl) dX1_init_17 (fun H locs hP hD hS => ?_)
  have hP : va_P (dC, dI) vwCl [(h0, .inr (1, [.ref d1, .ref d2, .null, .int (nI 0), .int (nI 0), .long (lN 0)])), (d1, .inl (cL, 49, .inr (.inl zL))), (d2, .inl (cL, 32, .inr (.inl zL)))] H := hP
  have hD : va_D A [(h0, .inr (1, [.ref d1, .ref d2, .null, .int (nI 0), .int (nI 0), .long (lN 0)])), (d1, .inl (cL, 49, .inr (.inl zL))), (d2, .inl (cL, 32, .inr (.inl zL)))] := hD
  refine lv_aload_n hx hb dX1_init_20 rfl (lv_at hl 0 rfl) ?_
  refine lv_bipush (v := nI 32) hx hb dX1_init_21 (by decide) ?_
  refine r_newL Y hK hP hD hS hA 1 rfl (Nat.le_of_ble_eq_true rfl) (Nat.le_of_ble_eq_true rfl) (Nat.le_of_ble_eq_true rfl) (Nat.le_of_ble_eq_true rfl) dX1_init_23 (fun d3 H hP hD hS => ?_)
  have hP : va_P (dC, dI) vwCl [(h0, .inr (1, [.ref d1, .ref d2, .null, .int (nI 0), .int (nI 0), .long (lN 0)])), (d1, .inl (cL, 49, .inr (.inl zL))), (d2, .inl (cL, 32, .inr (.inl zL))), (d3, .inl (cL, 32, .inr (.inl zL)))] H := hP
  have hD : va_D A [(h0, .inr (1, [.ref d1, .ref d2, .null, .int (nI 0), .int (nI 0), .long (lN 0)])), (d1, .inl (cL, 49, .inr (.inl zL))), (d2, .inl (cL, 32, .inr (.inl zL))), (d3, .inl (cL, 32, .inr (.inl zL)))] := hD
  refine va_putF (D := (dC, dI)) (ci := 1) (v := .ref d3) (ty := (.array .long)) (C := RX1) (T := TX1) (N := 6) hx hb hts inlX1 tyX1 tyX1_ok nmX1 hown hK hP hD hS 0 rfl rfl 2 (by decide) (hts _ qf_X1_18) (fun _ h9 => h9) rfl hin rfl (by decide +kernel) rfl rfl (Nat.le_of_ble_eq_true rfl) dX1_init_25 (fun H locs hP hD hS => ?_)
  have hP : va_P (dC, dI) vwCl [(h0, .inr (1, [.ref d1, .ref d2, .ref d3, .int (nI 0), .int (nI 0), .long (lN 0)])), (d1, .inl (cL, 49, .inr (.inl zL))), (d2, .inl (cL, 32, .inr (.inl zL))), (d3, .inl (cL, 32, .inr (.inl zL)))] H := hP
  have hD : va_D A [(h0, .inr (1, [.ref d1, .ref d2, .ref d3, .int (nI 0), .int (nI 0), .long (lN 0)])), (d1, .inl (cL, 49, .inr (.inl zL))), (d2, .inl (cL, 32, .inr (.inl zL))), (d3, .inl (cL, 32, .inr (.inl zL)))] := hD
  exact kqvC (w1 := (fun u : Nat × Nat × Nat => [(h0, .inr (1, [.ref u.1, .ref u.2.1, .ref u.2.2, .int (nI 0), .int (nI 0), .long (lN 0)])), (u.1, .inl (cL, 49, .inr (.inl zL))), (u.2.1, .inl (cL, 32, .inr (.inl zL))), (u.2.2, .inl (cL, 32, .inr (.inl zL)))])) Y hr hlocks hK hP hD hS [0, 1, 2, 3] (by decide) (d1, d2, d3) rfl trivial dX1_init_28
set_option maxHeartbeats 4000000 in
set_option maxRecDepth 100000 in
theorem c_X2_init (l : Launch) (dC : Nat → ClassId) (dI : Nat → Nat → Nat) (sz : Nat) (cI cL : ClassId) (h0 : Nat)  : Met l yX2_init (kw yX2_init cX2_init 1 none) (kRc 1 20 3 21) (kPq (dC, dI) [.ref h0] sz [(h0, .inr (2, [.null, .null, .null, .int (nI 0)]))] [(cI, .int), (cL, .long)]) (va_Qv (fun u : Nat × Nat × Nat => True) (fun u : Nat × Nat × Nat => kB (dC, dI) [(cI, .int), (cL, .long)] (va_A [(h0, .inr (2, [.null, .null, .null, .int (nI 0)]))] sz) ([(h0, .inr (2, [.ref u.1, .ref u.2.1, .ref u.2.2, .int (nI 0)])), (u.1, .inl (cI, 5, .inl zI)), (u.2.1, .inl (cI, 8, .inl (fun zz => nI (zN zz)))), (u.2.2, .inl (cI, 8, .inl (fun zz => nI (zN zz))))])) (va_A [(h0, .inr (2, [.null, .null, .null, .int (nI 0)]))] sz)) 3 21 (va_A [(h0, .inr (2, [.null, .null, .null, .int (nI 0)]))] sz) := by
  refine kmet (by decide) ?_
  intro p e s m args below meth c Y hr hlocks hin hv
  obtain ⟨rfl, A, hAe, hsz, hP, hK, hD, hZ, hA⟩ := kinQ hv
  rw [hAe]
  have hS : va_S A s.heap s.heap [] := va_S.rf
  have hx := Y.1
  have hb := Y.2.1
  have hml := Y.2.2.1
  have hown := Y.2.2.2.1
  have hts := Y.2.2.2.2
  have hl := lv_entry ([.ref h0]) (n := 1) (Nat.le_of_ble_eq_true rfl)
  rw [lg_entry_eq]
  generalize (lg_sl ([.ref h0]) ++ List.replicate (1 - (lg_sl ([.ref h0])).length) Slot.unset).toArray = ls at hl ⊢
  have hl : lv_has ls 1 [(0, .ref h0)] := hl
  refine lv_aload_n hx hb dX2_init_0 rfl (lv_at hl 0 rfl) ?_
  refine W.objInit hx hb hown (hts _ qm_X2_3) (hts _ qn_objectInit) (hts _ qc_objectInit) rfl (by rw [hml]; exact hl.1) rfl dX2_init_1 (Nat.le_of_ble_eq_true rfl) (Nat.le_of_ble_eq_true rfl) ?_
  refine W.eq (g2 := F0 m 4 ls []) rfl ?_
  refine lv_aload_n hx hb dX2_init_4 rfl (lv_at hl 0 rfl) ?_
  refine lv_iconst (v := nI 5) hx hb dX2_init_5 (by decide) ?_
  refine r_newI Y hK hP hD hS hA 0 rfl (Nat.le_of_ble_eq_true rfl) (Nat.le_of_ble_eq_true rfl) (Nat.le_of_ble_eq_true rfl) (Nat.le_of_ble_eq_true rfl) dX2_init_6 (fun d1 H hP hD hS => ?_)
  have hP : va_P (dC, dI) vwCl [(h0, .inr (2, [.null, .null, .null, .int (nI 0)])), (d1, .inl (cI, 5, .inl zI))] H := hP
  have hD : va_D A [(h0, .inr (2, [.null, .null, .null, .int (nI 0)])), (d1, .inl (cI, 5, .inl zI))] := hD
  refine va_putF (D := (dC, dI)) (ci := 2) (v := .ref d1) (ty := (.array .int)) (C := RX2) (T := TX2) (N := 4) hx hb hts inlX2 tyX2 tyX2_ok nmX2 hown hK hP hD hS 0 rfl rfl 0 (by decide) (hts _ qf_X2_11) (fun _ h9 => h9) rfl hin rfl (by decide +kernel) rfl rfl (Nat.le_of_ble_eq_true rfl) dX2_init_8 (fun H locs hP hD hS => ?_)
  have hP : va_P (dC, dI) vwCl [(h0, .inr (2, [.ref d1, .null, .null, .int (nI 0)])), (d1, .inl (cI, 5, .inl zI))] H := hP
  have hD : va_D A [(h0, .inr (2, [.ref d1, .null, .null, .int (nI 0)])), (d1, .inl (cI, 5, .inl zI))] := hD
  refine lv_aload_n hx hb dX2_init_11 rfl (lv_at hl 0 rfl) ?_
  refine lv_bipush (v := nI 8) hx hb dX2_init_12 (by decide) ?_
  refine r_newI Y hK hP hD hS hA 0 rfl (Nat.le_of_ble_eq_true rfl) (Nat.le_of_ble_eq_true rfl) (Nat.le_of_ble_eq_true rfl) (Nat.le_of_ble_eq_true rfl) dX2_init_14 (fun d2 H hP hD hS => ?_)
  have hP : va_P (dC, dI) vwCl [(h0, .inr (2, [.ref d1, .null, .null, .int (nI 0)])), (d1, .inl (cI, 5, .inl zI)), (d2, .inl (cI, 8, .inl (fun zz => nI (zN zz))))] H := hP
  have hD : va_D A [(h0, .inr (2, [.ref d1, .null, .null, .int (nI 0)])), (d1, .inl (cI, 5, .inl zI)), (d2, .inl (cI, 8, .inl (fun zz => nI (zN zz))))] := hD
  refine va_putF (D := (dC, dI)) (ci := 2) (v := .ref d2) (ty := (.array .int)) (C := RX2) (T := TX2) (N := 4) hx hb hts inlX2 tyX2 tyX2_ok nmX2 hown hK hP hD hS 0 rfl rfl 1 (by decide) (hts _ qf_X2_15) (fun _ h9 => h9) rfl hin rfl (by decide +kernel) rfl rfl (Nat.le_of_ble_eq_true rfl) dX2_init_16 (fun H locs hP hD hS => ?_)
  have hP : va_P (dC, dI) vwCl [(h0, .inr (2, [.ref d1, .ref d2, .null, .int (nI 0)])), (d1, .inl (cI, 5, .inl zI)), (d2, .inl (cI, 8, .inl (fun zz => nI (zN zz))))] H := hP
  have hD : va_D A [(h0, .inr (2, [.ref d1, .ref d2, .null, .int (nI 0)])), (d1, .inl (cI, 5, .inl zI)), (d2, .inl (cI, 8, .inl (fun zz => nI (zN zz))))] := hD
  refine lv_aload_n hx hb dX2_init_19 rfl (lv_at hl 0 rfl) ?_
  refine lv_bipush (v := nI 8) hx hb dX2_init_20 (by decide) ?_
  refine r_newI Y hK hP hD hS hA 0 rfl (Nat.le_of_ble_eq_true rfl) (Nat.le_of_ble_eq_true rfl) (Nat.le_of_ble_eq_true rfl) (Nat.le_of_ble_eq_true rfl) dX2_init_22 (fun d3 H hP hD hS => ?_)
  have hP : va_P (dC, dI) vwCl [(h0, .inr (2, [.ref d1, .ref d2, .null, .int (nI 0)])), (d1, .inl (cI, 5, .inl zI)), (d2, .inl (cI, 8, .inl (fun zz => nI (zN zz)))), (d3, .inl (cI, 8, .inl (fun zz => nI (zN zz))))] H := hP
  have hD : va_D A [(h0, .inr (2, [.ref d1, .ref d2, .null, .int (nI 0)])), (d1, .inl (cI, 5, .inl zI)), (d2, .inl (cI, 8, .inl (fun zz => nI (zN zz)))), (d3, .inl (cI, 8, .inl (fun zz => nI (zN zz))))] := hD
  refine va_putF (D := (dC, dI)) (ci := 2) (v := .ref d3) (ty := (.array .int)) (C := RX2) (T := TX2) (N := 4) hx hb hts inlX2 tyX2 tyX2_ok nmX2 hown hK hP hD hS 0 rfl rfl 2 (by decide) (hts _ qf_X2_18) (fun _ h9 => h9) rfl hin rfl (by decide +kernel) rfl rfl (Nat.le_of_ble_eq_true rfl) dX2_init_24 (fun H locs hP hD hS => ?_)
  have hP : va_P (dC, dI) vwCl [(h0, .inr (2, [.ref d1, .ref d2, .ref d3, .int (nI 0)])), (d1, .inl (cI, 5, .inl zI)), (d2, .inl (cI, 8, .inl (fun zz => nI (zN zz)))), (d3, .inl (cI, 8, .inl (fun zz => nI (zN zz))))] H := hP
  have hD : va_D A [(h0, .inr (2, [.ref d1, .ref d2, .ref d3, .int (nI 0)])), (d1, .inl (cI, 5, .inl zI)), (d2, .inl (cI, 8, .inl (fun zz => nI (zN zz)))), (d3, .inl (cI, 8, .inl (fun zz => nI (zN zz))))] := hD
  exact kqvC (w1 := (fun u : Nat × Nat × Nat => [(h0, .inr (2, [.ref u.1, .ref u.2.1, .ref u.2.2, .int (nI 0)])), (u.1, .inl (cI, 5, .inl zI)), (u.2.1, .inl (cI, 8, .inl (fun zz => nI (zN zz)))), (u.2.2, .inl (cI, 8, .inl (fun zz => nI (zN zz))))])) Y hr hlocks hK hP hD hS [0, 1, 2, 3] (by decide) (d1, d2, d3) rfl trivial dX2_init_27
set_option maxHeartbeats 4000000 in
set_option maxRecDepth 100000 in
theorem c_X3_init (l : Launch) (dC : Nat → ClassId) (dI : Nat → Nat → Nat) (sz : Nat) (cI cL : ClassId) (h0 : Nat)  : Met l yX3_init (kw yX3_init cX3_init 1 none) (kRc 1 20 2 82) (kPq (dC, dI) [.ref h0] sz [(h0, .inr (3, [.null, .null, .int (nI 0), .int (nI 0), .int (nI 0), .int (nI 0), .int (nI 0), .int (nI 0), .int (nI 0), .int (nI 0), .int (nI 0)]))] [(cI, .int), (cL, .long)]) (va_Qv (fun u : Nat × Nat => True) (fun u : Nat × Nat => kB (dC, dI) [(cI, .int), (cL, .long)] (va_A [(h0, .inr (3, [.null, .null, .int (nI 0), .int (nI 0), .int (nI 0), .int (nI 0), .int (nI 0), .int (nI 0), .int (nI 0), .int (nI 0), .int (nI 0)]))] sz) ([(h0, .inr (3, [.ref u.1, .ref u.2, .int (nI 0), .int (nI 0), .int (nI 0), .int (nI 0), .int (itV 7), .int (nI 0), .int (nI 0), .int (nI 0), .int (nI 0)])), (u.1, .inl (cI, 60, .inl (fun zz => nI (zN zz)))), (u.2, .inl (cI, 22, .inl (fun zz => nI (zN zz))))])) (va_A [(h0, .inr (3, [.null, .null, .int (nI 0), .int (nI 0), .int (nI 0), .int (nI 0), .int (nI 0), .int (nI 0), .int (nI 0), .int (nI 0), .int (nI 0)]))] sz)) 2 82 (va_A [(h0, .inr (3, [.null, .null, .int (nI 0), .int (nI 0), .int (nI 0), .int (nI 0), .int (nI 0), .int (nI 0), .int (nI 0), .int (nI 0), .int (nI 0)]))] sz) := by
  refine kmet (by decide) ?_
  intro p e s m args below meth c Y hr hlocks hin hv
  obtain ⟨rfl, A, hAe, hsz, hP, hK, hD, hZ, hA⟩ := kinQ hv
  rw [hAe]
  have hS : va_S A s.heap s.heap [] := va_S.rf
  have hx := Y.1
  have hb := Y.2.1
  have hml := Y.2.2.1
  have hown := Y.2.2.2.1
  have hts := Y.2.2.2.2
  have hl := lv_entry ([.ref h0]) (n := 1) (Nat.le_of_ble_eq_true rfl)
  rw [lg_entry_eq]
  generalize (lg_sl ([.ref h0]) ++ List.replicate (1 - (lg_sl ([.ref h0])).length) Slot.unset).toArray = ls at hl ⊢
  have hl : lv_has ls 1 [(0, .ref h0)] := hl
  refine lv_aload_n hx hb dX3_init_0 rfl (lv_at hl 0 rfl) ?_
  refine W.objInit hx hb hown (hts _ qm_X3_3) (hts _ qn_objectInit) (hts _ qc_objectInit) rfl (by rw [hml]; exact hl.1) rfl dX3_init_1 (Nat.le_of_ble_eq_true rfl) (Nat.le_of_ble_eq_true rfl) ?_
  refine W.eq (g2 := F0 m 4 ls []) rfl ?_
  refine lv_aload_n hx hb dX3_init_4 rfl (lv_at hl 0 rfl) ?_
  refine lv_bipush (v := nI 60) hx hb dX3_init_5 (by decide) ?_
  refine r_newI Y hK hP hD hS hA 0 rfl (Nat.le_of_ble_eq_true rfl) (Nat.le_of_ble_eq_true rfl) (Nat.le_of_ble_eq_true rfl) (Nat.le_of_ble_eq_true rfl) dX3_init_7 (fun d1 H hP hD hS => ?_)
  have hP : va_P (dC, dI) vwCl [(h0, .inr (3, [.null, .null, .int (nI 0), .int (nI 0), .int (nI 0), .int (nI 0), .int (nI 0), .int (nI 0), .int (nI 0), .int (nI 0), .int (nI 0)])), (d1, .inl (cI, 60, .inl (fun zz => nI (zN zz))))] H := hP
  have hD : va_D A [(h0, .inr (3, [.null, .null, .int (nI 0), .int (nI 0), .int (nI 0), .int (nI 0), .int (nI 0), .int (nI 0), .int (nI 0), .int (nI 0), .int (nI 0)])), (d1, .inl (cI, 60, .inl (fun zz => nI (zN zz))))] := hD
  refine va_putF (D := (dC, dI)) (ci := 3) (v := .ref d1) (ty := (.array .int)) (C := RX3) (T := TX3) (N := 11) hx hb hts inlX3 tyX3 tyX3_ok nmX3 hown hK hP hD hS 0 rfl rfl 0 (by decide) (hts _ qf_X3_11) (fun _ h9 => h9) rfl hin rfl (by decide +kernel) rfl rfl (Nat.le_of_ble_eq_true rfl) dX3_init_9 (fun H locs hP hD hS => ?_)
  have hP : va_P (dC, dI) vwCl [(h0, .inr (3, [.ref d1, .null, .int (nI 0), .int (nI 0), .int (nI 0), .int (nI 0), .int (nI 0), .int (nI 0), .int (nI 0), .int (nI 0), .int (nI 0)])), (d1, .inl (cI, 60, .inl (fun zz => nI (zN zz))))] H := hP
  have hD : va_D A [(h0, .inr (3, [.ref d1, .null, .int (nI 0), .int (nI 0), .int (nI 0), .int (nI 0), .int (nI 0), .int (nI 0), .int (nI 0), .int (nI 0), .int (nI 0)])), (d1, .inl (cI, 60, .inl (fun zz => nI (zN zz))))] := hD
  refine lv_aload_n hx hb dX3_init_12 rfl (lv_at hl 0 rfl) ?_
  refine lv_bipush (v := nI 22) hx hb dX3_init_13 (by decide) ?_
  refine r_newI Y hK hP hD hS hA 0 rfl (Nat.le_of_ble_eq_true rfl) (Nat.le_of_ble_eq_true rfl) (Nat.le_of_ble_eq_true rfl) (Nat.le_of_ble_eq_true rfl) dX3_init_15 (fun d2 H hP hD hS => ?_)
  have hP : va_P (dC, dI) vwCl [(h0, .inr (3, [.ref d1, .null, .int (nI 0), .int (nI 0), .int (nI 0), .int (nI 0), .int (nI 0), .int (nI 0), .int (nI 0), .int (nI 0), .int (nI 0)])), (d1, .inl (cI, 60, .inl (fun zz => nI (zN zz)))), (d2, .inl (cI, 22, .inl (fun zz => nI (zN zz))))] H := hP
  have hD : va_D A [(h0, .inr (3, [.ref d1, .null, .int (nI 0), .int (nI 0), .int (nI 0), .int (nI 0), .int (nI 0), .int (nI 0), .int (nI 0), .int (nI 0), .int (nI 0)])), (d1, .inl (cI, 60, .inl (fun zz => nI (zN zz)))), (d2, .inl (cI, 22, .inl (fun zz => nI (zN zz))))] := hD
  refine va_putF (D := (dC, dI)) (ci := 3) (v := .ref d2) (ty := (.array .int)) (C := RX3) (T := TX3) (N := 11) hx hb hts inlX3 tyX3 tyX3_ok nmX3 hown hK hP hD hS 0 rfl rfl 1 (by decide) (hts _ qf_X3_15) (fun _ h9 => h9) rfl hin rfl (by decide +kernel) rfl rfl (Nat.le_of_ble_eq_true rfl) dX3_init_17 (fun H locs hP hD hS => ?_)
  have hP : va_P (dC, dI) vwCl [(h0, .inr (3, [.ref d1, .ref d2, .int (nI 0), .int (nI 0), .int (nI 0), .int (nI 0), .int (nI 0), .int (nI 0), .int (nI 0), .int (nI 0), .int (nI 0)])), (d1, .inl (cI, 60, .inl (fun zz => nI (zN zz)))), (d2, .inl (cI, 22, .inl (fun zz => nI (zN zz))))] H := hP
  have hD : va_D A [(h0, .inr (3, [.ref d1, .ref d2, .int (nI 0), .int (nI 0), .int (nI 0), .int (nI 0), .int (nI 0), .int (nI 0), .int (nI 0), .int (nI 0), .int (nI 0)])), (d1, .inl (cI, 60, .inl (fun zz => nI (zN zz)))), (d2, .inl (cI, 22, .inl (fun zz => nI (zN zz))))] := hD
  refine lv_aload_n hx hb dX3_init_20 rfl (lv_at hl 0 rfl) ?_
  refine lv_iconst (v := -1) hx hb dX3_init_21 (by decide) ?_
  refine ri_set hx hb (x' := itV 7) rfl ?_
  refine va_put (D := (dC, dI)) (ci := 3) (v := .int (itV 7)) (ty := .int) (C := RX3) (T := TX3) (N := 11) hx hb hts inlX3 tyX3 tyX3_ok nmX3 hown hK hP hD hS 0 rfl rfl 6 (by decide) (hts _ qf_X3_18) (fun _ h9 => h9) rfl (by decide +kernel) rfl rfl (Nat.le_of_ble_eq_true rfl) dX3_init_22 (fun H locs hP hD hS => ?_)
  have hP : va_P (dC, dI) vwCl [(h0, .inr (3, [.ref d1, .ref d2, .int (nI 0), .int (nI 0), .int (nI 0), .int (nI 0), .int (itV 7), .int (nI 0), .int (nI 0), .int (nI 0), .int (nI 0)])), (d1, .inl (cI, 60, .inl (fun zz => nI (zN zz)))), (d2, .inl (cI, 22, .inl (fun zz => nI (zN zz))))] H := hP
  have hD : va_D A [(h0, .inr (3, [.ref d1, .ref d2, .int (nI 0), .int (nI 0), .int (nI 0), .int (nI 0), .int (itV 7), .int (nI 0), .int (nI 0), .int (nI 0), .int (nI 0)])), (d1, .inl (cI, 60, .inl (fun zz => nI (zN zz)))), (d2, .inl (cI, 22, .inl (fun zz => nI (zN zz))))] := hD
  exact kqvC (w1 := (fun u : Nat × Nat => [(h0, .inr (3, [.ref u.1, .ref u.2, .int (nI 0), .int (nI 0), .int (nI 0), .int (nI 0), .int (itV 7), .int (nI 0), .int (nI 0), .int (nI 0), .int (nI 0)])), (u.1, .inl (cI, 60, .inl (fun zz => nI (zN zz)))), (u.2, .inl (cI, 22, .inl (fun zz => nI (zN zz))))])) Y hr hlocks hK hP hD hS [0, 1, 2] (by decide) (d1, d2) rfl trivial dX3_init_25
set_option maxHeartbeats 4000000 in
set_option maxRecDepth 100000 in
theorem c_X4_init (l : Launch) (dC : Nat → ClassId) (dI : Nat → Nat → Nat) (sz : Nat) (wr : Nat) (cI cL : ClassId) (h0 : Nat) (h1 : wr ≤ 1) : Met l yX4_init (kw yX4_init cX4_init 2 none) (kRc 1 20 5 1386) (kPq (dC, dI) [.ref h0, .int (nI wr)] sz [(h0, .inr (4, [.int (nI 0), .null, .null, .null, .null, .null, .int (nI 0), .int (nI 0), .long (lN 0), .int (nI 0), .int (nI 0)]))] [(cI, .int), (cL, .long)]) (va_Qv (fun u : Nat × Nat × Nat × Nat × Nat => True) (fun u : Nat × Nat × Nat × Nat × Nat => kB (dC, dI) [(cI, .int), (cL, .long)] (va_A [(h0, .inr (4, [.int (nI 0), .null, .null, .null, .null, .null, .int (nI 0), .int (nI 0), .long (lN 0), .int (nI 0), .int (nI 0)]))] sz) ([(h0, .inr (4, [.int (nI wr), .ref u.1, .ref u.2.1, .ref u.2.2.1, .ref u.2.2.2.1, .ref u.2.2.2.2, .int (nI 0), .int (nI 0), .long (lN 0), .int (nI 0), .int (nI 0)])), (u.1, .inl (cL, 1152, .inr (.inl (fun zz => lN (zN zz))))), (u.2.1, .inl (cL, 192, .inr (.inl (fun zz => lN (zN zz))))), (u.2.2.1, .inl (cL, 32, .inr (.inl zL))), (u.2.2.2.1, .inl (cL, 5, .inr (.inl (fun zz => lN (zN zz))))), (u.2.2.2.2, .inl (cI, 5, .inl (fun zz => nI (zN zz))))])) (va_A [(h0, .inr (4, [.int (nI 0), .null, .null, .null, .null, .null, .int (nI 0), .int (nI 0), .long (lN 0), .int (nI 0), .int (nI 0)]))] sz)) 5 1386 (va_A [(h0, .inr (4, [.int (nI 0), .null, .null, .null, .null, .null, .int (nI 0), .int (nI 0), .long (lN 0), .int (nI 0), .int (nI 0)]))] sz) := by
  refine kmet (by decide) ?_
  intro p e s m args below meth c Y hr hlocks hin hv
  obtain ⟨rfl, A, hAe, hsz, hP, hK, hD, hZ, hA⟩ := kinQ hv
  rw [hAe]
  have hS : va_S A s.heap s.heap [] := va_S.rf
  have hx := Y.1
  have hb := Y.2.1
  have hml := Y.2.2.1
  have hown := Y.2.2.2.1
  have hts := Y.2.2.2.2
  have hl := lv_entry ([.ref h0, .int (nI wr)]) (n := 2) (Nat.le_of_ble_eq_true rfl)
  rw [lg_entry_eq]
  generalize (lg_sl ([.ref h0, .int (nI wr)]) ++ List.replicate (2 - (lg_sl ([.ref h0, .int (nI wr)])).length) Slot.unset).toArray = ls at hl ⊢
  have hl : lv_has ls 2 [(0, .ref h0), (1, .int (nI wr))] := hl
  rcases (show wr = 0 ∨ wr = 1 by omega) with rfl | rfl
  · refine lv_aload_n hx hb dX4_init_0 rfl (lv_at hl 0 rfl) ?_
    refine W.objInit hx hb hown (hts _ qm_X4_3) (hts _ qn_objectInit) (hts _ qc_objectInit) rfl (by rw [hml]; exact hl.1) rfl dX4_init_1 (Nat.le_of_ble_eq_true rfl) (Nat.le_of_ble_eq_true rfl) ?_
    refine W.eq (g2 := F0 m 4 ls []) rfl ?_
    refine lv_aload_n hx hb dX4_init_4 rfl (lv_at hl 0 rfl) ?_
    refine lv_iload_n hx hb dX4_init_5 rfl (lv_at hl 1 rfl) ?_
    refine va_putF (D := (dC, dI)) (ci := 4) (v := .int (nI 0)) (ty := .boolean) (C := RX4) (T := TX4) (N := 11) hx hb hts inlX4 tyX4 tyX4_ok nmX4 hown hK hP hD hS 0 rfl rfl 0 (by decide) (hts _ qf_X4_9) (fun _ h9 => h9) rfl hin rfl (by decide +kernel) (by decide) rfl (Nat.le_of_ble_eq_true rfl) dX4_init_6 (fun H locs hP hD hS => ?_)
    have hP : va_P (dC, dI) vwCl [(h0, .inr (4, [.int (nI 0), .null, .null, .null, .null, .null, .int (nI 0), .int (nI 0), .long (lN 0), .int (nI 0), .int (nI 0)]))] H := hP
    have hD : va_D A [(h0, .inr (4, [.int (nI 0), .null, .null, .null, .null, .null, .int (nI 0), .int (nI 0), .long (lN 0), .int (nI 0), .int (nI 0)]))] := hD
    refine lv_aload_n hx hb dX4_init_9 rfl (lv_at hl 0 rfl) ?_
    refine lv_sipush (v := nI 1152) hx hb dX4_init_10 (by decide) ?_
    refine r_newL Y hK hP hD hS hA 1 rfl (Nat.le_of_ble_eq_true rfl) (Nat.le_of_ble_eq_true rfl) (Nat.le_of_ble_eq_true rfl) (Nat.le_of_ble_eq_true rfl) dX4_init_13 (fun d1 H hP hD hS => ?_)
    have hP : va_P (dC, dI) vwCl [(h0, .inr (4, [.int (nI 0), .null, .null, .null, .null, .null, .int (nI 0), .int (nI 0), .long (lN 0), .int (nI 0), .int (nI 0)])), (d1, .inl (cL, 1152, .inr (.inl (fun zz => lN (zN zz)))))] H := hP
    have hD : va_D A [(h0, .inr (4, [.int (nI 0), .null, .null, .null, .null, .null, .int (nI 0), .int (nI 0), .long (lN 0), .int (nI 0), .int (nI 0)])), (d1, .inl (cL, 1152, .inr (.inl (fun zz => lN (zN zz)))))] := hD
    refine va_putF (D := (dC, dI)) (ci := 4) (v := .ref d1) (ty := (.array .long)) (C := RX4) (T := TX4) (N := 11) hx hb hts inlX4 tyX4 tyX4_ok nmX4 hown hK hP hD hS 0 rfl rfl 1 (by decide) (hts _ qf_X4_15) (fun _ h9 => h9) rfl hin rfl (by decide +kernel) rfl rfl (Nat.le_of_ble_eq_true rfl) dX4_init_15 (fun H locs hP hD hS => ?_)
    have hP : va_P (dC, dI) vwCl [(h0, .inr (4, [.int (nI 0), .ref d1, .null, .null, .null, .null, .int (nI 0), .int (nI 0), .long (lN 0), .int (nI 0), .int (nI 0)])), (d1, .inl (cL, 1152, .inr (.inl (fun zz => lN (zN zz)))))] H := hP
    have hD : va_D A [(h0, .inr (4, [.int (nI 0), .ref d1, .null, .null, .null, .null, .int (nI 0), .int (nI 0), .long (lN 0), .int (nI 0), .int (nI 0)])), (d1, .inl (cL, 1152, .inr (.inl (fun zz => lN (zN zz)))))] := hD
    refine lv_aload_n hx hb dX4_init_18 rfl (lv_at hl 0 rfl) ?_
    refine lv_sipush (v := nI 192) hx hb dX4_init_19 (by decide) ?_
    refine r_newL Y hK hP hD hS hA 1 rfl (Nat.le_of_ble_eq_true rfl) (Nat.le_of_ble_eq_true rfl) (Nat.le_of_ble_eq_true rfl) (Nat.le_of_ble_eq_true rfl) dX4_init_22 (fun d2 H hP hD hS => ?_)
    have hP : va_P (dC, dI) vwCl [(h0, .inr (4, [.int (nI 0), .ref d1, .null, .null, .null, .null, .int (nI 0), .int (nI 0), .long (lN 0), .int (nI 0), .int (nI 0)])), (d1, .inl (cL, 1152, .inr (.inl (fun zz => lN (zN zz))))), (d2, .inl (cL, 192, .inr (.inl (fun zz => lN (zN zz)))))] H := hP
    have hD : va_D A [(h0, .inr (4, [.int (nI 0), .ref d1, .null, .null, .null, .null, .int (nI 0), .int (nI 0), .long (lN 0), .int (nI 0), .int (nI 0)])), (d1, .inl (cL, 1152, .inr (.inl (fun zz => lN (zN zz))))), (d2, .inl (cL, 192, .inr (.inl (fun zz => lN (zN zz)))))] := hD
    refine va_putF (D := (dC, dI)) (ci := 4) (v := .ref d2) (ty := (.array .long)) (C := RX4) (T := TX4) (N := 11) hx hb hts inlX4 tyX4 tyX4_ok nmX4 hown hK hP hD hS 0 rfl rfl 2 (by decide) (hts _ qf_X4_19) (fun _ h9 => h9) rfl hin rfl (by decide +kernel) rfl rfl (Nat.le_of_ble_eq_true rfl) dX4_init_24 (fun H locs hP hD hS => ?_)
    have hP : va_P (dC, dI) vwCl [(h0, .inr (4, [.int (nI 0), .ref d1, .ref d2, .null, .null, .null, .int (nI 0), .int (nI 0), .long (lN 0), .int (nI 0), .int (nI 0)])), (d1, .inl (cL, 1152, .inr (.inl (fun zz => lN (zN zz))))), (d2, .inl (cL, 192, .inr (.inl (fun zz => lN (zN zz)))))] H := hP
    have hD : va_D A [(h0, .inr (4, [.int (nI 0), .ref d1, .ref d2, .null, .null, .null, .int (nI 0), .int (nI 0), .long (lN 0), .int (nI 0), .int (nI 0)])), (d1, .inl (cL, 1152, .inr (.inl (fun zz => lN (zN zz))))), (d2, .inl (cL, 192, .inr (.inl (fun zz => lN (zN zz)))))] := hD
    refine lv_aload_n hx hb dX4_init_27 rfl (lv_at hl 0 rfl) ?_
    refine lv_bipush (v := nI 32) hx hb dX4_init_28 (by decide) ?_
    refine r_newL Y hK hP hD hS hA 1 rfl (Nat.le_of_ble_eq_true rfl) (Nat.le_of_ble_eq_true rfl) (Nat.le_of_ble_eq_true rfl) (Nat.le_of_ble_eq_true rfl) dX4_init_30 (fun d3 H hP hD hS => ?_)
    have hP : va_P (dC, dI) vwCl [(h0, .inr (4, [.int (nI 0), .ref d1, .ref d2, .null, .null, .null, .int (nI 0), .int (nI 0), .long (lN 0), .int (nI 0), .int (nI 0)])), (d1, .inl (cL, 1152, .inr (.inl (fun zz => lN (zN zz))))), (d2, .inl (cL, 192, .inr (.inl (fun zz => lN (zN zz))))), (d3, .inl (cL, 32, .inr (.inl zL)))] H := hP
    have hD : va_D A [(h0, .inr (4, [.int (nI 0), .ref d1, .ref d2, .null, .null, .null, .int (nI 0), .int (nI 0), .long (lN 0), .int (nI 0), .int (nI 0)])), (d1, .inl (cL, 1152, .inr (.inl (fun zz => lN (zN zz))))), (d2, .inl (cL, 192, .inr (.inl (fun zz => lN (zN zz))))), (d3, .inl (cL, 32, .inr (.inl zL)))] := hD
    refine va_putF (D := (dC, dI)) (ci := 4) (v := .ref d3) (ty := (.array .long)) (C := RX4) (T := TX4) (N := 11) hx hb hts inlX4 tyX4 tyX4_ok nmX4 hown hK hP hD hS 0 rfl rfl 3 (by decide) (hts _ qf_X4_22) (fun _ h9 => h9) rfl hin rfl (by decide +kernel) rfl rfl (Nat.le_of_ble_eq_true rfl) dX4_init_32 (fun H locs hP hD hS => ?_)
    have hP : va_P (dC, dI) vwCl [(h0, .inr (4, [.int (nI 0), .ref d1, .ref d2, .ref d3, .null, .null, .int (nI 0), .int (nI 0), .long (lN 0), .int (nI 0), .int (nI 0)])), (d1, .inl (cL, 1152, .inr (.inl (fun zz => lN (zN zz))))), (d2, .inl (cL, 192, .inr (.inl (fun zz => lN (zN zz))))), (d3, .inl (cL, 32, .inr (.inl zL)))] H := hP
    have hD : va_D A [(h0, .inr (4, [.int (nI 0), .ref d1, .ref d2, .ref d3, .null, .null, .int (nI 0), .int (nI 0), .long (lN 0), .int (nI 0), .int (nI 0)])), (d1, .inl (cL, 1152, .inr (.inl (fun zz => lN (zN zz))))), (d2, .inl (cL, 192, .inr (.inl (fun zz => lN (zN zz))))), (d3, .inl (cL, 32, .inr (.inl zL)))] := hD
    refine lv_aload_n hx hb dX4_init_35 rfl (lv_at hl 0 rfl) ?_
    refine lv_iconst (v := nI 5) hx hb dX4_init_36 (by decide) ?_
    refine r_newL Y hK hP hD hS hA 1 rfl (Nat.le_of_ble_eq_true rfl) (Nat.le_of_ble_eq_true rfl) (Nat.le_of_ble_eq_true rfl) (Nat.le_of_ble_eq_true rfl) dX4_init_37 (fun d4 H hP hD hS => ?_)
    have hP : va_P (dC, dI) vwCl [(h0, .inr (4, [.int (nI 0), .ref d1, .ref d2, .ref d3, .null, .null, .int (nI 0), .int (nI 0), .long (lN 0), .int (nI 0), .int (nI 0)])), (d1, .inl (cL, 1152, .inr (.inl (fun zz => lN (zN zz))))), (d2, .inl (cL, 192, .inr (.inl (fun zz => lN (zN zz))))), (d3, .inl (cL, 32, .inr (.inl zL))), (d4, .inl (cL, 5, .inr (.inl (fun zz => lN (zN zz)))))] H := hP
    have hD : va_D A [(h0, .inr (4, [.int (nI 0), .ref d1, .ref d2, .ref d3, .null, .null, .int (nI 0), .int (nI 0), .long (lN 0), .int (nI 0), .int (nI 0)])), (d1, .inl (cL, 1152, .inr (.inl (fun zz => lN (zN zz))))), (d2, .inl (cL, 192, .inr (.inl (fun zz => lN (zN zz))))), (d3, .inl (cL, 32, .inr (.inl zL))), (d4, .inl (cL, 5, .inr (.inl (fun zz => lN (zN zz)))))] := hD
    refine va_putF (D := (dC, dI)) (ci := 4) (v := .ref d4) (ty := (.array .long)) (C := RX4) (T := TX4) (N := 11) hx hb hts inlX4 tyX4 tyX4_ok nmX4 hown hK hP hD hS 0 rfl rfl 4 (by decide) (hts _ qf_X4_25) (fun _ h9 => h9) rfl hin rfl (by decide +kernel) rfl rfl (Nat.le_of_ble_eq_true rfl) dX4_init_39 (fun H locs hP hD hS => ?_)
    have hP : va_P (dC, dI) vwCl [(h0, .inr (4, [.int (nI 0), .ref d1, .ref d2, .ref d3, .ref d4, .null, .int (nI 0), .int (nI 0), .long (lN 0), .int (nI 0), .int (nI 0)])), (d1, .inl (cL, 1152, .inr (.inl (fun zz => lN (zN zz))))), (d2, .inl (cL, 192, .inr (.inl (fun zz => lN (zN zz))))), (d3, .inl (cL, 32, .inr (.inl zL))), (d4, .inl (cL, 5, .inr (.inl (fun zz => lN (zN zz)))))] H := hP
    have hD : va_D A [(h0, .inr (4, [.int (nI 0), .ref d1, .ref d2, .ref d3, .ref d4, .null, .int (nI 0), .int (nI 0), .long (lN 0), .int (nI 0), .int (nI 0)])), (d1, .inl (cL, 1152, .inr (.inl (fun zz => lN (zN zz))))), (d2, .inl (cL, 192, .inr (.inl (fun zz => lN (zN zz))))), (d3, .inl (cL, 32, .inr (.inl zL))), (d4, .inl (cL, 5, .inr (.inl (fun zz => lN (zN zz)))))] := hD
    refine lv_aload_n hx hb dX4_init_42 rfl (lv_at hl 0 rfl) ?_
    refine lv_iconst (v := nI 5) hx hb dX4_init_43 (by decide) ?_
    refine r_newI Y hK hP hD hS hA 0 rfl (Nat.le_of_ble_eq_true rfl) (Nat.le_of_ble_eq_true rfl) (Nat.le_of_ble_eq_true rfl) (Nat.le_of_ble_eq_true rfl) dX4_init_44 (fun d5 H hP hD hS => ?_)
    have hP : va_P (dC, dI) vwCl [(h0, .inr (4, [.int (nI 0), .ref d1, .ref d2, .ref d3, .ref d4, .null, .int (nI 0), .int (nI 0), .long (lN 0), .int (nI 0), .int (nI 0)])), (d1, .inl (cL, 1152, .inr (.inl (fun zz => lN (zN zz))))), (d2, .inl (cL, 192, .inr (.inl (fun zz => lN (zN zz))))), (d3, .inl (cL, 32, .inr (.inl zL))), (d4, .inl (cL, 5, .inr (.inl (fun zz => lN (zN zz))))), (d5, .inl (cI, 5, .inl (fun zz => nI (zN zz))))] H := hP
    have hD : va_D A [(h0, .inr (4, [.int (nI 0), .ref d1, .ref d2, .ref d3, .ref d4, .null, .int (nI 0), .int (nI 0), .long (lN 0), .int (nI 0), .int (nI 0)])), (d1, .inl (cL, 1152, .inr (.inl (fun zz => lN (zN zz))))), (d2, .inl (cL, 192, .inr (.inl (fun zz => lN (zN zz))))), (d3, .inl (cL, 32, .inr (.inl zL))), (d4, .inl (cL, 5, .inr (.inl (fun zz => lN (zN zz))))), (d5, .inl (cI, 5, .inl (fun zz => nI (zN zz))))] := hD
    refine va_putF (D := (dC, dI)) (ci := 4) (v := .ref d5) (ty := (.array .int)) (C := RX4) (T := TX4) (N := 11) hx hb hts inlX4 tyX4 tyX4_ok nmX4 hown hK hP hD hS 0 rfl rfl 5 (by decide) (hts _ qf_X4_28) (fun _ h9 => h9) rfl hin rfl (by decide +kernel) rfl rfl (Nat.le_of_ble_eq_true rfl) dX4_init_46 (fun H locs hP hD hS => ?_)
    have hP : va_P (dC, dI) vwCl [(h0, .inr (4, [.int (nI 0), .ref d1, .ref d2, .ref d3, .ref d4, .ref d5, .int (nI 0), .int (nI 0), .long (lN 0), .int (nI 0), .int (nI 0)])), (d1, .inl (cL, 1152, .inr (.inl (fun zz => lN (zN zz))))), (d2, .inl (cL, 192, .inr (.inl (fun zz => lN (zN zz))))), (d3, .inl (cL, 32, .inr (.inl zL))), (d4, .inl (cL, 5, .inr (.inl (fun zz => lN (zN zz))))), (d5, .inl (cI, 5, .inl (fun zz => nI (zN zz))))] H := hP
    have hD : va_D A [(h0, .inr (4, [.int (nI 0), .ref d1, .ref d2, .ref d3, .ref d4, .ref d5, .int (nI 0), .int (nI 0), .long (lN 0), .int (nI 0), .int (nI 0)])), (d1, .inl (cL, 1152, .inr (.inl (fun zz => lN (zN zz))))), (d2, .inl (cL, 192, .inr (.inl (fun zz => lN (zN zz))))), (d3, .inl (cL, 32, .inr (.inl zL))), (d4, .inl (cL, 5, .inr (.inl (fun zz => lN (zN zz))))), (d5, .inl (cI, 5, .inl (fun zz => nI (zN zz))))] := hD
    exact kqvC (w1 := (fun u : Nat × Nat × Nat × Nat × Nat => [(h0, .inr (4, [.int (nI 0), .ref u.1, .ref u.2.1, .ref u.2.2.1, .ref u.2.2.2.1, .ref u.2.2.2.2, .int (nI 0), .int (nI 0), .long (lN 0), .int (nI 0), .int (nI 0)])), (u.1, .inl (cL, 1152, .inr (.inl (fun zz => lN (zN zz))))), (u.2.1, .inl (cL, 192, .inr (.inl (fun zz => lN (zN zz))))), (u.2.2.1, .inl (cL, 32, .inr (.inl zL))), (u.2.2.2.1, .inl (cL, 5, .inr (.inl (fun zz => lN (zN zz))))), (u.2.2.2.2, .inl (cI, 5, .inl (fun zz => nI (zN zz))))])) Y hr hlocks hK hP hD hS [0, 1, 2, 3, 4, 5] (by decide) (d1, d2, d3, d4, d5) rfl trivial dX4_init_49
  · refine lv_aload_n hx hb dX4_init_0 rfl (lv_at hl 0 rfl) ?_
    refine W.objInit hx hb hown (hts _ qm_X4_3) (hts _ qn_objectInit) (hts _ qc_objectInit) rfl (by rw [hml]; exact hl.1) rfl dX4_init_1 (Nat.le_of_ble_eq_true rfl) (Nat.le_of_ble_eq_true rfl) ?_
    refine W.eq (g2 := F0 m 4 ls []) rfl ?_
    refine lv_aload_n hx hb dX4_init_4 rfl (lv_at hl 0 rfl) ?_
    refine lv_iload_n hx hb dX4_init_5 rfl (lv_at hl 1 rfl) ?_
    refine va_putF (D := (dC, dI)) (ci := 4) (v := .int (nI 1)) (ty := .boolean) (C := RX4) (T := TX4) (N := 11) hx hb hts inlX4 tyX4 tyX4_ok nmX4 hown hK hP hD hS 0 rfl rfl 0 (by decide) (hts _ qf_X4_9) (fun _ h9 => h9) rfl hin rfl (by decide +kernel) (by decide) rfl (Nat.le_of_ble_eq_true rfl) dX4_init_6 (fun H locs hP hD hS => ?_)
    have hP : va_P (dC, dI) vwCl [(h0, .inr (4, [.int (nI 1), .null, .null, .null, .null, .null, .int (nI 0), .int (nI 0), .long (lN 0), .int (nI 0), .int (nI 0)]))] H := hP
    have hD : va_D A [(h0, .inr (4, [.int (nI 1), .null, .null, .null, .null, .null, .int (nI 0), .int (nI 0), .long (lN 0), .int (nI 0), .int (nI 0)]))] := hD
    refine lv_aload_n hx hb dX4_init_9 rfl (lv_at hl 0 rfl) ?_
    refine lv_sipush (v := nI 1152) hx hb dX4_init_10 (by decide) ?_
    refine r_newL Y hK hP hD hS hA 1 rfl (Nat.le_of_ble_eq_true rfl) (Nat.le_of_ble_eq_true rfl) (Nat.le_of_ble_eq_true rfl) (Nat.le_of_ble_eq_true rfl) dX4_init_13 (fun d1 H hP hD hS => ?_)
    have hP : va_P (dC, dI) vwCl [(h0, .inr (4, [.int (nI 1), .null, .null, .null, .null, .null, .int (nI 0), .int (nI 0), .long (lN 0), .int (nI 0), .int (nI 0)])), (d1, .inl (cL, 1152, .inr (.inl (fun zz => lN (zN zz)))))] H := hP
    have hD : va_D A [(h0, .inr (4, [.int (nI 1), .null, .null, .null, .null, .null, .int (nI 0), .int (nI 0), .long (lN 0), .int (nI 0), .int (nI 0)])), (d1, .inl (cL, 1152, .inr (.inl (fun zz => lN (zN zz)))))] := hD
    refine va_putF (D := (dC, dI)) (ci := 4) (v := .ref d1) (ty := (.array .long)) (C := RX4) (T := TX4) (N := 11) hx hb hts inlX4 tyX4 tyX4_ok nmX4 hown hK hP hD hS 0 rfl rfl 1 (by decide) (hts _ qf_X4_15) (fun _ h9 => h9) rfl hin rfl (by decide +kernel) rfl rfl (Nat.le_of_ble_eq_true rfl) dX4_init_15 (fun H locs hP hD hS => ?_)
    have hP : va_P (dC, dI) vwCl [(h0, .inr (4, [.int (nI 1), .ref d1, .null, .null, .null, .null, .int (nI 0), .int (nI 0), .long (lN 0), .int (nI 0), .int (nI 0)])), (d1, .inl (cL, 1152, .inr (.inl (fun zz => lN (zN zz)))))] H := hP
    have hD : va_D A [(h0, .inr (4, [.int (nI 1), .ref d1, .null, .null, .null, .null, .int (nI 0), .int (nI 0), .long (lN 0), .int (nI 0), .int (nI 0)])), (d1, .inl (cL, 1152, .inr (.inl (fun zz => lN (zN zz)))))] := hD
    refine lv_aload_n hx hb dX4_init_18 rfl (lv_at hl 0 rfl) ?_
    refine lv_sipush (v := nI 192) hx hb dX4_init_19 (by decide) ?_
    refine r_newL Y hK hP hD hS hA 1 rfl (Nat.le_of_ble_eq_true rfl) (Nat.le_of_ble_eq_true rfl) (Nat.le_of_ble_eq_true rfl) (Nat.le_of_ble_eq_true rfl) dX4_init_22 (fun d2 H hP hD hS => ?_)
    have hP : va_P (dC, dI) vwCl [(h0, .inr (4, [.int (nI 1), .ref d1, .null, .null, .null, .null, .int (nI 0), .int (nI 0), .long (lN 0), .int (nI 0), .int (nI 0)])), (d1, .inl (cL, 1152, .inr (.inl (fun zz => lN (zN zz))))), (d2, .inl (cL, 192, .inr (.inl (fun zz => lN (zN zz)))))] H := hP
    have hD : va_D A [(h0, .inr (4, [.int (nI 1), .ref d1, .null, .null, .null, .null, .int (nI 0), .int (nI 0), .long (lN 0), .int (nI 0), .int (nI 0)])), (d1, .inl (cL, 1152, .inr (.inl (fun zz => lN (zN zz))))), (d2, .inl (cL, 192, .inr (.inl (fun zz => lN (zN zz)))))] := hD
    refine va_putF (D := (dC, dI)) (ci := 4) (v := .ref d2) (ty := (.array .long)) (C := RX4) (T := TX4) (N := 11) hx hb hts inlX4 tyX4 tyX4_ok nmX4 hown hK hP hD hS 0 rfl rfl 2 (by decide) (hts _ qf_X4_19) (fun _ h9 => h9) rfl hin rfl (by decide +kernel) rfl rfl (Nat.le_of_ble_eq_true rfl) dX4_init_24 (fun H locs hP hD hS => ?_)
    have hP : va_P (dC, dI) vwCl [(h0, .inr (4, [.int (nI 1), .ref d1, .ref d2, .null, .null, .null, .int (nI 0), .int (nI 0), .long (lN 0), .int (nI 0), .int (nI 0)])), (d1, .inl (cL, 1152, .inr (.inl (fun zz => lN (zN zz))))), (d2, .inl (cL, 192, .inr (.inl (fun zz => lN (zN zz)))))] H := hP
    have hD : va_D A [(h0, .inr (4, [.int (nI 1), .ref d1, .ref d2, .null, .null, .null, .int (nI 0), .int (nI 0), .long (lN 0), .int (nI 0), .int (nI 0)])), (d1, .inl (cL, 1152, .inr (.inl (fun zz => lN (zN zz))))), (d2, .inl (cL, 192, .inr (.inl (fun zz => lN (zN zz)))))] := hD
    refine lv_aload_n hx hb dX4_init_27 rfl (lv_at hl 0 rfl) ?_
    refine lv_bipush (v := nI 32) hx hb dX4_init_28 (by decide) ?_
    refine r_newL Y hK hP hD hS hA 1 rfl (Nat.le_of_ble_eq_true rfl) (Nat.le_of_ble_eq_true rfl) (Nat.le_of_ble_eq_true rfl) (Nat.le_of_ble_eq_true rfl) dX4_init_30 (fun d3 H hP hD hS => ?_)
    have hP : va_P (dC, dI) vwCl [(h0, .inr (4, [.int (nI 1), .ref d1, .ref d2, .null, .null, .null, .int (nI 0), .int (nI 0), .long (lN 0), .int (nI 0), .int (nI 0)])), (d1, .inl (cL, 1152, .inr (.inl (fun zz => lN (zN zz))))), (d2, .inl (cL, 192, .inr (.inl (fun zz => lN (zN zz))))), (d3, .inl (cL, 32, .inr (.inl zL)))] H := hP
    have hD : va_D A [(h0, .inr (4, [.int (nI 1), .ref d1, .ref d2, .null, .null, .null, .int (nI 0), .int (nI 0), .long (lN 0), .int (nI 0), .int (nI 0)])), (d1, .inl (cL, 1152, .inr (.inl (fun zz => lN (zN zz))))), (d2, .inl (cL, 192, .inr (.inl (fun zz => lN (zN zz))))), (d3, .inl (cL, 32, .inr (.inl zL)))] := hD
    refine va_putF (D := (dC, dI)) (ci := 4) (v := .ref d3) (ty := (.array .long)) (C := RX4) (T := TX4) (N := 11) hx hb hts inlX4 tyX4 tyX4_ok nmX4 hown hK hP hD hS 0 rfl rfl 3 (by decide) (hts _ qf_X4_22) (fun _ h9 => h9) rfl hin rfl (by decide +kernel) rfl rfl (Nat.le_of_ble_eq_true rfl) dX4_init_32 (fun H locs hP hD hS => ?_)
    have hP : va_P (dC, dI) vwCl [(h0, .inr (4, [.int (nI 1), .ref d1, .ref d2, .ref d3, .null, .null, .int (nI 0), .int (nI 0), .long (lN 0), .int (nI 0), .int (nI 0)])), (d1, .inl (cL, 1152, .inr (.inl (fun zz => lN (zN zz))))), (d2, .inl (cL, 192, .inr (.inl (fun zz => lN (zN zz))))), (d3, .inl (cL, 32, .inr (.inl zL)))] H := hP
    have hD : va_D A [(h0, .inr (4, [.int (nI 1), .ref d1, .ref d2, .ref d3, .null, .null, .int (nI 0), .int (nI 0), .long (lN 0), .int (nI 0), .int (nI 0)])), (d1, .inl (cL, 1152, .inr (.inl (fun zz => lN (zN zz))))), (d2, .inl (cL, 192, .inr (.inl (fun zz => lN (zN zz))))), (d3, .inl (cL, 32, .inr (.inl zL)))] := hD
    refine lv_aload_n hx hb dX4_init_35 rfl (lv_at hl 0 rfl) ?_
    refine lv_iconst (v := nI 5) hx hb dX4_init_36 (by decide) ?_
    refine r_newL Y hK hP hD hS hA 1 rfl (Nat.le_of_ble_eq_true rfl) (Nat.le_of_ble_eq_true rfl) (Nat.le_of_ble_eq_true rfl) (Nat.le_of_ble_eq_true rfl) dX4_init_37 (fun d4 H hP hD hS => ?_)
    have hP : va_P (dC, dI) vwCl [(h0, .inr (4, [.int (nI 1), .ref d1, .ref d2, .ref d3, .null, .null, .int (nI 0), .int (nI 0), .long (lN 0), .int (nI 0), .int (nI 0)])), (d1, .inl (cL, 1152, .inr (.inl (fun zz => lN (zN zz))))), (d2, .inl (cL, 192, .inr (.inl (fun zz => lN (zN zz))))), (d3, .inl (cL, 32, .inr (.inl zL))), (d4, .inl (cL, 5, .inr (.inl (fun zz => lN (zN zz)))))] H := hP
    have hD : va_D A [(h0, .inr (4, [.int (nI 1), .ref d1, .ref d2, .ref d3, .null, .null, .int (nI 0), .int (nI 0), .long (lN 0), .int (nI 0), .int (nI 0)])), (d1, .inl (cL, 1152, .inr (.inl (fun zz => lN (zN zz))))), (d2, .inl (cL, 192, .inr (.inl (fun zz => lN (zN zz))))), (d3, .inl (cL, 32, .inr (.inl zL))), (d4, .inl (cL, 5, .inr (.inl (fun zz => lN (zN zz)))))] := hD
    refine va_putF (D := (dC, dI)) (ci := 4) (v := .ref d4) (ty := (.array .long)) (C := RX4) (T := TX4) (N := 11) hx hb hts inlX4 tyX4 tyX4_ok nmX4 hown hK hP hD hS 0 rfl rfl 4 (by decide) (hts _ qf_X4_25) (fun _ h9 => h9) rfl hin rfl (by decide +kernel) rfl rfl (Nat.le_of_ble_eq_true rfl) dX4_init_39 (fun H locs hP hD hS => ?_)
    have hP : va_P (dC, dI) vwCl [(h0, .inr (4, [.int (nI 1), .ref d1, .ref d2, .ref d3, .ref d4, .null, .int (nI 0), .int (nI 0), .long (lN 0), .int (nI 0), .int (nI 0)])), (d1, .inl (cL, 1152, .inr (.inl (fun zz => lN (zN zz))))), (d2, .inl (cL, 192, .inr (.inl (fun zz => lN (zN zz))))), (d3, .inl (cL, 32, .inr (.inl zL))), (d4, .inl (cL, 5, .inr (.inl (fun zz => lN (zN zz)))))] H := hP
    have hD : va_D A [(h0, .inr (4, [.int (nI 1), .ref d1, .ref d2, .ref d3, .ref d4, .null, .int (nI 0), .int (nI 0), .long (lN 0), .int (nI 0), .int (nI 0)])), (d1, .inl (cL, 1152, .inr (.inl (fun zz => lN (zN zz))))), (d2, .inl (cL, 192, .inr (.inl (fun zz => lN (zN zz))))), (d3, .inl (cL, 32, .inr (.inl zL))), (d4, .inl (cL, 5, .inr (.inl (fun zz => lN (zN zz)))))] := hD
    refine lv_aload_n hx hb dX4_init_42 rfl (lv_at hl 0 rfl) ?_
    refine lv_iconst (v := nI 5) hx hb dX4_init_43 (by decide) ?_
    refine r_newI Y hK hP hD hS hA 0 rfl (Nat.le_of_ble_eq_true rfl) (Nat.le_of_ble_eq_true rfl) (Nat.le_of_ble_eq_true rfl) (Nat.le_of_ble_eq_true rfl) dX4_init_44 (fun d5 H hP hD hS => ?_)
    have hP : va_P (dC, dI) vwCl [(h0, .inr (4, [.int (nI 1), .ref d1, .ref d2, .ref d3, .ref d4, .null, .int (nI 0), .int (nI 0), .long (lN 0), .int (nI 0), .int (nI 0)])), (d1, .inl (cL, 1152, .inr (.inl (fun zz => lN (zN zz))))), (d2, .inl (cL, 192, .inr (.inl (fun zz => lN (zN zz))))), (d3, .inl (cL, 32, .inr (.inl zL))), (d4, .inl (cL, 5, .inr (.inl (fun zz => lN (zN zz))))), (d5, .inl (cI, 5, .inl (fun zz => nI (zN zz))))] H := hP
    have hD : va_D A [(h0, .inr (4, [.int (nI 1), .ref d1, .ref d2, .ref d3, .ref d4, .null, .int (nI 0), .int (nI 0), .long (lN 0), .int (nI 0), .int (nI 0)])), (d1, .inl (cL, 1152, .inr (.inl (fun zz => lN (zN zz))))), (d2, .inl (cL, 192, .inr (.inl (fun zz => lN (zN zz))))), (d3, .inl (cL, 32, .inr (.inl zL))), (d4, .inl (cL, 5, .inr (.inl (fun zz => lN (zN zz))))), (d5, .inl (cI, 5, .inl (fun zz => nI (zN zz))))] := hD
    refine va_putF (D := (dC, dI)) (ci := 4) (v := .ref d5) (ty := (.array .int)) (C := RX4) (T := TX4) (N := 11) hx hb hts inlX4 tyX4 tyX4_ok nmX4 hown hK hP hD hS 0 rfl rfl 5 (by decide) (hts _ qf_X4_28) (fun _ h9 => h9) rfl hin rfl (by decide +kernel) rfl rfl (Nat.le_of_ble_eq_true rfl) dX4_init_46 (fun H locs hP hD hS => ?_)
    have hP : va_P (dC, dI) vwCl [(h0, .inr (4, [.int (nI 1), .ref d1, .ref d2, .ref d3, .ref d4, .ref d5, .int (nI 0), .int (nI 0), .long (lN 0), .int (nI 0), .int (nI 0)])), (d1, .inl (cL, 1152, .inr (.inl (fun zz => lN (zN zz))))), (d2, .inl (cL, 192, .inr (.inl (fun zz => lN (zN zz))))), (d3, .inl (cL, 32, .inr (.inl zL))), (d4, .inl (cL, 5, .inr (.inl (fun zz => lN (zN zz))))), (d5, .inl (cI, 5, .inl (fun zz => nI (zN zz))))] H := hP
    have hD : va_D A [(h0, .inr (4, [.int (nI 1), .ref d1, .ref d2, .ref d3, .ref d4, .ref d5, .int (nI 0), .int (nI 0), .long (lN 0), .int (nI 0), .int (nI 0)])), (d1, .inl (cL, 1152, .inr (.inl (fun zz => lN (zN zz))))), (d2, .inl (cL, 192, .inr (.inl (fun zz => lN (zN zz))))), (d3, .inl (cL, 32, .inr (.inl zL))), (d4, .inl (cL, 5, .inr (.inl (fun zz => lN (zN zz))))), (d5, .inl (cI, 5, .inl (fun zz => nI (zN zz))))] := hD
    exact kqvC (w1 := (fun u : Nat × Nat × Nat × Nat × Nat => [(h0, .inr (4, [.int (nI 1), .ref u.1, .ref u.2.1, .ref u.2.2.1, .ref u.2.2.2.1, .ref u.2.2.2.2, .int (nI 0), .int (nI 0), .long (lN 0), .int (nI 0), .int (nI 0)])), (u.1, .inl (cL, 1152, .inr (.inl (fun zz => lN (zN zz))))), (u.2.1, .inl (cL, 192, .inr (.inl (fun zz => lN (zN zz))))), (u.2.2.1, .inl (cL, 32, .inr (.inl zL))), (u.2.2.2.1, .inl (cL, 5, .inr (.inl (fun zz => lN (zN zz))))), (u.2.2.2.2, .inl (cI, 5, .inl (fun zz => nI (zN zz))))])) Y hr hlocks hK hP hD hS [0, 1, 2, 3, 4, 5] (by decide) (d1, d2, d3, d4, d5) rfl trivial dX4_init_49
