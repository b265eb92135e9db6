abbrev kw (y : MethodName) (c : ByteArray) (n : Nat) (r : Option FieldType) : List Cond := Cond.code y c n r :: AW
theorem kw_in {y : MethodName} {c : ByteArray} {n : Nat} {r : Option FieldType} (h : Cond.code y c n r ∈ AW) : GoodIn AW (kw y c n r) := fun w hw => by
  have hm : w ∈ AW := by
    rcases List.mem_cons.mp hw with q | q
    · rw [q]; exact h
    · exact q
  exact ⟨hm, AW_good w hm⟩
abbrev kR (f L : Nat) : Room := { frames := f, cells := 0, slots := 0, locals := L }
def b2i (P : Prop) [Decidable P] : Int32 := if P then 1 else 0
theorem b2i_t {P : Prop} [Decidable P] (h : P) : b2i P = 1 := by unfold b2i; rw [if_pos h]
theorem b2i_f {P : Prop} [Decidable P] (h : ¬ P) : b2i P = 0 := by unfold b2i; rw [if_neg h]
theorem b2i_0 {P : Prop} [Decidable P] : b2i P = 0 ↔ ¬ P := by
  unfold b2i
  by_cases h : P
  · rw [if_pos h]; exact ⟨fun q => absurd q (by decide), fun q => absurd h q⟩
  · rw [if_neg h]; exact ⟨fun _ => h, fun _ => rfl⟩
theorem b2i_n {P : Prop} [Decidable P] : narrow .boolean (.int (b2i P)) = .int (b2i P) := by
  unfold b2i
  by_cases h : P
  · rw [if_pos h]; rfl
  · rw [if_neg h]; rfl
theorem b2i_c {P P' : Prop} [Decidable P] [Decidable P'] (h : P ↔ P') : b2i P = b2i P' := by
  by_cases q : P
  · rw [b2i_t q, b2i_t (h.mp q)]
  · rw [b2i_f q, b2i_f (fun z => q (h.mpr z))]
def updN (f : Nat → Nat) (k v : Nat) : Nat → Nat := fun j => if j = k then v else f j
theorem updN_nI (f : Nat → Nat) (k v : Nat) : upd (fun j => nI (f j)) k (nI v) = fun j => nI (updN f k v j) := by
  funext j
  by_cases h : j = k
  · simp [upd, updN, h]
  · simp [upd, updN, h]
theorem updN_s (f : Nat → Nat) (k v : Nat) : updN f k v k = v := by simp [updN]
theorem updN_n (f : Nat → Nat) {k j : Nat} (v : Nat) (h : j ≠ k) : updN f k v j = f j := by simp [updN, h]
def updL (f : Nat → Int64) (k : Nat) (v : Int64) : Nat → Int64 := fun j => if j = k then v else f j
theorem updL_e (f : Nat → Int64) (k : Nat) (v : Int64) : vp_updL f k v = updL f k v := rfl
theorem updL_s (f : Nat → Int64) (k : Nat) (v : Int64) : updL f k v k = v := by simp [updL]
theorem updL_n (f : Nat → Int64) {k j : Nat} (v : Int64) (h : j ≠ k) : updL f k v j = f j := by simp [updL, h]
def tbl (l : List Nat) (k : Nat) : Nat := l.getD k 0
def tINI : List Nat := [5, 1, 0, 99, 0, 0, 0, 0, 0, 0, 0, 10, 20, 30, 40, 2, 2, 2, 2, 2, 0, 0]
def tLEA : List Nat := [1, 1, 0, 0, 0, 0, 0, 0, 0, 0, 0, 0, 0, 0, 0, 0, 0, 0, 0, 0, 0, 0]
def tMOS : List Nat := [7, 3, 20, 99, 99, 99, 99, 99, 99, 99, 99, 99, 99, 99, 99, 10, 10, 10, 10, 10, 10, 10]
def tBIN : List Nat := [1, 0, 0, 0, 0, 0, 0, 0, 1, 1, 0, 0, 0, 0, 0, 0, 1, 2, 1, 0, 0, 0, 0, 0, 1, 3, 3, 1, 0, 0, 0, 0, 1, 4, 6, 4, 1, 0, 0, 0, 1, 5, 10, 10, 5, 1, 0, 0, 1, 6, 15, 20, 15, 6, 1, 0, 1, 7, 21, 35, 35, 21, 7, 1]
def tLET : List Nat := [110, 107, 99, 112, 118, 119, 114]
def tFIR : List Nat := [0, 1, 2, 3, 10, 15, 20]
def tFEW : List Nat := [1, 1, 1, 1, 5, 5, 2]
def tMOR : List Nat := [1, 1, 1, 7, 5, 5, 2]
/-- a static array of the class, that nobody writes -/
def kT (C n d : String) (ty : FieldType) (N : Nat) (f : Nat → Nat) (A : Nat → Prop) (U : State) (H : Heap) : Prop := ∃ t : Nat, va_Z C n d (.ref t) A U H ∧ va_T ty t N (fun j => .int (nI (f j))) A U H
theorem kT.pass {C n d : String} {ty : FieldType} {N : Nat} {f : Nat → Nat} {A B : Nat → Prop} {s U : State} {H : Heap} {locs : List Loc} (h : kT C n d ty N f A s s.heap) (hS : va_S A s.heap H locs) (hAB : ∀ q, B q → A q) (hU : U.heap = H) (hW : s.vm.Alike U.vm) : kT C n d ty N f B U U.heap := by
  obtain ⟨t, hz, ht⟩ := h
  rw [hU]
  exact ⟨t, ((hz.kept (fun a h1 h2 => hS.2.1 a h1 h2)).narrow hAB).moved hW, ((ht.kept (fun a h1 h2 => hS.2.1 a h1 h2)).narrow hAB).moved hW⟩
def kSta (A : Nat → Prop) (U : State) (H : Heap) : Prop :=
  kT "StoppingPlanner" "INITIAL" "[I" .int 22 (tbl tINI) A U H ∧ kT "StoppingPlanner" "LEAST" "[I" .int 22 (tbl tLEA) A U H ∧ kT "StoppingPlanner" "MOST" "[I" .int 22 (tbl tMOS) A U H ∧ kT "StoppingPlanner$RankProblem" "BINOMIALS" "[I" .int 64 (tbl tBIN) A U H ∧ kT "StoppingPlanner$Text" "LETTERS" "[C" .char 7 (tbl tLET) A U H ∧ kT "StoppingPlanner$Text" "FIRST" "[I" .int 7 (tbl tFIR) A U H ∧ kT "StoppingPlanner$Text" "FEWEST_NUMBERS" "[I" .int 7 (tbl tFEW) A U H ∧ kT "StoppingPlanner$Text" "MOST_NUMBERS" "[I" .int 7 (tbl tMOR) A U H ∧ va_Nw (.fieldLinkNest "StoppingPlanner$Text" 78 "StoppingPlanner" "LEAST" "[I" "StoppingPlanner") U ∧ va_Nw (.fieldLinkNest "StoppingPlanner$Text" 81 "StoppingPlanner" "MOST" "[I" "StoppingPlanner") U
theorem kSta.pass {A B : Nat → Prop} {s U : State} {H : Heap} {locs : List Loc} (h : kSta A s s.heap) (hS : va_S A s.heap H locs) (hAB : ∀ q, B q → A q) (hU : U.heap = H) (hW : s.WarmedH U.vm) : kSta B U U.heap := by
  obtain ⟨h1, h2, h3, h4, h5, h6, h7, h8, h9, h10⟩ := h
  exact ⟨h1.pass hS hAB hU hW.alike, h2.pass hS hAB hU hW.alike, h3.pass hS hAB hU hW.alike, h4.pass hS hAB hU hW.alike, h5.pass hS hAB hU hW.alike, h6.pass hS hAB hU hW.alike, h7.pass hS hAB hU hW.alike, h8.pass hS hAB hU hW.alike, h9.warmF hW, h10.warmF hW⟩
theorem kSta.calling {A : Nat → Prop} {U : State} {g : JFrame} {mk : MethodId} {a : Array Value} (h : kSta A U U.heap) : kSta A (U.calling g mk a) (U.calling g mk a).heap := by
  obtain ⟨h1, h2, h3, h4, h5, h6, h7, h8, h9, h10⟩ := h
  have hv := Vm.Alike.refl U.vm
  exact ⟨h1.pass (U := U.calling g mk a) (va_S.rf) (fun _ q => q) rfl hv, h2.pass (U := U.calling g mk a) va_S.rf (fun _ q => q) rfl hv, h3.pass (U := U.calling g mk a) va_S.rf (fun _ q => q) rfl hv, h4.pass (U := U.calling g mk a) va_S.rf (fun _ q => q) rfl hv, h5.pass (U := U.calling g mk a) va_S.rf (fun _ q => q) rfl hv, h6.pass (U := U.calling g mk a) va_S.rf (fun _ q => q) rfl hv, h7.pass (U := U.calling g mk a) va_S.rf (fun _ q => q) rfl hv, h8.pass (U := U.calling g mk a) va_S.rf (fun _ q => q) rfl hv, va_Nw.same (U := U.calling g mk a) rfl rfl h9, va_Nw.same (U := U.calling g mk a) rfl rfl h10⟩
abbrev kNo : Nat → Prop := fun _ => False
def kPr (D : va_G) (av : List Value) (wc : va_W) (tc : List (ClassId × FieldType)) : Array Value → State → Prop := va_Pc av (fun U => va_P D vwCl wc U.heap ∧ va_K D vwCl tc U ∧ kSta kNo U U.heap)
def kPq (D : va_G) (av : List Value) (sz : Nat) (wc : va_W) (tc : List (ClassId × FieldType)) : Array Value → State → Prop := va_Pc av (fun U => U.heap.size = sz ∧ va_P D vwCl wc U.heap ∧ va_K D vwCl tc U ∧ va_D (fun _ => True) wc ∧ kSta (va_A wc sz) U U.heap)
/-- what a method that changes cells leaves: its cells, as w1 says -/
def kB (D : va_G) (tc : List (ClassId × FieldType)) (A : Nat → Prop) (w1 : va_W) (t : State) : Prop := va_P D vwCl w1 t.heap ∧ va_K D vwCl tc t ∧ va_D A w1
theorem kPr_blind {D : va_G} {av : List Value} {wc : va_W} {tc : List (ClassId × FieldType)} : FrameBlind (kPr D av wc tc) := fun a U g mk q => by
  obtain ⟨q0, q1, q2, q3⟩ := q
  exact ⟨q0, q1, va_K.moved (u := U) (U := U.calling g mk a) (Vm.Alike.refl U.vm) q2, q3.calling⟩
theorem kPq_blind {D : va_G} {av : List Value} {sz : Nat} {wc : va_W} {tc : List (ClassId × FieldType)} : FrameBlind (kPq D av sz wc tc) := fun a U g mk q => by
  obtain ⟨q0, q1, q2, q3, q4, q5⟩ := q
  exact ⟨q0, q1, q2, va_K.moved (u := U) (U := U.calling g mk a) (Vm.Alike.refl U.vm) q3, q4, q5.calling⟩
theorem k_fm {α : Type} {ws wc : List α} (is : List Nat) (h : is.map (fun i => ws[i]?) = wc.map some) : is.filterMap (fun i => ws[i]?) = wc := by
  have h1 : is.filterMap (fun i => ws[i]?) = (is.map (fun i => ws[i]?)).filterMap id := by rw [List.filterMap_map]; rfl
  rw [h1, h, List.filterMap_map]
  exact List.filterMap_some
def kmV (C : String) (y : MethodName) (bytes : ByteArray) (maxL : Nat) (ret : Option FieldType) (n : Nat) : Prop := Cond.code y bytes maxL ret ∈ AW ∧ Cond.instanceMethod y ∈ AW ∧ Cond.selects C y y ∈ AW ∧ Cond.initialized C ∈ AW ∧ y.cls = C ∧ y.cls ≠ "java/lang/invoke/MethodHandle" ∧ y.cls ≠ "java/lang/invoke/VarHandle" ∧ (parseMethodDescriptor y.desc).map (fun d => d.parameters.length) = some n
def kmS (y : MethodName) (bytes : ByteArray) (maxL : Nat) (ret : Option FieldType) (n : Nat) : Prop := Cond.code y bytes maxL ret ∈ AW ∧ Cond.static y ∈ AW ∧ Cond.initialized y.cls ∈ AW ∧ y.cls ≠ "java/lang/invoke/MethodHandle" ∧ y.cls ≠ "java/lang/invoke/VarHandle" ∧ (parseMethodDescriptor y.desc).map (fun d => d.parameters.length) = some n
def kmI (y : MethodName) (bytes : ByteArray) (maxL : Nat) (n : Nat) : Prop := Cond.code y bytes maxL none ∈ AW ∧ Cond.instanceMethod y ∈ AW ∧ Cond.initialized y.cls ∈ AW ∧ y.name = "<init>" ∧ y.cls ≠ "java/lang/invoke/MethodHandle" ∧ y.cls ≠ "java/lang/invoke/VarHandle" ∧ (parseMethodDescriptor y.desc).map (fun d => d.parameters.length) = some n
abbrev kY (p : Program) (m : MethodId) (c : Code) (cc : ByteArray) (nL : Nat) (s : State) (args : Array Value) (own : String) : Prop := CallFix p m c cc nL s args AW own
section KC
variable {p : Program} {l : Launch} {e : Env} {R : Room} {s : State} {m : MethodId} {args : Array Value} {below : List Frame} {meth : Method} {c : Code} {H : Heap} {locs : List Loc} {cells slots : Nat} {Q : State → Prop}
variable {cc : ByteArray} {nL : Nat} {own C : String} {pc : Nat} {ls : Array Slot} {rest st0 As : List Value} {D : va_G} {tys tc : List (ClassId × FieldType)} {ws wc wr : va_W} {A : Nat → Prop} {b : Nat}
variable {y : MethodName} {bytes : ByteArray} {maxL n index : Nat} {ret : Option FieldType} {f L : Nat}
theorem kcV (Y : kY p m c cc nL s args own) (M : kmV C y bytes maxL ret n) (hl : Cond.methodLink own index y ∈ AW) (hR : f + 1 ≤ R.frames ∧ 8 + (maxL + 11) + L ≤ R.locals) : CallW R s args own C index y bytes maxL ret (kw y bytes maxL ret) (kR f L) 0 0 n := by
  obtain ⟨hc, hi, hs, hz, hC, hm1, hm2, hd⟩ := M
  subst hC
  have ht := Y.2.2.2.2
  exact ⟨callB_of n ht (kw_in hc) rfl rfl rfl (ht _ hz) (ht _ hl) ⟨hm1, hm2, hd⟩ hR, ht _ hi, ht _ hs⟩
theorem kcS (Y : kY p m c cc nL s args own) (M : kmS y bytes maxL ret n) (hl : Cond.methodLink own index y ∈ AW) (hR : f + 1 ≤ R.frames ∧ 8 + (maxL + 11) + L ≤ R.locals) : CallB R s args own index y bytes maxL ret (kw y bytes maxL ret) (kR f L) 0 0 n ∧ (Cond.static y).before args s = true := by
  obtain ⟨hc, hi, hz, hm1, hm2, hd⟩ := M
  have ht := Y.2.2.2.2
  exact ⟨callB_of n ht (kw_in hc) rfl rfl rfl (ht _ hz) (ht _ hl) ⟨hm1, hm2, hd⟩ hR, ht _ hi⟩
theorem kpV {q : vw_C} {fs : List Value} {ci : Nat} (hK : va_K D vwCl tys s) (hP : va_P D vwCl ws H) (hZ : kSta A s s.heap) (hS : va_S A s.heap H locs) (is it : List Nat) (hs : is.filterMap (fun i => ws[i]?) = wc) (ht : it.filterMap (fun i => tys[i]?) = tc) (q0 : Nat) (hc : vwCl[ci]? = some q) (he : wc[q0]? = some (b, .inr (ci, fs))) (hq : q.1 = C) : PreV s H C b (kPr D (.ref b :: As) wc tc) As := by
  have hPc := hP.sub is hs
  have hKc := hK.sub it ht
  subst hq
  exact ⟨kPr_blind, va_recv hKc hPc hc he, fun U hU hW => ⟨rfl, by rw [hU]; exact hPc, va_K.moved hW.alike hKc, hZ.pass hS (fun _ h => h.elim) hU hW⟩⟩
theorem kpS (hK : va_K D vwCl tys s) (hP : va_P D vwCl ws H) (hZ : kSta A s s.heap) (hS : va_S A s.heap H locs) (is it : List Nat) (hs : is.filterMap (fun i => ws[i]?) = wc) (ht : it.filterMap (fun i => tys[i]?) = tc) : PreS s H (kPr D As wc tc) As := by
  have hPc := hP.sub is hs
  have hKc := hK.sub it ht
  exact ⟨kPr_blind, fun U hU hW => ⟨rfl, by rw [hU]; exact hPc, va_K.moved hW.alike hKc, hZ.pass hS (fun _ h => h.elim) hU hW⟩⟩
theorem kqV {q : vw_C} {fs : List Value} {ci : Nat} (hK : va_K D vwCl tys s) (hP : va_P D vwCl ws H) (hD : va_D A ws) (hZ : kSta A s s.heap) (hS : va_S A s.heap H locs) (hA : ∀ q, s.heap.size ≤ q → A q) (is it : List Nat) (hs : is.map (fun i => ws[i]?) = wc.map some) (hn : va_nd is = true) (ht : it.filterMap (fun i => tys[i]?) = tc) (q0 : Nat) (hc : vwCl[ci]? = some q) (he : wc[q0]? = some (b, .inr (ci, fs))) (hq : q.1 = C) : PreV s H C b (kPq D (.ref b :: As) H.size wc tc) As := by
  have hPc := hP.sub is (k_fm is hs)
  have hDc := hD.sub is hn hs
  have hKc := hK.sub it ht
  subst hq
  exact ⟨kPq_blind, va_recv hKc hPc hc he, fun U hU hW => ⟨rfl, by rw [hU], by rw [hU]; exact hPc, va_K.moved hW.alike hKc, hDc.weaken (fun _ _ _ _ => trivial), hZ.pass hS (va_free hD hS hA is hs) hU hW⟩⟩
theorem kqS (hK : va_K D vwCl tys s) (hP : va_P D vwCl ws H) (hD : va_D A ws) (hZ : kSta A s s.heap) (hS : va_S A s.heap H locs) (hA : ∀ q, s.heap.size ≤ q → A q) (is it : List Nat) (hs : is.map (fun i => ws[i]?) = wc.map some) (hn : va_nd is = true) (ht : it.filterMap (fun i => tys[i]?) = tc) : PreS s H (kPq D As H.size wc tc) As := by
  have hPc := hP.sub is (k_fm is hs)
  have hDc := hD.sub is hn hs
  have hKc := hK.sub it ht
  exact ⟨kPq_blind, fun U hU hW => ⟨rfl, by rw [hU], by rw [hU]; exact hPc, va_K.moved hW.alike hKc, hDc.weaken (fun _ _ _ _ => trivial), hZ.pass hS (va_free hD hS hA is hs) hU hW⟩⟩

theorem kVi {post : Int32 → Prop} (Y : kY p m c cc nL s args own) (M : kmV C y bytes maxL ret n) (hM : Met l y (kw y bytes maxL ret) (kR f L) (kPr D (.ref b :: As) wc tc) (vp_Si post) 0 0 kNo) (hl : Cond.methodLink own index y ∈ AW) (hp : PreV s H C b (kPr D (.ref b :: As) wc tc) As) (hn : As.length = n) (hsz : ls.size = nL) (hst : st0 = As.reverse ++ .ref b :: rest) (hW : (rest.map fun v => v.category).sum ≤ 8) (hdg : decode cc pc = .ok (.invokevirtual index, 3)) (hR : f + 1 ≤ R.frames ∧ 8 + (maxL + 11) + L ≤ R.locals) (hf : cells ≤ R.cells ∧ slots ≤ R.slots) (kk : ∀ r : Int32, post r → W p l e R s m args below meth c H locs cells slots Q (F0 m (pc + 3) ls (.int r :: rest))) : W p l e R s m args below meth c H locs cells slots Q (F0 m pc ls st0) :=
  vp_callSi (va_Run.run (va_runV Y hM (kcV Y M hl hR) hp rfl hn hsz hst (lv_room hW) hdg hf)) kk
theorem kSi {post : Int32 → Prop} (Y : kY p m c cc nL s args own) (M : kmS y bytes maxL ret n) (hM : Met l y (kw y bytes maxL ret) (kR f L) (kPr D As wc tc) (vp_Si post) 0 0 kNo) (hl : Cond.methodLink own index y ∈ AW) (hp : PreS s H (kPr D As wc tc) As) (hn : As.length = n) (hsz : ls.size = nL) (hst : st0 = As.reverse ++ rest) (hW : (rest.map fun v => v.category).sum ≤ 8) (hdg : decode cc pc = .ok (.invokestatic index, 3)) (hR : f + 1 ≤ R.frames ∧ 8 + (maxL + 11) + L ≤ R.locals) (hf : cells ≤ R.cells ∧ slots ≤ R.slots) (kk : ∀ r : Int32, post r → W p l e R s m args below meth c H locs cells slots Q (F0 m (pc + 3) ls (.int r :: rest))) : W p l e R s m args below meth c H locs cells slots Q (F0 m pc ls st0) :=
  vp_callSi (va_Run.run (va_runS Y hM (kcS Y M hl hR) hp rfl hn hsz hst (lv_room hW) hdg hf)) kk
theorem kVl {post : Int64 → Prop} (Y : kY p m c cc nL s args own) (M : kmV C y bytes maxL ret n) (hM : Met l y (kw y bytes maxL ret) (kR f L) (kPr D (.ref b :: As) wc tc) (vp_Sl post) 0 0 kNo) (hl : Cond.methodLink own index y ∈ AW) (hp : PreV s H C b (kPr D (.ref b :: As) wc tc) As) (hn : As.length = n) (hsz : ls.size = nL) (hst : st0 = As.reverse ++ .ref b :: rest) (hW : (rest.map fun v => v.category).sum ≤ 8) (hdg : decode cc pc = .ok (.invokevirtual index, 3)) (hR : f + 1 ≤ R.frames ∧ 8 + (maxL + 11) + L ≤ R.locals) (hf : cells ≤ R.cells ∧ slots ≤ R.slots) (kk : ∀ r : Int64, post r → W p l e R s m args below meth c H locs cells slots Q (F0 m (pc + 3) ls (.long r :: rest))) : W p l e R s m args below meth c H locs cells slots Q (F0 m pc ls st0) :=
  vp_callSl (va_Run.run (va_runV Y hM (kcV Y M hl hR) hp rfl hn hsz hst (lv_room hW) hdg hf)) kk
theorem kSl {post : Int64 → Prop} (Y : kY p m c cc nL s args own) (M : kmS y bytes maxL ret n) (hM : Met l y (kw y bytes maxL ret) (kR f L) (kPr D As wc tc) (vp_Sl post) 0 0 kNo) (hl : Cond.methodLink own index y ∈ AW) (hp : PreS s H (kPr D As wc tc) As) (hn : As.length = n) (hsz : ls.size = nL) (hst : st0 = As.reverse ++ rest) (hW : (rest.map fun v => v.category).sum ≤ 8) (hdg : decode cc pc = .ok (.invokestatic index, 3)) (hR : f + 1 ≤ R.frames ∧ 8 + (maxL + 11) + L ≤ R.locals) (hf : cells ≤ R.cells ∧ slots ≤ R.slots) (kk : ∀ r : Int64, post r → W p l e R s m args below meth c H locs cells slots Q (F0 m (pc + 3) ls (.long r :: rest))) : W p l e R s m args below meth c H locs cells slots Q (F0 m pc ls st0) :=
  vp_callSl (va_Run.run (va_runS Y hM (kcS Y M hl hR) hp rfl hn hsz hst (lv_room hW) hdg hf)) kk
theorem kQi {Sg : Type} {post : Int32 → Sg → Prop} {w1 : Sg → va_W} (Y : kY p m c cc nL s args own) (M : kmV C y bytes maxL ret n) (hM : Met l y (kw y bytes maxL ret) (kR f L) (kPq D (.ref b :: As) H.size wc tc) (va_Qi post (fun u => kB D tc (va_A wc H.size) (w1 u)) (va_A wc H.size)) 0 0 (va_A wc H.size)) (hl : Cond.methodLink own index y ∈ AW) (hP : va_P D vwCl ws H) (hD : va_D A ws) (hS : va_S A s.heap H locs) (hA : ∀ q, s.heap.size ≤ q → A q) (isC isR : List Nat) (hC : isC.map (fun i => ws[i]?) = wc.map some) (hRr : isR.map (fun i => ws[i]?) = wr.map some) (hnr : va_nd isR = true) (hdis : ∀ i ∈ isR, i ∉ isC) (hp : PreV s H C b (kPq D (.ref b :: As) H.size wc tc) As) (hn : As.length = n) (hsz : ls.size = nL) (hst : st0 = As.reverse ++ .ref b :: rest) (hW : (rest.map fun v => v.category).sum ≤ 8) (hdg : decode cc pc = .ok (.invokevirtual index, 3)) (hR : f + 1 ≤ R.frames ∧ 8 + (maxL + 11) + L ≤ R.locals) (hf : cells ≤ R.cells ∧ slots ≤ R.slots)
    (kk : ∀ (r : Int32) (u : Sg) (H1 : Heap) (locs1 : List Loc), post r u → va_P D vwCl (wr ++ w1 u) H1 → va_D A (wr ++ w1 u) → va_S A s.heap H1 locs1 → W p l e R s m args below meth c H1 locs1 cells slots Q (F0 m (pc + 3) ls (.int r :: rest))) : W p l e R s m args below meth c H locs cells slots Q (F0 m pc ls st0) := by
  have hFc := va_free hD hS hA isC hC
  refine va_calli (va_runV Y hM (kcV Y M hl hR) hp rfl hn hsz hst (lv_room hW) hdg hf) hS (fun q _ h => hFc q h) hFc (fun r u t H1 locs1 ht hvm hw hB hz1 hk1 hS1 => ?_)
  obtain ⟨hP1, hK1, hD1⟩ := hB
  rw [ht] at hP1
  obtain ⟨hP2, hD2⟩ := va_join hP hD isC isR hC hRr hnr hdis hk1 hFc hP1 hD1
  exact kk r u H1 locs1 hw hP2 hD2 hS1
theorem kQl {Sg : Type} {post : Int64 → Sg → Prop} {w1 : Sg → va_W} (Y : kY p m c cc nL s args own) (M : kmV C y bytes maxL ret n) (hM : Met l y (kw y bytes maxL ret) (kR f L) (kPq D (.ref b :: As) H.size wc tc) (va_Ql post (fun u => kB D tc (va_A wc H.size) (w1 u)) (va_A wc H.size)) 0 0 (va_A wc H.size)) (hl : Cond.methodLink own index y ∈ AW) (hP : va_P D vwCl ws H) (hD : va_D A ws) (hS : va_S A s.heap H locs) (hA : ∀ q, s.heap.size ≤ q → A q) (isC isR : List Nat) (hC : isC.map (fun i => ws[i]?) = wc.map some) (hRr : isR.map (fun i => ws[i]?) = wr.map some) (hnr : va_nd isR = true) (hdis : ∀ i ∈ isR, i ∉ isC) (hp : PreV s H C b (kPq D (.ref b :: As) H.size wc tc) As) (hn : As.length = n) (hsz : ls.size = nL) (hst : st0 = As.reverse ++ .ref b :: rest) (hW : (rest.map fun v => v.category).sum ≤ 8) (hdg : decode cc pc = .ok (.invokevirtual index, 3)) (hR : f + 1 ≤ R.frames ∧ 8 + (maxL + 11) + L ≤ R.locals) (hf : cells ≤ R.cells ∧ slots ≤ R.slots)
    (kk : ∀ (r : Int64) (u : Sg) (H1 : Heap) (locs1 : List Loc), post r u → va_P D vwCl (wr ++ w1 u) H1 → va_D A (wr ++ w1 u) → va_S A s.heap H1 locs1 → W p l e R s m args below meth c H1 locs1 cells slots Q (F0 m (pc + 3) ls (.long r :: rest))) : W p l e R s m args below meth c H locs cells slots Q (F0 m pc ls st0) := by
  have hFc := va_free hD hS hA isC hC
  refine va_calll (va_runV Y hM (kcV Y M hl hR) hp rfl hn hsz hst (lv_room hW) hdg hf) hS (fun q _ h => hFc q h) hFc (fun r u t H1 locs1 ht hvm hw hB hz1 hk1 hS1 => ?_)
  obtain ⟨hP1, hK1, hD1⟩ := hB
  rw [ht] at hP1
  obtain ⟨hP2, hD2⟩ := va_join hP hD isC isR hC hRr hnr hdis hk1 hFc hP1 hD1
  exact kk r u H1 locs1 hw hP2 hD2 hS1
theorem kQv {Sg : Type} {post : Sg → Prop} {w1 : Sg → va_W} (Y : kY p m c cc nL s args own) (M : kmV C y bytes maxL ret n) (hM : Met l y (kw y bytes maxL ret) (kR f L) (kPq D (.ref b :: As) H.size wc tc) (va_Qv post (fun u => kB D tc (va_A wc H.size) (w1 u)) (va_A wc H.size)) 0 0 (va_A wc H.size)) (hl : Cond.methodLink own index y ∈ AW) (hP : va_P D vwCl ws H) (hD : va_D A ws) (hS : va_S A s.heap H locs) (hA : ∀ q, s.heap.size ≤ q → A q) (isC isR : List Nat) (hC : isC.map (fun i => ws[i]?) = wc.map some) (hRr : isR.map (fun i => ws[i]?) = wr.map some) (hnr : va_nd isR = true) (hdis : ∀ i ∈ isR, i ∉ isC) (hp : PreV s H C b (kPq D (.ref b :: As) H.size wc tc) As) (hn : As.length = n) (hsz : ls.size = nL) (hst : st0 = As.reverse ++ .ref b :: rest) (hW : (rest.map fun v => v.category).sum ≤ 8) (hdg : decode cc pc = .ok (.invokevirtual index, 3)) (hR : f + 1 ≤ R.frames ∧ 8 + (maxL + 11) + L ≤ R.locals) (hf : cells ≤ R.cells ∧ slots ≤ R.slots)
    (kk : ∀ (u : Sg) (H1 : Heap) (locs1 : List Loc), post u → va_P D vwCl (wr ++ w1 u) H1 → va_D A (wr ++ w1 u) → va_S A s.heap H1 locs1 → W p l e R s m args below meth c H1 locs1 cells slots Q (F0 m (pc + 3) ls rest)) : W p l e R s m args below meth c H locs cells slots Q (F0 m pc ls st0) := by
  have hFc := va_free hD hS hA isC hC
  refine va_callv (va_runV Y hM (kcV Y M hl hR) hp rfl hn hsz hst (lv_room hW) hdg hf) hS (fun q _ h => hFc q h) hFc (fun u t H1 locs1 ht hvm hw hB hz1 hk1 hS1 => ?_)
  obtain ⟨hP1, hK1, hD1⟩ := hB
  rw [ht] at hP1
  obtain ⟨hP2, hD2⟩ := va_join hP hD isC isR hC hRr hnr hdis hk1 hFc hP1 hD1
  exact kk u H1 locs1 hw hP2 hD2 hS1
end KC
theorem kmet {l : Launch} {y : MethodName} {cc : ByteArray} {maxL : Nat} {ret : Option FieldType} {rm : Room} {Pc : Array Value → State → Prop} {Qc : Array Value → State → Outcome → State → Prop} {mc ms : Nat} {free : Addr → Prop} (hy : plainName y.cls = true)
    (body : ∀ (p : Program) (e : Env) (s : State) (m : MethodId) (args : Array Value) (below : List Frame) (meth : Method) (c : Code), kY p m c cc maxL s args y.cls → meth.sig.returnType = ret → meth.locks = false → meth.name = y.name → Pc args s →
      W p l e rm s m args below meth c s.heap [] 0 0 (MQ below Qc args s mc ms free) (entryFrame m args maxL)) : Met l y (kw y cc maxL ret) rm Pc Qc mc ms free := by
  refine Met.ofW (cc := cc) (maxL := maxL) (ret := ret) hy rfl ?_
  intro p e s m args below meth c s₁ B hml hv
  have hts := atoms_spec (ws := kw y cc maxL ret) B.pre
  exact body p e s m args below meth c ⟨B.exec, B.bytes, hml, findClass_of_methodNamed B.named, fun w hw => hts w (List.mem_cons_of_mem _ hw)⟩ B.returns B.notSynchronized (name_of_methodNamed B.named B.method).1 hv
theorem kinR {D : va_G} {av : List Value} {wc : va_W} {tc : List (ClassId × FieldType)} {args : Array Value} {s : State} (h : kPr D av wc tc args s) : args = av.toArray ∧ va_P D vwCl wc s.heap ∧ va_K D vwCl tc s ∧ kSta kNo s s.heap := h
theorem kinQ {D : va_G} {av : List Value} {sz : Nat} {wc : va_W} {tc : List (ClassId × FieldType)} {args : Array Value} {s : State} (h : kPq D av sz wc tc args s) : args = av.toArray ∧ ∃ A : Nat → Prop, va_A wc sz = A ∧ s.heap.size = sz ∧ va_P D vwCl wc s.heap ∧ va_K D vwCl tc s ∧ va_D A wc ∧ kSta A s s.heap ∧ (∀ q : Nat, s.heap.size ≤ q → A q) := by
  obtain ⟨h0, h1, h2, h3, h4, h5⟩ := h
  exact ⟨h0, _, rfl, h1, h2, h3, by subst h1; exact h4.self, h5, fun q hq => Or.inr (by rw [← h1]; exact hq)⟩
section KR
variable {p : Program} {l : Launch} {e : Env} {R : Room} {s : State} {m : MethodId} {args : Array Value} {below : List Frame} {meth : Method} {c : Code} {H : Heap} {locs : List Loc} {cells slots : Nat} {Q : State → Prop}
variable {cc : ByteArray} {nL : Nat} {own : String} {pc : Nat} {ls : Array Slot} {rest : List Value} {D : va_G} {tys tc : List (ClassId × FieldType)} {ws : va_W} {A : Nat → Prop}
theorem kri {post : Int32 → Prop} {v : Int32} (Y : kY p m c cc nL s args own) (hr : meth.sig.returnType = some .int) (hlocks : meth.locks = false) (h : post v) (hdg : decode cc pc = .ok (.ireturn, 1)) : W p l e R s m args below meth c s.heap [] 0 0 (MQ below (vp_Si post) args s 0 0 kNo) (F0 m pc ls [.int v]) :=
  W.iret Y.1 Y.2.1 hr (fun _ ht _ => ⟨v, rfl, h, ht⟩) (fun _ h => absurd h List.not_mem_nil) hdg hlocks
theorem krz {post : Int32 → Prop} {v : Int32} (Y : kY p m c cc nL s args own) (hr : meth.sig.returnType = some .boolean) (hlocks : meth.locks = false) (hn : narrow .boolean (.int v) = .int v) (h : post v) (hdg : decode cc pc = .ok (.ireturn, 1)) : W p l e R s m args below meth c s.heap [] 0 0 (MQ below (vp_Si post) args s 0 0 kNo) (F0 m pc ls [.int v]) :=
  W.zret Y.1 Y.2.1 hr hn (fun _ ht _ => ⟨v, rfl, h, ht⟩) (fun _ h => absurd h List.not_mem_nil) hdg hlocks
theorem krl {post : Int64 → Prop} {v : Int64} (Y : kY p m c cc nL s args own) (hr : meth.sig.returnType = some .long) (hlocks : meth.locks = false) (h : post v) (hdg : decode cc pc = .ok (.lreturn, 1)) : W p l e R s m args below meth c s.heap [] 0 0 (MQ below (vp_Sl post) args s 0 0 kNo) (F0 m pc ls [.long v]) :=
  W.lret Y.1 Y.2.1 hr (fun _ ht _ => ⟨v, rfl, h, ht⟩) (fun _ h => absurd h List.not_mem_nil) hdg hlocks
theorem kqi {Sg : Type} {post : Int32 → Sg → Prop} {w1 : Sg → va_W} {v : Int32} (Y : kY p m c cc nL s args own) (hr : meth.sig.returnType = some .int) (hlocks : meth.locks = false) (hK : va_K D vwCl tc s) (hP : va_P D vwCl ws H) (hD : va_D A ws) (hS : va_S A s.heap H locs) (is : List Nat) (hn : va_nd is = true) (u : Sg) (hs : is.map (fun i => ws[i]?) = (w1 u).map some) (h : post v u) (hdg : decode cc pc = .ok (.ireturn, 1)) : W p l e R s m args below meth c H locs 0 0 (MQ below (va_Qi post (fun u => kB D tc A (w1 u)) A) args s 0 0 A) (F0 m pc ls [.int v]) :=
  W.iret Y.1 Y.2.1 hr (fun _ ht hW => ⟨⟨v, u, rfl, h, by rw [ht]; exact hP.sub is (k_fm is hs), va_K.moved hW.alike hK, hD.sub is hn hs⟩, hS.F ht⟩) hS.2.2 hdg hlocks
theorem kqz {Sg : Type} {post : Int32 → Sg → Prop} {w1 : Sg → va_W} {v : Int32} (Y : kY p m c cc nL s args own) (hr : meth.sig.returnType = some .boolean) (hlocks : meth.locks = false) (hn0 : narrow .boolean (.int v) = .int v) (hK : va_K D vwCl tc s) (hP : va_P D vwCl ws H) (hD : va_D A ws) (hS : va_S A s.heap H locs) (is : List Nat) (hn : va_nd is = true) (u : Sg) (hs : is.map (fun i => ws[i]?) = (w1 u).map some) (h : post v u) (hdg : decode cc pc = .ok (.ireturn, 1)) : W p l e R s m args below meth c H locs 0 0 (MQ below (va_Qi post (fun u => kB D tc A (w1 u)) A) args s 0 0 A) (F0 m pc ls [.int v]) :=
  W.zret Y.1 Y.2.1 hr hn0 (fun _ ht hW => ⟨⟨v, u, rfl, h, by rw [ht]; exact hP.sub is (k_fm is hs), va_K.moved hW.alike hK, hD.sub is hn hs⟩, hS.F ht⟩) hS.2.2 hdg hlocks
theorem kql {Sg : Type} {post : Int64 → Sg → Prop} {w1 : Sg → va_W} {v : Int64} (Y : kY p m c cc nL s args own) (hr : meth.sig.returnType = some .long) (hlocks : meth.locks = false) (hK : va_K D vwCl tc s) (hP : va_P D vwCl ws H) (hD : va_D A ws) (hS : va_S A s.heap H locs) (is : List Nat) (hn : va_nd is = true) (u : Sg) (hs : is.map (fun i => ws[i]?) = (w1 u).map some) (h : post v u) (hdg : decode cc pc = .ok (.lreturn, 1)) : W p l e R s m args below meth c H locs 0 0 (MQ below (va_Ql post (fun u => kB D tc A (w1 u)) A) args s 0 0 A) (F0 m pc ls [.long v]) :=
  W.lret Y.1 Y.2.1 hr (fun _ ht hW => ⟨⟨v, u, rfl, h, by rw [ht]; exact hP.sub is (k_fm is hs), va_K.moved hW.alike hK, hD.sub is hn hs⟩, hS.F ht⟩) hS.2.2 hdg hlocks
theorem kqv {Sg : Type} {post : Sg → Prop} {w1 : Sg → va_W} (Y : kY p m c cc nL s args own) (hr : meth.sig.returnType = none) (hlocks : meth.locks = false) (hK : va_K D vwCl tc s) (hP : va_P D vwCl ws H) (hD : va_D A ws) (hS : va_S A s.heap H locs) (is : List Nat) (hn : va_nd is = true) (u : Sg) (hs : is.map (fun i => ws[i]?) = (w1 u).map some) (h : post u) (hdg : decode cc pc = .ok (.return_, 1)) : W p l e R s m args below meth c H locs 0 0 (MQ below (va_Qv post (fun u => kB D tc A (w1 u)) A) args s 0 0 A) (F0 m pc ls []) :=
  W.vret Y.1 Y.2.1 hr (fun _ ht hW => ⟨⟨u, rfl, h, by rw [ht]; exact hP.sub is (k_fm is hs), va_K.moved hW.alike hK, hD.sub is hn hs⟩, hS.F ht⟩) hS.2.2 hdg hlocks
theorem nI_sub {a b : Nat} (h : b ≤ a) : nI a - nI b = nI (a - b) := pk_sub h
theorem ri_add (hx : p.tables.exec = Jvm.exec) (hb : c.code = cc) {x y : Nat} (hdg : decode cc pc = .ok (.iadd, 1)) (k : W p l e R s m args below meth c H locs cells slots Q (F0 m (pc + 1) ls (.int (nI (x + y)) :: rest))) : W p l e R s m args below meth c H locs cells slots Q (F0 m pc ls (.int (nI y) :: .int (nI x) :: rest)) :=
  lv_iadd hx hb hdg (by rw [nI_add]; exact k)
theorem ri_sub (hx : p.tables.exec = Jvm.exec) (hb : c.code = cc) {x y : Nat} (hdg : decode cc pc = .ok (.isub, 1)) (h : y ≤ x) (k : W p l e R s m args below meth c H locs cells slots Q (F0 m (pc + 1) ls (.int (nI (x - y)) :: rest))) : W p l e R s m args below meth c H locs cells slots Q (F0 m pc ls (.int (nI y) :: .int (nI x) :: rest)) :=
  lv_isub hx hb hdg (by rw [pk_sub h]; exact k)
theorem ri_mul (hx : p.tables.exec = Jvm.exec) (hb : c.code = cc) {x y : Nat} (hdg : decode cc pc = .ok (.imul, 1)) (k : W p l e R s m args below meth c H locs cells slots Q (F0 m (pc + 1) ls (.int (nI (x * y)) :: rest))) : W p l e R s m args below meth c H locs cells slots Q (F0 m pc ls (.int (nI y) :: .int (nI x) :: rest)) :=
  lv_imul hx hb hdg (by rw [pk_mul]; exact k)
theorem nI_z {n : Nat} (h0 : 0 < n) (h : n < 2147483648) : ¬ nI n = 0 := nI_ne0 h0 h
theorem ri_div (hx : p.tables.exec = Jvm.exec) (hb : c.code = cc) {x y : Nat} (hdg : decode cc pc = .ok (.idiv, 1)) (h1 : x < 2147483648) (h2 : 0 < y) (h3 : y < 2147483648) (k : W p l e R s m args below meth c H locs cells slots Q (F0 m (pc + 1) ls (.int (nI (x / y)) :: rest))) : W p l e R s m args below meth c H locs cells slots Q (F0 m pc ls (.int (nI y) :: .int (nI x) :: rest)) :=
  lv_idiv hx hb hdg (nI_z h2 h3) (by rw [pk_div h1 h2 h3]; exact k)
theorem ri_rem (hx : p.tables.exec = Jvm.exec) (hb : c.code = cc) {x y : Nat} (hdg : decode cc pc = .ok (.irem, 1)) (h1 : x < 2147483648) (h2 : 0 < y) (h3 : y < 2147483648) (k : W p l e R s m args below meth c H locs cells slots Q (F0 m (pc + 1) ls (.int (nI (x % y)) :: rest))) : W p l e R s m args below meth c H locs cells slots Q (F0 m pc ls (.int (nI y) :: .int (nI x) :: rest)) :=
  lv_irem hx hb hdg (nI_z h2 h3) (by rw [pk_rem h1 h2 h3]; exact k)
theorem ri_i2l (hx : p.tables.exec = Jvm.exec) (hb : c.code = cc) {x : Nat} (hdg : decode cc pc = .ok (.i2l, 1)) (h : x < 2147483648) (k : W p l e R s m args below meth c H locs cells slots Q (F0 m (pc + 1) ls (.long (lN x) :: rest))) : W p l e R s m args below meth c H locs cells slots Q (F0 m pc ls (.int (nI x) :: rest)) :=
  lv_i2l hx hb hdg (nI_l h) k
theorem ri_set (hx : p.tables.exec = Jvm.exec) (hb : c.code = cc) {x x' : Int32} (e0 : x = x') (k : W p l e R s m args below meth c H locs cells slots Q (F0 m pc ls (.int x' :: rest))) : W p l e R s m args below meth c H locs cells slots Q (F0 m pc ls (.int x :: rest)) := by subst e0; exact k
theorem rl_set {x x' : Int64} (e0 : x = x') (k : W p l e R s m args below meth c H locs cells slots Q (F0 m pc ls (.long x' :: rest))) : W p l e R s m args below meth c H locs cells slots Q (F0 m pc ls (.long x :: rest)) := by subst e0; exact k
theorem nI_in' {n N : Nat} (h : n < N) (hN : N < 2147483648) : vp_in (nI n) N := vp_in_nI h hN
theorem nI_cl {n : Nat} (h : n < 2147483648) : (nI n).toNatClampNeg = n := nI_clamp h
theorem ri_ald (hx : p.tables.exec = Jvm.exec) (hb : c.code = cc) {a : Nat} (hK : va_K D vwCl tys s) (hP : va_P D vwCl ws H) (q0 t0 : Nat) {cA : ClassId} {n : Nat} {F : Nat → Nat} (ha : ws[q0]? = some (a, .inl (cA, n, .inl (fun j => nI (F j))))) (ht : tys[t0]? = some (cA, .int)) {i : Nat} (hdg : decode cc pc = .ok (.iaload, 1)) (hN : n < 2147483648) (hin : i < n) (k : W p l e R s m args below meth c H locs cells slots Q (F0 m (pc + 1) ls (.int (nI (F i)) :: rest))) : W p l e R s m args below meth c H locs cells slots Q (F0 m pc ls (.int (nI i) :: .ref a :: rest)) :=
  va_iald hx hb hK hP q0 t0 ha ht (nI_in' hin hN) hdg (by rw [nI_cl (Nat.lt_trans hin hN)]; exact k)
theorem rl_ald (hx : p.tables.exec = Jvm.exec) (hb : c.code = cc) {a : Nat} (hK : va_K D vwCl tys s) (hP : va_P D vwCl ws H) (q0 t0 : Nat) {cA : ClassId} {n : Nat} {F : Nat → Int64} (ha : ws[q0]? = some (a, .inl (cA, n, .inr (.inl F)))) (ht : tys[t0]? = some (cA, .long)) {i : Nat} (hdg : decode cc pc = .ok (.laload, 1)) (hN : n < 2147483648) (hin : i < n) (k : W p l e R s m args below meth c H locs cells slots Q (F0 m (pc + 1) ls (.long (F i) :: rest))) : W p l e R s m args below meth c H locs cells slots Q (F0 m pc ls (.int (nI i) :: .ref a :: rest)) :=
  va_lald hx hb hK hP q0 t0 ha ht (nI_in' hin hN) hdg (by rw [nI_cl (Nat.lt_trans hin hN)]; exact k)
theorem ri_ast (hx : p.tables.exec = Jvm.exec) (hb : c.code = cc) {a : Nat} (hK : va_K D vwCl tys s) (hP : va_P D vwCl ws H) (hD : va_D A ws) (hS : va_S A s.heap H locs) (q0 t0 : Nat) {cA : ClassId} {n : Nat} {F : Nat → Nat} (ha : ws[q0]? = some (a, .inl (cA, n, .inl (fun j => nI (F j))))) (ht : tys[t0]? = some (cA, .int)) {i v : Nat} (hdg : decode cc pc = .ok (.iastore, 1)) (hN : n < 2147483648) (hin : i < n)
    (kk : ∀ (H1 : Heap) (locs1 : List Loc), va_P D vwCl (ws.set q0 (a, .inl (cA, n, .inl (fun j => nI (updN F i v j))))) H1 → va_D A (ws.set q0 (a, .inl (cA, n, .inl (fun j => nI (updN F i v j))))) → va_S A s.heap H1 locs1 → W p l e R s m args below meth c H1 locs1 cells slots Q (F0 m (pc + 1) ls rest)) : W p l e R s m args below meth c H locs cells slots Q (F0 m pc ls (.int (nI v) :: .int (nI i) :: .ref a :: rest)) := by
  refine va_iast hx hb hK hP hD hS q0 t0 ha ht (nI_in' hin hN) hdg ?_
  rw [nI_cl (Nat.lt_trans hin hN), updN_nI]
  exact kk
theorem rl_ast (hx : p.tables.exec = Jvm.exec) (hb : c.code = cc) {a : Nat} (hK : va_K D vwCl tys s) (hP : va_P D vwCl ws H) (hD : va_D A ws) (hS : va_S A s.heap H locs) (q0 t0 : Nat) {cA : ClassId} {n : Nat} {F : Nat → Int64} (ha : ws[q0]? = some (a, .inl (cA, n, .inr (.inl F)))) (ht : tys[t0]? = some (cA, .long)) {i : Nat} {v : Int64} (hdg : decode cc pc = .ok (.lastore, 1)) (hN : n < 2147483648) (hin : i < n)
    (kk : ∀ (H1 : Heap) (locs1 : List Loc), va_P D vwCl (ws.set q0 (a, .inl (cA, n, .inr (.inl (updL F i v))))) H1 → va_D A (ws.set q0 (a, .inl (cA, n, .inr (.inl (updL F i v))))) → va_S A s.heap H1 locs1 → W p l e R s m args below meth c H1 locs1 cells slots Q (F0 m (pc + 1) ls rest)) : W p l e R s m args below meth c H locs cells slots Q (F0 m pc ls (.long v :: .int (nI i) :: .ref a :: rest)) := by
  refine va_last hx hb hK hP hD hS q0 t0 ha ht (nI_in' hin hN) hdg ?_
  rw [nI_cl (Nat.lt_trans hin hN)]
  exact kk
/-- a static array: its address, then a place of it -/
theorem r_gets (Y : kY p m c cc nL s args own) {C n d ref : String} {index : Nat} {ty : FieldType} {N : Nat} {f : Nat → Nat} (hZ : kT C n d ty N f A s s.heap) (hS : va_S A s.heap H locs) (hlink : Cond.fieldLink own index ref n d ∈ AW) (hsame : ∀ x, s.fieldFound? C n d = some x → s.fieldFound? ref n d = some x) (hdg : decode cc pc = .ok (.getstatic index, 3))
    (kk : ∀ t : Nat, va_T ty t N (fun j => .int (nI (f j))) A s s.heap → W p l e R s m args below meth c H locs cells slots Q (F0 m (pc + 3) ls (.ref t :: rest))) : W p l e R s m args below meth c H locs cells slots Q (F0 m pc ls rest) := by
  obtain ⟨t, h1, h2⟩ := hZ
  exact va_gets Y.1 Y.2.1 h1 hS Y.2.2.2.1 (Y.2.2.2.2 _ hlink) hsame hdg (kk t h2)
theorem r_ti (hx : p.tables.exec = Jvm.exec) (hb : c.code = cc) {t N i : Nat} {f : Nat → Nat} (hT : va_T .int t N (fun j => .int (nI (f j))) A s s.heap) (hS : va_S A s.heap H locs) (hdg : decode cc pc = .ok (.iaload, 1)) (hN : N < 2147483648) (hin : i < N) (k : W p l e R s m args below meth c H locs cells slots Q (F0 m (pc + 1) ls (.int (nI (f i)) :: rest))) : W p l e R s m args below meth c H locs cells slots Q (F0 m pc ls (.int (nI i) :: .ref t :: rest)) :=
  va_ti hx hb hT hS (nI_in' hin hN) (v := .int (nI (f i))) (by rw [nI_cl (Nat.lt_trans hin hN)]) hdg k
theorem r_tc (hx : p.tables.exec = Jvm.exec) (hb : c.code = cc) {t N i : Nat} {f : Nat → Nat} (hT : va_T .char t N (fun j => .int (nI (f j))) A s s.heap) (hS : va_S A s.heap H locs) (hdg : decode cc pc = .ok (.caload, 1)) (hN : N < 2147483648) (hin : i < N) (k : W p l e R s m args below meth c H locs cells slots Q (F0 m (pc + 1) ls (.int (nI (f i)) :: rest))) : W p l e R s m args below meth c H locs cells slots Q (F0 m pc ls (.int (nI i) :: .ref t :: rest)) :=
  va_tc hx hb hT hS (nI_in' hin hN) (v := .int (nI (f i))) (by rw [nI_cl (Nat.lt_trans hin hN)]) hdg k
theorem ri_ceq (hx : p.tables.exec = Jvm.exec) (hb : c.code = cc) {a b : Nat} {off : Int} {tgt : Nat} (hdg : decode cc pc = .ok (.if_icmp .eq off, 3)) (ht : (pc : Int) + off = (tgt : Int)) (ha : a < 2147483648) (hb2 : b < 2147483648)
    (kt : a = b → W p l e R s m args below meth c H locs cells slots Q (F0 m tgt ls rest)) (kf : a ≠ b → W p l e R s m args below meth c H locs cells slots Q (F0 m (pc + 3) ls rest)) : W p l e R s m args below meth c H locs cells slots Q (F0 m pc ls (.int (nI b) :: .int (nI a) :: rest)) :=
  lv_icmp_eq hx hb hdg ht (fun h => kt ((nI_eq ha hb2).mp h)) (fun h => kf (by have h2 : ¬ (a = b) := fun q => h ((nI_eq ha hb2).mpr q); omega))
theorem ri_cne (hx : p.tables.exec = Jvm.exec) (hb : c.code = cc) {a b : Nat} {off : Int} {tgt : Nat} (hdg : decode cc pc = .ok (.if_icmp .ne off, 3)) (ht : (pc : Int) + off = (tgt : Int)) (ha : a < 2147483648) (hb2 : b < 2147483648)
    (kt : a ≠ b → W p l e R s m args below meth c H locs cells slots Q (F0 m tgt ls rest)) (kf : a = b → W p l e R s m args below meth c H locs cells slots Q (F0 m (pc + 3) ls rest)) : W p l e R s m args below meth c H locs cells slots Q (F0 m pc ls (.int (nI b) :: .int (nI a) :: rest)) :=
  lv_icmp_ne hx hb hdg ht (fun h => kt (fun q => h ((nI_eq ha hb2).mpr q))) (fun h => kf ((nI_eq ha hb2).mp h))
theorem ri_clt (hx : p.tables.exec = Jvm.exec) (hb : c.code = cc) {a b : Nat} {off : Int} {tgt : Nat} (hdg : decode cc pc = .ok (.if_icmp .lt off, 3)) (ht : (pc : Int) + off = (tgt : Int)) (ha : a < 2147483648) (hb2 : b < 2147483648)
    (kt : a < b → W p l e R s m args below meth c H locs cells slots Q (F0 m tgt ls rest)) (kf : b ≤ a → W p l e R s m args below meth c H locs cells slots Q (F0 m (pc + 3) ls rest)) : W p l e R s m args below meth c H locs cells slots Q (F0 m pc ls (.int (nI b) :: .int (nI a) :: rest)) :=
  lv_icmp_lt hx hb hdg ht (fun h => kt ((nI_ltI ha hb2).mp h)) (fun h => kf (by have h2 : ¬ (a < b) := fun q => h ((nI_ltI ha hb2).mpr q); omega))
theorem ri_cge (hx : p.tables.exec = Jvm.exec) (hb : c.code = cc) {a b : Nat} {off : Int} {tgt : Nat} (hdg : decode cc pc = .ok (.if_icmp .ge off, 3)) (ht : (pc : Int) + off = (tgt : Int)) (ha : a < 2147483648) (hb2 : b < 2147483648)
    (kt : b ≤ a → W p l e R s m args below meth c H locs cells slots Q (F0 m tgt ls rest)) (kf : a < b → W p l e R s m args below meth c H locs cells slots Q (F0 m (pc + 3) ls rest)) : W p l e R s m args below meth c H locs cells slots Q (F0 m pc ls (.int (nI b) :: .int (nI a) :: rest)) :=
  lv_icmp_ge hx hb hdg ht (fun h => kt ((nI_leI hb2 ha).mp h)) (fun h => kf (by have h2 : ¬ (b ≤ a) := fun q => h ((nI_leI hb2 ha).mpr q); omega))
theorem ri_cgt (hx : p.tables.exec = Jvm.exec) (hb : c.code = cc) {a b : Nat} {off : Int} {tgt : Nat} (hdg : decode cc pc = .ok (.if_icmp .gt off, 3)) (ht : (pc : Int) + off = (tgt : Int)) (ha : a < 2147483648) (hb2 : b < 2147483648)
    (kt : b < a → W p l e R s m args below meth c H locs cells slots Q (F0 m tgt ls rest)) (kf : a ≤ b → W p l e R s m args below meth c H locs cells slots Q (F0 m (pc + 3) ls rest)) : W p l e R s m args below meth c H locs cells slots Q (F0 m pc ls (.int (nI b) :: .int (nI a) :: rest)) :=
  lv_icmp_gt hx hb hdg ht (fun h => kt ((nI_ltI hb2 ha).mp h)) (fun h => kf (by have h2 : ¬ (b < a) := fun q => h ((nI_ltI hb2 ha).mpr q); omega))
theorem ri_cle (hx : p.tables.exec = Jvm.exec) (hb : c.code = cc) {a b : Nat} {off : Int} {tgt : Nat} (hdg : decode cc pc = .ok (.if_icmp .le off, 3)) (ht : (pc : Int) + off = (tgt : Int)) (ha : a < 2147483648) (hb2 : b < 2147483648)
    (kt : a ≤ b → W p l e R s m args below meth c H locs cells slots Q (F0 m tgt ls rest)) (kf : b < a → W p l e R s m args below meth c H locs cells slots Q (F0 m (pc + 3) ls rest)) : W p l e R s m args below meth c H locs cells slots Q (F0 m pc ls (.int (nI b) :: .int (nI a) :: rest)) :=
  lv_icmp_le hx hb hdg ht (fun h => kt ((nI_leI ha hb2).mp h)) (fun h => kf (by have h2 : ¬ (a ≤ b) := fun q => h ((nI_leI ha hb2).mpr q); omega))
theorem nI_0' : nI 0 = 0 := nI_0
theorem ri_zeq (hx : p.tables.exec = Jvm.exec) (hb : c.code = cc) {a : Nat} {off : Int} {tgt : Nat} (hdg : decode cc pc = .ok (.ifCond .eq off, 3)) (ht : (pc : Int) + off = (tgt : Int)) (ha : a < 2147483648)
    (kt : a = 0 → W p l e R s m args below meth c H locs cells slots Q (F0 m tgt ls rest)) (kf : a ≠ 0 → W p l e R s m args below meth c H locs cells slots Q (F0 m (pc + 3) ls rest)) : W p l e R s m args below meth c H locs cells slots Q (F0 m pc ls (.int (nI a) :: rest)) := by
  have hb2 : 0 < 2147483648 := by decide
  have hh := (nI_eq ha hb2)
  rw [nI_0] at hh
  exact lv_if_eq hx hb hdg ht (fun h => kt (hh.mp h)) (fun h => kf (by have h2 : ¬ (a = 0) := fun q => h (hh.mpr q); omega))
theorem ri_zne (hx : p.tables.exec = Jvm.exec) (hb : c.code = cc) {a : Nat} {off : Int} {tgt : Nat} (hdg : decode cc pc = .ok (.ifCond .ne off, 3)) (ht : (pc : Int) + off = (tgt : Int)) (ha : a < 2147483648)
    (kt : a ≠ 0 → W p l e R s m args below meth c H locs cells slots Q (F0 m tgt ls rest)) (kf : a = 0 → W p l e R s m args below meth c H locs cells slots Q (F0 m (pc + 3) ls rest)) : W p l e R s m args below meth c H locs cells slots Q (F0 m pc ls (.int (nI a) :: rest)) := by
  have hb2 : 0 < 2147483648 := by decide
  have hh := (nI_eq ha hb2)
  rw [nI_0] at hh
  exact lv_if_ne hx hb hdg ht (fun h => kt (fun q => h (hh.mpr q))) (fun h => kf (hh.mp h))
theorem ri_zlt (hx : p.tables.exec = Jvm.exec) (hb : c.code = cc) {a : Nat} {off : Int} {tgt : Nat} (hdg : decode cc pc = .ok (.ifCond .lt off, 3)) (ht : (pc : Int) + off = (tgt : Int)) (ha : a < 2147483648)
    (kt : a < 0 → W p l e R s m args below meth c H locs cells slots Q (F0 m tgt ls rest)) (kf : 0 ≤ a → W p l e R s m args below meth c H locs cells slots Q (F0 m (pc + 3) ls rest)) : W p l e R s m args below meth c H locs cells slots Q (F0 m pc ls (.int (nI a) :: rest)) := by
  have hb2 : 0 < 2147483648 := by decide
  have hh := (nI_ltI ha hb2)
  rw [nI_0] at hh
  exact lv_if_lt hx hb hdg ht (fun h => kt (hh.mp h)) (fun h => kf (by have h2 : ¬ (a < 0) := fun q => h (hh.mpr q); omega))
theorem ri_zge (hx : p.tables.exec = Jvm.exec) (hb : c.code = cc) {a : Nat} {off : Int} {tgt : Nat} (hdg : decode cc pc = .ok (.ifCond .ge off, 3)) (ht : (pc : Int) + off = (tgt : Int)) (ha : a < 2147483648)
    (kt : 0 ≤ a → W p l e R s m args below meth c H locs cells slots Q (F0 m tgt ls rest)) (kf : a < 0 → W p l e R s m args below meth c H locs cells slots Q (F0 m (pc + 3) ls rest)) : W p l e R s m args below meth c H locs cells slots Q (F0 m pc ls (.int (nI a) :: rest)) := by
  have hb2 : 0 < 2147483648 := by decide
  have hh := (nI_leI hb2 ha)
  rw [nI_0] at hh
  exact lv_if_ge hx hb hdg ht (fun h => kt (hh.mp h)) (fun h => kf (by have h2 : ¬ (0 ≤ a) := fun q => h (hh.mpr q); omega))
theorem ri_zgt (hx : p.tables.exec = Jvm.exec) (hb : c.code = cc) {a : Nat} {off : Int} {tgt : Nat} (hdg : decode cc pc = .ok (.ifCond .gt off, 3)) (ht : (pc : Int) + off = (tgt : Int)) (ha : a < 2147483648)
    (kt : 0 < a → W p l e R s m args below meth c H locs cells slots Q (F0 m tgt ls rest)) (kf : a ≤ 0 → W p l e R s m args below meth c H locs cells slots Q (F0 m (pc + 3) ls rest)) : W p l e R s m args below meth c H locs cells slots Q (F0 m pc ls (.int (nI a) :: rest)) := by
  have hb2 : 0 < 2147483648 := by decide
  have hh := (nI_ltI hb2 ha)
  rw [nI_0] at hh
  exact lv_if_gt hx hb hdg ht (fun h => kt (hh.mp h)) (fun h => kf (by have h2 : ¬ (0 < a) := fun q => h (hh.mpr q); omega))
theorem ri_zle (hx : p.tables.exec = Jvm.exec) (hb : c.code = cc) {a : Nat} {off : Int} {tgt : Nat} (hdg : decode cc pc = .ok (.ifCond .le off, 3)) (ht : (pc : Int) + off = (tgt : Int)) (ha : a < 2147483648)
    (kt : a ≤ 0 → W p l e R s m args below meth c H locs cells slots Q (F0 m tgt ls rest)) (kf : 0 < a → W p l e R s m args below meth c H locs cells slots Q (F0 m (pc + 3) ls rest)) : W p l e R s m args below meth c H locs cells slots Q (F0 m pc ls (.int (nI a) :: rest)) := by
  have hb2 : 0 < 2147483648 := by decide
  have hh := (nI_leI ha hb2)
  rw [nI_0] at hh
  exact lv_if_le hx hb hdg ht (fun h => kt (hh.mp h)) (fun h => kf (by have h2 : ¬ (a ≤ 0) := fun q => h (hh.mpr q); omega))
theorem ri_beq (hx : p.tables.exec = Jvm.exec) (hb : c.code = cc) {P : Prop} [Decidable P] {off : Int} {tgt : Nat} (hdg : decode cc pc = .ok (.ifCond .eq off, 3)) (ht : (pc : Int) + off = (tgt : Int))
    (kt : ¬ P → W p l e R s m args below meth c H locs cells slots Q (F0 m tgt ls rest)) (kf : P → W p l e R s m args below meth c H locs cells slots Q (F0 m (pc + 3) ls rest)) : W p l e R s m args below meth c H locs cells slots Q (F0 m pc ls (.int (b2i P) :: rest)) :=
  lv_if_eq hx hb hdg ht (fun h => kt (b2i_0.mp h)) (fun h => kf (Decidable.not_not.mp (fun q => h (b2i_0.mpr q))))
theorem ri_bne (hx : p.tables.exec = Jvm.exec) (hb : c.code = cc) {P : Prop} [Decidable P] {off : Int} {tgt : Nat} (hdg : decode cc pc = .ok (.ifCond .ne off, 3)) (ht : (pc : Int) + off = (tgt : Int))
    (kt : P → W p l e R s m args below meth c H locs cells slots Q (F0 m tgt ls rest)) (kf : ¬ P → W p l e R s m args below meth c H locs cells slots Q (F0 m (pc + 3) ls rest)) : W p l e R s m args below meth c H locs cells slots Q (F0 m pc ls (.int (b2i P) :: rest)) :=
  lv_if_ne hx hb hdg ht (fun h => kt (Decidable.not_not.mp (fun q => h (b2i_0.mpr q)))) (fun h => kf (b2i_0.mp h))
theorem rl_lt (hx : p.tables.exec = Jvm.exec) (hb : c.code = cc) {x y : Int64} {off : Int} {tgt : Nat} (hd0 : decode cc pc = .ok (.lcmp, 1)) (hdg : decode cc (pc + 1) = .ok (.ifCond .lt off, 3)) (ht : ((pc + 1 : Nat) : Int) + off = (tgt : Int))
    (kt : x < y → W p l e R s m args below meth c H locs cells slots Q (F0 m tgt ls rest)) (kf : ¬ (x < y) → W p l e R s m args below meth c H locs cells slots Q (F0 m (pc + 1 + 3) ls rest)) : W p l e R s m args below meth c H locs cells slots Q (F0 m pc ls (.long y :: .long x :: rest)) :=
  W.lcmp hx hb hd0 (lv_if_lt hx hb hdg ht (fun h => kt ((lg_cmp_lt x y).mp h)) (fun h => kf (fun q => h ((lg_cmp_lt x y).mpr q))))
theorem rl_le (hx : p.tables.exec = Jvm.exec) (hb : c.code = cc) {x y : Int64} {off : Int} {tgt : Nat} (hd0 : decode cc pc = .ok (.lcmp, 1)) (hdg : decode cc (pc + 1) = .ok (.ifCond .le off, 3)) (ht : ((pc + 1 : Nat) : Int) + off = (tgt : Int))
    (kt : x ≤ y → W p l e R s m args below meth c H locs cells slots Q (F0 m tgt ls rest)) (kf : ¬ (x ≤ y) → W p l e R s m args below meth c H locs cells slots Q (F0 m (pc + 1 + 3) ls rest)) : W p l e R s m args below meth c H locs cells slots Q (F0 m pc ls (.long y :: .long x :: rest)) :=
  W.lcmp hx hb hd0 (lv_if_le hx hb hdg ht (fun h => kt ((lg_cmp_le x y).mp h)) (fun h => kf (fun q => h ((lg_cmp_le x y).mpr q))))
theorem rl_gt (hx : p.tables.exec = Jvm.exec) (hb : c.code = cc) {x y : Int64} {off : Int} {tgt : Nat} (hd0 : decode cc pc = .ok (.lcmp, 1)) (hdg : decode cc (pc + 1) = .ok (.ifCond .gt off, 3)) (ht : ((pc + 1 : Nat) : Int) + off = (tgt : Int))
    (kt : y < x → W p l e R s m args below meth c H locs cells slots Q (F0 m tgt ls rest)) (kf : ¬ (y < x) → W p l e R s m args below meth c H locs cells slots Q (F0 m (pc + 1 + 3) ls rest)) : W p l e R s m args below meth c H locs cells slots Q (F0 m pc ls (.long y :: .long x :: rest)) :=
  W.lcmp hx hb hd0 (lv_if_gt hx hb hdg ht (fun h => kt ((lg_cmp_gt x y).mp h)) (fun h => kf (fun q => h ((lg_cmp_gt x y).mpr q))))
theorem rl_ge (hx : p.tables.exec = Jvm.exec) (hb : c.code = cc) {x y : Int64} {off : Int} {tgt : Nat} (hd0 : decode cc pc = .ok (.lcmp, 1)) (hdg : decode cc (pc + 1) = .ok (.ifCond .ge off, 3)) (ht : ((pc + 1 : Nat) : Int) + off = (tgt : Int))
    (kt : y ≤ x → W p l e R s m args below meth c H locs cells slots Q (F0 m tgt ls rest)) (kf : ¬ (y ≤ x) → W p l e R s m args below meth c H locs cells slots Q (F0 m (pc + 1 + 3) ls rest)) : W p l e R s m args below meth c H locs cells slots Q (F0 m pc ls (.long y :: .long x :: rest)) :=
  W.lcmp hx hb hd0 (lv_if_ge hx hb hdg ht (fun h => kt ((lg_cmp_ge x y).mp h)) (fun h => kf (fun q => h ((lg_cmp_ge x y).mpr q))))
theorem rl_eq (hx : p.tables.exec = Jvm.exec) (hb : c.code = cc) {x y : Int64} {off : Int} {tgt : Nat} (hd0 : decode cc pc = .ok (.lcmp, 1)) (hdg : decode cc (pc + 1) = .ok (.ifCond .eq off, 3)) (ht : ((pc + 1 : Nat) : Int) + off = (tgt : Int))
    (kt : x = y → W p l e R s m args below meth c H locs cells slots Q (F0 m tgt ls rest)) (kf : ¬ (x = y) → W p l e R s m args below meth c H locs cells slots Q (F0 m (pc + 1 + 3) ls rest)) : W p l e R s m args below meth c H locs cells slots Q (F0 m pc ls (.long y :: .long x :: rest)) :=
  W.lcmp hx hb hd0 (lv_if_eq hx hb hdg ht (fun h => kt ((lg_cmp_eq x y).mp h)) (fun h => kf (fun q => h ((lg_cmp_eq x y).mpr q))))
theorem rl_ne (hx : p.tables.exec = Jvm.exec) (hb : c.code = cc) {x y : Int64} {off : Int} {tgt : Nat} (hd0 : decode cc pc = .ok (.lcmp, 1)) (hdg : decode cc (pc + 1) = .ok (.ifCond .ne off, 3)) (ht : ((pc + 1 : Nat) : Int) + off = (tgt : Int))
    (kt : ¬ x = y → W p l e R s m args below meth c H locs cells slots Q (F0 m tgt ls rest)) (kf : ¬ (¬ x = y) → W p l e R s m args below meth c H locs cells slots Q (F0 m (pc + 1 + 3) ls rest)) : W p l e R s m args below meth c H locs cells slots Q (F0 m pc ls (.long y :: .long x :: rest)) :=
  W.lcmp hx hb hd0 (lv_if_ne hx hb hdg ht (fun h => kt (fun q => h ((lg_cmp_eq x y).mpr q))) (fun h => kf (fun q => q ((lg_cmp_eq x y).mp h))))
theorem wl1 {A1 : Type} (μ : A1 → Nat) (I : A1 → Array Slot → Heap → List Loc → Prop) (a1 : A1) (h0 : I a1 ls H locs) (step : ∀ (a1 : A1) (ls : Array Slot) (H : Heap) (locs : List Loc), I a1 ls H locs → (∀ (b1 : A1) (ls' : Array Slot) (H' : Heap) (locs' : List Loc), μ b1 < μ a1 → I b1 ls' H' locs' → W p l e R s m args below meth c H' locs' cells slots Q (F0 m pc ls' rest)) → W p l e R s m args below meth c H locs cells slots Q (F0 m pc ls rest)) : W p l e R s m args below meth c H locs cells slots Q (F0 m pc ls rest) := by
  have key : ∀ (n : Nat) (a1 : A1) (ls : Array Slot) (H : Heap) (locs : List Loc), μ a1 < n → I a1 ls H locs → W p l e R s m args below meth c H locs cells slots Q (F0 m pc ls rest) := by
    intro n
    induction n with
    | zero => intro a1 ls H locs h; exact absurd h (Nat.not_lt_zero _)
    | succ n ih =>
      intro a1 ls H locs h hI
      exact step a1 ls H locs hI (fun b1 ls' H' locs' hm hI' => ih b1 ls' H' locs' (by omega) hI')
  exact key _ a1 ls H locs (Nat.lt_succ_self _) h0
theorem wr1 {A1 : Type} (μ : A1 → Nat) (I : A1 → Array Slot → Prop) (a1 : A1) (h0 : I a1 ls) (step : ∀ (a1 : A1) (ls : Array Slot), I a1 ls → (∀ (b1 : A1) (ls' : Array Slot), μ b1 < μ a1 → I b1 ls' → W p l e R s m args below meth c H locs cells slots Q (F0 m pc ls' rest)) → W p l e R s m args below meth c H locs cells slots Q (F0 m pc ls rest)) : W p l e R s m args below meth c H locs cells slots Q (F0 m pc ls rest) := by
  have key : ∀ (n : Nat) (a1 : A1) (ls : Array Slot), μ a1 < n → I a1 ls → W p l e R s m args below meth c H locs cells slots Q (F0 m pc ls rest) := by
    intro n
    induction n with
    | zero => intro a1 ls h; exact absurd h (Nat.not_lt_zero _)
    | succ n ih =>
      intro a1 ls h hI
      exact step a1 ls hI (fun b1 ls' hm hI' => ih b1 ls' (by omega) hI')
  exact key _ a1 ls (Nat.lt_succ_self _) h0
theorem wl2 {A1 A2 : Type} (μ : A1 → A2 → Nat) (I : A1 → A2 → Array Slot → Heap → List Loc → Prop) (a1 : A1) (a2 : A2) (h0 : I a1 a2 ls H locs) (step : ∀ (a1 : A1) (a2 : A2) (ls : Array Slot) (H : Heap) (locs : List Loc), I a1 a2 ls H locs → (∀ (b1 : A1) (b2 : A2) (ls' : Array Slot) (H' : Heap) (locs' : List Loc), μ b1 b2 < μ a1 a2 → I b1 b2 ls' H' locs' → W p l e R s m args below meth c H' locs' cells slots Q (F0 m pc ls' rest)) → W p l e R s m args below meth c H locs cells slots Q (F0 m pc ls rest)) : W p l e R s m args below meth c H locs cells slots Q (F0 m pc ls rest) := by
  have key : ∀ (n : Nat) (a1 : A1) (a2 : A2) (ls : Array Slot) (H : Heap) (locs : List Loc), μ a1 a2 < n → I a1 a2 ls H locs → W p l e R s m args below meth c H locs cells slots Q (F0 m pc ls rest) := by
    intro n
    induction n with
    | zero => intro a1 a2 ls H locs h; exact absurd h (Nat.not_lt_zero _)
    | succ n ih =>
      intro a1 a2 ls H locs h hI
      exact step a1 a2 ls H locs hI (fun b1 b2 ls' H' locs' hm hI' => ih b1 b2 ls' H' locs' (by omega) hI')
  exact key _ a1 a2 ls H locs (Nat.lt_succ_self _) h0
theorem wr2 {A1 A2 : Type} (μ : A1 → A2 → Nat) (I : A1 → A2 → Array Slot → Prop) (a1 : A1) (a2 : A2) (h0 : I a1 a2 ls) (step : ∀ (a1 : A1) (a2 : A2) (ls : Array Slot), I a1 a2 ls → (∀ (b1 : A1) (b2 : A2) (ls' : Array Slot), μ b1 b2 < μ a1 a2 → I b1 b2 ls' → W p l e R s m args below meth c H locs cells slots Q (F0 m pc ls' rest)) → W p l e R s m args below meth c H locs cells slots Q (F0 m pc ls rest)) : W p l e R s m args below meth c H locs cells slots Q (F0 m pc ls rest) := by
  have key : ∀ (n : Nat) (a1 : A1) (a2 : A2) (ls : Array Slot), μ a1 a2 < n → I a1 a2 ls → W p l e R s m args below meth c H locs cells slots Q (F0 m pc ls rest) := by
    intro n
    induction n with
    | zero => intro a1 a2 ls h; exact absurd h (Nat.not_lt_zero _)
    | succ n ih =>
      intro a1 a2 ls h hI
      exact step a1 a2 ls hI (fun b1 b2 ls' hm hI' => ih b1 b2 ls' (by omega) hI')
  exact key _ a1 a2 ls (Nat.lt_succ_self _) h0
theorem wl3 {A1 A2 A3 : Type} (μ : A1 → A2 → A3 → Nat) (I : A1 → A2 → A3 → Array Slot → Heap → List Loc → Prop) (a1 : A1) (a2 : A2) (a3 : A3) (h0 : I a1 a2 a3 ls H locs) (step : ∀ (a1 : A1) (a2 : A2) (a3 : A3) (ls : Array Slot) (H : Heap) (locs : List Loc), I a1 a2 a3 ls H locs → (∀ (b1 : A1) (b2 : A2) (b3 : A3) (ls' : Array Slot) (H' : Heap) (locs' : List Loc), μ b1 b2 b3 < μ a1 a2 a3 → I b1 b2 b3 ls' H' locs' → W p l e R s m args below meth c H' locs' cells slots Q (F0 m pc ls' rest)) → W p l e R s m args below meth c H locs cells slots Q (F0 m pc ls rest)) : W p l e R s m args below meth c H locs cells slots Q (F0 m pc ls rest) := by
  have key : ∀ (n : Nat) (a1 : A1) (a2 : A2) (a3 : A3) (ls : Array Slot) (H : Heap) (locs : List Loc), μ a1 a2 a3 < n → I a1 a2 a3 ls H locs → W p l e R s m args below meth c H locs cells slots Q (F0 m pc ls rest) := by
    intro n
    induction n with
    | zero => intro a1 a2 a3 ls H locs h; exact absurd h (Nat.not_lt_zero _)
    | succ n ih =>
      intro a1 a2 a3 ls H locs h hI
      exact step a1 a2 a3 ls H locs hI (fun b1 b2 b3 ls' H' locs' hm hI' => ih b1 b2 b3 ls' H' locs' (by omega) hI')
  exact key _ a1 a2 a3 ls H locs (Nat.lt_succ_self _) h0
theorem wr3 {A1 A2 A3 : Type} (μ : A1 → A2 → A3 → Nat) (I : A1 → A2 → A3 → Array Slot → Prop) (a1 : A1) (a2 : A2) (a3 : A3) (h0 : I a1 a2 a3 ls) (step : ∀ (a1 : A1) (a2 : A2) (a3 : A3) (ls : Array Slot), I a1 a2 a3 ls → (∀ (b1 : A1) (b2 : A2) (b3 : A3) (ls' : Array Slot), μ b1 b2 b3 < μ a1 a2 a3 → I b1 b2 b3 ls' → W p l e R s m args below meth c H locs cells slots Q (F0 m pc ls' rest)) → W p l e R s m args below meth c H locs cells slots Q (F0 m pc ls rest)) : W p l e R s m args below meth c H locs cells slots Q (F0 m pc ls rest) := by
  have key : ∀ (n : Nat) (a1 : A1) (a2 : A2) (a3 : A3) (ls : Array Slot), μ a1 a2 a3 < n → I a1 a2 a3 ls → W p l e R s m args below meth c H locs cells slots Q (F0 m pc ls rest) := by
    intro n
    induction n with
    | zero => intro a1 a2 a3 ls h; exact absurd h (Nat.not_lt_zero _)
    | succ n ih =>
      intro a1 a2 a3 ls h hI
      exact step a1 a2 a3 ls hI (fun b1 b2 b3 ls' hm hI' => ih b1 b2 b3 ls' (by omega) hI')
  exact key _ a1 a2 a3 ls (Nat.lt_succ_self _) h0
theorem wl4 {A1 A2 A3 A4 : Type} (μ : A1 → A2 → A3 → A4 → Nat) (I : A1 → A2 → A3 → A4 → Array Slot → Heap → List Loc → Prop) (a1 : A1) (a2 : A2) (a3 : A3) (a4 : A4) (h0 : I a1 a2 a3 a4 ls H locs) (step : ∀ (a1 : A1) (a2 : A2) (a3 : A3) (a4 : A4) (ls : Array Slot) (H : Heap) (locs : List Loc), I a1 a2 a3 a4 ls H locs → (∀ (b1 : A1) (b2 : A2) (b3 : A3) (b4 : A4) (ls' : Array Slot) (H' : Heap) (locs' : List Loc), μ b1 b2 b3 b4 < μ a1 a2 a3 a4 → I b1 b2 b3 b4 ls' H' locs' → W p l e R s m args below meth c H' locs' cells slots Q (F0 m pc ls' rest)) → W p l e R s m args below meth c H locs cells slots Q (F0 m pc ls rest)) : W p l e R s m args below meth c H locs cells slots Q (F0 m pc ls rest) := by
  have key : ∀ (n : Nat) (a1 : A1) (a2 : A2) (a3 : A3) (a4 : A4) (ls : Array Slot) (H : Heap) (locs : List Loc), μ a1 a2 a3 a4 < n → I a1 a2 a3 a4 ls H locs → W p l e R s m args below meth c H locs cells slots Q (F0 m pc ls rest) := by
    intro n
    induction n with
    | zero => intro a1 a2 a3 a4 ls H locs h; exact absurd h (Nat.not_lt_zero _)
    | succ n ih =>
      intro a1 a2 a3 a4 ls H locs h hI
      exact step a1 a2 a3 a4 ls H locs hI (fun b1 b2 b3 b4 ls' H' locs' hm hI' => ih b1 b2 b3 b4 ls' H' locs' (by omega) hI')
  exact key _ a1 a2 a3 a4 ls H locs (Nat.lt_succ_self _) h0
theorem wr4 {A1 A2 A3 A4 : Type} (μ : A1 → A2 → A3 → A4 → Nat) (I : A1 → A2 → A3 → A4 → Array Slot → Prop) (a1 : A1) (a2 : A2) (a3 : A3) (a4 : A4) (h0 : I a1 a2 a3 a4 ls) (step : ∀ (a1 : A1) (a2 : A2) (a3 : A3) (a4 : A4) (ls : Array Slot), I a1 a2 a3 a4 ls → (∀ (b1 : A1) (b2 : A2) (b3 : A3) (b4 : A4) (ls' : Array Slot), μ b1 b2 b3 b4 < μ a1 a2 a3 a4 → I b1 b2 b3 b4 ls' → W p l e R s m args below meth c H locs cells slots Q (F0 m pc ls' rest)) → W p l e R s m args below meth c H locs cells slots Q (F0 m pc ls rest)) : W p l e R s m args below meth c H locs cells slots Q (F0 m pc ls rest) := by
  have key : ∀ (n : Nat) (a1 : A1) (a2 : A2) (a3 : A3) (a4 : A4) (ls : Array Slot), μ a1 a2 a3 a4 < n → I a1 a2 a3 a4 ls → W p l e R s m args below meth c H locs cells slots Q (F0 m pc ls rest) := by
    intro n
    induction n with
    | zero => intro a1 a2 a3 a4 ls h; exact absurd h (Nat.not_lt_zero _)
    | succ n ih =>
      intro a1 a2 a3 a4 ls h hI
      exact step a1 a2 a3 a4 ls hI (fun b1 b2 b3 b4 ls' hm hI' => ih b1 b2 b3 b4 ls' (by omega) hI')
  exact key _ a1 a2 a3 a4 ls (Nat.lt_succ_self _) h0
theorem wl5 {A1 A2 A3 A4 A5 : Type} (μ : A1 → A2 → A3 → A4 → A5 → Nat) (I : A1 → A2 → A3 → A4 → A5 → Array Slot → Heap → List Loc → Prop) (a1 : A1) (a2 : A2) (a3 : A3) (a4 : A4) (a5 : A5) (h0 : I a1 a2 a3 a4 a5 ls H locs) (step : ∀ (a1 : A1) (a2 : A2) (a3 : A3) (a4 : A4) (a5 : A5) (ls : Array Slot) (H : Heap) (locs : List Loc), I a1 a2 a3 a4 a5 ls H locs → (∀ (b1 : A1) (b2 : A2) (b3 : A3) (b4 : A4) (b5 : A5) (ls' : Array Slot) (H' : Heap) (locs' : List Loc), μ b1 b2 b3 b4 b5 < μ a1 a2 a3 a4 a5 → I b1 b2 b3 b4 b5 ls' H' locs' → W p l e R s m args below meth c H' locs' cells slots Q (F0 m pc ls' rest)) → W p l e R s m args below meth c H locs cells slots Q (F0 m pc ls rest)) : W p l e R s m args below meth c H locs cells slots Q (F0 m pc ls rest) := by
  have key : ∀ (n : Nat) (a1 : A1) (a2 : A2) (a3 : A3) (a4 : A4) (a5 : A5) (ls : Array Slot) (H : Heap) (locs : List Loc), μ a1 a2 a3 a4 a5 < n → I a1 a2 a3 a4 a5 ls H locs → W p l e R s m args below meth c H locs cells slots Q (F0 m pc ls rest) := by
    intro n
    induction n with
    | zero => intro a1 a2 a3 a4 a5 ls H locs h; exact absurd h (Nat.not_lt_zero _)
    | succ n ih =>
      intro a1 a2 a3 a4 a5 ls H locs h hI
      exact step a1 a2 a3 a4 a5 ls H locs hI (fun b1 b2 b3 b4 b5 ls' H' locs' hm hI' => ih b1 b2 b3 b4 b5 ls' H' locs' (by omega) hI')
  exact key _ a1 a2 a3 a4 a5 ls H locs (Nat.lt_succ_self _) h0
theorem wr5 {A1 A2 A3 A4 A5 : Type} (μ : A1 → A2 → A3 → A4 → A5 → Nat) (I : A1 → A2 → A3 → A4 → A5 → Array Slot → Prop) (a1 : A1) (a2 : A2) (a3 : A3) (a4 : A4) (a5 : A5) (h0 : I a1 a2 a3 a4 a5 ls) (step : ∀ (a1 : A1) (a2 : A2) (a3 : A3) (a4 : A4) (a5 : A5) (ls : Array Slot), I a1 a2 a3 a4 a5 ls → (∀ (b1 : A1) (b2 : A2) (b3 : A3) (b4 : A4) (b5 : A5) (ls' : Array Slot), μ b1 b2 b3 b4 b5 < μ a1 a2 a3 a4 a5 → I b1 b2 b3 b4 b5 ls' → W p l e R s m args below meth c H locs cells slots Q (F0 m pc ls' rest)) → W p l e R s m args below meth c H locs cells slots Q (F0 m pc ls rest)) : W p l e R s m args below meth c H locs cells slots Q (F0 m pc ls rest) := by
  have key : ∀ (n : Nat) (a1 : A1) (a2 : A2) (a3 : A3) (a4 : A4) (a5 : A5) (ls : Array Slot), μ a1 a2 a3 a4 a5 < n → I a1 a2 a3 a4 a5 ls → W p l e R s m args below meth c H locs cells slots Q (F0 m pc ls rest) := by
    intro n
    induction n with
    | zero => intro a1 a2 a3 a4 a5 ls h; exact absurd h (Nat.not_lt_zero _)
    | succ n ih =>
      intro a1 a2 a3 a4 a5 ls h hI
      exact step a1 a2 a3 a4 a5 ls hI (fun b1 b2 b3 b4 b5 ls' hm hI' => ih b1 b2 b3 b4 b5 ls' (by omega) hI')
  exact key _ a1 a2 a3 a4 a5 ls (Nat.lt_succ_self _) h0
theorem wl6 {A1 A2 A3 A4 A5 A6 : Type} (μ : A1 → A2 → A3 → A4 → A5 → A6 → Nat) (I : A1 → A2 → A3 → A4 → A5 → A6 → Array Slot → Heap → List Loc → Prop) (a1 : A1) (a2 : A2) (a3 : A3) (a4 : A4) (a5 : A5) (a6 : A6) (h0 : I a1 a2 a3 a4 a5 a6 ls H locs) (step : ∀ (a1 : A1) (a2 : A2) (a3 : A3) (a4 : A4) (a5 : A5) (a6 : A6) (ls : Array Slot) (H : Heap) (locs : List Loc), I a1 a2 a3 a4 a5 a6 ls H locs → (∀ (b1 : A1) (b2 : A2) (b3 : A3) (b4 : A4) (b5 : A5) (b6 : A6) (ls' : Array Slot) (H' : Heap) (locs' : List Loc), μ b1 b2 b3 b4 b5 b6 < μ a1 a2 a3 a4 a5 a6 → I b1 b2 b3 b4 b5 b6 ls' H' locs' → W p l e R s m args below meth c H' locs' cells slots Q (F0 m pc ls' rest)) → W p l e R s m args below meth c H locs cells slots Q (F0 m pc ls rest)) : W p l e R s m args below meth c H locs cells slots Q (F0 m pc ls rest) := by
  have key : ∀ (n : Nat) (a1 : A1) (a2 : A2) (a3 : A3) (a4 : A4) (a5 : A5) (a6 : A6) (ls : Array Slot) (H : Heap) (locs : List Loc), μ a1 a2 a3 a4 a5 a6 < n → I a1 a2 a3 a4 a5 a6 ls H locs → W p l e R s m args below meth c H locs cells slots Q (F0 m pc ls rest) := by
    intro n
    induction n with
    | zero => intro a1 a2 a3 a4 a5 a6 ls H locs h; exact absurd h (Nat.not_lt_zero _)
    | succ n ih =>
      intro a1 a2 a3 a4 a5 a6 ls H locs h hI
      exact step a1 a2 a3 a4 a5 a6 ls H locs hI (fun b1 b2 b3 b4 b5 b6 ls' H' locs' hm hI' => ih b1 b2 b3 b4 b5 b6 ls' H' locs' (by omega) hI')
  exact key _ a1 a2 a3 a4 a5 a6 ls H locs (Nat.lt_succ_self _) h0
theorem wr6 {A1 A2 A3 A4 A5 A6 : Type} (μ : A1 → A2 → A3 → A4 → A5 → A6 → Nat) (I : A1 → A2 → A3 → A4 → A5 → A6 → Array Slot → Prop) (a1 : A1) (a2 : A2) (a3 : A3) (a4 : A4) (a5 : A5) (a6 : A6) (h0 : I a1 a2 a3 a4 a5 a6 ls) (step : ∀ (a1 : A1) (a2 : A2) (a3 : A3) (a4 : A4) (a5 : A5) (a6 : A6) (ls : Array Slot), I a1 a2 a3 a4 a5 a6 ls → (∀ (b1 : A1) (b2 : A2) (b3 : A3) (b4 : A4) (b5 : A5) (b6 : A6) (ls' : Array Slot), μ b1 b2 b3 b4 b5 b6 < μ a1 a2 a3 a4 a5 a6 → I b1 b2 b3 b4 b5 b6 ls' → W p l e R s m args below meth c H locs cells slots Q (F0 m pc ls' rest)) → W p l e R s m args below meth c H locs cells slots Q (F0 m pc ls rest)) : W p l e R s m args below meth c H locs cells slots Q (F0 m pc ls rest) := by
  have key : ∀ (n : Nat) (a1 : A1) (a2 : A2) (a3 : A3) (a4 : A4) (a5 : A5) (a6 : A6) (ls : Array Slot), μ a1 a2 a3 a4 a5 a6 < n → I a1 a2 a3 a4 a5 a6 ls → W p l e R s m args below meth c H locs cells slots Q (F0 m pc ls rest) := by
    intro n
    induction n with
    | zero => intro a1 a2 a3 a4 a5 a6 ls h; exact absurd h (Nat.not_lt_zero _)
    | succ n ih =>
      intro a1 a2 a3 a4 a5 a6 ls h hI
      exact step a1 a2 a3 a4 a5 a6 ls hI (fun b1 b2 b3 b4 b5 b6 ls' hm hI' => ih b1 b2 b3 b4 b5 b6 ls' (by omega) hI')
  exact key _ a1 a2 a3 a4 a5 a6 ls (Nat.lt_succ_self _) h0
theorem wl7 {A1 A2 A3 A4 A5 A6 A7 : Type} (μ : A1 → A2 → A3 → A4 → A5 → A6 → A7 → Nat) (I : A1 → A2 → A3 → A4 → A5 → A6 → A7 → Array Slot → Heap → List Loc → Prop) (a1 : A1) (a2 : A2) (a3 : A3) (a4 : A4) (a5 : A5) (a6 : A6) (a7 : A7) (h0 : I a1 a2 a3 a4 a5 a6 a7 ls H locs) (step : ∀ (a1 : A1) (a2 : A2) (a3 : A3) (a4 : A4) (a5 : A5) (a6 : A6) (a7 : A7) (ls : Array Slot) (H : Heap) (locs : List Loc), I a1 a2 a3 a4 a5 a6 a7 ls H locs → (∀ (b1 : A1) (b2 : A2) (b3 : A3) (b4 : A4) (b5 : A5) (b6 : A6) (b7 : A7) (ls' : Array Slot) (H' : Heap) (locs' : List Loc), μ b1 b2 b3 b4 b5 b6 b7 < μ a1 a2 a3 a4 a5 a6 a7 → I b1 b2 b3 b4 b5 b6 b7 ls' H' locs' → W p l e R s m args below meth c H' locs' cells slots Q (F0 m pc ls' rest)) → W p l e R s m args below meth c H locs cells slots Q (F0 m pc ls rest)) : W p l e R s m args below meth c H locs cells slots Q (F0 m pc ls rest) := by
  have key : ∀ (n : Nat) (a1 : A1) (a2 : A2) (a3 : A3) (a4 : A4) (a5 : A5) (a6 : A6) (a7 : A7) (ls : Array Slot) (H : Heap) (locs : List Loc), μ a1 a2 a3 a4 a5 a6 a7 < n → I a1 a2 a3 a4 a5 a6 a7 ls H locs → W p l e R s m args below meth c H locs cells slots Q (F0 m pc ls rest) := by
    intro n
    induction n with
    | zero => intro a1 a2 a3 a4 a5 a6 a7 ls H locs h; exact absurd h (Nat.not_lt_zero _)
    | succ n ih =>
      intro a1 a2 a3 a4 a5 a6 a7 ls H locs h hI
      exact step a1 a2 a3 a4 a5 a6 a7 ls H locs hI (fun b1 b2 b3 b4 b5 b6 b7 ls' H' locs' hm hI' => ih b1 b2 b3 b4 b5 b6 b7 ls' H' locs' (by omega) hI')
  exact key _ a1 a2 a3 a4 a5 a6 a7 ls H locs (Nat.lt_succ_self _) h0
theorem wr7 {A1 A2 A3 A4 A5 A6 A7 : Type} (μ : A1 → A2 → A3 → A4 → A5 → A6 → A7 → Nat) (I : A1 → A2 → A3 → A4 → A5 → A6 → A7 → Array Slot → Prop) (a1 : A1) (a2 : A2) (a3 : A3) (a4 : A4) (a5 : A5) (a6 : A6) (a7 : A7) (h0 : I a1 a2 a3 a4 a5 a6 a7 ls) (step : ∀ (a1 : A1) (a2 : A2) (a3 : A3) (a4 : A4) (a5 : A5) (a6 : A6) (a7 : A7) (ls : Array Slot), I a1 a2 a3 a4 a5 a6 a7 ls → (∀ (b1 : A1) (b2 : A2) (b3 : A3) (b4 : A4) (b5 : A5) (b6 : A6) (b7 : A7) (ls' : Array Slot), μ b1 b2 b3 b4 b5 b6 b7 < μ a1 a2 a3 a4 a5 a6 a7 → I b1 b2 b3 b4 b5 b6 b7 ls' → W p l e R s m args below meth c H locs cells slots Q (F0 m pc ls' rest)) → W p l e R s m args below meth c H locs cells slots Q (F0 m pc ls rest)) : W p l e R s m args below meth c H locs cells slots Q (F0 m pc ls rest) := by
  have key : ∀ (n : Nat) (a1 : A1) (a2 : A2) (a3 : A3) (a4 : A4) (a5 : A5) (a6 : A6) (a7 : A7) (ls : Array Slot), μ a1 a2 a3 a4 a5 a6 a7 < n → I a1 a2 a3 a4 a5 a6 a7 ls → W p l e R s m args below meth c H locs cells slots Q (F0 m pc ls rest) := by
    intro n
    induction n with
    | zero => intro a1 a2 a3 a4 a5 a6 a7 ls h; exact absurd h (Nat.not_lt_zero _)
    | succ n ih =>
      intro a1 a2 a3 a4 a5 a6 a7 ls h hI
      exact step a1 a2 a3 a4 a5 a6 a7 ls hI (fun b1 b2 b3 b4 b5 b6 b7 ls' hm hI' => ih b1 b2 b3 b4 b5 b6 b7 ls' (by omega) hI')
  exact key _ a1 a2 a3 a4 a5 a6 a7 ls (Nat.lt_succ_self _) h0
theorem wl8 {A1 A2 A3 A4 A5 A6 A7 A8 : Type} (μ : A1 → A2 → A3 → A4 → A5 → A6 → A7 → A8 → Nat) (I : A1 → A2 → A3 → A4 → A5 → A6 → A7 → A8 → Array Slot → Heap → List Loc → Prop) (a1 : A1) (a2 : A2) (a3 : A3) (a4 : A4) (a5 : A5) (a6 : A6) (a7 : A7) (a8 : A8) (h0 : I a1 a2 a3 a4 a5 a6 a7 a8 ls H locs) (step : ∀ (a1 : A1) (a2 : A2) (a3 : A3) (a4 : A4) (a5 : A5) (a6 : A6) (a7 : A7) (a8 : A8) (ls : Array Slot) (H : Heap) (locs : List Loc), I a1 a2 a3 a4 a5 a6 a7 a8 ls H locs → (∀ (b1 : A1) (b2 : A2) (b3 : A3) (b4 : A4) (b5 : A5) (b6 : A6) (b7 : A7) (b8 : A8) (ls' : Array Slot) (H' : Heap) (locs' : List Loc), μ b1 b2 b3 b4 b5 b6 b7 b8 < μ a1 a2 a3 a4 a5 a6 a7 a8 → I b1 b2 b3 b4 b5 b6 b7 b8 ls' H' locs' → W p l e R s m args below meth c H' locs' cells slots Q (F0 m pc ls' rest)) → W p l e R s m args below meth c H locs cells slots Q (F0 m pc ls rest)) : W p l e R s m args below meth c H locs cells slots Q (F0 m pc ls rest) := by
  have key : ∀ (n : Nat) (a1 : A1) (a2 : A2) (a3 : A3) (a4 : A4) (a5 : A5) (a6 : A6) (a7 : A7) (a8 : A8) (ls : Array Slot) (H : Heap) (locs : List Loc), μ a1 a2 a3 a4 a5 a6 a7 a8 < n → I a1 a2 a3 a4 a5 a6 a7 a8 ls H locs → W p l e R s m args below meth c H locs cells slots Q (F0 m pc ls rest) := by
    intro n
    induction n with
    | zero => intro a1 a2 a3 a4 a5 a6 a7 a8 ls H locs h; exact absurd h (Nat.not_lt_zero _)
    | succ n ih =>
      intro a1 a2 a3 a4 a5 a6 a7 a8 ls H locs h hI
      exact step a1 a2 a3 a4 a5 a6 a7 a8 ls H locs hI (fun b1 b2 b3 b4 b5 b6 b7 b8 ls' H' locs' hm hI' => ih b1 b2 b3 b4 b5 b6 b7 b8 ls' H' locs' (by omega) hI')
  exact key _ a1 a2 a3 a4 a5 a6 a7 a8 ls H locs (Nat.lt_succ_self _) h0
theorem wr8 {A1 A2 A3 A4 A5 A6 A7 A8 : Type} (μ : A1 → A2 → A3 → A4 → A5 → A6 → A7 → A8 → Nat) (I : A1 → A2 → A3 → A4 → A5 → A6 → A7 → A8 → Array Slot → Prop) (a1 : A1) (a2 : A2) (a3 : A3) (a4 : A4) (a5 : A5) (a6 : A6) (a7 : A7) (a8 : A8) (h0 : I a1 a2 a3 a4 a5 a6 a7 a8 ls) (step : ∀ (a1 : A1) (a2 : A2) (a3 : A3) (a4 : A4) (a5 : A5) (a6 : A6) (a7 : A7) (a8 : A8) (ls : Array Slot), I a1 a2 a3 a4 a5 a6 a7 a8 ls → (∀ (b1 : A1) (b2 : A2) (b3 : A3) (b4 : A4) (b5 : A5) (b6 : A6) (b7 : A7) (b8 : A8) (ls' : Array Slot), μ b1 b2 b3 b4 b5 b6 b7 b8 < μ a1 a2 a3 a4 a5 a6 a7 a8 → I b1 b2 b3 b4 b5 b6 b7 b8 ls' → W p l e R s m args below meth c H locs cells slots Q (F0 m pc ls' rest)) → W p l e R s m args below meth c H locs cells slots Q (F0 m pc ls rest)) : W p l e R s m args below meth c H locs cells slots Q (F0 m pc ls rest) := by
  have key : ∀ (n : Nat) (a1 : A1) (a2 : A2) (a3 : A3) (a4 : A4) (a5 : A5) (a6 : A6) (a7 : A7) (a8 : A8) (ls : Array Slot), μ a1 a2 a3 a4 a5 a6 a7 a8 < n → I a1 a2 a3 a4 a5 a6 a7 a8 ls → W p l e R s m args below meth c H locs cells slots Q (F0 m pc ls rest) := by
    intro n
    induction n with
    | zero => intro a1 a2 a3 a4 a5 a6 a7 a8 ls h; exact absurd h (Nat.not_lt_zero _)
    | succ n ih =>
      intro a1 a2 a3 a4 a5 a6 a7 a8 ls h hI
      exact step a1 a2 a3 a4 a5 a6 a7 a8 ls hI (fun b1 b2 b3 b4 b5 b6 b7 b8 ls' hm hI' => ih b1 b2 b3 b4 b5 b6 b7 b8 ls' (by omega) hI')
  exact key _ a1 a2 a3 a4 a5 a6 a7 a8 ls (Nat.lt_succ_self _) h0
theorem wl9 {A1 A2 A3 A4 A5 A6 A7 A8 A9 : Type} (μ : A1 → A2 → A3 → A4 → A5 → A6 → A7 → A8 → A9 → Nat) (I : A1 → A2 → A3 → A4 → A5 → A6 → A7 → A8 → A9 → Array Slot → Heap → List Loc → Prop) (a1 : A1) (a2 : A2) (a3 : A3) (a4 : A4) (a5 : A5) (a6 : A6) (a7 : A7) (a8 : A8) (a9 : A9) (h0 : I a1 a2 a3 a4 a5 a6 a7 a8 a9 ls H locs) (step : ∀ (a1 : A1) (a2 : A2) (a3 : A3) (a4 : A4) (a5 : A5) (a6 : A6) (a7 : A7) (a8 : A8) (a9 : A9) (ls : Array Slot) (H : Heap) (locs : List Loc), I a1 a2 a3 a4 a5 a6 a7 a8 a9 ls H locs → (∀ (b1 : A1) (b2 : A2) (b3 : A3) (b4 : A4) (b5 : A5) (b6 : A6) (b7 : A7) (b8 : A8) (b9 : A9) (ls' : Array Slot) (H' : Heap) (locs' : List Loc), μ b1 b2 b3 b4 b5 b6 b7 b8 b9 < μ a1 a2 a3 a4 a5 a6 a7 a8 a9 → I b1 b2 b3 b4 b5 b6 b7 b8 b9 ls' H' locs' → W p l e R s m args below meth c H' locs' cells slots Q (F0 m pc ls' rest)) → W p l e R s m args below meth c H locs cells slots Q (F0 m pc ls rest)) : W p l e R s m args below meth c H locs cells slots Q (F0 m pc ls rest) := by
  have key : ∀ (n : Nat) (a1 : A1) (a2 : A2) (a3 : A3) (a4 : A4) (a5 : A5) (a6 : A6) (a7 : A7) (a8 : A8) (a9 : A9) (ls : Array Slot) (H : Heap) (locs : List Loc), μ a1 a2 a3 a4 a5 a6 a7 a8 a9 < n → I a1 a2 a3 a4 a5 a6 a7 a8 a9 ls H locs → W p l e R s m args below meth c H locs cells slots Q (F0 m pc ls rest) := by
    intro n
    induction n with
    | zero => intro a1 a2 a3 a4 a5 a6 a7 a8 a9 ls H locs h; exact absurd h (Nat.not_lt_zero _)
    | succ n ih =>
      intro a1 a2 a3 a4 a5 a6 a7 a8 a9 ls H locs h hI
      exact step a1 a2 a3 a4 a5 a6 a7 a8 a9 ls H locs hI (fun b1 b2 b3 b4 b5 b6 b7 b8 b9 ls' H' locs' hm hI' => ih b1 b2 b3 b4 b5 b6 b7 b8 b9 ls' H' locs' (by omega) hI')
  exact key _ a1 a2 a3 a4 a5 a6 a7 a8 a9 ls H locs (Nat.lt_succ_self _) h0
theorem wr9 {A1 A2 A3 A4 A5 A6 A7 A8 A9 : Type} (μ : A1 → A2 → A3 → A4 → A5 → A6 → A7 → A8 → A9 → Nat) (I : A1 → A2 → A3 → A4 → A5 → A6 → A7 → A8 → A9 → Array Slot → Prop) (a1 : A1) (a2 : A2) (a3 : A3) (a4 : A4) (a5 : A5) (a6 : A6) (a7 : A7) (a8 : A8) (a9 : A9) (h0 : I a1 a2 a3 a4 a5 a6 a7 a8 a9 ls) (step : ∀ (a1 : A1) (a2 : A2) (a3 : A3) (a4 : A4) (a5 : A5) (a6 : A6) (a7 : A7) (a8 : A8) (a9 : A9) (ls : Array Slot), I a1 a2 a3 a4 a5 a6 a7 a8 a9 ls → (∀ (b1 : A1) (b2 : A2) (b3 : A3) (b4 : A4) (b5 : A5) (b6 : A6) (b7 : A7) (b8 : A8) (b9 : A9) (ls' : Array Slot), μ b1 b2 b3 b4 b5 b6 b7 b8 b9 < μ a1 a2 a3 a4 a5 a6 a7 a8 a9 → I b1 b2 b3 b4 b5 b6 b7 b8 b9 ls' → W p l e R s m args below meth c H locs cells slots Q (F0 m pc ls' rest)) → W p l e R s m args below meth c H locs cells slots Q (F0 m pc ls rest)) : W p l e R s m args below meth c H locs cells slots Q (F0 m pc ls rest) := by
  have key : ∀ (n : Nat) (a1 : A1) (a2 : A2) (a3 : A3) (a4 : A4) (a5 : A5) (a6 : A6) (a7 : A7) (a8 : A8) (a9 : A9) (ls : Array Slot), μ a1 a2 a3 a4 a5 a6 a7 a8 a9 < n → I a1 a2 a3 a4 a5 a6 a7 a8 a9 ls → W p l e R s m args below meth c H locs cells slots Q (F0 m pc ls rest) := by
    intro n
    induction n with
    | zero => intro a1 a2 a3 a4 a5 a6 a7 a8 a9 ls h; exact absurd h (Nat.not_lt_zero _)
    | succ n ih =>
      intro a1 a2 a3 a4 a5 a6 a7 a8 a9 ls h hI
      exact step a1 a2 a3 a4 a5 a6 a7 a8 a9 ls hI (fun b1 b2 b3 b4 b5 b6 b7 b8 b9 ls' hm hI' => ih b1 b2 b3 b4 b5 b6 b7 b8 b9 ls' (by omega) hI')
  exact key _ a1 a2 a3 a4 a5 a6 a7 a8 a9 ls (Nat.lt_succ_self _) h0
theorem wl10 {A1 A2 A3 A4 A5 A6 A7 A8 A9 A10 : Type} (μ : A1 → A2 → A3 → A4 → A5 → A6 → A7 → A8 → A9 → A10 → Nat) (I : A1 → A2 → A3 → A4 → A5 → A6 → A7 → A8 → A9 → A10 → Array Slot → Heap → List Loc → Prop) (a1 : A1) (a2 : A2) (a3 : A3) (a4 : A4) (a5 : A5) (a6 : A6) (a7 : A7) (a8 : A8) (a9 : A9) (a10 : A10) (h0 : I a1 a2 a3 a4 a5 a6 a7 a8 a9 a10 ls H locs) (step : ∀ (a1 : A1) (a2 : A2) (a3 : A3) (a4 : A4) (a5 : A5) (a6 : A6) (a7 : A7) (a8 : A8) (a9 : A9) (a10 : A10) (ls : Array Slot) (H : Heap) (locs : List Loc), I a1 a2 a3 a4 a5 a6 a7 a8 a9 a10 ls H locs → (∀ (b1 : A1) (b2 : A2) (b3 : A3) (b4 : A4) (b5 : A5) (b6 : A6) (b7 : A7) (b8 : A8) (b9 : A9) (b10 : A10) (ls' : Array Slot) (H' : Heap) (locs' : List Loc), μ b1 b2 b3 b4 b5 b6 b7 b8 b9 b10 < μ a1 a2 a3 a4 a5 a6 a7 a8 a9 a10 → I b1 b2 b3 b4 b5 b6 b7 b8 b9 b10 ls' H' locs' → W p l e R s m args below meth c H' locs' cells slots Q (F0 m pc ls' rest)) → W p l e R s m args below meth c H locs cells slots Q (F0 m pc ls rest)) : W p l e R s m args below meth c H locs cells slots Q (F0 m pc ls rest) := by
  have key : ∀ (n : Nat) (a1 : A1) (a2 : A2) (a3 : A3) (a4 : A4) (a5 : A5) (a6 : A6) (a7 : A7) (a8 : A8) (a9 : A9) (a10 : A10) (ls : Array Slot) (H : Heap) (locs : List Loc), μ a1 a2 a3 a4 a5 a6 a7 a8 a9 a10 < n → I a1 a2 a3 a4 a5 a6 a7 a8 a9 a10 ls H locs → W p l e R s m args below meth c H locs cells slots Q (F0 m pc ls rest) := by
    intro n
    induction n with
    | zero => intro a1 a2 a3 a4 a5 a6 a7 a8 a9 a10 ls H locs h; exact absurd h (Nat.not_lt_zero _)
    | succ n ih =>
      intro a1 a2 a3 a4 a5 a6 a7 a8 a9 a10 ls H locs h hI
      exact step a1 a2 a3 a4 a5 a6 a7 a8 a9 a10 ls H locs hI (fun b1 b2 b3 b4 b5 b6 b7 b8 b9 b10 ls' H' locs' hm hI' => ih b1 b2 b3 b4 b5 b6 b7 b8 b9 b10 ls' H' locs' (by omega) hI')
  exact key _ a1 a2 a3 a4 a5 a6 a7 a8 a9 a10 ls H locs (Nat.lt_succ_self _) h0
theorem wr10 {A1 A2 A3 A4 A5 A6 A7 A8 A9 A10 : Type} (μ : A1 → A2 → A3 → A4 → A5 → A6 → A7 → A8 → A9 → A10 → Nat) (I : A1 → A2 → A3 → A4 → A5 → A6 → A7 → A8 → A9 → A10 → Array Slot → Prop) (a1 : A1) (a2 : A2) (a3 : A3) (a4 : A4) (a5 : A5) (a6 : A6) (a7 : A7) (a8 : A8) (a9 : A9) (a10 : A10) (h0 : I a1 a2 a3 a4 a5 a6 a7 a8 a9 a10 ls) (step : ∀ (a1 : A1) (a2 : A2) (a3 : A3) (a4 : A4) (a5 : A5) (a6 : A6) (a7 : A7) (a8 : A8) (a9 : A9) (a10 : A10) (ls : Array Slot), I a1 a2 a3 a4 a5 a6 a7 a8 a9 a10 ls → (∀ (b1 : A1) (b2 : A2) (b3 : A3) (b4 : A4) (b5 : A5) (b6 : A6) (b7 : A7) (b8 : A8) (b9 : A9) (b10 : A10) (ls' : Array Slot), μ b1 b2 b3 b4 b5 b6 b7 b8 b9 b10 < μ a1 a2 a3 a4 a5 a6 a7 a8 a9 a10 → I b1 b2 b3 b4 b5 b6 b7 b8 b9 b10 ls' → W p l e R s m args below meth c H locs cells slots Q (F0 m pc ls' rest)) → W p l e R s m args below meth c H locs cells slots Q (F0 m pc ls rest)) : W p l e R s m args below meth c H locs cells slots Q (F0 m pc ls rest) := by
  have key : ∀ (n : Nat) (a1 : A1) (a2 : A2) (a3 : A3) (a4 : A4) (a5 : A5) (a6 : A6) (a7 : A7) (a8 : A8) (a9 : A9) (a10 : A10) (ls : Array Slot), μ a1 a2 a3 a4 a5 a6 a7 a8 a9 a10 < n → I a1 a2 a3 a4 a5 a6 a7 a8 a9 a10 ls → W p l e R s m args below meth c H locs cells slots Q (F0 m pc ls rest) := by
    intro n
    induction n with
    | zero => intro a1 a2 a3 a4 a5 a6 a7 a8 a9 a10 ls h; exact absurd h (Nat.not_lt_zero _)
    | succ n ih =>
      intro a1 a2 a3 a4 a5 a6 a7 a8 a9 a10 ls h hI
      exact step a1 a2 a3 a4 a5 a6 a7 a8 a9 a10 ls hI (fun b1 b2 b3 b4 b5 b6 b7 b8 b9 b10 ls' hm hI' => ih b1 b2 b3 b4 b5 b6 b7 b8 b9 b10 ls' (by omega) hI')
  exact key _ a1 a2 a3 a4 a5 a6 a7 a8 a9 a10 ls (Nat.lt_succ_self _) h0
theorem wl11 {A1 A2 A3 A4 A5 A6 A7 A8 A9 A10 A11 : Type} (μ : A1 → A2 → A3 → A4 → A5 → A6 → A7 → A8 → A9 → A10 → A11 → Nat) (I : A1 → A2 → A3 → A4 → A5 → A6 → A7 → A8 → A9 → A10 → A11 → Array Slot → Heap → List Loc → Prop) (a1 : A1) (a2 : A2) (a3 : A3) (a4 : A4) (a5 : A5) (a6 : A6) (a7 : A7) (a8 : A8) (a9 : A9) (a10 : A10) (a11 : A11) (h0 : I a1 a2 a3 a4 a5 a6 a7 a8 a9 a10 a11 ls H locs) (step : ∀ (a1 : A1) (a2 : A2) (a3 : A3) (a4 : A4) (a5 : A5) (a6 : A6) (a7 : A7) (a8 : A8) (a9 : A9) (a10 : A10) (a11 : A11) (ls : Array Slot) (H : Heap) (locs : List Loc), I a1 a2 a3 a4 a5 a6 a7 a8 a9 a10 a11 ls H locs → (∀ (b1 : A1) (b2 : A2) (b3 : A3) (b4 : A4) (b5 : A5) (b6 : A6) (b7 : A7) (b8 : A8) (b9 : A9) (b10 : A10) (b11 : A11) (ls' : Array Slot) (H' : Heap) (locs' : List Loc), μ b1 b2 b3 b4 b5 b6 b7 b8 b9 b10 b11 < μ a1 a2 a3 a4 a5 a6 a7 a8 a9 a10 a11 → I b1 b2 b3 b4 b5 b6 b7 b8 b9 b10 b11 ls' H' locs' → W p l e R s m args below meth c H' locs' cells slots Q (F0 m pc ls' rest)) → W p l e R s m args below meth c H locs cells slots Q (F0 m pc ls rest)) : W p l e R s m args below meth c H locs cells slots Q (F0 m pc ls rest) := by
  have key : ∀ (n : Nat) (a1 : A1) (a2 : A2) (a3 : A3) (a4 : A4) (a5 : A5) (a6 : A6) (a7 : A7) (a8 : A8) (a9 : A9) (a10 : A10) (a11 : A11) (ls : Array Slot) (H : Heap) (locs : List Loc), μ a1 a2 a3 a4 a5 a6 a7 a8 a9 a10 a11 < n → I a1 a2 a3 a4 a5 a6 a7 a8 a9 a10 a11 ls H locs → W p l e R s m args below meth c H locs cells slots Q (F0 m pc ls rest) := by
    intro n
    induction n with
    | zero => intro a1 a2 a3 a4 a5 a6 a7 a8 a9 a10 a11 ls H locs h; exact absurd h (Nat.not_lt_zero _)
    | succ n ih =>
      intro a1 a2 a3 a4 a5 a6 a7 a8 a9 a10 a11 ls H locs h hI
      exact step a1 a2 a3 a4 a5 a6 a7 a8 a9 a10 a11 ls H locs hI (fun b1 b2 b3 b4 b5 b6 b7 b8 b9 b10 b11 ls' H' locs' hm hI' => ih b1 b2 b3 b4 b5 b6 b7 b8 b9 b10 b11 ls' H' locs' (by omega) hI')
  exact key _ a1 a2 a3 a4 a5 a6 a7 a8 a9 a10 a11 ls H locs (Nat.lt_succ_self _) h0
theorem wr11 {A1 A2 A3 A4 A5 A6 A7 A8 A9 A10 A11 : Type} (μ : A1 → A2 → A3 → A4 → A5 → A6 → A7 → A8 → A9 → A10 → A11 → Nat) (I : A1 → A2 → A3 → A4 → A5 → A6 → A7 → A8 → A9 → A10 → A11 → Array Slot → Prop) (a1 : A1) (a2 : A2) (a3 : A3) (a4 : A4) (a5 : A5) (a6 : A6) (a7 : A7) (a8 : A8) (a9 : A9) (a10 : A10) (a11 : A11) (h0 : I a1 a2 a3 a4 a5 a6 a7 a8 a9 a10 a11 ls) (step : ∀ (a1 : A1) (a2 : A2) (a3 : A3) (a4 : A4) (a5 : A5) (a6 : A6) (a7 : A7) (a8 : A8) (a9 : A9) (a10 : A10) (a11 : A11) (ls : Array Slot), I a1 a2 a3 a4 a5 a6 a7 a8 a9 a10 a11 ls → (∀ (b1 : A1) (b2 : A2) (b3 : A3) (b4 : A4) (b5 : A5) (b6 : A6) (b7 : A7) (b8 : A8) (b9 : A9) (b10 : A10) (b11 : A11) (ls' : Array Slot), μ b1 b2 b3 b4 b5 b6 b7 b8 b9 b10 b11 < μ a1 a2 a3 a4 a5 a6 a7 a8 a9 a10 a11 → I b1 b2 b3 b4 b5 b6 b7 b8 b9 b10 b11 ls' → W p l e R s m args below meth c H locs cells slots Q (F0 m pc ls' rest)) → W p l e R s m args below meth c H locs cells slots Q (F0 m pc ls rest)) : W p l e R s m args below meth c H locs cells slots Q (F0 m pc ls rest) := by
  have key : ∀ (n : Nat) (a1 : A1) (a2 : A2) (a3 : A3) (a4 : A4) (a5 : A5) (a6 : A6) (a7 : A7) (a8 : A8) (a9 : A9) (a10 : A10) (a11 : A11) (ls : Array Slot), μ a1 a2 a3 a4 a5 a6 a7 a8 a9 a10 a11 < n → I a1 a2 a3 a4 a5 a6 a7 a8 a9 a10 a11 ls → W p l e R s m args below meth c H locs cells slots Q (F0 m pc ls rest) := by
    intro n
    induction n with
    | zero => intro a1 a2 a3 a4 a5 a6 a7 a8 a9 a10 a11 ls h; exact absurd h (Nat.not_lt_zero _)
    | succ n ih =>
      intro a1 a2 a3 a4 a5 a6 a7 a8 a9 a10 a11 ls h hI
      exact step a1 a2 a3 a4 a5 a6 a7 a8 a9 a10 a11 ls hI (fun b1 b2 b3 b4 b5 b6 b7 b8 b9 b10 b11 ls' hm hI' => ih b1 b2 b3 b4 b5 b6 b7 b8 b9 b10 b11 ls' (by omega) hI')
  exact key _ a1 a2 a3 a4 a5 a6 a7 a8 a9 a10 a11 ls (Nat.lt_succ_self _) h0
theorem wl12 {A1 A2 A3 A4 A5 A6 A7 A8 A9 A10 A11 A12 : Type} (μ : A1 → A2 → A3 → A4 → A5 → A6 → A7 → A8 → A9 → A10 → A11 → A12 → Nat) (I : A1 → A2 → A3 → A4 → A5 → A6 → A7 → A8 → A9 → A10 → A11 → A12 → Array Slot → Heap → List Loc → Prop) (a1 : A1) (a2 : A2) (a3 : A3) (a4 : A4) (a5 : A5) (a6 : A6) (a7 : A7) (a8 : A8) (a9 : A9) (a10 : A10) (a11 : A11) (a12 : A12) (h0 : I a1 a2 a3 a4 a5 a6 a7 a8 a9 a10 a11 a12 ls H locs) (step : ∀ (a1 : A1) (a2 : A2) (a3 : A3) (a4 : A4) (a5 : A5) (a6 : A6) (a7 : A7) (a8 : A8) (a9 : A9) (a10 : A10) (a11 : A11) (a12 : A12) (ls : Array Slot) (H : Heap) (locs : List Loc), I a1 a2 a3 a4 a5 a6 a7 a8 a9 a10 a11 a12 ls H locs → (∀ (b1 : A1) (b2 : A2) (b3 : A3) (b4 : A4) (b5 : A5) (b6 : A6) (b7 : A7) (b8 : A8) (b9 : A9) (b10 : A10) (b11 : A11) (b12 : A12) (ls' : Array Slot) (H' : Heap) (locs' : List Loc), μ b1 b2 b3 b4 b5 b6 b7 b8 b9 b10 b11 b12 < μ a1 a2 a3 a4 a5 a6 a7 a8 a9 a10 a11 a12 → I b1 b2 b3 b4 b5 b6 b7 b8 b9 b10 b11 b12 ls' H' locs' → W p l e R s m args below meth c H' locs' cells slots Q (F0 m pc ls' rest)) → W p l e R s m args below meth c H locs cells slots Q (F0 m pc ls rest)) : W p l e R s m args below meth c H locs cells slots Q (F0 m pc ls rest) := by
  have key : ∀ (n : Nat) (a1 : A1) (a2 : A2) (a3 : A3) (a4 : A4) (a5 : A5) (a6 : A6) (a7 : A7) (a8 : A8) (a9 : A9) (a10 : A10) (a11 : A11) (a12 : A12) (ls : Array Slot) (H : Heap) (locs : List Loc), μ a1 a2 a3 a4 a5 a6 a7 a8 a9 a10 a11 a12 < n → I a1 a2 a3 a4 a5 a6 a7 a8 a9 a10 a11 a12 ls H locs → W p l e R s m args below meth c H locs cells slots Q (F0 m pc ls rest) := by
    intro n
    induction n with
    | zero => intro a1 a2 a3 a4 a5 a6 a7 a8 a9 a10 a11 a12 ls H locs h; exact absurd h (Nat.not_lt_zero _)
    | succ n ih =>
      intro a1 a2 a3 a4 a5 a6 a7 a8 a9 a10 a11 a12 ls H locs h hI
      exact step a1 a2 a3 a4 a5 a6 a7 a8 a9 a10 a11 a12 ls H locs hI (fun b1 b2 b3 b4 b5 b6 b7 b8 b9 b10 b11 b12 ls' H' locs' hm hI' => ih b1 b2 b3 b4 b5 b6 b7 b8 b9 b10 b11 b12 ls' H' locs' (by omega) hI')
  exact key _ a1 a2 a3 a4 a5 a6 a7 a8 a9 a10 a11 a12 ls H locs (Nat.lt_succ_self _) h0
theorem wr12 {A1 A2 A3 A4 A5 A6 A7 A8 A9 A10 A11 A12 : Type} (μ : A1 → A2 → A3 → A4 → A5 → A6 → A7 → A8 → A9 → A10 → A11 → A12 → Nat) (I : A1 → A2 → A3 → A4 → A5 → A6 → A7 → A8 → A9 → A10 → A11 → A12 → Array Slot → Prop) (a1 : A1) (a2 : A2) (a3 : A3) (a4 : A4) (a5 : A5) (a6 : A6) (a7 : A7) (a8 : A8) (a9 : A9) (a10 : A10) (a11 : A11) (a12 : A12) (h0 : I a1 a2 a3 a4 a5 a6 a7 a8 a9 a10 a11 a12 ls) (step : ∀ (a1 : A1) (a2 : A2) (a3 : A3) (a4 : A4) (a5 : A5) (a6 : A6) (a7 : A7) (a8 : A8) (a9 : A9) (a10 : A10) (a11 : A11) (a12 : A12) (ls : Array Slot), I a1 a2 a3 a4 a5 a6 a7 a8 a9 a10 a11 a12 ls → (∀ (b1 : A1) (b2 : A2) (b3 : A3) (b4 : A4) (b5 : A5) (b6 : A6) (b7 : A7) (b8 : A8) (b9 : A9) (b10 : A10) (b11 : A11) (b12 : A12) (ls' : Array Slot), μ b1 b2 b3 b4 b5 b6 b7 b8 b9 b10 b11 b12 < μ a1 a2 a3 a4 a5 a6 a7 a8 a9 a10 a11 a12 → I b1 b2 b3 b4 b5 b6 b7 b8 b9 b10 b11 b12 ls' → W p l e R s m args below meth c H locs cells slots Q (F0 m pc ls' rest)) → W p l e R s m args below meth c H locs cells slots Q (F0 m pc ls rest)) : W p l e R s m args below meth c H locs cells slots Q (F0 m pc ls rest) := by
  have key : ∀ (n : Nat) (a1 : A1) (a2 : A2) (a3 : A3) (a4 : A4) (a5 : A5) (a6 : A6) (a7 : A7) (a8 : A8) (a9 : A9) (a10 : A10) (a11 : A11) (a12 : A12) (ls : Array Slot), μ a1 a2 a3 a4 a5 a6 a7 a8 a9 a10 a11 a12 < n → I a1 a2 a3 a4 a5 a6 a7 a8 a9 a10 a11 a12 ls → W p l e R s m args below meth c H locs cells slots Q (F0 m pc ls rest) := by
    intro n
    induction n with
    | zero => intro a1 a2 a3 a4 a5 a6 a7 a8 a9 a10 a11 a12 ls h; exact absurd h (Nat.not_lt_zero _)
    | succ n ih =>
      intro a1 a2 a3 a4 a5 a6 a7 a8 a9 a10 a11 a12 ls h hI
      exact step a1 a2 a3 a4 a5 a6 a7 a8 a9 a10 a11 a12 ls hI (fun b1 b2 b3 b4 b5 b6 b7 b8 b9 b10 b11 b12 ls' hm hI' => ih b1 b2 b3 b4 b5 b6 b7 b8 b9 b10 b11 b12 ls' (by omega) hI')
  exact key _ a1 a2 a3 a4 a5 a6 a7 a8 a9 a10 a11 a12 ls (Nat.lt_succ_self _) h0
theorem wji (pj : Nat) (lj : Array Slot) (rj : List Value) (P : Int32 → Prop) (k : ∀ x : Int32, P x → W p l e R s m args below meth c H locs cells slots Q (F0 m pj lj (.int x :: rj))) (body : (∀ x : Int32, P x → W p l e R s m args below meth c H locs cells slots Q (F0 m pj lj (.int x :: rj))) → W p l e R s m args below meth c H locs cells slots Q (F0 m pc ls rest)) : W p l e R s m args below meth c H locs cells slots Q (F0 m pc ls rest) := body k
theorem wjl (pj : Nat) (lj : Array Slot) (rj : List Value) (P : Int64 → Prop) (k : ∀ x : Int64, P x → W p l e R s m args below meth c H locs cells slots Q (F0 m pj lj (.long x :: rj))) (body : (∀ x : Int64, P x → W p l e R s m args below meth c H locs cells slots Q (F0 m pj lj (.long x :: rj))) → W p l e R s m args below meth c H locs cells slots Q (F0 m pc ls rest)) : W p l e R s m args below meth c H locs cells slots Q (F0 m pc ls rest) := body k
end KR
theorem inc1 (i : Nat) : nI i + Int32.ofInt 1 = nI (i + 1) := nI_1 i
theorem inc5 (i : Nat) : nI i + Int32.ofInt 5 = nI (i + 5) := nI_add i 5
theorem dec1 {i : Nat} (h : 1 ≤ i) : nI i + Int32.ofInt (-1) = nI (i - 1) := by
  obtain ⟨k, rfl⟩ : ∃ k, i = k + 1 := ⟨i - 1, by omega⟩
  exact pk_m1 k
theorem dec1' (i : Nat) (h : 1 ≤ i) : nI i - 1 = nI (i - 1) := by
  obtain ⟨k, rfl⟩ : ∃ k, i = k + 1 := ⟨i - 1, by omega⟩
  exact nI_pred k
