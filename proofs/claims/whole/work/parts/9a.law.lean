/-! THE CLAIM OUT OF ONE WALK OF THE LAW'S BODY. Your part is whole_start (and what it stands on); all else here is the same for every law, but numbers. -/
def R_law : String := "StoppingPlannerLaw"
def lw_P (b : Addr) (xs : List Int32) (args : Array Value) (s : State) : Prop := args = #[.ref b] ∧ s.IntsAt b xs ∧ xs.length ≤ 2560 ∧ (Jvm.Cond.and given_1 narrow_1).before args s = true
def lw_Q (_ : Array Value) (s : State) (o : Outcome) (t : State) : Prop := o = .returned (some (.int 1)) ∧ Framed s o t [] 40 6021
def lw_Z (below : List Frame) (a : Array Value) (s : State) : State → Prop := fun t => ∃ o, t.status = .running ∧ Ended t below o ∧ lw_Q a s o t
/-- the law's own end, with 1 on the stack, nothing written that was there before, its room as the claim has it -/
theorem lw_ret {p : Program} {l : Launch} {e : Env} {s : State} {m : MethodId} {below : List Frame} {meth : Method} {c : Code} {b : Nat} (hx : p.tables.exec = Jvm.exec) (hb : c.code = code) (hr : meth.sig.returnType = ret) (hlocks : meth.locks = false) {pc : Nat} {H : Heap} {ls : Array Slot} (hdg : decode code pc = .ok (.ireturn, 1)) : W p l e room_1 s m #[Value.ref b] below meth c H [] 40 6021 (lw_Z below #[Value.ref b] s) (F0 m pc ls [.int 1]) := by
  intro T hT X
  obtain ⟨fs, hret, hrun, hended, hW, hframe⟩ := X.leave (v := some (.int 1)) (hlocks := hlocks) (fun h => by rw [hr] at h; cases h)
  have hmeth' : T.vm.method? m = some meth := X.method'
  refine ⟨T.setFrames fs, ?_, .returned (some (.int 1)), hrun, hended, rfl, ⟨_, rfl⟩, hW, hframe⟩
  jvm_step X.here [X.here.top, hx, hb, hdg, hmeth', hr, ret, narrow_b1]
  (try refine ⟨rfl, ?_⟩); (try refine ⟨rfl, ?_⟩)
  first | (intro acts; rw [hret _ acts rfl rfl rfl]) | rw [hret _ _ rfl rfl rfl]
  exact Steps.refl _
/-- what holds at the law's entry: the machine, the code, the tables' words (any of lw_tbl by 'hts w (by decide +kernel)'), the script of L ints xs at the cell b, what the Statement gives of the start (any of its parts by flat_of_before) -/
def lw_At (p : Program) (s : State) (m : MethodId) (meth : Method) (c : Code) (b L : Nat) (xs : Nat → Int32) : Prop :=
  p.tables.exec = Jvm.exec ∧ c.code = code ∧ meth.sig.returnType = ret ∧ c.maxLocals = 4 ∧ s.vm.findClass R_law = some m.cls ∧ (∀ w ∈ lw_tbl, w.before #[Value.ref b] s = true) ∧ va_X b L xs s s.heap ∧ b < s.heap.size ∧ meth.locks = false ∧ (Jvm.Cond.and given_1 narrow_1).before #[Value.ref b] s = true

section LAWR
variable {p : Program} {l : Launch} {e : Env} {R : Room} {s : State} {m : MethodId} {args : Array Value} {below : List Frame} {meth : Method} {c : Code} {H : Heap} {locs : List Loc} {cells slots : Nat} {Q : State → Prop}
variable {cc : ByteArray} {pc : Nat} {ls : Array Slot} {rest : List Value} {A : Nat → Prop}
theorem r_scr (hx : p.tables.exec = Jvm.exec) (hb : c.code = cc) {b L : Nat} {xs : Nat → Int32} (hX : va_X b L xs s s.heap) (hbl : b < s.heap.size) (hbA : ¬ A b) (hS : va_S A s.heap H locs) {i : Nat} (hi : i < L) (hL : L < 2147483648) (hdg : decode cc pc = .ok (.iaload, 1)) (k : W p l e R s m args below meth c H locs cells slots Q (F0 m (pc + 1) ls (.int (xs i) :: rest))) : W p l e R s m args below meth c H locs cells slots Q (F0 m pc ls (.int (nI i) :: .ref b :: rest)) :=
  va_sld hx hb hX hbl hbA hS (nI_in' hi hL) hdg (by rw [nI_cl (Nat.lt_trans hi hL)]; exact k)
end LAWR
theorem inj3 {α β γ : Type} {a a' : α} {b b' : β} {c c' : γ} (h : (a, b, c) = (a', b', c')) : a = a' ∧ b = b' ∧ c = c' := by
  injection h with h1 h2; injection h2 with h2 h3; exact ⟨h1, h2, h3⟩
theorem inj2 {α β : Type} {a a' : α} {b b' : β} (h : (a, b) = (a', b')) : a = a' ∧ b = b' := by
  injection h with h1 h2; exact ⟨h1, h2⟩
abbrev NK (P P2 : Nat → Nat) (k3 kn kn2 : Nat) : Prop := (k3 = 0 ∧ kn2 = 0) ∨ (k3 = 1 ∧ kn2 = kn ∧ P2 = P)
theorem NK_K {P P2 ww rv sy gz : Nat → Nat} {k3 kn kn2 : Nat} (h : NK P P2 k3 kn kn2) (hK : KI P kn ww rv sy gz) : KI P2 kn2 ww rv sy gz := by
  rcases h with ⟨h1, h2⟩ | ⟨h1, h2, h3⟩
  · rw [h2]; exact KI_0
  · rw [h2, h3]; exact hK
theorem NK_R {P P2 : Nat → Nat} {w b : Nat → Int64} {k3 kn kn2 sv n : Nat} {co : Int64} (h : NK P P2 k3 kn kn2) (hK : RI P sv w b n co) : RI P2 (if k3 = 0 then 0 else sv) w b n co := by
  rcases h with ⟨h1, h2⟩ | ⟨h1, h2, h3⟩
  · rw [if_pos h1]; exact RI_0
  · rw [if_neg (by omega), h3]; exact hK
theorem NK_V {P P2 lv wt bf af : Nat → Nat} {k3 kn kn2 wr sv n co c1 c2 : Nat} (h : NK P P2 k3 kn kn2) (hK : VI P wr sv n co c1 c2 lv wt bf af) : VI P2 wr (if k3 = 0 then 0 else sv) n co c1 c2 lv wt bf af := by
  rcases h with ⟨h1, h2⟩ | ⟨h1, h2, h3⟩
  · rw [if_pos h1]; exact VI_0 hK
  · rw [if_neg (by omega), h3]; exact hK
theorem okC {P : Nat → Nat} (hP : PI P) {a b : Int32} (q : (nI 0 ≤ a ∧ a ≤ nI 2) ∧ (nI (lsO (nO a)) ≤ b ∧ b ≤ nI (msO (nO a)))) : PI (updN P (nO a) (nO b)) := by
  obtain ⟨qa, qb⟩ := q
  obtain ⟨xa, rfl, -, ha⟩ := in_n (by decide) (by decide) qa
  rw [nO_n (n := xa) (by omega)] at qb ⊢
  have h1 := lsO_b xa; have h2 := msO_b xa
  obtain ⟨xb, rfl, hb1, hb2⟩ := in_n (by omega) (by omega) qb
  rw [nO_n (n := xb) (by omega)]
  exact PI_upd hP (by omega) (by omega) ⟨hb1, hb2⟩
theorem okX {P : Nat → Nat} (hP : PI P) {i lo : Nat} {b : Int32} (hi : i < 22) (hw : i < 15 ∨ 20 ≤ i) (hl : tbl tLEA i = 0) (hm : tbl tMOS i = lo) (q : nI 0 ≤ b ∧ b ≤ nI lo) : PI (updN P i (nO b)) := by
  have e := ls_t i hi
  have h2 := msO_b i
  obtain ⟨xb, rfl, hb1, hb2⟩ := in_n (by decide) (by omega) q
  rw [nO_n (n := xb) (by omega)]
  exact PI_upd hP hw hi ⟨by omega, by omega⟩
theorem okP {P : Nat → Nat} (hP : PI P) {a b : Int32} (q : (nI 1 ≤ a ∧ a ≤ nI 7) ∧ (nI 0 ≤ b ∧ b ≤ nI 99)) : PI (updN P (3 + nO a - 1) (nO b)) := by
  obtain ⟨qa, qb⟩ := q
  obtain ⟨xa, rfl, ha1, ha⟩ := in_n (by decide) (by decide) qa
  rw [nO_n (n := xa) (by omega)]
  have e := ls_p (3 + xa - 1) (by omega) (by omega)
  exact okX hP (by omega) (by omega) e.1 e.2 qb
theorem okL {P : Nat → Nat} (hP : PI P) {a b : Int32} (q : (nI 0 ≤ a ∧ a ≤ nI 4) ∧ (nI 0 ≤ b ∧ b ≤ nI 99)) : PI (updN P (10 + nO a) (nO b)) := by
  obtain ⟨qa, qb⟩ := q
  obtain ⟨xa, rfl, ha1, ha⟩ := in_n (by decide) (by decide) qa
  rw [nO_n (n := xa) (by omega)]
  have e := ls_p (10 + xa) (by omega) (by omega)
  exact okX hP (by omega) (by omega) e.1 e.2 qb
theorem okR {P : Nat → Nat} (hP : PI P) {a b : Int32} (q : (nI 1 ≤ a ∧ a ≤ nI 2) ∧ (nI 0 ≤ b ∧ b ≤ nI 10)) : PI (updN P (20 + nO a - 1) (nO b)) := by
  obtain ⟨qa, qb⟩ := q
  obtain ⟨xa, rfl, ha1, ha⟩ := in_n (by decide) (by decide) qa
  rw [nO_n (n := xa) (by omega)]
  have e := ls_w (20 + xa - 1) (by omega) (by omega)
  exact okX hP (by omega) (by omega) e.1 e.2 qb
theorem typ_x {tx tx2 : Nat → Nat} {ty ty2 : Nat} {a r : Int32} (h : (r, tx2, ty2) = typO tx ty a) (h1 : ty ≤ 60) (hx : ∀ k, k < ty → 32 ≤ tx k ∧ tx k ≤ 126) : ty2 ≤ 60 ∧ ∀ k, k < ty2 → 32 ≤ tx2 k ∧ tx2 k ≤ 126 := by
  unfold typO at h
  by_cases c : ¬ (nI 32 ≤ a ∧ a ≤ nI 126)
  · rw [if_pos c] at h
    obtain ⟨-, rfl, rfl⟩ := inj3 h
    exact ⟨h1, hx⟩
  · rw [if_neg c] at h
    by_cases c2 : ty = 60
    · rw [if_pos c2] at h
      obtain ⟨-, rfl, rfl⟩ := inj3 h
      exact ⟨h1, hx⟩
    · rw [if_neg c2] at h
      obtain ⟨-, rfl, rfl⟩ := inj3 h
      refine ⟨by omega, fun k hk => ?_⟩
      unfold updN
      split
      · obtain ⟨xa, rfl, ha1, ha2⟩ := in_n (by decide) (by decide) (Decidable.not_not.mp c)
        rw [nO_n (by omega)]; exact ⟨ha1, ha2⟩
      · exact hx k (by omega)

/-- class and model, side by side -/
def SYS (D : va_G) (cI cL : ClassId) (x0 pa t0 t1 t2 y0 y1 r0 q1 q2 q3 a0 v1 v2 v3 v4 v5 b0 w1 w2 w3 w4 w5 s0 s1 s2 s3 m0 m1 m2 m3 m4 m5 m6 m7 m8 m9 m10 m11 m12 : Nat) (A : Nat → Prop) (H : Heap) : Prop := ∃ (P hs tx S Sd bf af lv wt ub ua ul ut ww rv sy gz rrC frC rr fr : Nat → Nat) (wz bz fz fl ufl xe : Nat → Int64) (rs rsC : Nat → Int32) (bm ty fa sv n vsv vn vco vc1 vc2 usv uwn uco uc1 uc2 tf tp its it nu di nb np sp fp kn lf yo ol : Nat) (un co hh : Int64) (dr zC : Int32), ((PI P) ∧ (HI hs bm) ∧ (ty ≤ 60) ∧ (∀ k, k < ty → 32 ≤ tx k ∧ tx k ≤ 126) ∧ (fa ≤ 3) ∧ (KI P kn ww rv sy gz) ∧ (RI P sv wz bz n co) ∧ (VI P 1 vsv vn vco vc1 vc2 lv wt bf af) ∧ (FZ fl) ∧ (VI P 0 usv uwn uco uc1 uc2 ul ut ub ua) ∧ (nb ≤ 99) ∧ (np ≤ 60)) ∧ va_P D vwCl [(x0, .inr (5, [.ref pa, .ref t0, .ref y0, .ref r0, .ref a0, .ref b0, .ref s0, .int (nI fa), .long un])), (pa, .inl (cI, 22, .inl (fun zz => nI (P zz)))), (r0, .inr (1, [.ref q1, .ref q2, .ref q3, .int (nI sv), .int (nI n), .long co])), (q1, .inl (cL, 49, .inr (.inl wz))), (q2, .inl (cL, 32, .inr (.inl bz))), (q3, .inl (cL, 32, .inr (.inl fz))), (a0, .inr (4, [.int (nI 1), .ref v1, .ref v2, .ref v3, .ref v4, .ref v5, .int (nI vsv), .int (nI vn), .long (lN vco), .int (nI vc1), .int (nI vc2)])), (v1, .inl (cL, 1152, .inr (.inl (fun zz => lN (bf zz))))), (v2, .inl (cL, 192, .inr (.inl (fun zz => lN (af zz))))), (v3, .inl (cL, 32, .inr (.inl fl))), (v4, .inl (cL, 5, .inr (.inl (fun zz => lN (lv zz))))), (v5, .inl (cI, 5, .inl (fun zz => nI (wt zz)))), (b0, .inr (4, [.int (nI 0), .ref w1, .ref w2, .ref w3, .ref w4, .ref w5, .int (nI usv), .int (nI uwn), .long (lN uco), .int (nI uc1), .int (nI uc2)])), (w1, .inl (cL, 1152, .inr (.inl (fun zz => lN (ub zz))))), (w2, .inl (cL, 192, .inr (.inl (fun zz => lN (ua zz))))), (w3, .inl (cL, 32, .inr (.inl ufl))), (w4, .inl (cL, 5, .inr (.inl (fun zz => lN (ul zz))))), (w5, .inl (cI, 5, .inl (fun zz => nI (ut zz)))), (t0, .inr (3, [.ref t1, .ref t2, .int (nI ty), .int (nI tf), .int (nI tp), .int (nI its), .int (itV it), .int (nI nu), .int (nI di), .int (nI nb), .int (nI np)])), (t1, .inl (cI, 60, .inl (fun zz => nI (tx zz)))), (t2, .inl (cI, 22, .inl (fun zz => nI (S zz)))), (y0, .inr (0, [.ref y1, .int (nI bm)])), (y1, .inl (cI, 176, .inl (fun zz => nI (hs zz)))), (s0, .inr (2, [.ref s1, .ref s2, .ref s3, .int zC])), (s1, .inl (cI, 5, .inl rsC)), (s2, .inl (cI, 8, .inl (fun zz => nI (rrC zz)))), (s3, .inl (cI, 8, .inl (fun zz => nI (frC zz)))), (m0, .inr (6, [.ref m1, .ref m2, .int (nI bm), .long un, .ref m3, .int (nI ty), .ref m4, .int (nI sp), .int (nI fa), .int (nI fp), .int (nI kn), .ref m5, .ref m6, .ref m7, .ref m8, .ref m9, .int dr, .ref m10, .ref m11, .int (nI lf), .int (nI yo), .int (nI ol), .ref m12, .long hh])), (m1, .inl (cI, 22, .inl (fun zz => nI (P zz)))), (m2, .inl (cI, 176, .inl (fun zz => nI (hs zz)))), (m3, .inl (cI, 60, .inl (fun zz => nI (tx zz)))), (m4, .inl (cI, 22, .inl (fun zz => nI (Sd zz)))), (m5, .inl (cL, 72, .inr (.inl (fun zz => lN (ww zz))))), (m6, .inl (cL, 40, .inr (.inl (fun zz => lN (rv zz))))), (m7, .inl (cL, 1152, .inr (.inl (fun zz => lN (sy zz))))), (m8, .inl (cL, 1152, .inr (.inl (fun zz => lN (gz zz))))), (m9, .inl (cL, 40, .inr (.inl xe))), (m10, .inl (cI, 8, .inl (fun zz => nI (rr zz)))), (m11, .inl (cI, 8, .inl (fun zz => nI (fr zz)))), (m12, .inl (cI, 5, .inl rs))] H ∧ va_D A [(x0, .inr (5, [.ref pa, .ref t0, .ref y0, .ref r0, .ref a0, .ref b0, .ref s0, .int (nI fa), .long un])), (pa, .inl (cI, 22, .inl (fun zz => nI (P zz)))), (r0, .inr (1, [.ref q1, .ref q2, .ref q3, .int (nI sv), .int (nI n), .long co])), (q1, .inl (cL, 49, .inr (.inl wz))), (q2, .inl (cL, 32, .inr (.inl bz))), (q3, .inl (cL, 32, .inr (.inl fz))), (a0, .inr (4, [.int (nI 1), .ref v1, .ref v2, .ref v3, .ref v4, .ref v5, .int (nI vsv), .int (nI vn), .long (lN vco), .int (nI vc1), .int (nI vc2)])), (v1, .inl (cL, 1152, .inr (.inl (fun zz => lN (bf zz))))), (v2, .inl (cL, 192, .inr (.inl (fun zz => lN (af zz))))), (v3, .inl (cL, 32, .inr (.inl fl))), (v4, .inl (cL, 5, .inr (.inl (fun zz => lN (lv zz))))), (v5, .inl (cI, 5, .inl (fun zz => nI (wt zz)))), (b0, .inr (4, [.int (nI 0), .ref w1, .ref w2, .ref w3, .ref w4, .ref w5, .int (nI usv), .int (nI uwn), .long (lN uco), .int (nI uc1), .int (nI uc2)])), (w1, .inl (cL, 1152, .inr (.inl (fun zz => lN (ub zz))))), (w2, .inl (cL, 192, .inr (.inl (fun zz => lN (ua zz))))), (w3, .inl (cL, 32, .inr (.inl ufl))), (w4, .inl (cL, 5, .inr (.inl (fun zz => lN (ul zz))))), (w5, .inl (cI, 5, .inl (fun zz => nI (ut zz)))), (t0, .inr (3, [.ref t1, .ref t2, .int (nI ty), .int (nI tf), .int (nI tp), .int (nI its), .int (itV it), .int (nI nu), .int (nI di), .int (nI nb), .int (nI np)])), (t1, .inl (cI, 60, .inl (fun zz => nI (tx zz)))), (t2, .inl (cI, 22, .inl (fun zz => nI (S zz)))), (y0, .inr (0, [.ref y1, .int (nI bm)])), (y1, .inl (cI, 176, .inl (fun zz => nI (hs zz)))), (s0, .inr (2, [.ref s1, .ref s2, .ref s3, .int zC])), (s1, .inl (cI, 5, .inl rsC)), (s2, .inl (cI, 8, .inl (fun zz => nI (rrC zz)))), (s3, .inl (cI, 8, .inl (fun zz => nI (frC zz)))), (m0, .inr (6, [.ref m1, .ref m2, .int (nI bm), .long un, .ref m3, .int (nI ty), .ref m4, .int (nI sp), .int (nI fa), .int (nI fp), .int (nI kn), .ref m5, .ref m6, .ref m7, .ref m8, .ref m9, .int dr, .ref m10, .ref m11, .int (nI lf), .int (nI yo), .int (nI ol), .ref m12, .long hh])), (m1, .inl (cI, 22, .inl (fun zz => nI (P zz)))), (m2, .inl (cI, 176, .inl (fun zz => nI (hs zz)))), (m3, .inl (cI, 60, .inl (fun zz => nI (tx zz)))), (m4, .inl (cI, 22, .inl (fun zz => nI (Sd zz)))), (m5, .inl (cL, 72, .inr (.inl (fun zz => lN (ww zz))))), (m6, .inl (cL, 40, .inr (.inl (fun zz => lN (rv zz))))), (m7, .inl (cL, 1152, .inr (.inl (fun zz => lN (sy zz))))), (m8, .inl (cL, 1152, .inr (.inl (fun zz => lN (gz zz))))), (m9, .inl (cL, 40, .inr (.inl xe))), (m10, .inl (cI, 8, .inl (fun zz => nI (rr zz)))), (m11, .inl (cI, 8, .inl (fun zz => nI (fr zz)))), (m12, .inl (cI, 5, .inl rs))]

set_option maxHeartbeats 4000000 in
set_option maxRecDepth 100000 in
theorem SYS_e {D : va_G} {cI cL : ClassId} {x0 pa t0 t1 t2 y0 y1 r0 q1 q2 q3 a0 v1 v2 v3 v4 v5 b0 w1 w2 w3 w4 w5 s0 s1 s2 s3 m0 m1 m2 m3 m4 m5 m6 m7 m8 m9 m10 m11 m12 : Nat} {A : Nat → Prop} {H : Heap} {G : Prop} (h : SYS D cI cL x0 pa t0 t1 t2 y0 y1 r0 q1 q2 q3 a0 v1 v2 v3 v4 v5 b0 w1 w2 w3 w4 w5 s0 s1 s2 s3 m0 m1 m2 m3 m4 m5 m6 m7 m8 m9 m10 m11 m12 A H) (k : ∀ (P hs tx S Sd bf af lv wt ub ua ul ut ww rv sy gz rrC frC rr fr : Nat → Nat) (wz bz fz fl ufl xe : Nat → Int64) (rs rsC : Nat → Int32) (bm ty fa sv n vsv vn vco vc1 vc2 usv uwn uco uc1 uc2 tf tp its it nu di nb np sp fp kn lf yo ol : Nat) (un co hh : Int64) (dr zC : Int32), PI P → HI hs bm → ty ≤ 60 → (∀ k, k < ty → 32 ≤ tx k ∧ tx k ≤ 126) → fa ≤ 3 → KI P kn ww rv sy gz → RI P sv wz bz n co → VI P 1 vsv vn vco vc1 vc2 lv wt bf af → FZ fl → VI P 0 usv uwn uco uc1 uc2 ul ut ub ua → nb ≤ 99 → np ≤ 60 → va_P D vwCl [(x0, .inr (5, [.ref pa, .ref t0, .ref y0, .ref r0, .ref a0, .ref b0, .ref s0, .int (nI fa), .long un])), (pa, .inl (cI, 22, .inl (fun zz => nI (P zz)))), (r0, .inr (1, [.ref q1, .ref q2, .ref q3, .int (nI sv), .int (nI n), .long co])), (q1, .inl (cL, 49, .inr (.inl wz))), (q2, .inl (cL, 32, .inr (.inl bz))), (q3, .inl (cL, 32, .inr (.inl fz))), (a0, .inr (4, [.int (nI 1), .ref v1, .ref v2, .ref v3, .ref v4, .ref v5, .int (nI vsv), .int (nI vn), .long (lN vco), .int (nI vc1), .int (nI vc2)])), (v1, .inl (cL, 1152, .inr (.inl (fun zz => lN (bf zz))))), (v2, .inl (cL, 192, .inr (.inl (fun zz => lN (af zz))))), (v3, .inl (cL, 32, .inr (.inl fl))), (v4, .inl (cL, 5, .inr (.inl (fun zz => lN (lv zz))))), (v5, .inl (cI, 5, .inl (fun zz => nI (wt zz)))), (b0, .inr (4, [.int (nI 0), .ref w1, .ref w2, .ref w3, .ref w4, .ref w5, .int (nI usv), .int (nI uwn), .long (lN uco), .int (nI uc1), .int (nI uc2)])), (w1, .inl (cL, 1152, .inr (.inl (fun zz => lN (ub zz))))), (w2, .inl (cL, 192, .inr (.inl (fun zz => lN (ua zz))))), (w3, .inl (cL, 32, .inr (.inl ufl))), (w4, .inl (cL, 5, .inr (.inl (fun zz => lN (ul zz))))), (w5, .inl (cI, 5, .inl (fun zz => nI (ut zz)))), (t0, .inr (3, [.ref t1, .ref t2, .int (nI ty), .int (nI tf), .int (nI tp), .int (nI its), .int (itV it), .int (nI nu), .int (nI di), .int (nI nb), .int (nI np)])), (t1, .inl (cI, 60, .inl (fun zz => nI (tx zz)))), (t2, .inl (cI, 22, .inl (fun zz => nI (S zz)))), (y0, .inr (0, [.ref y1, .int (nI bm)])), (y1, .inl (cI, 176, .inl (fun zz => nI (hs zz)))), (s0, .inr (2, [.ref s1, .ref s2, .ref s3, .int zC])), (s1, .inl (cI, 5, .inl rsC)), (s2, .inl (cI, 8, .inl (fun zz => nI (rrC zz)))), (s3, .inl (cI, 8, .inl (fun zz => nI (frC zz)))), (m0, .inr (6, [.ref m1, .ref m2, .int (nI bm), .long un, .ref m3, .int (nI ty), .ref m4, .int (nI sp), .int (nI fa), .int (nI fp), .int (nI kn), .ref m5, .ref m6, .ref m7, .ref m8, .ref m9, .int dr, .ref m10, .ref m11, .int (nI lf), .int (nI yo), .int (nI ol), .ref m12, .long hh])), (m1, .inl (cI, 22, .inl (fun zz => nI (P zz)))), (m2, .inl (cI, 176, .inl (fun zz => nI (hs zz)))), (m3, .inl (cI, 60, .inl (fun zz => nI (tx zz)))), (m4, .inl (cI, 22, .inl (fun zz => nI (Sd zz)))), (m5, .inl (cL, 72, .inr (.inl (fun zz => lN (ww zz))))), (m6, .inl (cL, 40, .inr (.inl (fun zz => lN (rv zz))))), (m7, .inl (cL, 1152, .inr (.inl (fun zz => lN (sy zz))))), (m8, .inl (cL, 1152, .inr (.inl (fun zz => lN (gz zz))))), (m9, .inl (cL, 40, .inr (.inl xe))), (m10, .inl (cI, 8, .inl (fun zz => nI (rr zz)))), (m11, .inl (cI, 8, .inl (fun zz => nI (fr zz)))), (m12, .inl (cI, 5, .inl rs))] H → va_D A [(x0, .inr (5, [.ref pa, .ref t0, .ref y0, .ref r0, .ref a0, .ref b0, .ref s0, .int (nI fa), .long un])), (pa, .inl (cI, 22, .inl (fun zz => nI (P zz)))), (r0, .inr (1, [.ref q1, .ref q2, .ref q3, .int (nI sv), .int (nI n), .long co])), (q1, .inl (cL, 49, .inr (.inl wz))), (q2, .inl (cL, 32, .inr (.inl bz))), (q3, .inl (cL, 32, .inr (.inl fz))), (a0, .inr (4, [.int (nI 1), .ref v1, .ref v2, .ref v3, .ref v4, .ref v5, .int (nI vsv), .int (nI vn), .long (lN vco), .int (nI vc1), .int (nI vc2)])), (v1, .inl (cL, 1152, .inr (.inl (fun zz => lN (bf zz))))), (v2, .inl (cL, 192, .inr (.inl (fun zz => lN (af zz))))), (v3, .inl (cL, 32, .inr (.inl fl))), (v4, .inl (cL, 5, .inr (.inl (fun zz => lN (lv zz))))), (v5, .inl (cI, 5, .inl (fun zz => nI (wt zz)))), (b0, .inr (4, [.int (nI 0), .ref w1, .ref w2, .ref w3, .ref w4, .ref w5, .int (nI usv), .int (nI uwn), .long (lN uco), .int (nI uc1), .int (nI uc2)])), (w1, .inl (cL, 1152, .inr (.inl (fun zz => lN (ub zz))))), (w2, .inl (cL, 192, .inr (.inl (fun zz => lN (ua zz))))), (w3, .inl (cL, 32, .inr (.inl ufl))), (w4, .inl (cL, 5, .inr (.inl (fun zz => lN (ul zz))))), (w5, .inl (cI, 5, .inl (fun zz => nI (ut zz)))), (t0, .inr (3, [.ref t1, .ref t2, .int (nI ty), .int (nI tf), .int (nI tp), .int (nI its), .int (itV it), .int (nI nu), .int (nI di), .int (nI nb), .int (nI np)])), (t1, .inl (cI, 60, .inl (fun zz => nI (tx zz)))), (t2, .inl (cI, 22, .inl (fun zz => nI (S zz)))), (y0, .inr (0, [.ref y1, .int (nI bm)])), (y1, .inl (cI, 176, .inl (fun zz => nI (hs zz)))), (s0, .inr (2, [.ref s1, .ref s2, .ref s3, .int zC])), (s1, .inl (cI, 5, .inl rsC)), (s2, .inl (cI, 8, .inl (fun zz => nI (rrC zz)))), (s3, .inl (cI, 8, .inl (fun zz => nI (frC zz)))), (m0, .inr (6, [.ref m1, .ref m2, .int (nI bm), .long un, .ref m3, .int (nI ty), .ref m4, .int (nI sp), .int (nI fa), .int (nI fp), .int (nI kn), .ref m5, .ref m6, .ref m7, .ref m8, .ref m9, .int dr, .ref m10, .ref m11, .int (nI lf), .int (nI yo), .int (nI ol), .ref m12, .long hh])), (m1, .inl (cI, 22, .inl (fun zz => nI (P zz)))), (m2, .inl (cI, 176, .inl (fun zz => nI (hs zz)))), (m3, .inl (cI, 60, .inl (fun zz => nI (tx zz)))), (m4, .inl (cI, 22, .inl (fun zz => nI (Sd zz)))), (m5, .inl (cL, 72, .inr (.inl (fun zz => lN (ww zz))))), (m6, .inl (cL, 40, .inr (.inl (fun zz => lN (rv zz))))), (m7, .inl (cL, 1152, .inr (.inl (fun zz => lN (sy zz))))), (m8, .inl (cL, 1152, .inr (.inl (fun zz => lN (gz zz))))), (m9, .inl (cL, 40, .inr (.inl xe))), (m10, .inl (cI, 8, .inl (fun zz => nI (rr zz)))), (m11, .inl (cI, 8, .inl (fun zz => nI (fr zz)))), (m12, .inl (cI, 5, .inl rs))] → G) : G := by
  unfold SYS at h
  refine h.elim (fun P h => ?_)
  refine h.elim (fun hs h => ?_)
  refine h.elim (fun tx h => ?_)
  refine h.elim (fun S h => ?_)
  refine h.elim (fun Sd h => ?_)
  refine h.elim (fun bf h => ?_)
  refine h.elim (fun af h => ?_)
  refine h.elim (fun lv h => ?_)
  refine h.elim (fun wt h => ?_)
  refine h.elim (fun ub h => ?_)
  refine h.elim (fun ua h => ?_)
  refine h.elim (fun ul h => ?_)
  refine h.elim (fun ut h => ?_)
  refine h.elim (fun ww h => ?_)
  refine h.elim (fun rv h => ?_)
  refine h.elim (fun sy h => ?_)
  refine h.elim (fun gz h => ?_)
  refine h.elim (fun rrC h => ?_)
  refine h.elim (fun frC h => ?_)
  refine h.elim (fun rr h => ?_)
  refine h.elim (fun fr h => ?_)
  refine h.elim (fun wz h => ?_)
  refine h.elim (fun bz h => ?_)
  refine h.elim (fun fz h => ?_)
  refine h.elim (fun fl h => ?_)
  refine h.elim (fun ufl h => ?_)
  refine h.elim (fun xe h => ?_)
  refine h.elim (fun rs h => ?_)
  refine h.elim (fun rsC h => ?_)
  refine h.elim (fun bm h => ?_)
  refine h.elim (fun ty h => ?_)
  refine h.elim (fun fa h => ?_)
  refine h.elim (fun sv h => ?_)
  refine h.elim (fun n h => ?_)
  refine h.elim (fun vsv h => ?_)
  refine h.elim (fun vn h => ?_)
  refine h.elim (fun vco h => ?_)
  refine h.elim (fun vc1 h => ?_)
  refine h.elim (fun vc2 h => ?_)
  refine h.elim (fun usv h => ?_)
  refine h.elim (fun uwn h => ?_)
  refine h.elim (fun uco h => ?_)
  refine h.elim (fun uc1 h => ?_)
  refine h.elim (fun uc2 h => ?_)
  refine h.elim (fun tf h => ?_)
  refine h.elim (fun tp h => ?_)
  refine h.elim (fun its h => ?_)
  refine h.elim (fun it h => ?_)
  refine h.elim (fun nu h => ?_)
  refine h.elim (fun di h => ?_)
  refine h.elim (fun nb h => ?_)
  refine h.elim (fun np h => ?_)
  refine h.elim (fun sp h => ?_)
  refine h.elim (fun fp h => ?_)
  refine h.elim (fun kn h => ?_)
  refine h.elim (fun lf h => ?_)
  refine h.elim (fun yo h => ?_)
  refine h.elim (fun ol h => ?_)
  refine h.elim (fun un h => ?_)
  refine h.elim (fun co h => ?_)
  refine h.elim (fun hh h => ?_)
  refine h.elim (fun dr h => ?_)
  refine h.elim (fun zC h => ?_)
  exact k P hs tx S Sd bf af lv wt ub ua ul ut ww rv sy gz rrC frC rr fr wz bz fz fl ufl xe rs rsC bm ty fa sv n vsv vn vco vc1 vc2 usv uwn uco uc1 uc2 tf tp its it nu di nb np sp fp kn lf yo ol un co hh dr zC h.1.1 h.1.2.1 h.1.2.2.1 h.1.2.2.2.1 h.1.2.2.2.2.1 h.1.2.2.2.2.2.1 h.1.2.2.2.2.2.2.1 h.1.2.2.2.2.2.2.2.1 h.1.2.2.2.2.2.2.2.2.1 h.1.2.2.2.2.2.2.2.2.2.1 h.1.2.2.2.2.2.2.2.2.2.2.1 h.1.2.2.2.2.2.2.2.2.2.2.2 h.2.1 h.2.2

