/-! what is thrown and caught here; both sides' pictures over one state (by hand) -/
section AMC
variable {p : Program} {l : Launch} {e : Env} {R : Room} {s : State} {m : MethodId} {args : Array Value} {below : List Frame} {meth : Method} {c : Code} {nL : Nat} {X : am_X} {Q : State → Prop}
variable {cc : ByteArray} {y : MethodName} {ret : Option FieldType} {et : List (Nat × Nat × Nat × Nat)} {h : am_H} {nx cells slots pc pc' : Nat} {L : List (Option Value)} {st : List Value}
/-- one row that covers the pc and names a class by a link of the pool, noted or not: it takes the object, or the search goes on behind it; the link is noted -/
theorem cw_row {Q0 : Handler → Pre} {E : CtlPost} {d0 : Bool} {acts : List Action} {U : State} {f : JFrame} {a : Addr} {r : ExceptionTableEntry} {rs : List ExceptionTableEntry} {k0 : ClassId} {cell : Cell} (yes : Bool) (hr : covers r f.pc = true) (h0 : r.catchType ≠ 0) (hl : U.vm.ClassLinks e.platform f.method.cls r.catchType k0) (hcell : U.heap[a]? = some cell) (hobj : ∀ k, cell.vm ≠ .statics k) (hk : ∃ k, U.vm.classes[cell.cls]? = some k) (hc : ∃ k, U.vm.classes[k0]? = some k) (hy : U.vm.assignable cell.cls k0 = yes) :
    wp (findHandler.go f a (r :: rs)) Q0 E e d0 acts U ↔ (if yes = true then Q0 (.found r.handlerPc) d0 acts (U.setVm (U.vm.noted f.method.cls r.catchType (.cls k0))) else wp (findHandler.go f a rs) Q0 E e d0 acts (U.setVm (U.vm.noted f.method.cls r.catchType (.cls k0)))) := by
  have al : U.vm.Alike (U.vm.noted f.method.cls r.catchType (.cls k0)) := (Vm.Alike.refl U.vm).noted _ _ _
  obtain ⟨w1, w2⟩ := (resolveClass_links e.toSetting hl).op (op := VmOp.resolveClass f.method.cls r.catchType) rfl
  obtain ⟨q1, hq1⟩ := hk
  obtain ⟨q2, hq2⟩ := hc
  obtain ⟨v1, hv1, -⟩ := al.2.2 _ _ hq1
  obtain ⟨v2, hv2, -⟩ := al.2.2 _ _ hq2
  have hy' : (U.vm.noted f.method.cls r.catchType (.cls k0)).assignable cell.cls k0 = yes := by rw [al.assignable]; exact hy
  have hr' : (decide (r.startPc ≤ f.pc) && decide (f.pc < r.endPc)) = true := hr
  cases yes <;> simp [findHandler.go, hr', h0, w1, w2, hcell, hobj, hv1, hv2, hy', VmOp.dirties, VmOp.acts]
/-- a search that ends at a handler: the walk goes on there -/
theorem cw_to {T : State} {locs : List Loc} (XS : Stand p l e R s m args below meth c T locs cells slots) {a : Addr} {g : JFrame} (hg : g.method = m) {hpc : Nat} {v : Vm} (hf : ∀ (Q0 : Handler → Pre) (E : CtlPost) (d0 : Bool) (acts : List Action), wp (findHandler g a) Q0 E e d0 acts ((T.setTop g).pushFrame (.throwing a)) ↔ Q0 (.found hpc) d0 acts (((T.setTop g).pushFrame (.throwing a)).setVm v)) {t : State} (hrest : Steps p.tables e below ((T.setVm v).setTop { g with pc := hpc, stack := [.ref a] }) t) : Steps p.tables e below ((T.setTop g).pushFrame (.throwing a)) t := by
  subst hg
  obtain ⟨w1, w2⟩ := XS.here.throwing a
  obtain ⟨g0, hg0⟩ := Option.isSome_iff_exists.mp XS.here.top
  obtain ⟨r, hr⟩ := State.topJava?_eq_some.mp hg0
  have key : (stepThrowing e ((T.setTop g).pushFrame (.throwing a)) a (.java g :: T.frames.tail)).Is ((((T.setTop g).pushFrame (.throwing a)).setVm v).setFrames (.java { g with pc := hpc, stack := [.ref a] } :: T.frames.tail)) [] := by
    simp only [stepThrowing, searchFrame, vmDo]
    generalize hq : Sem.go _ e false [] _ = res
    obtain ⟨as, rfl, ha⟩ := Sem.eq_ok_of hq (a := Handler.found hpc) (s' := ((T.setTop g).pushFrame (.throwing a)).setVm v) (acts' := []) (by simp [hf _ _ _ _])
    exact ⟨rfl, ha⟩
  refine Steps.head w1 w2 ?_
  rw [stepThread_throwing (frames_entered XS.here.top _), key.1]
  have e1 : (((T.setTop g).pushFrame (.throwing a)).setVm v).setFrames (.java { g with pc := hpc, stack := [.ref a] } :: T.frames.tail) = (T.setVm v).setTop { g with pc := hpc, stack := [.ref a] } := by
    have hr' : (T.setVm v).frames = .java g0 :: r := hr
    rw [State.setTop_of_frames _ hr', State.pushFrame, State.setTop_of_frames _ hr, State.setFrames_setFrames, hr]
    exact State.setFrames_setFrames (T.setVm v) _ _
  rw [e1]
  exact hrest
/-- caught by the first row of the method's own table -/
theorem v_catch1 (F : am_Fx p s m args meth c y cc nL ret et X) {x ci N sp ep hpc ct : Nat} {C nm : String} {T9 : u_T} {fs : List Value} {er : List (Nat × Nat × Nat × Nat)} (het : et = (sp, ep, hpc, ct) :: er) (hcv : (decide (sp ≤ pc) && decide (pc < ep)) = true) (hct : ct ≠ 0) (hlink : Cond.classLink y.cls ct nm ∈ lw_tbl) (hcast : Cond.castable C nm ∈ lw_tbl) (hc : am_cl[ci]? = some (C, T9, N)) (hb : h x = some (.inr (ci, fs))) (k : V p l e R s m args below meth c nL X Q h nx cells slots hpc L [.ref x]) : VX p l e R s m args below meth c nL X Q h nx cells slots pc L x := by
  intro T locs ls st hR hL hl XS
  obtain ⟨f1, f2, f3, f4, hts, hK, f7, f8, f9, f10⟩ := id F
  obtain ⟨-, r, h1, cell, hcell, hcl, hvm, -⟩ := hR.2.2.2 _ _ hb
  cases h1.symm.trans hc
  have hfc : s.vm.findClass C = some cell.cls := by rw [hcl]; exact (hK.1.1 ci _ hc).2.1
  obtain ⟨c0, t0, g1, g2, g3⟩ := Cond.castable_spec (va_Nw.use (A := args) rfl (hK.2.1 _ hcast rfl))
  cases hfc.symm.trans g1
  rw [het] at f10
  obtain ⟨e0, es, htl, he0, -⟩ := List.map_eq_cons_iff.mp f10
  have w1 : e0.startPc = sp := congrArg (fun q => q.1) he0
  have w2 : e0.endPc = ep := congrArg (fun q => q.2.1) he0
  have w3 : e0.handlerPc = hpc := congrArg (fun q => q.2.2.1) he0
  have w4 : e0.catchType = ct := congrArg (fun q => q.2.2.2) he0
  subst w1 w2 w3 w4
  have hpl : e.platform.magicAccessors = ({} : Platform).magicAccessors := by rw [XS.admits.platform]
  obtain ⟨c', hc', hl0⟩ := Cond.classLink_spec f4 (hts _ (am_in hlink rfl)) e.platform hpl
  cases g2.symm.trans hc'
  obtain ⟨dk, _, _, kt, hd, _, _, _, _, hkt, _, hopen⟩ := hl0.here
  have al := XS.warmed.alike
  obtain ⟨kt', hkt', -⟩ := al.2.2 _ _ hkt
  have hfit : T.vm.assignable cell.cls t0 = true := by rw [al.assignable]; exact g3
  have hW : s.WarmedH (T.vm.noted m.cls e0.catchType (.cls t0)) := XS.warmed.noted hd hopen (State.rightAt_cls hl0)
  obtain ⟨t, a1, b1⟩ := k T.heap locs ls hR hL hl (T.setVm (T.vm.noted m.cls e0.catchType (.cls t0))) rfl (XS.noted hW)
  refine ⟨t, cw_to XS (g := F0 m pc ls st) (hpc := e0.handlerPc) rfl (fun Q0 E d0 acts => ?_) a1, b1⟩
  rw [W.findHandler_eq (s := (T.setTop (F0 m pc ls st)).pushFrame (.throwing x)) (f := F0 m pc ls st) XS.method' XS.code, htl]
  exact (cw_row (U := (T.setTop (F0 m pc ls st)).pushFrame (.throwing x)) (f := F0 m pc ls st) true hcv hct (XS.warmed.classLinks hl0) hcell (VmData.ne_statics_of (by rw [hvm]; rfl)) (Vm.classAt_of_assignable hfit ⟨kt', hkt'⟩) ⟨kt', hkt'⟩ hfit).trans (by rw [if_pos rfl]; exact Iff.rfl)
/-- an IllegalStateException, caught by the second row behind one for IllegalArgumentException -/
theorem v_catch2 (F : am_Fx p s m args meth c y cc nL ret et X) {x N sp ep hpc0 ct0 hpc ct : Nat} {T9 : u_T} {fs : List Value} {er : List (Nat × Nat × Nat × Nat)} (het : et = (sp, ep, hpc0, ct0) :: (sp, ep, hpc, ct) :: er) (hcv : (decide (sp ≤ pc) && decide (pc < ep)) = true) (hct0 : ct0 ≠ 0) (hct : ct ≠ 0) (hlink0 : Cond.classLink y.cls ct0 "java/lang/IllegalArgumentException" ∈ lw_tbl) (hlink : Cond.classLink y.cls ct "java/lang/IllegalStateException" ∈ lw_tbl) (hcast : Cond.castable "java/lang/IllegalStateException" "java/lang/IllegalStateException" ∈ lw_tbl) (hc : am_cl[7]? = some ("java/lang/IllegalStateException", T9, N)) (hb : h x = some (.inr (7, fs))) (k : V p l e R s m args below meth c nL X Q h nx cells slots hpc L [.ref x]) : VX p l e R s m args below meth c nL X Q h nx cells slots pc L x := by
  intro T locs ls st hR hL hl XS
  obtain ⟨f1, f2, f3, f4, hts, hK, f7, f8, f9, f10⟩ := id F
  obtain ⟨-, r, h1, cell, hcell, hcl, hvm, -⟩ := hR.2.2.2 _ _ hb
  cases h1.symm.trans hc
  have hfc : s.vm.findClass "java/lang/IllegalStateException" = some cell.cls := by rw [hcl]; exact (hK.1.1 7 _ hc).2.1
  obtain ⟨c0, t0, g1, g2, g3⟩ := Cond.castable_spec (va_Nw.use (A := args) rfl (hK.2.1 _ hcast rfl))
  cases hfc.symm.trans g1
  have hNc : va_Nc "java/lang/IllegalStateException" "java/lang/IllegalArgumentException" s := hK.2.2.2.2.2.2.2.2.1
  obtain ⟨c1, t1, j1, j2, j3⟩ := hNc
  cases hfc.symm.trans j1
  rw [het] at f10
  obtain ⟨e0, es, htl, he0, hes⟩ := List.map_eq_cons_iff.mp f10
  obtain ⟨e1, es1, htl1, he1, -⟩ := List.map_eq_cons_iff.mp hes
  have u1 : e0.startPc = sp := congrArg (fun q => q.1) he0
  have u2 : e0.endPc = ep := congrArg (fun q => q.2.1) he0
  have u4 : e0.catchType = ct0 := congrArg (fun q => q.2.2.2) he0
  have w1 : e1.startPc = sp := congrArg (fun q => q.1) he1
  have w2 : e1.endPc = ep := congrArg (fun q => q.2.1) he1
  have w3 : e1.handlerPc = hpc := congrArg (fun q => q.2.2.1) he1
  have w4 : e1.catchType = ct := congrArg (fun q => q.2.2.2) he1
  have hcv0 : covers e0 pc = true := by show (decide (e0.startPc ≤ pc) && decide (pc < e0.endPc)) = true; rw [u1, u2]; exact hcv
  have hcv1 : covers e1 pc = true := by show (decide (e1.startPc ≤ pc) && decide (pc < e1.endPc)) = true; rw [w1, w2]; exact hcv
  subst w3 w4 u4
  have hpl : e.platform.magicAccessors = ({} : Platform).magicAccessors := by rw [XS.admits.platform]
  obtain ⟨c', hc', hl0⟩ := Cond.classLink_spec f4 (hts _ (am_in hlink0 rfl)) e.platform hpl
  cases j2.symm.trans hc'
  obtain ⟨c'', hc'', hl1⟩ := Cond.classLink_spec f4 (hts _ (am_in hlink rfl)) e.platform hpl
  cases g2.symm.trans hc''
  obtain ⟨dk, _, _, kt, hd, _, _, _, _, hkt, _, hopen⟩ := hl0.here
  obtain ⟨dk1, _, _, kt1, hd1, _, _, _, _, hkt1, _, hopen1⟩ := hl1.here
  have al := XS.warmed.alike
  obtain ⟨kt', hkt', -⟩ := al.2.2 _ _ hkt
  have hno : T.vm.assignable cell.cls t1 = false := by rw [al.assignable]; exact j3
  have hW : s.WarmedH (T.vm.noted m.cls e0.catchType (.cls t1)) := XS.warmed.noted hd hopen (State.rightAt_cls hl0)
  have al1 := hW.alike
  obtain ⟨kt1', hkt1', -⟩ := al1.2.2 _ _ hkt1
  have hfit : (T.vm.noted m.cls e0.catchType (.cls t1)).assignable cell.cls t0 = true := by rw [al1.assignable]; exact g3
  have hW1 : s.WarmedH ((T.vm.noted m.cls e0.catchType (.cls t1)).noted m.cls e1.catchType (.cls t0)) := hW.noted hd1 hopen1 (State.rightAt_cls hl1)
  obtain ⟨ko, hko⟩ := Vm.classAt_of_findClass hfc
  obtain ⟨ko', hko', -⟩ := al.2.2 _ _ hko
  obtain ⟨t, a1, b1⟩ := k T.heap locs ls hR hL hl (T.setVm ((T.vm.noted m.cls e0.catchType (.cls t1)).noted m.cls e1.catchType (.cls t0))) rfl (XS.noted hW1)
  refine ⟨t, cw_to XS (g := F0 m pc ls st) (hpc := e1.handlerPc) rfl (fun Q0 E d0 acts => ?_) a1, b1⟩
  rw [W.findHandler_eq (s := (T.setTop (F0 m pc ls st)).pushFrame (.throwing x)) (f := F0 m pc ls st) XS.method' XS.code, htl, htl1]
  refine (cw_row (U := (T.setTop (F0 m pc ls st)).pushFrame (.throwing x)) (f := F0 m pc ls st) false hcv0 hct0 (XS.warmed.classLinks hl0) hcell (VmData.ne_statics_of (by rw [hvm]; rfl)) ⟨ko', hko'⟩ ⟨kt', hkt'⟩ hno).trans ?_
  rw [if_neg (by decide)]
  exact (cw_row (U := ((T.setTop (F0 m pc ls st)).pushFrame (.throwing x)).setVm (T.vm.noted m.cls e0.catchType (.cls t1))) (f := F0 m pc ls st) true hcv1 hct (hW.classLinks hl1) hcell (VmData.ne_statics_of (by rw [hvm]; rfl)) (Vm.classAt_of_assignable hfit ⟨kt1', hkt1'⟩) ⟨kt1', hkt1'⟩ hfit).trans (by rw [if_pos rfl]; exact Iff.rfl)
end AMC
/-- the reference's picture depends on its own fields only -/
theorem RepM.c {y : Nat} {M M' : MS} {h : am_H} (hM : RepM y M h) (he : ∀ k : Nat, k < 28 → M' k = M k) : RepM y M' h := by
  refine ⟨?_, fun k h1 h2 h3 => ?_⟩
  · have e : md_fs y M' = md_fs y M := by
      unfold md_fs
      rw [he 0 (by decide), he 1 (by decide), he 7 (by decide)]
    rw [e]; exact hM.1
  · rw [md_cell_c (he k h2)]; exact hM.2 k h1 h2 h3
/-- the reference's fields of A, the class's notes of B -/
def mrg (A B : MS) : MS := fun k => if k < 28 then A k else B k
theorem mrg_l {A B : MS} {k : Nat} (h : k < 28) : mrg A B k = A k := if_pos h
theorem mrg_r {A B : MS} {k : Nat} (h : ¬ k < 28) : mrg A B k = B k := if_neg h
/-- where the class's object may lie -/
def AA (y o9 : Nat) : Nat → Prop := fun a => (a < y ∨ y + 26 ≤ a) ∧ a ≠ o9
/-- both sides stand in one state -/
def Bo (X : am_X) (x y o9 : Nat) (M : MS) (P : Tg → Nat) (h : am_H) : Prop := RepM y M h ∧ RepC X x (AA y o9) P M h ∧ RI M ∧ NI M
theorem Bo.step {X : am_X} {x y o9 : Nat} {P' : Tg → Nat} {h : am_H} {M9 M' T : MS} (hM : RepM y M9 h) (hC : RepC X x (AA y o9) P' M' h) (hT : RI T) (hN : NI M') (h1 : eqv M9 T) (h2 : ∀ k : Nat, k ≠ 0 → k < 26 → M' k = T k) : Bo X x y o9 (mrg M9 M') P' h := by
  have e : ∀ k : Nat, k ≠ 0 → k < 26 → mrg M9 M' k = M' k := fun k z0 z1 => by rw [mrg_l (by omega), h1 k z0 (by omega) (by omega), h2 k z0 z1]
  refine ⟨hM.c (fun k hk => mrg_l hk), hC.note (fun k z0 _ _ _ _ _ z26 z27 => ?_), hT.c (fun k z0 z1 => by rw [e k z0 z1, h2 k z0 z1]), hN.c (fun k hk => ?_)⟩
  · by_cases c : k < 28
    · exact e k z0 (by omega)
    · exact mrg_r c
  · by_cases c : k < 28
    · exact e k (by omega) (by omega)
    · exact mrg_r c
