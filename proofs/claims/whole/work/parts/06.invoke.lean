/-! the instructions that call; what is thrown -/
/-- x is thrown over the frame at pc -/
def VX (p : Program) (l : Launch) (e : Env) (R : Room) (s : State) (m : MethodId) (args : Array Value) (below : List Frame) (meth : Method) (c : Code) (nL : Nat) (X : am_X) (Q : State → Prop) (h : am_H) (nx cells slots pc : Nat) (L : List (Option Value)) (x : Nat) : Prop :=
  ∀ (T : State) (locs : List Loc) (ls : Array Slot) (st : List Value), am_R X h nx T.heap → (∀ q ∈ locs, am_sz X ≤ q.base) → am_L ls nL L → Stand p l e R s m args below meth c T locs cells slots → ∃ t, Steps p.tables e below ((T.setTop (F0 m pc ls st)).pushFrame (.throwing x)) t ∧ Q t
theorem am_named {y : MethodName} {bytes : ByteArray} {maxL : Nat} {ret : Option FieldType} {a : Array Value} {U : State} (h : am_code y bytes maxL ret) (hts : ∀ w ∈ am_tb, w.before a U = true) : ∃ mk, U.methodNamed? y = some mk := by
  rcases h with h | ⟨et, h⟩
  · exact Cond.code_named (hts _ (am_in h rfl))
  · obtain ⟨m', meth, c, h0, -⟩ := Cond.codeWith_spec (hts _ (am_in h rfl))
    exact ⟨m', h0⟩
/-- a callee by the tables: its code, its class is ready, it is no method handle's, it takes n arguments -/
def am_cal (y : MethodName) (bytes : ByteArray) (maxL : Nat) (ret : Option FieldType) (n : Nat) : Prop := am_code y bytes maxL ret ∧ Cond.initialized y.cls ∈ lw_tbl ∧ (y.cls ≠ "java/lang/invoke/MethodHandle" ∧ y.cls ≠ "java/lang/invoke/VarHandle") ∧ (parseMethodDescriptor y.desc).map (fun d => d.parameters.length) = some n
def am_fit (R rm : Room) (maxL cells slots : Nat) : Prop := rm.frames + 1 ≤ R.frames ∧ 8 + (maxL + 11) + rm.locals ≤ R.locals ∧ cells + rm.cells ≤ R.cells ∧ slots + rm.slots ≤ R.slots
section AMI
variable {p : Program} {l : Launch} {e : Env} {R : Room} {s : State} {m : MethodId} {args : Array Value} {below : List Frame} {meth : Method} {c : Code} {nL : Nat} {X : am_X} {Q : State → Prop}
variable {cc : ByteArray} {y : MethodName} {ret : Option FieldType} {et : List (Nat × Nat × Nat × Nat)} {h : am_H} {nx cells slots pc pc' : Nat} {L : List (Option Value)} {st : List Value} {mc ms : Nat} {post : Outcome → am_H → Nat → Prop}
variable {y' : MethodName} {rm : Room} {av : List Value} {bytes : ByteArray} {maxL index : Nat} {ret' : Option FieldType}
/-- behind the call: goes on, or is thrown -/
theorem am_go {ig : Instr} (F : am_Fx p s m args meth c y cc nL ret et X) (d : decode cc pc = .ok (ig, 3)) (hp : pc + 3 = pc') (hcal : am_code y' bytes maxL ret' ∧ Cond.initialized y'.cls ∈ lw_tbl) (hfit : am_fit R rm maxL cells slots) (hC : Cn l X y' rm av h nx post) (hw : (st.map fun v => v.category).sum ≤ 8)
    (kr : ∀ (v : Option Value) (h' : am_H) (nx' : Nat), post (.returned v) h' nx' → V p l e R s m args below meth c nL X Q h' nx' (cells + rm.cells) (slots + rm.slots) pc' L (v.toList ++ st))
    (kx : ∀ (x : Nat) (h' : am_H) (nx' : Nat), post (.threw x) h' nx' → VX p l e R s m args below meth c nL X Q h' nx' (cells + rm.cells) (slots + rm.slots) pc L x)
    {T : State} {locs : List Loc} {ls : Array Slot} (hR : am_R X h nx T.heap) (hL : ∀ q ∈ locs, am_sz X ≤ q.base) (hl : am_L ls nL L) (XS : Stand p l e R s m args below meth c T locs cells slots) {mk : MethodId} (hn : s.methodNamed? y' = some mk) :
    ∃ t, Steps p.tables e below (doInvoke e (T.setTop (F0 m pc ls st)) [] mk av.toArray).1 t ∧ Q t := by
  subst hp
  obtain ⟨f1, f2, f3, f4, hts, hK, f7, f8, f9, f10⟩ := F
  obtain ⟨o, T', L9, X', hL9, ⟨h', nx', hR', hpost⟩, hst⟩ := am_back hC XS (g := F0 m pc ls st) rfl (hl.1.trans f3.symm) (by rw [f2]; exact d) (XS.named hn) hts hK hR hcal.1 hcal.2 (lv_room hw) hfit.1 hfit.2.1 hfit.2.2.1 hfit.2.2.2
  have hL' : ∀ q ∈ locs ++ L9, am_sz X ≤ q.base := fun q hq => (List.mem_append.mp hq).elim (hL q) (hL9 q)
  cases o with
  | returned v =>
    obtain ⟨t, a1, b1⟩ := kr v h' nx' hpost T'.heap (locs ++ L9) ls hR' hL' hl T' rfl X'
    exact ⟨t, hst.trans a1, b1⟩
  | threw x =>
    obtain ⟨t, a1, b1⟩ := kx x h' nx' hpost T' (locs ++ L9) ls st hR' hL' hl X'
    exact ⟨t, hst.trans a1, b1⟩
theorem v_callS (F : am_Fx p s m args meth c y cc nL ret et X) {st0 : List Value} (d : decode cc pc = .ok (.invokestatic index, 3)) (hp : pc + 3 = pc') (hcal : am_cal y' bytes maxL ret' av.length) (hlink : Cond.methodLink y.cls index y' ∈ lw_tbl) (hstat : Cond.static y' ∈ lw_tbl) (hC : Cn l X y' rm av h nx post) (hst : st0 = av.reverse ++ st) (hfit : am_fit R rm maxL cells slots) (hw : (st.map fun v => v.category).sum ≤ 8)
    (kx : ∀ (x : Nat) (h' : am_H) (nx' : Nat), post (.threw x) h' nx' → VX p l e R s m args below meth c nL X Q h' nx' (cells + rm.cells) (slots + rm.slots) pc L x)
    (kr : ∀ (v : Option Value) (h' : am_H) (nx' : Nat), post (.returned v) h' nx' → V p l e R s m args below meth c nL X Q h' nx' (cells + rm.cells) (slots + rm.slots) pc' L (v.toList ++ st)) :
    V p l e R s m args below meth c nL X Q h nx cells slots pc L st0 := by
  subst hst
  intro H locs ls hR hL hl T hT XS
  subst hT
  obtain ⟨f1, f2, f3, f4, hts, hK, f7, f8, f9, f10⟩ := id F
  obtain ⟨hcode, hini, hy, hlen⟩ := hcal
  obtain ⟨mk, hnamed⟩ := am_named hcode hts
  obtain ⟨methM, cM, hmethM, -, -, hsigM, -⟩ := am_code_at hcode hts hnamed
  have hstatic : methM.isStatic = true := Cond.static_spec hnamed hmethM (hts _ (am_in hstat rfl))
  obtain ⟨kP, hkP, -⟩ := className_of_methodNamed hnamed
  have hinitP : kP.init = .initialized := Cond.initialized_spec (findClass_of_methodNamed hnamed) hkP (hts _ (am_in hini rfl))
  have hlen' : av.length = methM.sig.parameters.length := by rw [hsigM] at hlen; exact (Option.some.inj hlen).symm
  obtain ⟨vm₁, X₁, hstep₁⟩ := XS.invokestatic f1 f4 (hts _ (am_in hlink rfl)) hnamed hmethM hstatic hkP hinitP hy (g := F0 m pc ls (av.reverse ++ st)) rfl (argsL := av) (rest := st) hlen' rfl (by rw [f2]; exact d)
  obtain ⟨t, a1, b1⟩ := am_go F d hp ⟨hcode, hini⟩ hfit hC hw kr kx (T := T.setVm vm₁) (ls := ls) hR hL hl X₁ hnamed
  exact ⟨t, hstep₁ _ fun acts => by rw [doInvoke_state]; exact a1, b1⟩
theorem v_callV (F : am_Fx p s m args meth c y cc nL ret et X) {st0 : List Value} {b ci : Nat} {fs : List Value} {C : String} {T9 : u_T} {N : Nat} (d : decode cc pc = .ok (.invokevirtual index, 3)) (hp : pc + 3 = pc') (hcal : am_cal y' bytes maxL ret' av.length) (hlink : Cond.methodLink y.cls index y' ∈ lw_tbl) (hinst : Cond.instanceMethod y' ∈ lw_tbl) (hsel : Cond.selects C y' y' ∈ lw_tbl) (hc : am_cl[ci]? = some (C, T9, N)) (hb : h b = some (.inr (ci, fs))) (hC : Cn l X y' rm (.ref b :: av) h nx post) (hst : st0 = av.reverse ++ .ref b :: st) (hfit : am_fit R rm maxL cells slots) (hw : (st.map fun v => v.category).sum ≤ 8)
    (kx : ∀ (x : Nat) (h' : am_H) (nx' : Nat), post (.threw x) h' nx' → VX p l e R s m args below meth c nL X Q h' nx' (cells + rm.cells) (slots + rm.slots) pc L x)
    (kr : ∀ (v : Option Value) (h' : am_H) (nx' : Nat), post (.returned v) h' nx' → V p l e R s m args below meth c nL X Q h' nx' (cells + rm.cells) (slots + rm.slots) pc' L (v.toList ++ st)) :
    V p l e R s m args below meth c nL X Q h nx cells slots pc L st0 := by
  subst hst
  intro H locs ls hR hL hl T hT XS
  subst hT
  obtain ⟨f1, f2, f3, f4, hts, hK, f7, f8, f9, f10⟩ := id F
  obtain ⟨hcode, hini, hy, hlen⟩ := hcal
  obtain ⟨-, r, h1, cellB, hcell, hcl, hvm, -⟩ := hR.2.2.2 _ _ hb
  cases h1.symm.trans hc
  have hcls : s.vm.findClass C = some cellB.cls := by rw [hcl]; exact (hK.1.1 ci _ hc).2.1
  obtain ⟨mk, methM, hnamed, hmethM, hstM, habM⟩ := Cond.instanceMethod_spec (hts _ (am_in hinst rfl))
  obtain ⟨methM', cM, hmethM', -, -, hsigM, -⟩ := am_code_at hcode hts hnamed
  cases hmethM.symm.trans hmethM'
  obtain ⟨c2, r2, m2, q1, q2, q3, q4, kP, hkP, hkPi⟩ := Cond.selects_spec (hts _ (am_in hsel rfl))
  cases hcls.symm.trans q1
  cases (State.methodFound?_of_named hnamed hy).symm.trans q2
  cases hnamed.symm.trans q3
  have hselP : selectMethod e.platform s.vm cellB.cls mk = .method mk := by rw [Launch.admits_selectMethod XS.admits]; exact q4
  have hlen' : av.length = methM.sig.parameters.length := by rw [hsigM] at hlen; exact (Option.some.inj hlen).symm
  obtain ⟨vm₁, X₁, hstep₁⟩ := XS.invokevirtual f1 f4 (hts _ (am_in hlink rfl)) hnamed hmethM hstM hkP hkPi hy (a := b) (cell := cellB) hcell
    (fun z h => by rw [hvm] at h; cases h) hselP hmethM habM hkP hkPi (g := F0 m pc ls (av.reverse ++ .ref b :: st)) rfl (argsL := av) (rest := st) hlen' rfl (by rw [f2]; exact d)
  obtain ⟨t, a1, b1⟩ := am_go F d hp ⟨hcode, hini⟩ hfit hC hw kr kx (T := T.setVm vm₁) (ls := ls) hR hL hl X₁ hnamed
  exact ⟨t, hstep₁ _ fun acts => by rw [doInvoke_state]; exact a1, b1⟩
theorem v_callI (F : am_Fx p s m args meth c y cc nL ret et X) {st0 : List Value} {b : Nat} (d : decode cc pc = .ok (.invokespecial index, 3)) (hp : pc + 3 = pc') (hcode : Cond.code y' bytes maxL none ∈ lw_tbl) (hcal : am_cal y' bytes maxL none av.length) (hy1 : y'.name = "<init>") (hlink : Cond.methodLink y.cls index y' ∈ lw_tbl) (hinst : Cond.instanceMethod y' ∈ lw_tbl) (hC : Cn l X y' rm (.ref b :: av) h nx post) (hst : st0 = av.reverse ++ .ref b :: st) (hfit : am_fit R rm maxL cells slots) (hw : (st.map fun v => v.category).sum ≤ 8)
    (kx : ∀ (x : Nat) (h' : am_H) (nx' : Nat), post (.threw x) h' nx' → VX p l e R s m args below meth c nL X Q h' nx' (cells + rm.cells) (slots + rm.slots) pc L x)
    (kr : ∀ (v : Option Value) (h' : am_H) (nx' : Nat), post (.returned v) h' nx' → V p l e R s m args below meth c nL X Q h' nx' (cells + rm.cells) (slots + rm.slots) pc' L (v.toList ++ st)) :
    V p l e R s m args below meth c nL X Q h nx cells slots pc L st0 := by
  subst hst
  intro H locs ls hR hL hl T hT XS
  subst hT
  obtain ⟨f1, f2, f3, f4, hts, hK, f7, f8, f9, f10⟩ := id F
  obtain ⟨hcode', hini, hy, hlen⟩ := hcal
  have hpl : e.platform.magicAccessors = ({} : Platform).magicAccessors := by rw [XS.admits.platform]
  obtain ⟨mk, methM, cM, kP, vm₁, hnamed, hmethM, hcodeM, -, hlocalsM, -, hkP, -, hW₁, hstep₁⟩ := Steps.initColdArgs (e := e) XS.here f1 XS.warmed hpl f4 hy1 hy (hts _ (am_in hlink rfl)) (hts _ (am_in hinst rfl)) (hts _ (am_in hcode rfl)) (f := F0 m pc ls (av.reverse ++ .ref b :: st)) rfl (argsL := av) (rest := st) (fun sig hs => by rw [hs] at hlen; exact (Option.some.inj hlen).symm) rfl (by rw [f2]; exact d)
  have X₁ := XS.noted hW₁
  obtain ⟨t, a1, b1⟩ := am_go F d hp ⟨hcode', hini⟩ hfit hC hw kr kx (T := T.setVm vm₁) (ls := ls) hR hL hl X₁ hnamed
  exact ⟨t, hstep₁ _ fun acts => by rw [doInvoke_state]; exact a1, b1⟩
/-- a private method of a nest mate -/
theorem v_callIN (F : am_Fx p s m args meth c y cc nL ret et X) {st0 : List Value} {b : Nat} {host : String} (d : decode cc pc = .ok (.invokespecial index, 3)) (hp : pc + 3 = pc') (hcode : Cond.code y' bytes maxL none ∈ lw_tbl) (hcal : am_cal y' bytes maxL none av.length) (hy1 : y'.name = "<init>") (hlink : Cond.methodLinkNest y.cls index y' host ∈ lw_tbl) (hinst : Cond.instanceMethod y' ∈ lw_tbl) (hC : Cn l X y' rm (.ref b :: av) h nx post) (hst : st0 = av.reverse ++ .ref b :: st) (hfit : am_fit R rm maxL cells slots) (hw : (st.map fun v => v.category).sum ≤ 8)
    (kx : ∀ (x : Nat) (h' : am_H) (nx' : Nat), post (.threw x) h' nx' → VX p l e R s m args below meth c nL X Q h' nx' (cells + rm.cells) (slots + rm.slots) pc L x)
    (kr : ∀ (v : Option Value) (h' : am_H) (nx' : Nat), post (.returned v) h' nx' → V p l e R s m args below meth c nL X Q h' nx' (cells + rm.cells) (slots + rm.slots) pc' L (v.toList ++ st)) :
    V p l e R s m args below meth c nL X Q h nx cells slots pc L st0 := by
  subst hst
  intro H locs ls hR hL hl T hT XS
  subst hT
  obtain ⟨f1, f2, f3, f4, hts, hK, f7, f8, f9, f10⟩ := id F
  obtain ⟨hcode', hini, hy, hlen⟩ := hcal
  have hpl : e.platform.magicAccessors = ({} : Platform).magicAccessors := by rw [XS.admits.platform]
  obtain ⟨mk, methM, cM, kP, vm₁, hnamed, hmethM, hcodeM, -, hlocalsM, -, hkP, -, hW₁, hstep₁⟩ := Steps.initColdArgsNest (e := e) XS.here f1 XS.warmed hpl f4 hy1 hy (va_Nw.use (A := args) rfl (hK.2.1 _ hlink rfl)) (hts _ (am_in hinst rfl)) (hts _ (am_in hcode rfl)) (f := F0 m pc ls (av.reverse ++ .ref b :: st)) rfl (argsL := av) (rest := st) (fun sig hs => by rw [hs] at hlen; exact (Option.some.inj hlen).symm) rfl (by rw [f2]; exact d)
  have X₁ := XS.noted hW₁
  obtain ⟨t, a1, b1⟩ := am_go F d hp ⟨hcode', hini⟩ hfit hC hw kr kx (T := T.setVm vm₁) (ls := ls) hR hL hl X₁ hnamed
  exact ⟨t, hstep₁ _ fun acts => by rw [doInvoke_state]; exact a1, b1⟩
theorem v_callSN (F : am_Fx p s m args meth c y cc nL ret et X) {st0 : List Value} {host : String} (d : decode cc pc = .ok (.invokestatic index, 3)) (hp : pc + 3 = pc') (hcal : am_cal y' bytes maxL ret' av.length) (hlink : Cond.methodLinkNest y.cls index y' host ∈ lw_tbl) (hstat : Cond.static y' ∈ lw_tbl) (hC : Cn l X y' rm av h nx post) (hst : st0 = av.reverse ++ st) (hfit : am_fit R rm maxL cells slots) (hw : (st.map fun v => v.category).sum ≤ 8)
    (kx : ∀ (x : Nat) (h' : am_H) (nx' : Nat), post (.threw x) h' nx' → VX p l e R s m args below meth c nL X Q h' nx' (cells + rm.cells) (slots + rm.slots) pc L x)
    (kr : ∀ (v : Option Value) (h' : am_H) (nx' : Nat), post (.returned v) h' nx' → V p l e R s m args below meth c nL X Q h' nx' (cells + rm.cells) (slots + rm.slots) pc' L (v.toList ++ st)) :
    V p l e R s m args below meth c nL X Q h nx cells slots pc L st0 := by
  subst hst
  intro H locs ls hR hL hl T hT XS
  subst hT
  obtain ⟨f1, f2, f3, f4, hts, hK, f7, f8, f9, f10⟩ := id F
  obtain ⟨hcode, hini, hy, hlen⟩ := hcal
  obtain ⟨mk, hnamed⟩ := am_named hcode hts
  obtain ⟨methM, cM, hmethM, -, -, hsigM, -⟩ := am_code_at hcode hts hnamed
  have hstatic : methM.isStatic = true := Cond.static_spec hnamed hmethM (hts _ (am_in hstat rfl))
  obtain ⟨kP, hkP, -⟩ := className_of_methodNamed hnamed
  have hinitP : kP.init = .initialized := Cond.initialized_spec (findClass_of_methodNamed hnamed) hkP (hts _ (am_in hini rfl))
  have hlen' : av.length = methM.sig.parameters.length := by rw [hsigM] at hlen; exact (Option.some.inj hlen).symm
  obtain ⟨vm₁, X₁, hstep₁⟩ := XS.invokestaticNest f1 f4 (va_Nw.use (A := args) rfl (hK.2.1 _ hlink rfl)) hnamed hmethM hstatic hkP hinitP hy (g := F0 m pc ls (av.reverse ++ st)) rfl (argsL := av) (rest := st) hlen' rfl (by rw [f2]; exact d)
  obtain ⟨t, a1, b1⟩ := am_go F d hp ⟨hcode, hini⟩ hfit hC hw kr kx (T := T.setVm vm₁) (ls := ls) hR hL hl X₁ hnamed
  exact ⟨t, hstep₁ _ fun acts => by rw [doInvoke_state]; exact a1, b1⟩
/-- what is thrown and not caught here -/
theorem v_out (F : am_Fx p s m args meth c y cc nL ret [] X) {x : Nat} (hc : cells ≤ mc) (hs : slots ≤ ms) (hp : post (.threw x) h nx) : VX p l e R s m args below meth c nL X (am_Q X below s mc ms post) h nx cells slots pc L x := by
  intro T locs ls st hR hL hl XS
  obtain ⟨f1, f2, f3, f4, hts, hK, f7, f8, f9, f10⟩ := F
  have hout : ∀ z ∈ c.exceptionTable.toList, covers z pc = false := fun z hz => by rw [List.map_eq_nil_iff.mp f10] at hz; cases hz
  obtain ⟨st1, hrun, hend, hW, hsm⟩ := XS.leaveThrown x (g := F0 m pc ls st) rfl rfl rfl hout f7
  exact ⟨_, st1, .threw x, hrun, hend, ⟨h, nx, hR, hp⟩, hW, locs, hsm.mono hc hs, hL⟩
theorem v_athrow (F : am_Fx p s m args meth c y cc nL ret et X) {x : Nat} (d : decode cc pc = .ok (.athrow, 1)) (k : VX p l e R s m args below meth c nL X Q h nx cells slots pc L x) : V p l e R s m args below meth c nL X Q h nx cells slots pc L (.ref x :: st) := by
  intro H locs ls hR hL hl T hT XS
  subst hT
  obtain ⟨f1, f2, f3, f4, hts, hK, f7, f8, f9, f10⟩ := F
  obtain ⟨t, a1, b1⟩ := k T locs ls st hR hL hl XS
  refine ⟨t, ?_, b1⟩
  have d' : decode c.code pc = .ok (.athrow, 1) := by rw [f2]; exact d
  jvm_step XS.here [XS.here.top, f1, d', athrow.wp_sem]
  exact a1
/-- Object's constructor -/
theorem v_obj (F : am_Fx p s m args meth c y cc nL ret et X) {a : Nat} (d : decode cc pc = .ok (.invokespecial index, 3)) (hp : pc + 3 = pc') (hlink : Cond.methodLink y.cls index Lib.objectInit ∈ lw_tbl) (hinst : Cond.instanceMethod Lib.objectInit ∈ lw_tbl) (hcode : Cond.code Lib.objectInit ⟨#[0xb1]⟩ 1 none ∈ lw_tbl) (hfr : 1 ≤ R.frames) (hlo : (st.map fun v => v.category).sum + 12 ≤ R.locals)
    (k : V p l e R s m args below meth c nL X Q h nx cells slots pc' L st) : V p l e R s m args below meth c nL X Q h nx cells slots pc L (.ref a :: st) := by
  subst hp
  intro H locs ls hR hL hl
  obtain ⟨f1, f2, f3, f4, hts, hK, f7, f8, f9, f10⟩ := F
  refine W.objInit f1 f2 f4 (hts _ (am_in hlink rfl)) (hts _ (am_in hinst rfl)) (hts _ (am_in hcode rfl)) rfl (hl.1.trans f3.symm) rfl d hfr ?_ (k H locs ls hR hL hl)
  have : 2 * (F0 m pc ls (Value.ref a :: st)).monitorRoom = 0 := rfl
  omega
end AMI
