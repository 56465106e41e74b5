/-! contracts (Cn), how a body gives one, how a call takes one; a call may throw -/
/-- since st nothing old has changed but places at or behind the law's start; mc cells of ms slots came at most -/
def am_Fr (X : am_X) (st t : State) (mc ms : Nat) : Prop := st.WarmedH t.vm ∧ ∃ L : List Loc, st.sameButNew ({ t with vm := st.vm } : State) L mc ms ∧ ∀ q ∈ L, am_sz X ≤ q.base
def am_Q (X : am_X) (below : List Frame) (s : State) (mc ms : Nat) (post : Outcome → am_H → Nat → Prop) : State → Prop := fun t =>
  ∃ o, t.status = .running ∧ Ended t below o ∧ (∃ (h' : am_H) (nx' : Nat), am_R X h' nx' t.heap ∧ post o h' nx') ∧ am_Fr X s t mc ms
def Cn (l : Launch) (X : am_X) (y : MethodName) (rm : Room) (av : List Value) (h : am_H) (nx : Nat) (post : Outcome → am_H → Nat → Prop) : Prop :=
  MetFree l y (headSpec am_tb rm) (fun a U => a = av.toArray ∧ am_R X h nx U.heap ∧ am_K X U) (fun _ _ _ _ _ => True)
    (fun _ st o t => (∃ (h' : am_H) (nx' : Nat), am_R X h' nx' t.heap ∧ post o h' nx') ∧ am_Fr X st t rm.cells rm.slots)
/-- the same, for any start of the heap map and any arguments that a pure premise allows, may be weakened -/
theorem Cn.mono {l : Launch} {X : am_X} {y : MethodName} {rm : Room} {av : List Value} {h : am_H} {nx : Nat} {post post' : Outcome → am_H → Nat → Prop} (hC : Cn l X y rm av h nx post) (hp : ∀ o h' nx', post o h' nx' → post' o h' nx') : Cn l X y rm av h nx post' := by
  intro p e ha hc hk s m args below hf happ hP hK
  obtain ⟨n, o, h1, h2, h3, ⟨h', nx', h4, h5⟩, h6⟩ := hC p e ha hc hk s m args below hf happ hP hK
  exact ⟨n, o, h1, h2, h3, ⟨h', nx', h4, hp o h' nx' h5⟩, h6⟩
/-! the entry -/
def am_en : List Value → List (Option Value)
  | [] => []
  | v :: vs => if v.category = 2 then some v :: none :: am_en vs else some v :: am_en vs
theorem am_en_ok : ∀ (vs : List Value) (b i : Nat) (v : Value), (am_en vs)[i]? = some (some v) → (b + i, v) ∈ lv_args b vs := by
  intro vs
  induction vs with
  | nil => intro b i v h; simp [am_en] at h
  | cons w ws ih =>
    intro b i v h
    unfold am_en at h
    unfold lv_args
    by_cases hc : w.category = 2
    · rw [if_pos hc] at h ⊢
      match i, h with
      | 0, h => simp at h; rw [h]; exact List.mem_cons_self
      | 1, h => simp at h
      | j + 2, h =>
        have h' : (am_en ws)[j]? = some (some v) := by simpa using h
        have := ih (b + 2) j v h'
        rw [show b + 2 + j = b + (j + 2) by omega] at this
        exact List.mem_cons_of_mem _ this
    · rw [if_neg hc] at h ⊢
      match i, h with
      | 0, h => simp at h; rw [h]; exact List.mem_cons_self
      | j + 1, h =>
        have h' : (am_en ws)[j]? = some (some v) := by simpa using h
        have := ih (b + 1) j v h'
        rw [show b + 1 + j = b + (j + 1) by omega] at this
        exact List.mem_cons_of_mem _ this
theorem am_en_pad {vs : List Value} {k i : Nat} {v : Value} (h : (am_en vs ++ List.replicate k none)[i]? = some (some v)) : (am_en vs)[i]? = some (some v) := by
  by_cases hi : i < (am_en vs).length
  · rwa [List.getElem?_append_left hi] at h
  · rw [List.getElem?_append_right (by omega), List.getElem?_replicate] at h
    split at h <;> cases h
theorem am_entry {m : MethodId} {vs : List Value} {n k : Nat} {L0 : List (Option Value)} (hn : (lg_sl vs).length ≤ n) (hL : am_en vs ++ List.replicate k none = L0) : ∃ ls : Array Slot, entryFrame m vs.toArray n = F0 m 0 ls [] ∧ am_L ls n L0 := by
  subst hL
  have hl := lv_entry vs hn
  refine ⟨_, lg_entry_eq m vs n, hl.1, hl.2.1, fun i v h => ?_⟩
  have := am_en_ok vs 0 i v (am_en_pad h)
  rw [Nat.zero_add] at this
  exact hl.2.2 (i, v) this
/-- a body gives a contract -/
theorem cn_of {l : Launch} {X : am_X} {y : MethodName} {cc : ByteArray} {maxL k : Nat} {ret : Option FieldType} {rm : Room} {av : List Value} {h : am_H} {nx : Nat} {post : Outcome → am_H → Nat → Prop} {L0 : List (Option Value)}
    (hy : plainName y.cls = true) (hcw : Cond.code y cc maxL ret ∈ lw_tbl) (hn : (lg_sl av).length ≤ maxL) (hL : am_en av ++ List.replicate k none = L0)
    (body : ∀ (p : Program) (e : Env) (s : State) (m : MethodId) (args : Array Value) (below : List Frame) (meth : Method) (c : Code), am_Fx p s m args meth c y cc maxL ret [] X →
      V p l e rm s m args below meth c maxL X (am_Q X below s rm.cells rm.slots post) h nx 0 0 0 L0 []) : Cn l X y rm av h nx post := by
  refine MetFree.of_bodyS (code := cc) (maxLocals := maxL) (ret := ret) hy ?_ ?_
  · intro args s m hb hnm
    obtain ⟨meth, c, h1, h2, h3, h4, h5, h6, -, -⟩ := Cond.code_spec hnm (atoms_spec (ws := am_tb) hb _ (am_in hcw rfl))
    exact ⟨meth, c, h1, h2, h3, h4, h5, h6⟩
  · intro p e s m args below meth c s₁ B hml hP _
    obtain ⟨rfl, hR, hK⟩ := hP
    have hts : ∀ w ∈ am_tb, w.before av.toArray s = true := atoms_spec (ws := am_tb) B.pre
    obtain ⟨meth', c', g1, g2, -, -, -, -, g7, -⟩ := Cond.code_spec B.named (hts _ (am_in hcw rfl))
    have hS := Stand.of_body B
    cases B.method.symm.trans g1
    cases hS.code.symm.trans g2
    have het : c.exceptionTable.toList.map (fun h => (h.startPc, h.endPc, h.handlerPc, h.catchType)) = [] := by
      have : c.exceptionTable = #[] := by simpa [Array.isEmpty] using g7
      rw [this]; rfl
    have hh0 : s₁.heap = s.heap := by rw [B.state]; rfl
    obtain ⟨ls, he, hl⟩ := am_entry (m := m) hn hL
    obtain ⟨t, a1, o, b1, b2, b3, b4⟩ := body p e s m av.toArray below meth c ⟨B.exec, B.bytes, hml, findClass_of_methodNamed B.named, hts, hK, B.notSynchronized, B.returns, (name_of_methodNamed B.named B.method).1, het⟩ s.heap [] ls hR (fun _ q => by cases q) hl s₁ hh0 hS
    rw [he]
    exact ⟨t, o, a1, b1, b2, b3, b4⟩
/-- a body with handlers gives a contract -/
theorem cn_ofW {l : Launch} {X : am_X} {y : MethodName} {cc : ByteArray} {maxL k : Nat} {ret : Option FieldType} {et : List (Nat × Nat × Nat × Nat)} {rm : Room} {av : List Value} {h : am_H} {nx : Nat} {post : Outcome → am_H → Nat → Prop} {L0 : List (Option Value)}
    (hy : plainName y.cls = true) (hcw : Cond.codeWith y cc maxL ret et ∈ lw_tbl) (hn : (lg_sl av).length ≤ maxL) (hL : am_en av ++ List.replicate k none = L0)
    (body : ∀ (p : Program) (e : Env) (s : State) (m : MethodId) (args : Array Value) (below : List Frame) (meth : Method) (c : Code), am_Fx p s m args meth c y cc maxL ret et X →
      V p l e rm s m args below meth c maxL X (am_Q X below s rm.cells rm.slots post) h nx 0 0 0 L0 []) : Cn l X y rm av h nx post := by
  refine MetFree.of_bodyS (code := cc) (maxLocals := maxL) (ret := ret) hy ?_ ?_
  · intro args s m hb hnm
    obtain ⟨m', meth, c, h0, h1, h2, h3, h4, h5, h6, h7, -⟩ := Cond.codeWith_spec (atoms_spec (ws := am_tb) hb _ (am_in hcw rfl))
    cases hnm.symm.trans h0
    exact ⟨meth, c, h1, h2, h3, h4, h6, h7⟩
  · intro p e s m args below meth c s₁ B hml hP _
    obtain ⟨rfl, hR, hK⟩ := hP
    have hts : ∀ w ∈ am_tb, w.before av.toArray s = true := atoms_spec (ws := am_tb) B.pre
    obtain ⟨m', meth', c', g0, g1, g2, -, -, g5, -, -, -⟩ := Cond.codeWith_spec (hts _ (am_in hcw rfl))
    have hS := Stand.of_body B
    cases B.named.symm.trans g0
    cases B.method.symm.trans g1
    cases hS.code.symm.trans g2
    have hh0 : s₁.heap = s.heap := by rw [B.state]; rfl
    obtain ⟨ls, he, hl⟩ := am_entry (m := m) hn hL
    obtain ⟨t, a1, o, b1, b2, b3, b4⟩ := body p e s m av.toArray below meth c ⟨B.exec, B.bytes, hml, findClass_of_methodNamed B.named, hts, hK, B.notSynchronized, B.returns, (name_of_methodNamed B.named B.method).1, g5⟩ s.heap [] ls hR (fun _ q => by cases q) hl s₁ hh0 hS
    rw [he]
    exact ⟨t, o, a1, b1, b2, b3, b4⟩
section AMC
variable {p : Program} {l : Launch} {e : Env} {R : Room} {s : State} {m : MethodId} {args : Array Value} {below : List Frame} {meth : Method} {c : Code} {nL : Nat} {X : am_X} {Q : State → Prop}
variable {cc : ByteArray} {y : MethodName} {ret : Option FieldType} {et : List (Nat × Nat × Nat × Nat)} {h : am_H} {nx cells slots pc pc' : Nat} {L : List (Option Value)} {st : List Value} {mc ms : Nat} {post : Outcome → am_H → Nat → Prop}
/-! returns -/
theorem v_ireturn (F : am_Fx p s m args meth c y cc nL ret et X) {ty : FieldType} {v : Value} {z : Int} (hv : v = iV z) (d : decode cc pc = .ok (.ireturn, 1)) (hr : ret = some ty) (hn : narrow ty (iV z) = iV z) (hc : cells ≤ mc) (hs : slots ≤ ms) (hp : post (.returned (some (iV z))) h nx) :
    V p l e R s m args below meth c nL X (am_Q X below s mc ms post) h nx cells slots pc L [v] := by
  subst hv
  intro H locs ls hR hL hl T hT XS
  obtain ⟨f1, f2, f3, f4, hts, hK, hlocks, f8, f9, f10⟩ := F
  obtain ⟨fs, hret, hrun, hended, hW, hframe⟩ := XS.leave (v := some (iV z)) (fun h => by rw [f8, hr] at h; cases h)
  have hmeth' : T.vm.method? m = some meth := XS.method'
  refine ⟨T.setFrames fs, ?_, .returned (some (iV z)), hrun, hended, ⟨h, nx, (by show am_R X h nx T.heap; rw [hT]; exact hR), hp⟩, hW, locs, hframe.mono hc hs, hL⟩
  jvm_step XS.here [XS.here.top, f1, f2, d, hmeth', f8, hr, hn]
  (try refine ⟨rfl, ?_⟩); (try refine ⟨rfl, ?_⟩)
  first | (intro acts; rw [hret _ acts rfl rfl rfl]) | rw [hret _ _ rfl rfl rfl]
  exact Steps.refl _
theorem v_lreturn (F : am_Fx p s m args meth c y cc nL ret et X) {z : Int} (d : decode cc pc = .ok (.lreturn, 1)) (hr : ret = some .long) (hc : cells ≤ mc) (hs : slots ≤ ms) (hp : post (.returned (some (lV z))) h nx) :
    V p l e R s m args below meth c nL X (am_Q X below s mc ms post) h nx cells slots pc L [lV z] := by
  intro H locs ls hR hL hl T hT XS
  obtain ⟨f1, f2, f3, f4, hts, hK, hlocks, f8, f9, f10⟩ := F
  obtain ⟨fs, hret, hrun, hended, hW, hframe⟩ := XS.leave (v := some (lV z)) (fun h => by rw [f8, hr] at h; cases h)
  have hmeth' : T.vm.method? m = some meth := XS.method'
  refine ⟨T.setFrames fs, ?_, .returned (some (lV z)), hrun, hended, ⟨h, nx, (by show am_R X h nx T.heap; rw [hT]; exact hR), hp⟩, hW, locs, hframe.mono hc hs, hL⟩
  jvm_step XS.here [XS.here.top, f1, f2, d, hmeth', f8, hr, narrow]
  (try refine ⟨rfl, ?_⟩); (try refine ⟨rfl, ?_⟩)
  first | (intro acts; rw [hret _ acts rfl rfl rfl]) | rw [hret _ _ rfl rfl rfl]
  exact Steps.refl _
theorem v_return (F : am_Fx p s m args meth c y cc nL ret et X) (d : decode cc pc = .ok (.return_, 1)) (hr : ret = none) (hc : cells ≤ mc) (hs : slots ≤ ms) (hp : post (.returned none) h nx) :
    V p l e R s m args below meth c nL X (am_Q X below s mc ms post) h nx cells slots pc L [] := by
  intro H locs ls hR hL hl T hT XS
  obtain ⟨f1, f2, f3, f4, hts, hK, hlocks, f8, f9, f10⟩ := F
  obtain ⟨fs, hret, hrun, hended, hW, hframe⟩ := XS.leave (v := none) (fun _ => rfl)
  have hmeth' : T.vm.method? m = some meth := XS.method'
  refine ⟨T.setFrames fs, ?_, .returned none, hrun, hended, ⟨h, nx, (by show am_R X h nx T.heap; rw [hT]; exact hR), hp⟩, hW, locs, hframe.mono hc hs, hL⟩
  jvm_step XS.here [XS.here.top, f1, f2, d, hmeth', f8, hr]
  (try refine ⟨rfl, ?_⟩); (try refine ⟨rfl, ?_⟩)
  first | (intro acts; rw [hret _ acts rfl rfl rfl]) | rw [hret _ _ rfl rfl rfl]
  exact Steps.refl _
theorem v_areturn (F : am_Fx p s m args meth c y cc nL ret et X) {v : Value} {rt : FieldType} (d : decode cc pc = .ok (.areturn, 1)) (hr : ret = some rt) (hrt : (∃ n, rt = .object n) ∨ ∃ t, rt = .array t) (hv : v = .null ∨ ∃ a, v = .ref a) (hc : cells ≤ mc) (hs : slots ≤ ms) (hp : post (.returned (some v)) h nx) :
    V p l e R s m args below meth c nL X (am_Q X below s mc ms post) h nx cells slots pc L [v] := by
  intro H locs ls hR hL hl T hT XS
  obtain ⟨f1, f2, f3, f4, hts, hK, hlocks, f8, f9, f10⟩ := F
  obtain ⟨fs, hret, hrun, hended, hW, hframe⟩ := XS.leave (v := some v) (fun h => by rw [f8, hr] at h; cases h)
  have hmeth' : T.vm.method? m = some meth := XS.method'
  refine ⟨T.setFrames fs, ?_, .returned (some v), hrun, hended, ⟨h, nx, (by show am_R X h nx T.heap; rw [hT]; exact hR), hp⟩, hW, locs, hframe.mono hc hs, hL⟩
  rcases hrt with ⟨n, rfl⟩ | ⟨t, rfl⟩ <;> rcases hv with rfl | ⟨a, rfl⟩ <;>
    (jvm_step XS.here [XS.here.top, f1, f2, d, hmeth', f8, hr]
     (try refine ⟨rfl, ?_⟩); (try refine ⟨rfl, ?_⟩)
     first | (intro acts; rw [hret _ acts rfl rfl rfl]) | rw [hret _ _ rfl rfl rfl]
     exact Steps.refl _)
end AMC
/-! calls -/
/-- what the tables say of a callee's code: with or without handlers -/
def am_code (y : MethodName) (bytes : ByteArray) (maxL : Nat) (ret : Option FieldType) : Prop := Cond.code y bytes maxL ret ∈ lw_tbl ∨ ∃ et, Cond.codeWith y bytes maxL ret et ∈ lw_tbl
theorem am_code_at {y : MethodName} {bytes : ByteArray} {maxL : Nat} {ret : Option FieldType} {a : Array Value} {U : State} {mk : MethodId} (h : am_code y bytes maxL ret) (hts : ∀ w ∈ am_tb, w.before a U = true) (hn : U.methodNamed? y = some mk) :
    ∃ (meth : Method) (c : Code), U.vm.method? mk = some meth ∧ meth.code = some c ∧ c.maxLocals = maxL ∧ parseMethodDescriptor y.desc = some meth.sig ∧ meth.sig.returnType = ret := by
  rcases h with h | ⟨et, h⟩
  · obtain ⟨meth, c, h1, h2, -, h4, h5, -, -, h8⟩ := Cond.code_spec hn (hts _ (am_in h rfl))
    exact ⟨meth, c, h1, h2, h4, h8, h5⟩
  · obtain ⟨m', meth, c, h0, h1, h2, h3, h4, h5, h6, h7, h8⟩ := Cond.codeWith_spec (hts _ (am_in h rfl))
    cases hn.symm.trans h0
    exact ⟨meth, c, h1, h2, h4, h8, h6⟩
theorem am_words {s U : State} {args a' : Array Value} (hW : s.WarmedH U.vm) (hts : ∀ w ∈ am_tb, w.before args s = true) : ∀ w ∈ am_tb, w.before a' U = true := fun w hw => word_at hW (good_of_word (List.mem_filter.mp hw).2) (hts w hw)
section AMB
variable {p : Program} {l : Launch} {e : Env} {R : Room} {s : State} {m : MethodId} {args : Array Value} {below : List Frame} {meth : Method} {c : Code} {nL : Nat} {X : am_X} {Q : State → Prop}
variable {cc : ByteArray} {y : MethodName} {ret : Option FieldType} {et : List (Nat × Nat × Nat × Nat)} {h : am_H} {nx cells slots pc pc' : Nat} {L : List (Option Value)} {st : List Value} {mc ms : Nat} {post : Outcome → am_H → Nat → Prop}
/-- where the machine stands when a callee has come back -/
def am_after (g : JFrame) (o : Outcome) (T : State) : State := match o with
  | .returned v => T.setTop { g with pc := g.pc + 3, stack := v.toList ++ g.stack }
  | .threw x => (T.setTop g).pushFrame (.throwing x)
theorem am_back {y' : MethodName} {rm : Room} {av : List Value} {bytes : ByteArray} {maxL : Nat} {ret' : Option FieldType} (hC : Cn l X y' rm av h nx post) {U : State} {locs : List Loc} (XS : Stand p l e R s m args below meth c U locs cells slots) {g : JFrame} (hg : g.method = m) (hsize : g.locals.size = c.maxLocals) {ig : Instr} (hdg : decode c.code g.pc = .ok (ig, 3))
    {mk : MethodId} (hn : U.methodNamed? y' = some mk) (hts : ∀ w ∈ am_tb, w.before args s = true) (hK : am_K X s) (hR : am_R X h nx U.heap) (hcode : am_code y' bytes maxL ret') (hini : Cond.initialized y'.cls ∈ lw_tbl)
    (hW : 2 * g.monitorRoom + (g.stack.map fun v => v.category).sum ≤ 8) (hframes : rm.frames + 1 ≤ R.frames) (hlocals : 8 + (maxL + 11) + rm.locals ≤ R.locals) (hcells : cells + rm.cells ≤ R.cells) (hslots : slots + rm.slots ≤ R.slots) :
    ∃ (o : Outcome) (T' : State) (L9 : List Loc), Stand p l e R s m args below meth c T' (locs ++ L9) (cells + rm.cells) (slots + rm.slots) ∧ (∀ q ∈ L9, am_sz X ≤ q.base) ∧ (∃ (h' : am_H) (nx' : Nat), am_R X h' nx' T'.heap ∧ post o h' nx') ∧
      Steps p.tables e below (doInvoke e (U.setTop g) [] mk av.toArray).1 (am_after g o T') := by
  have hwU : ∀ a' : Array Value, ∀ w ∈ am_tb, w.before a' U = true := fun a' => am_words XS.warmed hts
  obtain ⟨methY, cY, hmY, hcY, hlY, -, -⟩ := am_code_at hcode (hwU av.toArray) hn
  obtain ⟨kY, hkY, -⟩ := className_of_methodNamed hn
  have hinitY : kY.init = .initialized := Cond.initialized_spec (findClass_of_methodNamed hn) hkY (hwU av.toArray _ (am_in hini rfl))
  have hAt : At U g.method c below := by rw [hg]; exact XS.here
  have hpre : (headSpec am_tb rm).pre.before av.toArray U = true := atoms_intro (hwU av.toArray)
  have happ : (headSpec am_tb rm).appliesLoose y' e.platform (U.calling g mk av.toArray) = true :=
    Spec.appliesLoose_calling (g := g) hAt hdg hn hkY hinitY
      (XS.room_calling (g := g) (R' := rm) hsize hmY hcY hframes (by rw [hlY]; omega) hcells hslots) hpre
  obtain ⟨mid, hmid⟩ := hAt.above
  have hfr : (U.setTop g).frames = (.java g :: mid) ++ below := by rw [State.frames_setTop' g hAt.top, hmid]; rfl
  have hP : av.toArray = av.toArray ∧ am_R X h nx (U.calling g mk av.toArray).heap ∧ am_K X (U.calling g mk av.toArray) := ⟨rfl, hR, am_K_warm (U := U.calling g mk av.toArray) XS.warmed hK hR.2.2.1⟩
  obtain ⟨o, s₂, hsteps, -, hend, ⟨h', nx', hR', hpost⟩, hW₂, L9, hsame, hL9⟩ := Steps.callFree hC p XS.admits XS.cas XS.clock (acts := []) hfr happ hP trivial
  rw [State.frames_setTop' g hAt.top] at hend
  have hbl : U.frames.tail = below := XS.tail
  cases o with
  | threw x =>
    have hend' : Ended s₂ (.java g :: below) (.threw x) := by rw [← hbl]; exact hend
    obtain ⟨T', X', -, -, ht⟩ := XS.outOfThrown hg hend' hW₂ hsame
    refine ⟨.threw x, T', L9, X', hL9, ⟨h', nx', ?_, hpost⟩, ?_⟩
    · have : s₂.heap = T'.heap := by rw [ht]; exact Stand.throwing_heap T' g x
      rw [← this]; exact hR'
    · show Steps p.tables e below _ ((T'.setTop g).pushFrame (.throwing x))
      rw [← ht]; exact hsteps
  | returned v =>
    have hsame : (U.calling g mk av.toArray).sameButNew ({ s₂ with vm := (U.calling g mk av.toArray).vm } : State) L9 rm.cells rm.slots := hsame
    obtain ⟨e2, q2, q3, q4, q5, q6⟩ := id hsame
    have e3 : s₂ = ({ (U.calling g mk av.toArray).setFrames s₂.frames with heap := s₂.heap, slotsUsed := s₂.slotsUsed } : State).setVm s₂.vm := by
      have : s₂ = ({ s₂ with vm := (U.calling g mk av.toArray).vm } : State).setVm s₂.vm := rfl
      rw [e2] at this
      exact this
    obtain ⟨c₂, i₂, len₂, hc₂, hd₂, hf₂⟩ := hend
    have hW' : U.WarmedH s₂.vm := hW₂
    have hcc : c₂ = c := by
      have h1 : s₂.code? g.method = U.code? g.method := by
        rw [State.code?_eq, State.code?_eq, hW'.alike.method?]
      exact Option.some.inj (hc₂.symm.trans (h1.trans hAt.code))
    subst hcc
    have hlen : len₂ = 3 := by rw [hdg] at hd₂; cases hd₂; rfl
    subst hlen
    obtain ⟨g₀, hg0⟩ := Option.isSome_iff_exists.mp hAt.top
    obtain ⟨r, hr⟩ := State.topJava?_eq_some.mp hg0
    have hs₂ : s₂ = (({ U with heap := s₂.heap, slotsUsed := s₂.slotsUsed } : State).setVm s₂.vm).setTop { g with pc := g.pc + 3, stack := v.toList ++ g.stack } := by
      have hr' : (({ U with heap := s₂.heap, slotsUsed := s₂.slotsUsed } : State).setVm s₂.vm).frames = .java g₀ :: r := hr
      refine e3.trans ?_
      rw [hf₂, State.calling_eq hAt.top, State.setFrames_setFrames, State.setTop_of_frames _ hr', hr]
      rfl
    have hsame2 : U.sameButNew ({ U with heap := s₂.heap, slotsUsed := s₂.slotsUsed } : State) L9 rm.cells rm.slots := by
      refine ⟨?_, q2, q3, q4, q5, q6⟩
      obtain ⟨t, ht, -⟩ := State.frames_cons hr
      show ({ U with heap := s₂.heap, slotsUsed := s₂.slotsUsed } : State) = { U.setFrames U.frames with heap := s₂.heap, slotsUsed := s₂.slotsUsed }
      rw [State.setFrames_self ht]
    subst hg
    refine ⟨.returned v, (({ U with heap := s₂.heap, slotsUsed := s₂.slotsUsed } : State).setVm s₂.vm), L9,
      ⟨XS.admits, XS.cas, XS.clock, XS.frames, XS.room, XS.hears, XS.method, XS.code, (XS.here.setHeapUsed s₂.heap s₂.slotsUsed).setVm hW'.alike, XS.tail, State.WarmedH.trans XS.warmed hW', XS.limits, XS.bytes, XS.same.trans (hsame2.setVm s.vm)⟩,
      hL9, ⟨h', nx', hR', hpost⟩, ?_⟩
    show Steps p.tables e below _ ((({ U with heap := s₂.heap, slotsUsed := s₂.slotsUsed } : State).setVm s₂.vm).setTop { g with pc := g.pc + 3, stack := v.toList ++ g.stack })
    rw [← hs₂]
    exact hsteps
end AMB
