/-! exceptions: new E(text) in one row; casts, texts, statics, arrays of references, copies -/
abbrev am_tN : String := "java/lang/Throwable"
theorem am_bef {p : Program} {s : State} {m : MethodId} {args : Array Value} {meth : Method} {c : Code} {nL : Nat} {X : am_X} {cc : ByteArray} {y : MethodName} {ret : Option FieldType} {et : List (Nat × Nat × Nat × Nat)} (F : am_Fx p s m args meth c y cc nL ret et X) {w : Cond} (h : w ∈ lw_tbl) (hg : goodWord w = true ∨ (am_xt w = true ∧ w.onTables = true)) : w.before args s = true := by
  rcases hg with h1 | ⟨h1, h2⟩
  · exact F.2.2.2.2.1 _ (am_in h h1)
  · exact va_Nw.use h2 (F.2.2.2.2.2.1.2.1 _ h h1)
def am_thx (w : Cond) : Bool := match w with
  | .laysStatic _ _ _ => true
  | _ => false
theorem am_thr_w : ∀ w ∈ Bundle.throwableAtoms, (w ∈ lw_tbl ∧ goodWord w = true) ∨ w = .laysStatic Bundle.tN "UNASSIGNED_STACK" Bundle.steD ∨ w = .laysStatic Bundle.tN "SUPPRESSED_SENTINEL" Bundle.listD := by decide +kernel
theorem am_thrS_w : ∀ w ∈ Bundle.throwableSAtoms, w ∈ lw_tbl ∧ goodWord w = true := by decide +kernel
abbrev am_exn : List String := ["java/lang/RuntimeException", "java/lang/Exception"]
def am_exl (own : String) (ic : Nat) (C : String) : List Cond := [.methodLink own ic (Bundle.initS C), .instantiable C 6, .selects C Bundle.tFill0 Bundle.tFill0, .selects C Bundle.tFill Bundle.tFill, .lays C Bundle.tN "cause" "Ljava/lang/Throwable;", .lays C Bundle.tN "stackTrace" Bundle.steD, .lays C Bundle.tN "suppressedExceptions" Bundle.listD, .lays C Bundle.tN "detailMessage" "Ljava/lang/String;", .lays C Bundle.tN "backtrace" "Ljava/lang/Object;", .fieldLink Bundle.tN 198 Bundle.tN "backtrace" "Ljava/lang/Object;", .lays Bundle.tN Bundle.tN "backtrace" "Ljava/lang/Object;"]
def am_exw (own : String) (ic : Nat) (C : String) : Prop := Bundle.fit C = true ∧ (∀ w ∈ Bundle.chainSAtoms C am_exn, w ∈ lw_tbl ∧ (goodWord w = true ∨ (am_xt w = true ∧ w.onTables = true))) ∧ (∀ w ∈ am_exl own ic C, w ∈ lw_tbl ∧ goodWord w = true)
theorem am_exIA : am_exw "BillShares" 108 "java/lang/IllegalArgumentException" := ⟨by decide +kernel, by decide +kernel, by decide +kernel⟩
theorem am_exIS : am_exw "BillShares" 50 "java/lang/IllegalStateException" := ⟨by decide +kernel, by decide +kernel, by decide +kernel⟩
theorem am_LS.is {C n d : String} {X : am_X} {s : State} {args : Array Value} (h : am_LS C n d s X.2.2.1) (hH : ∀ q : Nat, q < am_sz X → s.heap[q]? = X.2.2.1[q]?) : (Cond.laysStatic C n d).before args s = true := by
  obtain ⟨c, k, i, f, a, cell, h1, h2, h3, h4, h5, h6, h7, h8, h9⟩ := h
  exact Cond.laysStatic_of (s := s) h1 h2 h3 h4 (by rw [hH a (Array.getElem?_eq_some_iff.mp h5).1]; exact h5) h6 h7 h8 h9
theorem am_Zq_at {n d : String} {X : am_X} {s : State} {H : Heap} {c : ClassId} {k : Class} {i a : Nat} {f : Field} (h : va_Zq Bundle.tN n d (fun q => am_sz X ≤ q) s X.2.2.1) (hf : s.fieldFound? Bundle.tN n d = some (c, k, i, f)) (ha : k.statics = some a) (hH : ∀ q : Nat, q < am_sz X → H[q]? = X.2.2.1[q]?) : a < am_sz X ∧ ∃ (u : RefV) (cell : Cell), H[a]? = some cell ∧ cell.vm.isStatics = true ∧ cell.slots[f.slot]? = some u.v := by
  have go : ∀ v : Value, v.isRef = true → va_Z Bundle.tN n d v (fun q => am_sz X ≤ q) s X.2.2.1 → a < am_sz X ∧ ∃ (u : RefV) (cell : Cell), H[a]? = some cell ∧ cell.vm.isStatics = true ∧ cell.slots[f.slot]? = some u.v := fun v hv hz => by
    obtain ⟨cf, kf, fi, f', a', cell, z1, z2, z3, z4, z5, z6, z7, z8⟩ := hz
    cases z1.symm.trans hf
    cases z4.symm.trans ha
    have hlt : a < am_sz X := Nat.not_le.mp z8
    exact ⟨hlt, ⟨v, hv⟩, cell, by rw [hH a hlt]; exact z5, z6, z7⟩
  rcases h with h | ⟨t, h⟩
  · exact go _ rfl h
  · exact go _ rfl h
set_option maxHeartbeats 4000000 in
theorem am_ctorE {p : Program} {l : Launch} {e : Env} {R : Room} {s : State} {m : MethodId} {args : Array Value} {below : List Frame} {meth : Method} {c : Code} {nL : Nat} {X : am_X} {cc : ByteArray} {y : MethodName} {ret : Option FieldType} {et : List (Nat × Nat × Nat × Nat)} {cells slots pc a ic : Nat} {C : String} {cX : ClassId} {kX : Class} {T0 : State} {locs : List Loc} {ls : Array Slot} {msg : Value} {st : List Value}
    (F : am_Fx p s m args meth c y cc nL ret et X) (ht : l.flags = pinnedFlags ++ [noTraceFlag]) (hA : am_exw y.cls ic C) (XS : Stand p l e R s m args below meth c T0 locs cells slots) (hH : ∀ q : Nat, q < am_sz X → T0.heap[q]? = X.2.2.1[q]?) (hnew : am_sz X ≤ a)
    (hfX : s.vm.findClass C = some cX) (hkX : s.vm.classes[cX]? = some kX) (hcell : T0.heap[a]? = some (blank cX kX)) (hmsg : msg.isRef = true) (hls : ls.size = nL) (d : decode cc pc = .ok (.invokespecial ic, 3)) (hfr : 5 < R.frames) (hlo : (st.map fun v => v.category).sum + 81 ≤ R.locals) :
    ∃ (vm' : Vm) (cell' : Cell) (L5 : List Loc), Stand p l e R s m args below meth c ((T0.setVm vm').setCell a cell') (locs ++ L5) cells slots ∧ (∀ q ∈ L5, q.base = a) ∧ cell'.cls = cX ∧ cell'.vm = .none ∧ cell'.slots.size = (blank cX kX).slots.size ∧
      ∀ target, Steps p.tables e below (((T0.setVm vm').setCell a cell').setTop (F0 m (pc + 3) ls st)) target → Steps p.tables e below (T0.setTop (F0 m pc ls (msg :: .ref a :: st))) target := by
  have htr : e.platform.stackTraces = false := Launch.traces_off ht XS.admits
  have howns : e.platform.frameOwnsMonitors = true := by rw [XS.admits.platform]
  have hfin : e.platform.finalization = false := by rw [XS.admits.platform]
  have hpl : e.platform.magicAccessors = ({} : Platform).magicAccessors := by rw [XS.admits.platform]
  have hK := F.2.2.2.2.2.1
  obtain ⟨hfit, hchain, hwords⟩ := hA
  have hw : ∀ w ∈ am_exl y.cls ic C, w.before args s = true := fun w h => am_bef F (hwords w h).1 (Or.inl (hwords w h).2)
  have hthr : ∀ w ∈ Bundle.throwableAtoms, w.before args s = true := fun w h => by
    rcases am_thr_w w h with q | q | q
    · exact am_bef F q.1 (Or.inl q.2)
    · subst q; exact hK.2.2.2.2.2.2.2.2.2.1.is hK.2.2.2.2.2.2.2.2.2.2.2
    · subst q; exact hK.2.2.2.2.2.2.2.2.2.2.1.is hK.2.2.2.2.2.2.2.2.2.2.2
  obtain ⟨T, Z0, LT, -, Y⟩ := ThrowableC.of_atoms (args := args) howns hfin hpl hthr
  obtain ⟨Z, Ms, LZ, LM, hnZ⟩ := Init0T.ofS_atoms (args := args) hpl LT Y (fun w h => am_bef F (am_thrS_w w h).1 (Or.inl (am_thrS_w w h).2))
  obtain ⟨P1, Ps, hlen, L1, hLs, hP1m, hlk1, hlk⟩ := Bundle.chainS (args := args) hpl hnZ am_exn C hfit (by decide +kernel) (fun w h => am_bef F (hchain w h).1 (hchain w h).2)
  cases hfX.symm.trans (findClass_of_methodNamed hP1m)
  obtain ⟨c1, k1, hc1, hk1, hord, -, -, -⟩ := Cond.instantiable_spec (hw (.instantiable C 6) (by simp [am_exl]))
  cases hfX.symm.trans hc1
  cases hkX.symm.trans hk1
  have hsel : ∀ {x : MethodName} {mx : MethodId}, (Cond.selects C x x).before args s = true → s.methodNamed? x = some mx → (x.cls ≠ "java/lang/invoke/MethodHandle" ∧ x.cls ≠ "java/lang/invoke/VarHandle") → selectMethod e.platform s.vm P1.m.cls mx = .method mx := fun hs hn hp => by
    obtain ⟨c2, r2, m2, q1, q2, q3, q4, -⟩ := Cond.selects_spec hs
    cases hfX.symm.trans q1
    cases (State.methodFound?_of_named hn hp).symm.trans q2
    cases hn.symm.trans q3
    rw [Launch.admits_selectMethod XS.admits]
    exact q4
  obtain ⟨haS, u0, cS, hcS, hiS, hu0⟩ := am_Zq_at (H := T0.heap) hK.2.2.2.2.2.1 Y.unassigned LT.statics hH
  obtain ⟨-, sen, cS', hcS', -, hsen⟩ := am_Zq_at (H := T0.heap) hK.2.2.2.2.2.2.1 Y.sentinel LT.statics hH
  cases hcS.symm.trans hcS'
  obtain ⟨iM, hffM⟩ := Y.msg
  obtain ⟨ci8, i8, fB, hk8, hg8, ha8, hsB, -, hnB, htB, hffB⟩ := Cond.ownField (t := .object "java/lang/Object") Y.found LT.cls (by decide +kernel) (hw (.fieldLink Bundle.tN 198 Bundle.tN "backtrace" "Ljava/lang/Object;") (by simp [am_exl])) (hw (.lays Bundle.tN Bundle.tN "backtrace" "Ljava/lang/Object;") (by simp [am_exl])) e.platform hpl
  obtain ⟨tyC, dC, eC, nC⟩ := Cond.laysAt hfX hkX Y.cause (hw (.lays C Bundle.tN "cause" "Ljava/lang/Throwable;") (by simp [am_exl]))
  obtain ⟨tyS, dS, eS, nS⟩ := Cond.laysAt hfX hkX Y.stack (hw (.lays C Bundle.tN "stackTrace" Bundle.steD) (by simp [am_exl]))
  obtain ⟨tyP, dP, eP, nP⟩ := Cond.laysAt hfX hkX Y.supp (hw (.lays C Bundle.tN "suppressedExceptions" Bundle.listD) (by simp [am_exl]))
  obtain ⟨tyM, -, -, -⟩ := Cond.laysAt hfX hkX hffM (hw (.lays C Bundle.tN "detailMessage" "Ljava/lang/String;") (by simp [am_exl]))
  obtain ⟨tyB, dB, eB, nB⟩ := Cond.laysAt hfX hkX hffB (hw (.lays C Bundle.tN "backtrace" "Ljava/lang/Object;") (by simp [am_exl]))
  have b1 := Cond.laysApart eB eC nB nC (by rw [hnB, Y.causeName]; decide)
  have b2 := Cond.laysApart eB eS nB nS (by rw [hnB, Y.stackName]; decide)
  have b3 := Cond.laysApart eB eP nB nP (by rw [hnB, Y.suppName]; decide)
  have hskip : SkipFacts T e.platform s (fun u => u) u0 ((preparedCellV T.toThrowableT (freshCell P1.m.cls kX) a u0 sen).withEntry T0.cur) := by
    refine ⟨{ ci198 := ci8, i198 := i8, fBack := fB }, ⟨hk8, hg8, ha8, hsB⟩, ?_, fun _ _ => rfl⟩
    have z := fresh_default (c := P1.m.cls) tyB
    rw [htB] at z
    simpa [preparedCellV, Cell.setSlot, Cell.withEntry, Array.getElem?_setIfInBounds, b1, b2, b3, b1.symm, b2.symm, b3.symm, defaultValue] using z
  obtain ⟨tm, methC, cdC, kC, vm₁, hnC, -, -, -, -, -, -, -, hW₁, st1⟩ := Steps.initColdS (tb := p.tables) (e := e) (below := below) (s := s) (U := T0) XS.here F.1 XS.warmed hpl F.2.2.2.1 (t := Bundle.initS C) rfl rfl (Bundle.fit_spec hfit).2
    (hw (.methodLink y.cls ic (Bundle.initS C)) (by simp [am_exl])) (am_bef F (hchain (.instanceMethod (Bundle.initS C)) (by simp [Bundle.chainSAtoms, Bundle.passSAtoms])).1 (hchain (.instanceMethod (Bundle.initS C)) (by simp [Bundle.chainSAtoms, Bundle.passSAtoms])).2) (bytes := Bundle.six) (maxL := 2) (am_bef F (hchain (.code (Bundle.initS C) Bundle.six 2 none) (by simp [Bundle.chainSAtoms, Bundle.passSAtoms])).1 (hchain (.code (Bundle.initS C) Bundle.six 2 none) (by simp [Bundle.chainSAtoms, Bundle.passSAtoms])).2)
    (f := F0 m pc ls (msg :: .ref a :: st)) rfl (a := a) (msg := msg) (rest := st) rfl (by rw [F.2.1]; exact d)
  cases hnC.symm.trans hP1m
  have X₁ := XS.noted hW₁
  obtain ⟨vm₂, X₂, st2⟩ := X₁.ctorMessageOffV F.1 (g := F0 m pc ls st) rfl (hls.trans F.2.2.1.symm) T LT Z LZ Ms LM (P1 :: Ps) (fun P hP => by rcases List.mem_cons.mp hP with rfl | hP; exact L1; exact hLs P hP) ⟨hlk1, hlk⟩ (u0 := u0) (sen := sen) (self := a) hmsg (cell := freshCell P1.m.cls kX) (cellS := cS)
    hcell (fun _ => by simp) (by simp) rfl rfl (hsel (hw (.selects C Bundle.tFill0 Bundle.tFill0) (by simp [am_exl])) Y.fill0 (by decide)) (hsel (hw (.selects C Bundle.tFill Bundle.tFill) (by simp [am_exl])) Y.fill (by decide)) hcS (Nat.ne_of_lt (Nat.lt_of_lt_of_le haS hnew)) (fun h => by rw [h] at hiS; cases hiS) hu0 hsen
    (Takes.of_laid hkX hord tyC (by rw [Y.causeType]; rfl)) (Takes.of_laid hkX hord tyS (by rw [Y.stackType]; exact fits_refV_array _ u0)) (Takes.of_laid hkX hord tyP (by rw [Y.suppType]; exact fits_refV_object _ sen))
    (Takes.of_laid hkX hord tyM (by rw [Y.msgType]; exact fits_refV_object _ ⟨msg, hmsg⟩)) Y.objLocals hskip htr (ig := .invokespecial ic) (len := 3) [] (by rw [F.2.1]; exact d)
    (by simp only [List.length_cons, hlen]; exact hfr) (by simp only [List.length_cons, List.length_nil, hlen]; show 2 * 0 + (st.map fun v => v.category).sum + _ ≤ _; omega)
  refine ⟨vm₂, _, _, X₂, fun q hq => ?_, rfl, rfl, ?_, fun target hr => st1 _ (fun acts => ?_)⟩
  · simp only [List.mem_cons, List.not_mem_nil, or_false] at hq
    rcases hq with rfl | rfl | rfl | rfl | rfl <;> rfl
  · simp [plainBareV, preparedCellV, Cell.setSlot, blank]
  · rw [doInvoke_state]
    exact st2 _ hr
section AMX
variable {p : Program} {l : Launch} {e : Env} {R : Room} {s : State} {m : MethodId} {args : Array Value} {below : List Frame} {meth : Method} {c : Code} {nL : Nat} {X : am_X} {Q : State → Prop}
variable {cc : ByteArray} {y : MethodName} {ret : Option FieldType} {et : List (Nat × Nat × Nat × Nat)} {h : am_H} {nx cells slots pc pc' : Nat} {L : List (Option Value)} {st : List Value}
set_option maxHeartbeats 4000000 in
/-- new E(text): the object is at nx; what its fields hold is nobody's business -/
theorem v_newE (F : am_Fx p s m args meth c y cc nL ret et X) (ht : l.flags = pinnedFlags ++ [noTraceFlag]) {C tx : String} {T9 : u_T} {ci inw isx ic : Nat} (hA : am_exw y.cls ic C) (hc : am_cl[ci]? = some (C, T9, 6)) (hcl : Cond.classLink y.cls inw C ∈ lw_tbl) (hinst : Cond.instantiable C 6 ∈ lw_tbl) (hini : Cond.initialized C ∈ lw_tbl) (hin : ∀ w ∈ u_ws C T9 6, w ∈ lw_tbl) (htx : Cond.stringRef y.cls isx tx ∈ lw_tbl)
    (d0 : decode cc pc = .ok (.new inw, 3)) (d1 : decode cc (pc + 3) = .ok (.dup, 1)) (d2 : decode cc (pc + 3 + 1) = .ok (.ldc isx, 2)) (d3 : decode cc (pc + 3 + 1 + 2) = .ok (.invokespecial ic, 3)) (hp : pc + 9 = pc') (hcells : cells + 1 ≤ R.cells) (hslots : slots + 6 ≤ R.slots) (hfr : 5 < R.frames) (hlo : (st.map fun v => v.category).sum + 82 ≤ R.locals)
    (k : ∀ fs : List Value, V p l e R s m args below meth c nL X Q (am_up h nx (.inr (ci, fs))) (nx + 1) (cells + 1) (slots + 6) pc' L (.ref nx :: st)) : V p l e R s m args below meth c nL X Q h nx cells slots pc L st := by
  subst hp
  intro H locs ls hR hL hl
  obtain ⟨f1, f2, f3, f4, hts, hK, f7, f8, f9, f10⟩ := id F
  have hKn := hK.1.1 ci _ hc
  obtain ⟨q, hq⟩ := hK.2.2.1 _ _ _ htx
  refine W.newcK f1 f2 f4 (hts _ (am_in hcl rfl)) (hts _ (am_in hinst rfl)) (hts _ (am_in hini rfl)) rfl d0 hcells hslots hKn.2.1 hR.1 fun H1 kC hkC e1 z1 o1 => ?_
  refine lv_dup f1 f2 d1 rfl (va_ldcS f1 f2 f4 hq d2 ?_)
  intro T hT XS
  subst hT
  obtain ⟨vm', cell', L5, X', hL5, g1, g2, g3, hst⟩ := am_ctorE F ht hA XS (a := nx) (fun q hq => (o1 q (Nat.lt_of_lt_of_le hq hR.2.1)).trans (hR.2.2.1 q hq)) hR.2.1 hKn.2.1 hkC e1 (msg := .ref q) rfl hl.1 d3 hfr (st := .ref nx :: st) (by simp only [List.map_cons, List.sum_cons]; show 1 + _ + 81 ≤ _; omega)
  have hlt : nx < (T.setVm vm').heap.size := by show nx < T.heap.size; omega
  have hself : ((T.setVm vm').setCell nx cell').heap[nx]? = some cell' := heapAt_setCell_self cell' hlt
  have hoth : ∀ q : Nat, q ≠ nx → ((T.setVm vm').setCell nx cell').heap[q]? = T.heap[q]? := fun q hq => heapAt_setCell_ne cell' (fun z => hq z.symm)
  have hsz : ((T.setVm vm').setCell nx cell').heap.size = nx + 1 := by
    rw [← z1]
    show (T.heap.setIfInBounds nx cell').size = T.heap.size
    exact Array.size_setIfInBounds
  have hbl : ∀ j, j < 6 → X.1.2 ci j < cell'.slots.size := fun j hj => by
    rw [g3]
    obtain ⟨cf, kf, fi, fd, hi, he⟩ := hKn.1 j hj
    have h3 := (u_facts hKn.2.1 hkC (u_lays hts (am_lays hin) hj) hi).2.2
    rw [← he]
    exact (Array.getElem?_eq_some_iff.mp (k2_blank h3)).1
  obtain ⟨t, a1, b1⟩ := k ((List.range 6).map (fun j => (cell'.slots[X.1.2 ci j]?).getD .null)) ((T.setVm vm').setCell nx cell').heap (locs ++ L5) ls
    (am_R_new hR hsz (fun q hq => (hoth q (by omega)).trans (o1 q hq)) ⟨_, hc, cell', hself, g1, g2, fun j hj => by
      have hlt2 := hbl j hj
      rw [show vp_V ((List.range 6).map (fun j => (cell'.slots[X.1.2 ci j]?).getD .null)) j = (cell'.slots[X.1.2 ci j]?).getD .null by
        unfold vp_V
        have hj' : j < 6 := hj
        simp [List.getD, hj']]
      rw [Array.getElem?_eq_getElem hlt2]
      rfl⟩)
    (fun z hz => (List.mem_append.mp hz).elim (hL z) (fun w => by rw [hL5 z w]; exact hR.2.1)) hl _ rfl X'
  exact ⟨t, hst t a1, b1⟩
end AMX
