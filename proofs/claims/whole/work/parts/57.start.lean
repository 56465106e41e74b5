/-! the law from its entry; the claim (written by wip/whole/cc17.py) -/
def R_law : String := "BillSharesLaw"
def lw_P (b : Addr) (xs : List Int32) (args : Array Value) (s : State) : Prop := args = #[.ref b] ∧ s.IntsAt b xs ∧ xs.length ≤ 3072 ∧ (Jvm.Cond.and given_1 narrow_1).before args s = true
def lw_Q (_ : Array Value) (s : State) (o : Outcome) (t : State) : Prop := o = .returned (some (.int 1)) ∧ Framed s o t [] 601024 7293034
def lw_Z (below : List Frame) (a : Array Value) (s : State) : State → Prop := fun t => ∃ o, t.status = .running ∧ Ended t below o ∧ lw_Q a s o t
theorem lw_ret {p : Program} {l : Launch} {e : Env} {s : State} {m : MethodId} {below : List Frame} {meth : Method} {c : Code} {b : Nat} (hx : p.tables.exec = Jvm.exec) (hb : c.code = code) (hr : meth.sig.returnType = ret) (hlocks : meth.locks = false) {pc : Nat} {H : Heap} {ls : Array Slot} (hdg : decode code pc = .ok (.ireturn, 1)) : W p l e room_1 s m #[Value.ref b] below meth c H [] 601024 7293034 (lw_Z below #[Value.ref b] s) (F0 m pc ls [.int 1]) := by
  intro T hT X
  obtain ⟨fs, hret, hrun, hended, hW, hframe⟩ := X.leave (v := some (.int 1)) (hlocks := hlocks) (fun h => by rw [hr] at h; cases h)
  have hmeth' : T.vm.method? m = some meth := X.method'
  refine ⟨T.setFrames fs, ?_, .returned (some (.int 1)), hrun, hended, rfl, ⟨_, rfl⟩, hW, hframe⟩
  jvm_step X.here [X.here.top, hx, hb, hdg, hmeth', hr, ret, narrow_b1]
  (try refine ⟨rfl, ?_⟩); (try refine ⟨rfl, ?_⟩)
  first | (intro acts; rw [hret _ acts rfl rfl rfl]) | rw [hret _ _ rfl rfl rfl]
  exact Steps.refl _
def lw_At (p : Program) (s : State) (m : MethodId) (meth : Method) (c : Code) (b L : Nat) (xs : Nat → Int32) : Prop :=
  p.tables.exec = Jvm.exec ∧ c.code = code ∧ meth.sig.returnType = ret ∧ c.maxLocals = 8 ∧ s.vm.findClass R_law = some m.cls ∧ (∀ w ∈ lw_tbl, w.before #[Value.ref b] s = true) ∧ va_X b L xs s s.heap ∧ b < s.heap.size ∧ meth.locks = false ∧ (Jvm.Cond.and given_1 narrow_1).before #[Value.ref b] s = true
theorem am_arP {ty : FieldType} {args : Array Value} {s : State} (h : (Cond.arrayClass ty).before args s = true) : ∃ cA : ClassId, ArrOfT s cA ty ∧ s.vm.findClass ("[" ++ ty.toString) = some cA := by
  obtain ⟨c, k, comp, h1, h2, h3⟩ := Cond.arrayClass_spec h
  exact ⟨c, fun n z => ⟨fun k h => (by cases h), k, h2, comp, h3⟩, h1⟩
theorem am_arO {E : String} {args : Array Value} {s : State} (h : (Cond.arrayOver (.object E)).before args s = true) : ∃ cA : ClassId, ArrOfT s cA (.object E) ∧ va_RA s cA (.object E) := by
  obtain ⟨comp, c, k, h1, h2, h3, h4, h5⟩ := Cond.arrayOver_spec h
  exact ⟨c, fun n z => ⟨fun k h => (by cases h), k, h3, comp, h4⟩, k, comp, h3, h4, h1, h5⟩
theorem am_xt_on {w : Cond} {A : Array Value} {s : State} (h : am_xt w = true) (hb : w.before A s = true) : va_Nw w s := by
  unfold am_xt at h
  split at h
  · exact va_Nw.of rfl hb
  · exact va_Nw.of rfl hb
  · exact va_Nw.of rfl hb
  · exact hb
  · cases h
theorem am_sr : lw_tbl.all (fun w => match w with | .stringRef o _ _ => o == "BillShares" | _ => true) = true := by decide +kernel
theorem am_sr1 {o : String} {k : Nat} {tx : String} (h : Cond.stringRef o k tx ∈ lw_tbl) : o = "BillShares" := by
  have := List.all_eq_true.mp am_sr _ h
  exact eq_of_beq this
theorem am_ls_of {C n d : String} {args : Array Value} {s : State} (h : (Cond.laysStatic C n d).before args s = true) : am_LS C n d s s.heap := by
  obtain ⟨c, k, i, f, a, cell, h1, h2, h3, h4, h5, h6, h7, h8, h9⟩ := Cond.laysStatic_spec h
  exact ⟨c, k, i, f, a, cell, h1, h2, h3, h4, h5, h6, h7, h8, h9⟩
set_option maxRecDepth 100000 in
set_option maxHeartbeats 4000000 in
theorem am_start {s : State} {b : Nat} (hts : ∀ w ∈ lw_tbl, w.before #[Value.ref b] s = true) (hgv : (Jvm.Cond.and given_1 narrow_1).before #[Value.ref b] s = true) : ∃ X : am_X, X.2.2.1 = s.heap ∧ am_K X s := by
  have hs := flat_of_before _ hgv
  obtain ⟨c0, i0, k0⟩ := u_known (C := zR_S) (T := zF_S) (N := 6) (n := 6) hts zi_S (hts _ wx_21)
  obtain ⟨c1, i1, k1⟩ := u_known (C := zR_F) (T := zF_F) (N := 10) (n := 10) hts zi_F (hts _ wx_177)
  obtain ⟨c2, i2, k2⟩ := u_known (C := zR_T) (T := zF_T) (N := 8) (n := 8) hts zi_T (hts _ wx_326)
  obtain ⟨c3, i3, k3⟩ := u_known (C := zR_B) (T := zF_B) (N := 3) (n := 3) hts zi_B (hts _ wx_490)
  obtain ⟨c4, i4, k4⟩ := u_known (C := zR_M) (T := zF_M) (N := 28) (n := 28) hts zi_M (hts _ wx_656)
  obtain ⟨c5, i5, k5⟩ := u_known (C := zR_A) (T := zF_A) (N := 3) (n := 3) hts zi_A (hts _ wx_29)
  obtain ⟨c6, i6, k6⟩ := u_known (C := zR_IA) (T := zF_IA) (N := 6) (n := 6) hts zi_IA (hts _ wx_90)
  obtain ⟨c7, i7, k7⟩ := u_known (C := zR_IS) (T := zF_IS) (N := 6) (n := 6) hts zi_IS (hts _ wx_161)
  obtain ⟨a0, p0, q0⟩ := am_arP (hts _ wx_76)
  obtain ⟨a1, p1, q1⟩ := am_arP (hts _ wx_223)
  obtain ⟨a2, p2, q2⟩ := am_arO (hts _ wx_269)
  obtain ⟨a3, p3, q3⟩ := am_arO (hts _ wx_185)
  obtain ⟨a4, p4, q4⟩ := am_arP (hts _ wx_746)
  obtain ⟨mi, hmi⟩ := va_Mi.of (hs (Cond.isRef (.mirror "[Ljava/lang/Object;")) (by decide +kernel))
  have hA : ∀ a : Nat, a < s.heap.size → ¬ (fun q : Nat => s.heap.size ≤ q) a := fun a h => Nat.not_le.mpr h
  obtain ⟨t, ht, hT⟩ := va_Tof (tm := (.static "java/util/ArrayList" am_DE "[Ljava/lang/Object;")) (ty := .object "java/lang/Object") (N := 0) (f := fun _ => Value.null) (A := fun q : Nat => s.heap.size ≤ q) (by decide) (hs (Cond.arrayOf (.static "java/util/ArrayList" am_DE "[Ljava/lang/Object;") (.object "java/lang/Object")) (by decide +kernel)) (va_eqt (hs (Cond.eq (.length (.static "java/util/ArrayList" am_DE "[Ljava/lang/Object;")) (.int 0)) (by decide +kernel))) (fun j hj => absurd hj (by omega)) hA
  refine ⟨((fun k => if k = 0 then c0 else if k = 1 then c1 else if k = 2 then c2 else if k = 3 then c3 else if k = 4 then c4 else if k = 5 then c5 else if k = 6 then c6 else c7, fun k => if k = 0 then i0 else if k = 1 then i1 else if k = 2 then i2 else if k = 3 then i3 else if k = 4 then i4 else if k = 5 then i5 else if k = 6 then i6 else i7), fun k => if k = 9 then mi else if k = 0 then a0 else if k = 1 then a1 else if k = 2 then a2 else if k = 3 then a3 else a4, s.heap, t), rfl, ⟨fun k q hq => ?_, fun k q hq => ?_⟩, fun w hw hx => am_xt_on hx (hts w hw), fun o k tx h => ?_, va_Zof (hts _ wx_41) (hts _ wx_4) ht hA, hT, va_Zqof (hts _ wx_116) (hts _ wx_7) (hs (Cond.isRef (.static "java/lang/Throwable" "UNASSIGNED_STACK" "[Ljava/lang/StackTraceElement;")) (by decide +kernel)) hA, va_Zqof (hts _ wx_118) (hts _ wx_7) (hs (Cond.isRef (.static "java/lang/Throwable" "SUPPRESSED_SENTINEL" "Ljava/util/List;")) (by decide +kernel)) hA, hmi, va_Nc.of (hs (Cond.not (.castable "java/lang/IllegalStateException" "java/lang/IllegalArgumentException")) (by decide +kernel)), am_ls_of (hts _ wx_116), am_ls_of (hts _ wx_118), fun q _ => rfl⟩
  · match k, hq with
    | 0, hq => cases hq; exact k0
    | 1, hq => cases hq; exact k1
    | 2, hq => cases hq; exact k2
    | 3, hq => cases hq; exact k3
    | 4, hq => cases hq; exact k4
    | 5, hq => cases hq; exact k5
    | 6, hq => cases hq; exact k6
    | 7, hq => cases hq; exact k7
    | n + 8, hq => simp [am_cl] at hq
  · match k, hq with
    | 0, hq => cases hq; exact ⟨p0, q0⟩
    | 1, hq => cases hq; exact ⟨p1, q1⟩
    | 2, hq => cases hq; exact ⟨p2, q2⟩
    | 3, hq => cases hq; exact ⟨p3, q3⟩
    | 4, hq => cases hq; exact ⟨p4, q4⟩
    | n + 5, hq => simp [am_ty] at hq
  · have e := am_sr1 h
    subst e
    obtain ⟨_, _, _, a, _, _, _, _, _, h6⟩ := Cond.stringRef_spec k0.2.1 (hts _ h)
    exact ⟨a, vk_R.of (hts _ h) h6⟩
theorem RepC.reA {X : am_X} {x : Nat} {A A' : Nat → Prop} {P : Tg → Nat} {M : MS} {h : am_H} (hC : RepC X x A P M h) (h1 : ∀ t, Lv M t → A' (P t)) : RepC X x A' P M h := ⟨hC.1, hC.2.1, hC.2.2.1, h1⟩
theorem v_law_ret {p : Program} {l : Launch} {e : Env} {s : State} {m : MethodId} {below : List Frame} {meth : Method} {c : Code} {X : am_X} {b nx cells slots : Nat} {h : am_H} {L : List (Option Value)} (hx : p.tables.exec = Jvm.exec) (hb : c.code = code) (hr : meth.sig.returnType = ret) (hlocks : meth.locks = false) (hXh : X.2.2.1 = s.heap) (hc : cells ≤ 601024) (hs : slots ≤ 7293034) : V p l e room_1 s m #[Value.ref b] below meth c 8 X (lw_Z below #[Value.ref b] s) h nx cells slots 1556 L [iV 1] := by
  intro H locs ls hR hL hl
  refine va_forget (fun q hq => by rw [← hXh]; exact hL q hq) (W.widen hc hs ?_)
  exact lw_ret hx hb hr hlocks d_L_law_1556
set_option maxRecDepth 100000 in
set_option maxHeartbeats 4000000 in
theorem law_body {p : Program} {l : Launch} {e : Env} {s : State} {m : MethodId} {below : List Frame} {meth : Method} {c : Code} {X : am_X} {b N nx : Nat} {xs : Nat → Int32} (F : am_Fx p s m #[Value.ref b] meth c y_L_law b_L_law 8 (Option.some FieldType.boolean) [] X) (ht : l.flags = pinnedFlags ++ [noTraceFlag]) (hXh : X.2.2.1 = s.heap) (hN : N ≤ 3072) (hX : va_X b N xs s X.2.2.1) (hsa : b < am_sz X) : V p l e ({ frames := 13, cells := 601024, slots := 7293034, locals := 488 }) s m #[Value.ref b] below meth c 8 X (lw_Z below #[Value.ref b] s) (fun _ => none) nx 0 0 0 [some (.ref b), none, none, none, none, none, none, none] [] := by
  refine v_new (pc' := 3) (ci := 0) (C := zR_S) (T := zF_S) (N := 6) (fs := [.null, .null, .null, .null, .null, .null]) F d_L_law_0 rfl zi_S zt_S zk_S rfl wx_20 wx_21 wx_1 (by decide +kernel) (by decide) (by decide) ?_
  refine v_dup (pc' := 4) F d_L_law_3 rfl rfl ?_
  refine v_callI (pc' := 7) (av := []) F d_L_law_4 rfl wx_24 cal_S_init rfl wx_22 wx_23 (c_S_init l X _ _ _ (fun _ => True) am_up_s (Nat.lt_succ_self _) (fun _ _ => trivial) trivial) rfl ⟨by decide, by decide, by decide, by decide⟩ (Nat.le_of_ble_eq_true rfl) (fun _ _ _ q => by cases q.1) (fun r9 h1 n1 q => ?_)
  obtain ⟨q9, rfl, hk1, hC1⟩ := q
  cases q9
  refine v_fr (fun hfr1 => ?_)
  refine v_astore_1 (pc' := 8) F d_L_law_7 rfl rfl (by decide) ?_
  refine v_new (pc' := 11) (ci := 4) (C := zR_M) (T := zF_M) (N := 28) (fs := [iV 0, iV 0, .null, .null, .null, .null, .null, iV 0, .null, .null, .null, .null, .null, .null, .null, .null, .null, .null, .null, .null, .null, .null, .null, .null, .null, .null, .null, .null]) F d_L_law_8 rfl zi_M zt_M zk_M rfl wx_655 wx_656 wx_6 (by decide +kernel) (by decide) (by decide) ?_
  refine v_dup (pc' := 12) F d_L_law_11 rfl rfl ?_
  refine v_callI (pc' := 15) (av := []) F d_L_law_12 rfl wx_659 cal_M_init rfl wx_657 wx_658 (c_M_init l X _ _ am_up_s) rfl ⟨by decide, by decide, by decide, by decide⟩ (Nat.le_of_ble_eq_true rfl) (fun _ _ _ q => by cases q.2.2.2) (fun r9 h2 n2 q => ?_)
  obtain ⟨hM2, hF2, rfl, q9⟩ := q
  cases q9
  refine v_astore_2 (pc' := 16) F d_L_law_15 rfl rfl (by decide) ?_
  refine v_iconst (pc' := 17) F d_L_law_16 rfl ?_
  refine v_newa (pc' := 19) (ai := 1) (ty := .long) F d_L_law_17 rfl rfl wx_223 (by decide) rfl (by omega) (by omega) (by decide) (by decide) ?_
  refine v_astore_3 (pc' := 20) F d_L_law_19 rfl rfl (by decide) ?_
  refine v_iconst (pc' := 21) F d_L_law_20 rfl ?_
  refine v_istore_4 (pc' := 23) F d_L_law_21 rfl rfl (by decide) ?_
  have hC2 : RepC X nx (AA (nx + 1 + 6) ((nx + 1 + 6) + 26)) (p00 nx (nx + 1)) sp_new (am_up h2 ((nx + 1 + 6) + 26) (am_la 1 (fun _ => 0))) := (hC1.reA (A' := AA (nx + 1 + 6) ((nx + 1 + 6) + 26)) (fun t ht => by have := hC1.lt hfr1 ht; exact ⟨Or.inl this, by omega⟩)).sub (fun a ha he => by
    obtain ⟨e9, he⟩ := he
    have hlt : a < (nx + 1 + 6) := Nat.not_le.mp (fun q => by rw [hfr1 a q] at he; cases he)
    rw [am_up_n (by omega), hF2 a (Or.inl hlt), am_up_n (by omega)])
  have hM3 : RepM (nx + 1 + 6) sp_new (am_up h2 ((nx + 1 + 6) + 26) (am_la 1 (fun _ => 0))) := hM2.sub (fun a z1 z2 => am_up_n (by omega))
  have q8 := lp_law (e := e) (below := below) (Q := lw_Z below #[Value.ref b] s) (x := nx) (y := (nx + 1 + 6)) (o9 := ((nx + 1 + 6) + 26)) F ht (Nat.le_refl _) hN hX hsa (fun h8 n8 k8 hk8 => by refine v_iconst (pc' := 1556) F d_L_law_1555 rfl ?_; exact v_law_ret F.1 F.2.1 F.2.2.2.2.2.2.2.1 F.2.2.2.2.2.2.1 hXh (by omega) (by omega)) (N + 1) 0 (by omega) (by omega) _ (((nx + 1 + 6) + 26) + 1) sp_new (p00 nx (nx + 1)) (fun _ => 0) ⟨hM3, hC2, RI.new, NI.new⟩ am_up_s (by omega)
  rw [show 6 * ((0 : Nat) : Int) = 0 from rfl] at q8
  exact v_widen (by first | omega | (dsimp only; omega)) (by first | omega | (dsimp only; omega)) q8
set_option maxRecDepth 100000 in
set_option maxHeartbeats 4000000 in
theorem whole_start {p : Program} {e : Env} {s : State} {m : MethodId} {below : List Frame} {meth : Method} {c : Code} (l : Launch) {b L : Nat} {xs : Nat → Int32} (ht : l.flags = flags0) (hnm : meth.name = "law") (het : c.exceptionTable.toList.map (fun h => (h.startPc, h.endPc, h.handlerPc, h.catchType)) = []) (hL : L ≤ 3072) (C0 : lw_At p s m meth c b L xs) : W p l e room_1 s m #[Value.ref b] below meth c s.heap [] 0 0 (lw_Z below #[Value.ref b] s) (entryFrame m ([Value.ref b] : List Value).toArray 8) := by
  obtain ⟨hx, hb, hr, hml, hown, hts, hX, hbl, hlocks, hgv⟩ := id C0
  obtain ⟨X, hXh, hK⟩ := am_start hts hgv
  have F : am_Fx p s m #[Value.ref b] meth c y_L_law b_L_law 8 (Option.some FieldType.boolean) [] X := ⟨hx, hb, hml, hown, fun w hw => hts w (List.mem_filter.mp hw).1, hK, hlocks, hr, hnm, het⟩
  have hR : am_R X (fun _ => none) s.heap.size s.heap := ⟨rfl, by show X.2.2.1.size ≤ s.heap.size; rw [hXh]; exact Nat.le_refl _, fun q _ => by rw [hXh], fun a e h => by cases h⟩
  obtain ⟨ls, he, hl⟩ := am_entry (m := m) (vs := [.ref b]) (n := 8) (k := 7) (L0 := [some (.ref b), none, none, none, none, none, none, none]) (Nat.le_of_ble_eq_true rfl) rfl
  rw [he]
  exact law_body F ht hXh hL (by rw [hXh]; exact hX) (by show b < X.2.2.1.size; rw [hXh]; exact hbl) s.heap [] ls hR (fun _ q => by cases q) hl
set_option maxHeartbeats 4000000 in
theorem lw_walk (l : Launch) (ht : l.flags = flags0) (b : Addr) (xs : List Int32) : MetFree l x (headSpec (Jvm.Cond.code x code maxLocals ret :: tables_1) room_1) (lw_P b xs) (fun _ _ _ _ _ => True) lw_Q := by
  refine MetFree.of_bodyS (code := code) (maxLocals := maxLocals) (ret := ret) (by decide) ?_ ?_
  · intro args s m h hn
    obtain ⟨meth, c, h1, h2, h3, h4, h5, h6, -, -⟩ := Cond.code_spec hn (atoms_spec (ws := Jvm.Cond.code x code maxLocals ret :: tables_1) h _ List.mem_cons_self)
    exact ⟨meth, c, h1, h2, h3, h4, h5, h6⟩
  · intro p e s m args below meth c s₁ B hml0 hP _
    obtain ⟨rfl, hx, hbd, hgv⟩ := hP
    obtain ⟨scr, harrAt, hlist, hof, hsmall⟩ := hx
    obtain ⟨hcb, hkn, -, -⟩ := State.arrayAt?_spec harrAt
    have hown : s.vm.findClass R_law = some m.cls := findClass_of_methodNamed B.named
    have hts0 : ∀ c ∈ (Jvm.Cond.code x code maxLocals ret :: tables_1), c.before #[Value.ref b] s = true := atoms_spec (ws := Jvm.Cond.code x code maxLocals ret :: tables_1) B.pre
    have hts : ∀ w ∈ lw_tbl, w.before #[Value.ref b] s = true := k2_hts_sels lw_privs (fun w hw => hts0 w (List.mem_cons_of_mem _ hw)) lw_privs_ok
    have hml : c.maxLocals = 8 := B.maxLocals_eq (hts0 _ List.mem_cons_self)
    have X₀ : Stand p l e room_1 s m #[Value.ref b] below meth c s₁ [] 0 0 := Stand.of_body B
    have hh0 : s₁.heap = s.heap := by rw [B.state]; rfl
    obtain ⟨meth', c', g1, g2, -, -, -, -, g7, -⟩ := Cond.code_spec B.named (hts0 _ List.mem_cons_self)
    cases B.method.symm.trans g1
    cases X₀.code.symm.trans g2
    have het : c.exceptionTable.toList.map (fun h => (h.startPc, h.endPc, h.handlerPc, h.catchType)) = [] := by
      have : c.exceptionTable = #[] := by simpa [Array.isEmpty] using g7
      rw [this]; rfl
    have hsz : scr.slots.size = xs.length := by rw [← Array.length_toList, hlist, List.length_map]
    have hval : ∀ j : Nat, j < xs.length → scr.slots[j]? = some (.int (xs.getD j 0)) := fun j hj => by
      rw [← Array.getElem?_toList, hlist]
      simp [hj]
    have hbl : b < s.heap.size := (Array.getElem?_eq_some_iff.mp hcb).1
    have hX : va_X b xs.length (fun j => xs.getD j 0) s s.heap := ⟨scr, hcb, hof, hkn, hsz, hval⟩
    have K : W p l e room_1 s m #[Value.ref b] below meth c s₁.heap [] 0 0 (lw_Z below #[Value.ref b] s) (entryFrame m ([Value.ref b] : List Value).toArray 8) := by
      rw [hh0]
      exact whole_start l ht (name_of_methodNamed B.named B.method).1 het hbd ⟨B.exec, B.bytes, B.returns, hml, hown, hts, hX, hbl, B.notSynchronized, hgv⟩
    obtain ⟨t, a1, o, b1, b2, b3⟩ := K s₁ rfl X₀
    exact ⟨t, o, a1, b1, b2, b3⟩
theorem lw_pre_spec {args : Array Value} {s : State} (h : (Jvm.Cond.and given_1 narrow_1).before args s = true) (hr : rest_1_c.before args s = true) : ∃ (b : Addr) (xs : List Int32), lw_P b xs args s := by
  have hs := flat_of_before _ h
  have hq := flat_of_before _ hr
  have hc : (Cond.count 1).before args s = true := hs _ (by decide +kernel)
  have harr : (Cond.arrayOf (.arg 0) .int).before args s = true := hs _ (by decide +kernel)
  have hle : (Cond.le (.length (.arg 0)) (.int 3072)).before args s = true := hs _ (by decide +kernel)
  have hlen : (Cond.isInt (.length (.arg 0))).before args s = true := hq _ (by decide +kernel)
  have hall : (Cond.all (.arg 0) (.isInt (.elem (.arg 0) (.index 0)))).before args s = true := hq _ (by decide +kernel)
  obtain ⟨b, xs, hb, hx⟩ := State.ints_of_pre rfl harr hlen hall
  have hsm : xs.length < 2 ^ 31 := hx.choose_spec.2.2.2
  have hev : (Term.length (.arg 0)).eval args s none [] s = some (.int xs.length.toInt32) := hx.length_eval hb
  have hv := Cond.le_ints hev (show (Term.int 3072).eval args s none [] s = some (.int 3072) from rfl)
  have hd : xs.length.toInt32 ≤ 3072 := by
    simpa [Cond.before, Cond.holds, hv] using hle
  have hN : xs.length ≤ 3072 := (Int32.ofNat_le_ofNat hsm (by decide)).mp (show Int32.ofNat xs.length ≤ Int32.ofNat 3072 from hd)
  exact ⟨b, xs, Cond.one_arg hc (show args[0]? = some (.ref b) from hb), hx, hN, h⟩
theorem lw_comes (l : Launch) (ht : l.flags = flags0) : Comes l x (Jvm.Cond.code x code maxLocals ret :: tables_1) room_1 (fun tb e args s => Calls_1 tb e args s ∧ rest_1 tb e args s ∧ Pre_1 tb e args s)
    (fun _ _ args s o t => lw_Q args s o t) := by
  intro p e ha hc hk s m args below hf hfit hheap happ hpre
  obtain ⟨b, xs, hP⟩ := lw_pre_spec hpre.2.2 hpre.2.1
  obtain ⟨k, o, h1, h2, h3, hQ⟩ := lw_walk l ht b xs p e ha hc hk s m args below hf ((Spec.applies_iff_loose hf).mp happ).1 hP trivial
  exact ⟨k, o, h1, h2, h3, hQ⟩
theorem lw_frame {s t : State} {o : Outcome} {args : Array Value} (h : Framed s o t [] 601024 7293034) :
    Framed s o t (fieldLocs frame_1_writes args s ++ arrayLocs frame_1_arrays args s ++ staticLocs frame_1_statics s) 601024 7293034 := h
theorem lw_limb (L : Cond) (hL : ∀ (args : Array Value) (s t : State), L.after args s (.returned (some (.int 1))) t = true) :
    ArmFor flags0 classFile x code maxLocals ret World_1 tables_1 room_1 Calls_1 rest_1 Pre_1
      (fun tb e a s o t => postC L tb e a s o t ∧ Framed s o t (fieldLocs frame_1_writes a s ++ arrayLocs frame_1_arrays a s ++ staticLocs frame_1_statics s) 601024 7293034) := by
  intro l ht _ _ p e ha hc hk s m args below hf hfit hheap happ hpre
  obtain ⟨k, o, h1, h2, h3, rfl, hF⟩ := lw_comes l ht p e ha hc hk s m args below hf hfit hheap happ hpre
  exact ⟨k, _, h1, h2, h3, hL args s _, lw_frame hF⟩
theorem i_vc : Claimed_1_1 ∧ Claimed_1_2 := ⟨lw_limb limb_1_1 (fun args s t => by simp [limb_1_1, Cond.after, Cond.holds, Cond.value]), lw_limb limb_1_2 (fun args s t => Cond.after_iff.mpr (by
  first | (rw [show limb_1_2 = Cond.eq .result (.int 1) from rfl, Cond.eq_ints (x := 1) (y := 1) rfl rfl]; simp; done) | (simp [limb_1_2, Cond.value, Term.eval]; done)))⟩
