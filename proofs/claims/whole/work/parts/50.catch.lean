/-! what is thrown and caught here; both sides' pictures over one state (by hand) -/
section AMC
variable {p : Program} {l : Launch} {e : Env} {R : Room} {s : State} {m : MethodId} {args : Array Value} {below : List Frame} {meth : Method} {c : Code} {nL : Nat} {X : am_X} {Q : State → Prop}
variable {cc : ByteArray} {y : MethodName} {ret : Option FieldType} {et : List (Nat × Nat × Nat × Nat)} {h : am_H} {nx cells slots pc pc' : Nat} {L : List (Option Value)} {st : List Value}
/-- caught by the first row of the method's own table -/
theorem v_catch1 (F : am_Fx p s m args meth c y cc nL ret et X) {x ci N sp ep hpc ct : Nat} {C nm : String} {T9 : u_T} {fs : List Value} {er : List (Nat × Nat × Nat × Nat)} (het : et = (sp, ep, hpc, ct) :: er) (hcv : (decide (sp ≤ pc) && decide (pc < ep)) = true) (hct : ct ≠ 0) (hlink : Cond.classLink y.cls ct nm ∈ lw_tbl) (hcast : Cond.castable C nm ∈ lw_tbl) (hc : am_cl[ci]? = some (C, T9, N)) (hb : h x = some (.inr (ci, fs))) (k : V p l e R s m args below meth c nL X Q h nx cells slots hpc L [.ref x]) : VX p l e R s m args below meth c nL X Q h nx cells slots pc L x := by
  intro T locs ls st hR hL hl XS
  obtain ⟨f1, f2, f3, f4, hts, hK, f7, f8, f9, f10⟩ := id F
  obtain ⟨-, r, h1, cell, hcell, hcl, hvm, -⟩ := hR.2.2.2 _ _ hb
  cases h1.symm.trans hc
  have hfc : s.vm.findClass C = some cell.cls := by rw [hcl]; exact (hK.1.1 ci _ hc).2.1
  obtain ⟨c0, t0, g1, g2, g3⟩ := Cond.castable_spec (va_Nw.use (A := args) rfl (hK.2.1 _ hcast rfl))
  cases hfc.symm.trans g1
  rw [het] at f10
  obtain ⟨e0, es, htl, he0, -⟩ := List.map_eq_cons_iff.mp f10
  have w1 : e0.startPc = sp := congrArg (fun q => q.1) he0
  have w2 : e0.endPc = ep := congrArg (fun q => q.2.1) he0
  have w3 : e0.handlerPc = hpc := congrArg (fun q => q.2.2.1) he0
  have w4 : e0.catchType = ct := congrArg (fun q => q.2.2.2) he0
  subst w1 w2 w3 w4
  obtain ⟨vm', X', step⟩ := XS.caughtLink x (g := F0 m pc ls st) rfl f4 [] e0 es htl (fun q hq => by cases hq) hcv hct (hts _ (am_in hlink rfl)) g2 hcell (by rw [hvm]; rfl) g3
  obtain ⟨t, a1, b1⟩ := k T.heap locs ls hR hL hl (T.setVm vm') rfl X'
  refine ⟨t, ?_, b1⟩
  rw [XS.pushThrowing_eq]
  exact step t a1
/-- an IllegalStateException, caught by the second row behind one for IllegalArgumentException -/
theorem v_catch2 (F : am_Fx p s m args meth c y cc nL ret et X) {x N sp ep hpc0 ct0 hpc ct : Nat} {T9 : u_T} {fs : List Value} {er : List (Nat × Nat × Nat × Nat)} (het : et = (sp, ep, hpc0, ct0) :: (sp, ep, hpc, ct) :: er) (hcv : (decide (sp ≤ pc) && decide (pc < ep)) = true) (hct0 : ct0 ≠ 0) (hct : ct ≠ 0) (hlink0 : Cond.classLink y.cls ct0 "java/lang/IllegalArgumentException" ∈ lw_tbl) (hlink : Cond.classLink y.cls ct "java/lang/IllegalStateException" ∈ lw_tbl) (hcast : Cond.castable "java/lang/IllegalStateException" "java/lang/IllegalStateException" ∈ lw_tbl) (hc : am_cl[7]? = some ("java/lang/IllegalStateException", T9, N)) (hb : h x = some (.inr (7, fs))) (k : V p l e R s m args below meth c nL X Q h nx cells slots hpc L [.ref x]) : VX p l e R s m args below meth c nL X Q h nx cells slots pc L x := by
  intro T locs ls st hR hL hl XS
  obtain ⟨f1, f2, f3, f4, hts, hK, f7, f8, f9, f10⟩ := id F
  obtain ⟨-, r, h1, cell, hcell, hcl, hvm, -⟩ := hR.2.2.2 _ _ hb
  cases h1.symm.trans hc
  have hfc : s.vm.findClass "java/lang/IllegalStateException" = some cell.cls := by rw [hcl]; exact (hK.1.1 7 _ hc).2.1
  obtain ⟨c0, t0, g1, g2, g3⟩ := Cond.castable_spec (va_Nw.use (A := args) rfl (hK.2.1 _ hcast rfl))
  cases hfc.symm.trans g1
  have hNc : va_Nc "java/lang/IllegalStateException" "java/lang/IllegalArgumentException" s := hK.2.2.2.2.2.2.2.2.1
  obtain ⟨c1, t1, j1, j2, j3⟩ := hNc
  cases hfc.symm.trans j1
  rw [het] at f10
  obtain ⟨e0, es, htl, he0, hes⟩ := List.map_eq_cons_iff.mp f10
  obtain ⟨e1, es1, htl1, he1, -⟩ := List.map_eq_cons_iff.mp hes
  have w4' : e0.catchType = ct0 := congrArg (fun q => q.2.2.2) he0
  have w1 : e1.startPc = sp := congrArg (fun q => q.1) he1
  have w2 : e1.endPc = ep := congrArg (fun q => q.2.1) he1
  have w3 : e1.handlerPc = hpc := congrArg (fun q => q.2.2.1) he1
  have w4 : e1.catchType = ct := congrArg (fun q => q.2.2.2) he1
  subst w1 w2 w3 w4 w4'
  have hpl : e.platform.magicAccessors = ({} : Platform).magicAccessors := by rw [XS.admits.platform]
  obtain ⟨c', hc', hcl'⟩ := Cond.classLink_spec f4 (hts _ (am_in hlink0 rfl)) e.platform hpl
  cases j2.symm.trans hc'
  have hend := XS.catches_of_link f4 hct (hts _ (am_in hlink rfl)) g2 g3
  obtain ⟨vm', X', step⟩ := XS.caughtThrough x (g := F0 m pc ls st) rfl hcell (by rw [hvm]; rfl) hend.2 [e0] e1 es1 (by rw [htl, htl1]; rfl) (fun q hq => by cases List.mem_singleton.mp hq; exact Or.inr ⟨hct0, t1, hcl', j3⟩) hcv hend.1
  obtain ⟨t, a1, b1⟩ := k T.heap locs ls hR hL hl (T.setVm vm') rfl X'
  refine ⟨t, ?_, b1⟩
  rw [XS.pushThrowing_eq]
  exact step t a1
end AMC
/-- the reference's picture depends on its own fields only -/
theorem RepM.c {y : Nat} {M M' : MS} {h : am_H} (hM : RepM y M h) (he : ∀ k : Nat, k < 28 → M' k = M k) : RepM y M' h := by
  refine ⟨?_, fun k h1 h2 h3 => ?_⟩
  · have e : md_fs y M' = md_fs y M := by
      unfold md_fs
      rw [he 0 (by decide), he 1 (by decide), he 7 (by decide)]
    rw [e]; exact hM.1
  · rw [md_cell_c (he k h2)]; exact hM.2 k h1 h2 h3
/-- the reference's fields of A, the class's notes of B -/
def mrg (A B : MS) : MS := fun k => if k < 28 then A k else B k
theorem mrg_l {A B : MS} {k : Nat} (h : k < 28) : mrg A B k = A k := if_pos h
theorem mrg_r {A B : MS} {k : Nat} (h : ¬ k < 28) : mrg A B k = B k := if_neg h
/-- where the class's object may lie -/
def AA (y o9 : Nat) : Nat → Prop := fun a => (a < y ∨ y + 26 ≤ a) ∧ a ≠ o9
/-- both sides stand in one state -/
def Bo (X : am_X) (x y o9 : Nat) (M : MS) (P : Tg → Nat) (h : am_H) : Prop := RepM y M h ∧ RepC X x (AA y o9) P M h ∧ RI M ∧ NI M
theorem Bo.step {X : am_X} {x y o9 : Nat} {P' : Tg → Nat} {h : am_H} {M9 M' T : MS} (hM : RepM y M9 h) (hC : RepC X x (AA y o9) P' M' h) (hT : RI T) (hN : NI M') (h1 : eqv M9 T) (h2 : ∀ k : Nat, k ≠ 0 → k < 26 → M' k = T k) : Bo X x y o9 (mrg M9 M') P' h := by
  have e : ∀ k : Nat, k ≠ 0 → k < 26 → mrg M9 M' k = M' k := fun k z0 z1 => by rw [mrg_l (by omega), h1 k z0 (by omega) (by omega), h2 k z0 z1]
  refine ⟨hM.c (fun k hk => mrg_l hk), hC.note (fun k z0 _ _ _ _ _ z26 z27 => ?_), hT.c (fun k z0 z1 => by rw [e k z0 z1, h2 k z0 z1]), hN.c (fun k hk => ?_)⟩
  · by_cases c : k < 28
    · exact e k z0 (by omega)
    · exact mrg_r c
  · by_cases c : k < 28
    · exact e k (by omega) (by omega)
    · exact mrg_r c
