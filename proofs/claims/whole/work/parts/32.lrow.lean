/-! rows for casts, equal references, arrays of references, copies, class objects -/
/-- null, or an object that may lie in an array of E -/
def am_ok (h : am_H) (E : String) (v : Value) : Prop := v = .null ∨ ∃ (y ci : Nat) (fs : List Value) (C : String) (T9 : u_T) (N : Nat), v = .ref y ∧ h y = some (.inr (ci, fs)) ∧ am_cl[ci]? = some (C, T9, N) ∧ Cond.castable C E ∈ lw_tbl
section AML
variable {p : Program} {l : Launch} {e : Env} {R : Room} {s : State} {m : MethodId} {args : Array Value} {below : List Frame} {meth : Method} {c : Code} {nL : Nat} {X : am_X} {Q : State → Prop}
variable {cc : ByteArray} {y : MethodName} {ret : Option FieldType} {et : List (Nat × Nat × Nat × Nat)} {h : am_H} {nx cells slots pc pc' : Nat} {L : List (Option Value)} {st : List Value}
theorem v_cast (F : am_Fx p s m args meth c y cc nL ret et X) {a ci index N : Nat} {C nm : String} {T9 : u_T} {fs : List Value} (d : decode cc pc = .ok (.checkcast index, 3)) (hp : pc + 3 = pc') (hlink : Cond.classLink y.cls index nm ∈ lw_tbl) (hcast : Cond.castable C nm ∈ lw_tbl) (hc : am_cl[ci]? = some (C, T9, N)) (hb : h a = some (.inr (ci, fs))) (k : V p l e R s m args below meth c nL X Q h nx cells slots pc' L (.ref a :: st)) : V p l e R s m args below meth c nL X Q h nx cells slots pc L (.ref a :: st) := by
  subst hp
  intro H locs ls hR hL hl
  obtain ⟨-, r, h1, cell, hcell, hcl, hvm, -⟩ := hR.2.2.2 _ _ hb
  cases h1.symm.trans hc
  exact va_castY F.1 F.2.1 F.2.2.2.1 (am_bef F hlink (Or.inl rfl)) (F.2.2.2.2.2.1.2.1 _ hcast rfl) ⟨cell, hcell, by rw [hvm]; rfl, by rw [hcl]; exact (F.2.2.2.2.2.1.1.1 ci _ hc).2.1⟩ d (k H locs ls hR hL hl)
theorem v_acmp_eq (F : am_Fx p s m args meth c y cc nL ret et X) {a b tgt : Nat} {off : Int} (d : decode cc pc = .ok (.if_acmp .eq off, 3)) (ht : (pc : Int) + off = (tgt : Int)) (hp : pc + 3 = pc') (kt : a = b → V p l e R s m args below meth c nL X Q h nx cells slots tgt L st) (kf : ¬ a = b → V p l e R s m args below meth c nL X Q h nx cells slots pc' L st) : V p l e R s m args below meth c nL X Q h nx cells slots pc L (.ref b :: .ref a :: st) := by
  subst hp
  intro H locs ls hR hL hl
  exact lv_acmp_eq F.1 F.2.1 (rx := some a) (ry := some b) d ht (fun q => kt (Option.some.inj q) H locs ls hR hL hl) (fun q => kf (fun z => q (by rw [z])) H locs ls hR hL hl)
theorem v_acmp_ne (F : am_Fx p s m args meth c y cc nL ret et X) {a b tgt : Nat} {off : Int} (d : decode cc pc = .ok (.if_acmp .ne off, 3)) (ht : (pc : Int) + off = (tgt : Int)) (hp : pc + 3 = pc') (kt : ¬ a = b → V p l e R s m args below meth c nL X Q h nx cells slots tgt L st) (kf : a = b → V p l e R s m args below meth c nL X Q h nx cells slots pc' L st) : V p l e R s m args below meth c nL X Q h nx cells slots pc L (.ref b :: .ref a :: st) := by
  subst hp
  intro H locs ls hR hL hl
  exact lv_acmp_ne F.1 F.2.1 (rx := some a) (ry := some b) d ht (fun q => kt (fun z => q (by rw [z])) H locs ls hR hL hl) (fun q => kf (Option.some.inj q) H locs ls hR hL hl)
/-- ArrayList's empty array -/
theorem v_getDE (F : am_Fx p s m args meth c y cc nL ret et X) {index : Nat} (d : decode cc pc = .ok (.getstatic index, 3)) (hp : pc + 3 = pc') (hlink : Cond.fieldLink y.cls index "java/util/ArrayList" am_DE "[Ljava/lang/Object;" ∈ lw_tbl) (k : V p l e R s m args below meth c nL X Q h nx cells slots pc' L (.ref X.2.2.2 :: st)) : V p l e R s m args below meth c nL X Q h nx cells slots pc L st := by
  subst hp
  intro H locs ls hR hL hl
  obtain ⟨cf, kf, fi, f, a, cell, z1, z2, z3, z4, z5, z6, z7, z8⟩ := F.2.2.2.2.2.1.2.2.2.1
  exact W.gets F.1 F.2.1 F.2.2.2.1 (am_bef F hlink (Or.inl rfl)) z1 z2 z3 z4 (by rw [hR.2.2.1 a (Nat.not_le.mp z8)]; exact z5) (fun e => by rw [e] at z6; cases z6) z7 rfl d (k H locs ls hR hL hl)
theorem v_alenE (F : am_Fx p s m args meth c y cc nL ret et X) (d : decode cc pc = .ok (.arraylength, 1)) (hp : pc + 1 = pc') (k : V p l e R s m args below meth c nL X Q h nx cells slots pc' L (iV 0 :: st)) : V p l e R s m args below meth c nL X Q h nx cells slots pc L (.ref X.2.2.2 :: st) := by
  subst hp
  intro H locs ls hR hL hl
  obtain ⟨cell, t1, t2, t3, t4, t5, t6, t7⟩ := F.2.2.2.2.2.1.2.2.2.2.1
  exact W.alen (n := Int32.ofInt 0) F.1 F.2.1 (by rw [hR.2.2.1 _ (Nat.not_le.mp t7)]; exact t1) t2 t5 rfl rfl d (k H locs ls hR hL hl)
theorem v_anew (F : am_Fx p s m args meth c y cc nL ret et X) {ai index : Nat} {E : String} {z : Int} (d : decode cc pc = .ok (.anewarray index, 3)) (hp : pc + 3 = pc') (hai : (ai, .object E) ∈ am_ty) (hlink : Cond.classLink y.cls index E ∈ lw_tbl) (hov : Cond.arrayOver (.object E) ∈ lw_tbl) (h0 : 0 ≤ z) (h1 : z < 10000) (hcells : cells + 1 ≤ R.cells) (hslots : slots + z.toNat ≤ R.slots)
    (k : V p l e R s m args below meth c nL X Q (am_up h nx (.inl (ai, z.toNat, fun _ => .null))) (nx + 1) (cells + 1) (slots + z.toNat) pc' L (.ref nx :: st)) : V p l e R s m args below meth c nL X Q h nx cells slots pc L (iV z :: st) := by
  subst hp
  intro H locs ls hR hL hl
  have hz : (Int32.ofInt z).toNatClampNeg = z.toNat := by
    show (Int32.ofInt z).toInt.toNat = z.toNat
    rw [i32_toInt (by omega)]
  have hK := F.2.2.2.2.2.1
  refine W.anew F.1 F.2.1 F.2.2.2.1 (am_bef F hlink (Or.inl rfl)) (va_AO.use (hK.2.1 _ hov rfl)) rfl d rfl (fun q => ?_) (by rw [hz]; omega) hcells (by rw [hz]; exact hslots) fun cA kA comp g1 g2 g3 g4 => ?_
  · rw [show (0 : Int32) = Int32.ofInt 0 from rfl, i32_lt (by omega) (by omega)] at q; omega
  · obtain ⟨i9, hi9⟩ := List.getElem?_of_mem (List.mem_map.mpr ⟨_, hai, rfl⟩ : (X.2.1 ai, .object E) ∈ am_ty.map (fun q => (X.2.1 q.1, q.2)))
    obtain ⟨kA', comp', r1, r2, r3, r4⟩ := (hK.1.2 i9 _ hi9).2
    have hcA : cA = X.2.1 ai := Option.some.inj (g1.symm.trans r4)
    subst hcA
    have hn : H.size = nx := hR.1
    rw [hz]
    show W p l e R s m args below meth c _ locs (cells + 1) (slots + z.toNat) Q (F0 m (pc + 3) ls (.ref H.size :: st))
    rw [hn]
    refine k _ locs ls (am_R_new hR (by rw [Array.size_push, hn]) (fun q hq => by rw [Array.getElem?_push, if_neg (by omega)]) ?_) hL hl
    show (H.push _)[nx]? = some (arrV _ _ _)
    rw [← hn, Array.getElem?_push_size, ← arrV_new]
theorem v_aast (F : am_Fx p s m args meth c y cc nL ret et X) {ai N a v ci N9 : Nat} {C E : String} {T9 : u_T} {fs : List Value} {f : Nat → Value} {z : Int} (d : decode cc pc = .ok (.aastore, 1)) (hp : pc + 1 = pc') (hai : (ai, .object E) ∈ am_ty) (ha : h a = some (.inl (ai, N, f))) (hN : N < 2147483648) (h0 : 0 ≤ z) (h1 : z < N) (hc : am_cl[ci]? = some (C, T9, N9)) (hv : h v = some (.inr (ci, fs))) (hcast : Cond.castable C E ∈ lw_tbl ∨ C = E)
    (k : V p l e R s m args below meth c nL X Q (am_up h a (.inl (ai, N, updV f z.toNat (.ref v)))) nx cells slots pc' L st) : V p l e R s m args below meth c nL X Q h nx cells slots pc L (.ref v :: iV z :: .ref a :: st) := by
  subst hp
  intro H locs ls hR hL hl
  have hK := F.2.2.2.2.2.1
  obtain ⟨i9, hi9⟩ := List.getElem?_of_mem (List.mem_map.mpr ⟨_, hai, rfl⟩ : (X.2.1 ai, .object E) ∈ am_ty.map (fun q => (X.2.1 q.1, q.2)))
  obtain ⟨x1, x2⟩ := am_ix h0 h1 hN
  obtain ⟨hge, hat⟩ := am_arr hR ha
  obtain ⟨-, r, q1, cellV, g1, g2, g3, -⟩ := hR.2.2.2 _ _ hv
  cases q1.symm.trans hc
  have hcls := (hK.1.1 ci _ hc).2
  obtain ⟨kA, comp, k1, k2, k3, -⟩ := (hK.1.2 i9 _ hi9).2
  obtain ⟨kC, hkC, hkk⟩ := hcls.2
  obtain ⟨kE, hkE, -⟩ := Vm.findClass_spec k3
  have hasg : s.vm.assignable (X.1.1 ci) comp = true := by
    rcases hcast with hq | hq
    · obtain ⟨c0, t0, e1, e2, e3⟩ := Cond.castable_spec (va_Nw.use (A := args) rfl (hK.2.1 _ hq rfl))
      cases e1.symm.trans hcls.1
      cases e2.symm.trans k3
      exact e3
    · subst hq
      cases hcls.1.symm.trans k3
      exact va_assign hcls
  refine W.aast F.1 F.2.1 hat (fun q h => by cases h) (fun h => by cases h) k1 k2 rfl hkE ⟨fun q => x2 (Or.inl q), by rw [arrV_size]; exact Nat.not_le.mp (fun q => x2 (Or.inr q))⟩ g1 (fun q h => by rw [g3] at h; cases h) (by rw [g2]; exact hkC) (by rw [g2]; exact hasg) rfl rfl d fun H1 e1 z1 oq => ?_
  rw [x1, arrV_store] at e1
  exact k H1 _ ls (am_R_put hR ha z1 oq e1) (am_locs hL hge) hl
theorem v_ishr1 (F : am_Fx p s m args meth c y cc nL ret et X) {a : Int} (d : decode cc pc = .ok (.ishr, 1)) (hp : pc + 1 = pc') (ra : 0 ≤ a ∧ a < 2147483648) (k : V p l e R s m args below meth c nL X Q h nx cells slots pc' L (iV (a / 2) :: st)) : V p l e R s m args below meth c nL X Q h nx cells slots pc L (iV 1 :: iV a :: st) := by
  subst hp
  intro H locs ls hR hL hl
  refine lv_ishr F.1 F.2.1 d ?_
  obtain ⟨n, rfl⟩ : ∃ n : Nat, a = (n : Int) := ⟨a.toNat, by omega⟩
  have e1 := pk_shrN (n := n) (by omega) (Int32.ofInt 1 &&& 31) 1 (by decide)
  have e2 : Int32.ofInt ((n : Int) / 2) = nI (n / 2 ^ 1) := by
    rw [show (n : Int) / 2 = ((n / 2 ^ 1 : Nat) : Int) by omega]
    exact Int32.ofInt_eq_ofNat
  have e3 : Int32.ofInt (n : Int) = nI n := Int32.ofInt_eq_ofNat
  rw [e3, e1, ← e2]
  exact k H locs ls hR hL hl
theorem v_ldcM (F : am_Fx p s m args meth c y cc nL ret et X) {index : Nat} (d : decode cc pc = .ok (.ldc index, 2)) (hp : pc + 2 = pc') (hlink : Cond.classLink y.cls index "[Ljava/lang/Object;" ∈ lw_tbl) (k : V p l e R s m args below meth c nL X Q h nx cells slots pc' L (.ref (X.2.1 9) :: st)) : V p l e R s m args below meth c nL X Q h nx cells slots pc L st := by
  subst hp
  intro H locs ls hR hL hl
  exact va_ldcM F.1 F.2.1 F.2.2.2.1 (am_bef F hlink (Or.inl rfl)) F.2.2.2.2.2.1.2.2.2.2.2.2.2.1 d (k H locs ls hR hL hl)
theorem v_getC (F : am_Fx p s m args meth c y cc nL ret et X) {index a N : Nat} {f : Nat → Value} (d : decode cc pc = .ok (.invokevirtual index, 3)) (hp : pc + 3 = pc') (hlink : Cond.methodLink y.cls index ⟨"java/lang/Object", "getClass", "()Ljava/lang/Class;"⟩ ∈ lw_tbl) (hdecl : Cond.declares ⟨"java/lang/Object", "getClass", "()Ljava/lang/Class;"⟩ ∈ lw_tbl) (hsel : Cond.selects "[Ljava/lang/Object;" ⟨"java/lang/Object", "getClass", "()Ljava/lang/Class;"⟩ ⟨"java/lang/Object", "getClass", "()Ljava/lang/Class;"⟩ ∈ lw_tbl) (hinst : Cond.instanceMethod ⟨"java/lang/Object", "getClass", "()Ljava/lang/Class;"⟩ ∈ lw_tbl) (hnat : Cond.native ⟨"java/lang/Object", "getClass", "()Ljava/lang/Class;"⟩ ∈ lw_tbl)
    (ha : h a = some (.inl (2, N, f))) (hfr : 1 ≤ R.frames) (hlo : (st.map fun v => v.category).sum + 14 ≤ R.locals) (k : V p l e R s m args below meth c nL X Q h nx cells slots pc' L (.ref (X.2.1 9) :: st)) : V p l e R s m args below meth c nL X Q h nx cells slots pc L (.ref a :: st) := by
  subst hp
  intro H locs ls hR hL hl
  have hK := F.2.2.2.2.2.1
  obtain ⟨i9, hi9⟩ := List.getElem?_of_mem (List.mem_map.mpr ⟨((2 : Nat), FieldType.object "java/lang/Object"), by decide, rfl⟩ : (X.2.1 2, FieldType.object "java/lang/Object") ∈ am_ty.map (fun q => (X.2.1 q.1, q.2)))
  exact va_getC F.1 F.2.1 (F.2.2.1.trans hl.1.symm) F.2.2.2.1 (am_bef F hlink (Or.inl rfl)) (am_bef F hdecl (Or.inr ⟨rfl, rfl⟩)) (am_bef F hsel (Or.inl rfl)) (am_bef F hinst (Or.inl rfl)) (am_bef F hnat (Or.inl rfl)) hK.2.2.2.2.2.2.2.1 ⟨_, (am_arr hR ha).2, rfl, va_nmO (hK.1.2 i9 _ hi9).2 (by decide +kernel)⟩ hfr hlo d (k H locs ls hR hL hl)
set_option maxHeartbeats 4000000 in
theorem v_copyA (F : am_Fx p s m args meth c y cc nL ret et X) {index a0 a n0 n1 : Nat} {f g : Nat → Value} {sp dp n : Int} (d : decode cc pc = .ok (.invokestatic index, 3)) (hp : pc + 3 = pc') (hlink : Cond.methodLink y.cls index arraycopyName ∈ lw_tbl) (hnat : Cond.native arraycopyName ∈ lw_tbl) (hstat : Cond.static arraycopyName ∈ lw_tbl) (hini : Cond.initialized "java/lang/System" ∈ lw_tbl)
    (ha0 : h a0 = some (.inl (2, n0, f))) (ha1 : h a = some (.inl (2, n1, g))) (hN : n0 < 2147483648 ∧ n1 < 2147483648) (h1 : 0 ≤ sp) (h2 : 0 ≤ dp) (h3 : 0 ≤ n) (h4 : sp + n ≤ n0) (h5 : dp + n ≤ n1) (hel : ∀ i : Nat, (i : Int) < n → am_ok h "java/lang/Object" (f (sp.toNat + i))) (hfr : 1 ≤ R.frames) (hlo : (st.map fun v => v.category).sum + (nativeFrameWords "java/lang/System" "arraycopy" 5 + 11) ≤ R.locals)
    (k : V p l e R s m args below meth c nL X Q (am_up h a (.inl (2, n1, va_cpy f g sp.toNat dp.toNat n.toNat))) nx cells slots pc' L st) : V p l e R s m args below meth c nL X Q h nx cells slots pc L (iV n :: iV dp :: .ref a :: iV sp :: .ref a0 :: st) := by
  subst hp
  intro H locs ls hR hL hl T hT XS
  subst hT
  have hK := F.2.2.2.2.2.1
  have hcl : ∀ z : Int, 0 ≤ z → z < 2147483648 → (Int32.ofInt z).toNatClampNeg = z.toNat ∧ ¬ Int32.ofInt z < 0 ∧ (Int32.ofInt z).toInt = z := fun z q1 q2 => by
    refine ⟨by show (Int32.ofInt z).toInt.toNat = z.toNat; rw [i32_toInt (by omega)], fun q => ?_, i32_toInt (by omega)⟩
    rw [show (0 : Int32) = Int32.ofInt 0 from rfl, i32_lt (by omega) (by omega)] at q
    omega
  obtain ⟨s1, s2, s3⟩ := hcl sp h1 (by omega)
  obtain ⟨d1, d2, d3⟩ := hcl dp h2 (by omega)
  obtain ⟨m1, m2, m3⟩ := hcl n h3 (by omega)
  obtain ⟨i9, hi9⟩ := List.getElem?_of_mem (List.mem_map.mpr ⟨((2 : Nat), FieldType.object "java/lang/Object"), by decide, rfl⟩ : (X.2.1 2, FieldType.object "java/lang/Object") ∈ am_ty.map (fun q => (X.2.1 q.1, q.2)))
  obtain ⟨kA, comp, k1, k2, k3, -⟩ := (hK.1.2 i9 _ hi9).2
  obtain ⟨hge, hat1⟩ := am_arr hR ha1
  obtain ⟨-, hat0⟩ := am_arr hR ha0
  obtain ⟨vm', X', step⟩ := XS.arraycopy F.1 F.2.2.2.1 (am_bef F hlink (Or.inl rfl)) (am_bef F hnat (Or.inl rfl)) (am_bef F hstat (Or.inl rfl)) (am_bef F hini (Or.inl rfl)) (src := a0) (dst := a) (cs := arrV (X.2.1 2) n0 f) (cd := arrV (X.2.1 2) n1 g) (srcPos := Int32.ofInt sp) (destPos := Int32.ofInt dp) (n := Int32.ofInt n) hat0 hat1
    (fun _ h => by cases h) (fun _ h => by cases h) (fun h => by cases h) (fun h => by cases h) k1 k1 k2 k2 rfl s2 d2 m2 (by rw [s3, m3, arrV_size]; omega) (by rw [d3, m3, arrV_size]; omega)
    (fun vm₁ hal i hi => by
      rw [m1] at hi
      rw [s1, Array.getD_eq_getD_getElem?, arrV_read _ _ (by omega)]
      rcases hel i (by omega) with hq | ⟨y1, ci, fs, C, T9, N9, q1, q2, q3, q4⟩
      · show fits _ (f (sp.toNat + i)) = true ∧ State.takes _ _ (f (sp.toNat + i))
        rw [hq]
        exact ⟨rfl, trivial⟩
      · show fits _ (f (sp.toNat + i)) = true ∧ State.takes _ _ (f (sp.toNat + i))
        rw [q1]
        obtain ⟨-, r, z1, cellV, g1, g2, g3, -⟩ := hR.2.2.2 _ _ q2
        cases z1.symm.trans q3
        have hcls := (hK.1.1 ci _ q3).2
        obtain ⟨kC, hkC, -⟩ := hcls.2
        obtain ⟨kE, hkE, -⟩ := Vm.findClass_spec k3
        obtain ⟨kC', hkC', -⟩ := hal.2.2 _ _ hkC
        obtain ⟨kE', hkE', -⟩ := hal.2.2 _ _ hkE
        refine ⟨rfl, cellV, g1, (fun q h => by rw [g3] at h; cases h), ⟨kC', by rw [g2]; exact hkC'⟩, ⟨kE', hkE'⟩, ?_⟩
        show vm₁.assignable _ _ = true
        rw [hal.assignable, g2]
        obtain ⟨c0, t0, e1, e2, e3⟩ := Cond.castable_spec (va_Nw.use (A := args) rfl (hK.2.1 _ q4 rfl))
        cases e1.symm.trans hcls.1
        cases e2.symm.trans k3
        exact e3)
    (g := F0 m pc ls (iV n :: iV dp :: .ref a :: iV sp :: .ref a0 :: st)) rfl (hl.1.trans F.2.2.1.symm) (rest := st) rfl (by rw [F.2.1]; exact d) hfr (by show 2 * 0 + _ + _ ≤ _; omega)
  have e1 : copied (arrV (X.2.1 2) n0 f) (arrV (X.2.1 2) n1 g) (Int32.ofInt sp) (Int32.ofInt dp) (Int32.ofInt n) = arrV (X.2.1 2) n1 (va_cpy f g sp.toNat dp.toNat n.toNat) := by
    unfold copied
    rw [s1, d1, m1]
    exact va_copied (fun z => z) (X.2.1 2) (X.2.1 2) f g (by omega)
  rw [e1] at X' step
  have hlt : a < (T.setVm vm').heap.size := (Array.getElem?_eq_some_iff.mp hat1).1
  obtain ⟨t, a1, b1⟩ := k ((T.setVm vm').setCell a (arrV (X.2.1 2) n1 (va_cpy f g sp.toNat dp.toNat n.toNat))).heap _ ls (am_R_put hR ha1 (by show (T.heap.setIfInBounds a _).size = _; exact Array.size_setIfInBounds) (fun q hq => heapAt_setCell_ne _ (fun z => hq z.symm)) (heapAt_setCell_self _ hlt))
    (fun q hq => by
      rcases List.mem_append.mp hq with w | w
      · exact hL q w
      · obtain ⟨z, -, hz⟩ := List.mem_map.mp w
        rw [← hz]
        exact hge) hl _ rfl X'
  exact ⟨t, step t a1, b1⟩
theorem v_mmax (F : am_Fx p s m args meth c y cc nL ret et X) {a b : Int} {index : Nat} (d : decode cc pc = .ok (.invokestatic index, 3)) (hp : pc + 3 = pc') (hlink : Cond.methodLink y.cls index Lib.Math.max.name ∈ lw_tbl) (hfr : 1 ≤ R.frames) (hlo : (st.map fun v => v.category).sum + 13 ≤ R.locals) (hc : cells ≤ R.cells) (hs : slots ≤ R.slots) (ra : -2147483648 ≤ a ∧ a < 2147483648) (rb : -2147483648 ≤ b ∧ b < 2147483648) (k : V p l e R s m args below meth c nL X Q h nx cells slots pc' L (iV (if a < b then b else a) :: st)) : V p l e R s m args below meth c nL X Q h nx cells slots pc L (iV b :: iV a :: st) := by
  subst hp
  intro H locs ls hR hL hl
  refine va_mmax F.1 F.2.1 (F.2.2.1.trans hl.1.symm) F.2.2.2.1 (am_bef F hlink (Or.inl rfl)) (am_bef F (show Cond.static Lib.Math.max.name ∈ lw_tbl from wx_244) (Or.inl rfl)) (am_bef F wx_14 (Or.inl rfl)) (am_bef F (show Cond.code Lib.Math.max.name Lib.Math.max.code 2 (some .int) ∈ lw_tbl from wx_245) (Or.inl rfl)) hfr hlo hc hs d ?_
  have e1 : (if Int32.ofInt a < Int32.ofInt b then Int32.ofInt b else Int32.ofInt a) = Int32.ofInt (if a < b then b else a) := by
    by_cases hq : a < b
    · rw [if_pos hq, if_pos ((i32_lt ra rb).mpr hq)]
    · rw [if_neg hq, if_neg (fun z => hq ((i32_lt ra rb).mp z))]
  rw [e1]
  exact k H locs ls hR hL hl
theorem v_mmin (F : am_Fx p s m args meth c y cc nL ret et X) {a b : Int} {index : Nat} (d : decode cc pc = .ok (.invokestatic index, 3)) (hp : pc + 3 = pc') (hlink : Cond.methodLink y.cls index Lib.Math.min.name ∈ lw_tbl) (hfr : 1 ≤ R.frames) (hlo : (st.map fun v => v.category).sum + 13 ≤ R.locals) (hc : cells ≤ R.cells) (hs : slots ≤ R.slots) (ra : -2147483648 ≤ a ∧ a < 2147483648) (rb : -2147483648 ≤ b ∧ b < 2147483648) (k : V p l e R s m args below meth c nL X Q h nx cells slots pc' L (iV (if b < a then b else a) :: st)) : V p l e R s m args below meth c nL X Q h nx cells slots pc L (iV b :: iV a :: st) := by
  subst hp
  intro H locs ls hR hL hl
  refine va_mmin F.1 F.2.1 (F.2.2.1.trans hl.1.symm) F.2.2.2.1 (am_bef F hlink (Or.inl rfl)) (am_bef F (show Cond.static Lib.Math.min.name ∈ lw_tbl from wx_272) (Or.inl rfl)) (am_bef F wx_14 (Or.inl rfl)) (am_bef F (show Cond.code Lib.Math.min.name Lib.Math.min.code 2 (some .int) ∈ lw_tbl from wx_273) (Or.inl rfl)) hfr hlo hc hs d ?_
  have e1 : (if Int32.ofInt b < Int32.ofInt a then Int32.ofInt b else Int32.ofInt a) = Int32.ofInt (if b < a then b else a) := by
    by_cases hq : b < a
    · rw [if_pos hq, if_pos ((i32_lt rb ra).mpr hq)]
    · rw [if_neg hq, if_neg (fun z => hq ((i32_lt rb ra).mp z))]
  rw [e1]
  exact k H locs ls hR hL hl
end AML
