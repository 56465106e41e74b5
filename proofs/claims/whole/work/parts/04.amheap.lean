/-! rows of V for fields, arrays and new (part amheap, written by wip/whole/mkheap.py) -/
theorem am_at_lt {X : am_X} {a : Nat} {e : am_E} {H : Heap} (h : am_at X a e H) : a < H.size := by
  cases e with
  | inl x => exact (Array.getElem?_eq_some_iff.mp h).1
  | inr o => obtain ⟨r, -, cell, hc, -⟩ := h; exact (Array.getElem?_eq_some_iff.mp hc).1
theorem am_at_kept {X : am_X} {a : Nat} {e : am_E} {H H1 : Heap} (h : am_at X a e H) (hq : H1[a]? = H[a]?) : am_at X a e H1 := by
  cases e with
  | inl x => exact hq.trans h
  | inr o => obtain ⟨r, h1, h2⟩ := h; exact ⟨r, h1, h2.kept hq⟩
theorem am_R_lt {X : am_X} {h : am_H} {nx : Nat} {H : Heap} (hR : am_R X h nx H) {a : Nat} {e : am_E} (ha : h a = some e) : a < nx := by
  have := am_at_lt (hR.2.2.2 a e ha).2
  rw [hR.1] at this
  exact this
/-- a cell that was there is written -/
theorem am_R_put {X : am_X} {h : am_H} {nx : Nat} {H H1 : Heap} {a : Nat} {e e1 : am_E} (hR : am_R X h nx H) (ha : h a = some e) (z : H1.size = H.size) (oq : ∀ q : Nat, q ≠ a → H1[q]? = H[q]?) (h1 : am_at X a e1 H1) : am_R X (am_up h a e1) nx H1 := by
  obtain ⟨r1, r2, r3, r4⟩ := hR
  have hge : am_sz X ≤ a := (r4 a e ha).1
  refine ⟨z.trans r1, r2, fun q hq => (oq q (by omega)).trans (r3 q hq), fun b e2 hb => ?_⟩
  by_cases hba : b = a
  · subst hba
    rw [am_up_s] at hb
    cases hb
    exact ⟨hge, h1⟩
  · rw [am_up_n hba] at hb
    exact ⟨(r4 b e2 hb).1, am_at_kept (r4 b e2 hb).2 (oq b hba)⟩
/-- a cell is new -/
theorem am_R_new {X : am_X} {h : am_H} {nx : Nat} {H H1 : Heap} {e1 : am_E} (hR : am_R X h nx H) (z : H1.size = nx + 1) (oq : ∀ q : Nat, q < nx → H1[q]? = H[q]?) (h1 : am_at X nx e1 H1) : am_R X (am_up h nx e1) (nx + 1) H1 := by
  have hlt := @am_R_lt X h nx H hR
  obtain ⟨r1, r2, r3, r4⟩ := hR
  refine ⟨z, by omega, fun q hq => (oq q (by omega)).trans (r3 q hq), fun b e2 hb => ?_⟩
  by_cases hba : b = nx
  · subst hba
    rw [am_up_s] at hb
    cases hb
    exact ⟨r2, h1⟩
  · rw [am_up_n hba] at hb
    exact ⟨(r4 b e2 hb).1, am_at_kept (r4 b e2 hb).2 (oq b (hlt hb))⟩
theorem am_arr {X : am_X} {h : am_H} {nx : Nat} {H : Heap} (hR : am_R X h nx H) {a ai N : Nat} {f : Nat → Value} (ha : h a = some (.inl (ai, N, f))) : am_sz X ≤ a ∧ H[a]? = some (arrV (X.2.1 ai) N f) := hR.2.2.2 _ _ ha
/-- what nobody knows may be forgotten -/
theorem am_R_sub {X : am_X} {h h' : am_H} {nx : Nat} {H : Heap} (hR : am_R X h nx H) (hs : ∀ a e, h' a = some e → h a = some e) : am_R X h' nx H := ⟨hR.1, hR.2.1, hR.2.2.1, fun a e he => hR.2.2.2 a e (hs a e he)⟩
theorem am_locs {X : am_X} {locs : List Loc} {a k : Nat} (hL : ∀ q ∈ locs, am_sz X ≤ q.base) (ha : am_sz X ≤ a) : ∀ q ∈ locs ++ [⟨a, k⟩], am_sz X ≤ q.base := fun q hq => by
  rcases List.mem_append.mp hq with h1 | h1
  · exact hL q h1
  · rw [List.mem_singleton.mp h1]; exact ha
theorem am_ix {z : Int} {N : Nat} (h0 : 0 ≤ z) (h1 : z < N) (hN : N < 2147483648) : (Int32.ofInt z).toNatClampNeg = z.toNat ∧ ¬ (Int32.ofInt z < 0 ∨ N ≤ (Int32.ofInt z).toNatClampNeg) := by
  have e1 : (Int32.ofInt z).toNatClampNeg = z.toNat := by
    show (Int32.ofInt z).toInt.toNat = z.toNat
    rw [i32_toInt (by omega)]
  refine ⟨e1, ?_⟩
  rintro (h2 | h2)
  · rw [show (0 : Int32) = Int32.ofInt 0 from rfl, i32_lt (by omega) (by omega)] at h2; omega
  · rw [e1] at h2; omega

section AMH
variable {p : Program} {l : Launch} {e : Env} {R : Room} {s : State} {m : MethodId} {args : Array Value} {below : List Frame} {meth : Method} {c : Code} {nL : Nat} {X : am_X} {Q : State → Prop}
variable {cc : ByteArray} {y : MethodName} {ret : Option FieldType} {et : List (Nat × Nat × Nat × Nat)} {h : am_H} {nx cells slots pc pc' : Nat} {L : List (Option Value)} {st : List Value}
theorem v_forget {h' : am_H} (hs : ∀ a e, h' a = some e → h a = some e) (k : V p l e R s m args below meth c nL X Q h' nx cells slots pc L st) : V p l e R s m args below meth c nL X Q h nx cells slots pc L st := fun H locs ls hR hL hl => k H locs ls (am_R_sub hR hs) hL hl
theorem v_getf (F : am_Fx p s m args meth c y cc nL ret et X) {C ref : String} {T : u_T} {N ci index a : Nat} {fs : List Value} {v : Value} (d : decode cc pc = .ok (.getfield index, 3)) (hp : pc + 3 = pc') (hin : ∀ w ∈ u_ws C T N, w ∈ lw_tbl) (hc : am_cl[ci]? = some (C, T, N)) (kf : Nat) (hk : kf < N) (hlink : Cond.fieldLink y.cls index ref (T kf).2.1 (T kf).2.2.1 ∈ lw_tbl) (hsame : ref = (T kf).1 ∨ Cond.sameField ref (T kf).1 (T kf).2.1 (T kf).2.2.1 ∈ lw_tbl) (ha : h a = some (.inr (ci, fs))) (hv : fs[kf]? = some v) (k : V p l e R s m args below meth c nL X Q h nx cells slots pc' L (v :: st)) : V p l e R s m args below meth c nL X Q h nx cells slots pc L (.ref a :: st) := by
  subst hp
  intro H locs ls hR hL hl
  obtain ⟨-, r, h1, cell, q1, q2, q3, q4⟩ := hR.2.2.2 _ _ ha
  have hr : r = (C, T, N) := Option.some.inj (h1.symm.trans hc)
  subst hr
  obtain ⟨f1, f2, f3, f4, hts, hK0, f7, f8, f9, f10⟩ := F
  have hK := hK0.1
  obtain ⟨hS, hfc, kC, hkC, hkind⟩ := hK.1 ci _ hc
  obtain ⟨cf, kf', fi, f, hi, hsl⟩ := hS kf hk
  have hsame' : s.fieldFound? ref (T kf).2.1 (T kf).2.2.1 = some (cf, kf', fi, f) := by
    rcases hsame with e1 | e1
    · rw [e1]; exact hi
    · exact u_same (hts _ (am_in e1 rfl)) _ hi
  refine W.getf f1 f2 f4 (hts _ (am_in hlink rfl)) hsame' (u_facts hfc hkC (u_lays hts (am_lays hin) hk) hi).1 q1 (by rw [q3]; exact fun h => by cases h) (v := v) ?_ rfl rfl d (k H locs ls hR hL hl)
  rw [hsl, q4 kf hk]
  simp [vp_V, hv]
theorem v_putf (F : am_Fx p s m args meth c y cc nL ret et X) {C ref : String} {T : u_T} {N ci index a : Nat} {fs : List Value} {v : Value} {ty : FieldType} (d : decode cc pc = .ok (.putfield index, 3)) (hp : pc + 3 = pc') (hin : ∀ w ∈ u_ws C T N, w ∈ lw_tbl) (ty0 : Nat → FieldType) (hty : ∀ k, k < N → parseFieldDescriptor (T k).2.2.1 = some (ty0 k)) (hnm : ∀ a, a < N → ∀ b, b < N → a ≠ b → (T a).2.1 ≠ (T b).2.1) (hc : am_cl[ci]? = some (C, T, N)) (kf : Nat) (hk : kf < N) (hlink : Cond.fieldLink y.cls index ref (T kf).2.1 (T kf).2.2.1 ∈ lw_tbl) (hsame : ref = (T kf).1 ∨ Cond.sameField ref (T kf).1 (T kf).2.1 (T kf).2.2.1 ∈ lw_tbl)
    (hfin : (T kf).2.2.2 = false ∨ ((T kf).2.2.2 = true ∧ y.name = "<init>" ∧ (T kf).1 = y.cls)) (hd : parseFieldDescriptor (T kf).2.2.1 = some ty) (hn : narrow ty v = v) (hfit : fits ty v = true) (ha : h a = some (.inr (ci, fs))) (hl5 : kf < fs.length) (k : V p l e R s m args below meth c nL X Q (am_up h a (.inr (ci, fs.set kf v))) nx cells slots pc' L st) : V p l e R s m args below meth c nL X Q h nx cells slots pc L (v :: .ref a :: st) := by
  subst hp
  intro H locs ls hR hL hl
  obtain ⟨hge, r, h1, cell, q1, q2, q3, q4⟩ := hR.2.2.2 _ _ ha
  have hr : r = (C, T, N) := Option.some.inj (h1.symm.trans hc)
  subst hr
  obtain ⟨f1, f2, f3, f4, hts, hK0, f7, f8, f9, f10⟩ := F
  have hK := hK0.1
  have hap := va_apart (own := y.cls) hts (am_lays hin) ty0 hty hnm hK hc
  obtain ⟨hS, hfc, kC, hkC, hkind⟩ := hK.1 ci _ hc
  obtain ⟨cf, kf', fi, f, hi, hsl⟩ := hS kf hk
  have hsame' : s.fieldFound? ref (T kf).2.1 (T kf).2.2.1 = some (cf, kf', fi, f) := by
    rcases hsame with e1 | e1
    · rw [e1]; exact hi
    · exact u_same (hts _ (am_in e1 rfl)) _ hi
  have hlay := hts _ (am_lays hin _ (u_in_lay hk))
  have hst := (u_facts hfc hkC (u_lays hts (am_lays hin) hk) hi).1
  have fin : ∀ H1 : Heap, H1[a]? = some (cell.setSlot f.slot v) → H1.size = H.size → (∀ q, q ≠ a → H1[q]? = H[q]?) → W p l e R s m args below meth c H1 (locs ++ [⟨a, f.slot⟩]) cells slots Q (F0 m (pc + 3) ls st) := fun H1 e1 e2 e3 => by
    rw [hsl] at e1 ⊢
    exact k H1 _ ls (am_R_put hR ha e2 e3 ⟨_, hc, t_OB.to (V := updV (vp_V fs) kf v) ⟨_, e1, q2, q3, t_set q4 hap hk v⟩ (fun j _ => vp_updV_set hl5 v j)⟩) (am_locs hL hge) hl
  unfold u_lay at hlay
  rcases hfin with hfin | ⟨hfin, hin2, hdecl⟩
  · rw [if_neg (by rw [hfin]; decide)] at hlay
    have h6 := u_store hfc hkC hkind hlay hi hd hn hfit
    exact W.putK f1 f2 (f := f) ⟨f4, hts _ (am_in hlink rfl), ⟨_, _, _, hsame'⟩, hst⟩ (by rw [q2]; exact h6) q1 q3 (by rw [hsl]; exact k2_hasslot (q4 kf hk)) rfl rfl d fin
  · rw [if_pos hfin] at hlay
    have hcf : m.cls = cf := by
      obtain ⟨_, _, c', _, _, _, -, -, hf', -, -, -, hown2, -⟩ := Cond.laysFinal_spec hlay
      have e1 : c' = cf := by have := hi.symm.trans hf'; simp at this; exact this.1.symm
      rw [hdecl] at hown2
      rw [← e1]; exact Option.some.inj (f4.symm.trans hown2)
    have h6 := u_fits hfc hkC hkind (Or.inr hlay) hi hd hn hfit
    exact W.putFinK f1 f2 f4 (hts _ (am_in hlink rfl)) hsame' hst hcf (f9.trans hin2) (by rw [q2]; exact h6) q1 q3 (by rw [hsl]; exact k2_hasslot (q4 kf hk)) rfl rfl d fin
theorem v_new (F : am_Fx p s m args meth c y cc nL ret et X) {C : String} {T : u_T} {N ci index n : Nat} {fs : List Value} (d : decode cc pc = .ok (.new index, 3)) (hp : pc + 3 = pc') (hin : ∀ w ∈ u_ws C T N, w ∈ lw_tbl) (ty : Nat → FieldType) (hty : ∀ k, k < N → parseFieldDescriptor (T k).2.2.1 = some (ty k)) (hc : am_cl[ci]? = some (C, T, N)) (hcl : Cond.classLink y.cls index C ∈ lw_tbl) (hinst : Cond.instantiable C n ∈ lw_tbl) (hini : Cond.initialized C ∈ lw_tbl) (hfs : ∀ j, j < N → defaultValue (ty j) = vp_V fs j) (hcells : cells + 1 ≤ R.cells) (hslots : slots + n ≤ R.slots)
    (k : V p l e R s m args below meth c nL X Q (am_up h nx (.inr (ci, fs))) (nx + 1) (cells + 1) (slots + n) pc' L (.ref nx :: st)) : V p l e R s m args below meth c nL X Q h nx cells slots pc L st := by
  subst hp
  intro H locs ls hR hL hl
  obtain ⟨f1, f2, f3, f4, hts, hK0, f7, f8, f9, f10⟩ := F
  have hK := hK0.1
  have hKn := hK.1 ci _ hc
  refine W.newcK f1 f2 f4 (hts _ (am_in hcl rfl)) (hts _ (am_in hinst rfl)) (hts _ (am_in hini rfl)) rfl d hcells hslots hKn.2.1 hR.1 fun H1 kC hkC e1 z1 o1 => ?_
  exact k H1 locs ls (am_R_new hR z1 o1 ⟨_, hc, (u_born ty hts (am_lays hin) hKn hkC e1 hty).to hfs⟩) hL hl

theorem v_newa (F : am_Fx p s m args meth c y cc nL ret et X) {atype : ArrayType} {ty : FieldType} {ai : Nat} {z : Int} (d : decode cc pc = .ok (.newarray atype, 2)) (hp : pc + 2 = pc') (hty : newarray.typeOf atype = ty) (harr : Cond.arrayClass ty ∈ lw_tbl) (hai : (ai, ty) ∈ am_ty) (hpr : ty.isReference = false) (h0 : 0 ≤ z) (h1 : z < 10000) (hcells : cells + 1 ≤ R.cells) (hslots : slots + z.toNat ≤ R.slots)
    (k : V p l e R s m args below meth c nL X Q (am_up h nx (.inl (ai, z.toNat, fun _ => defaultValue ty))) (nx + 1) (cells + 1) (slots + z.toNat) pc' L (.ref nx :: st)) : V p l e R s m args below meth c nL X Q h nx cells slots pc L (iV z :: st) := by
  subst hp
  subst hty
  intro H locs ls hR hL hl
  obtain ⟨f1, f2, f3, f4, hts, hK0, f7, f8, f9, f10⟩ := F
  have hK := hK0.1
  have hz : (Int32.ofInt z).toNatClampNeg = z.toNat := by
    show (Int32.ofInt z).toInt.toNat = z.toNat
    rw [i32_toInt (by omega)]
  have hb8 : componentBytes (newarray.typeOf atype) ≤ 8 := by cases atype <;> decide
  have hb : z.toNat * componentBytes (newarray.typeOf atype) ≤ 536870912 := Nat.le_trans (Nat.mul_le_mul (show z.toNat ≤ 10000 by omega) hb8) (by decide)
  refine va_newaK f1 f2 (hts _ (am_in harr rfl)) rfl d rfl (fun q => ?_) hz hb hcells hslots hR.1 fun H1 cA e1 z1 o1 hAr hNm => ?_
  · rw [show (0 : Int32) = Int32.ofInt 0 from rfl, i32_lt (by omega) (by omega)] at q; omega
  · obtain ⟨i9, hi9⟩ := List.getElem?_of_mem (List.mem_map.mpr ⟨_, hai, rfl⟩ : (X.2.1 ai, newarray.typeOf atype) ∈ am_ty.map (fun q => (X.2.1 q.1, q.2)))
    have hra := (hK.2 i9 _ hi9).2
    have hcA : cA = X.2.1 ai := by
      have h9 : s.vm.findClass ("[" ++ (newarray.typeOf atype).toString) = some (X.2.1 ai) := by cases atype <;> exact hra
      exact Option.some.inj (hNm.symm.trans h9)
    subst hcA
    exact k H1 locs ls (am_R_new hR z1 o1 e1) hL hl
theorem v_alen (F : am_Fx p s m args meth c y cc nL ret et X) {ai N a : Nat} {ty : FieldType} {f : Nat → Value} (d : decode cc pc = .ok (.arraylength, 1)) (hp : pc + 1 = pc') (hai : (ai, ty) ∈ am_ty) (ha : h a = some (.inl (ai, N, f))) (k : V p l e R s m args below meth c nL X Q h nx cells slots pc' L (iV N :: st)) : V p l e R s m args below meth c nL X Q h nx cells slots pc L (.ref a :: st) := by
  subst hp
  intro H locs ls hR hL hl
  obtain ⟨f1, f2, f3, f4, hts, hK0, f7, f8, f9, f10⟩ := F
  have hK := hK0.1
  obtain ⟨i9, hi9⟩ := List.getElem?_of_mem (List.mem_map.mpr ⟨_, hai, rfl⟩ : (X.2.1 ai, ty) ∈ am_ty.map (fun q => (X.2.1 q.1, q.2)))
  refine W.alen (n := Int32.ofInt N) f1 f2 (am_arr hR ha).2 ((hK.2 i9 _ hi9).1 N f) ?_ rfl rfl d (k H locs ls hR hL hl)
  rw [arrV_size]
  exact Int32.ofInt_eq_ofNat.symm
theorem v_iald (F : am_Fx p s m args meth c y cc nL ret et X) {ai N a : Nat} {f : Nat → Value} {z w : Int} (d : decode cc pc = .ok (.iaload, 1)) (hp : pc + 1 = pc') (hai : (ai, .int) ∈ am_ty) (ha : h a = some (.inl (ai, N, f))) (hN : N < 2147483648) (h0 : 0 ≤ z) (h1 : z < N) (hv : f z.toNat = iV w) (k : V p l e R s m args below meth c nL X Q h nx cells slots pc' L (iV w :: st)) : V p l e R s m args below meth c nL X Q h nx cells slots pc L (iV z :: .ref a :: st) := by
  subst hp
  intro H locs ls hR hL hl
  obtain ⟨f1, f2, f3, f4, hts, hK0, f7, f8, f9, f10⟩ := F
  have hK := hK0.1
  obtain ⟨i9, hi9⟩ := List.getElem?_of_mem (List.mem_map.mpr ⟨_, hai, rfl⟩ : (X.2.1 ai, .int) ∈ am_ty.map (fun q => (X.2.1 q.1, q.2)))
  obtain ⟨x1, x2⟩ := am_ix h0 h1 hN
  exact W.iald f1 f2 (am_arr hR ha).2 ((hK.2 i9 _ hi9).1 N f) (fun q => by cases q) (by rw [arrV_size]; exact x2) (by rw [x1, arrV_read _ _ (by omega), hv]) rfl rfl d (k H locs ls hR hL hl)
theorem v_iast (F : am_Fx p s m args meth c y cc nL ret et X) {ai N a : Nat} {f : Nat → Value} {z w : Int} (d : decode cc pc = .ok (.iastore, 1)) (hp : pc + 1 = pc') (hai : (ai, .int) ∈ am_ty) (ha : h a = some (.inl (ai, N, f))) (hN : N < 2147483648) (h0 : 0 ≤ z) (h1 : z < N) (k : V p l e R s m args below meth c nL X Q (am_up h a (.inl (ai, N, updV f z.toNat (iV w)))) nx cells slots pc' L st) : V p l e R s m args below meth c nL X Q h nx cells slots pc L (iV w :: iV z :: .ref a :: st) := by
  subst hp
  intro H locs ls hR hL hl
  obtain ⟨f1, f2, f3, f4, hts, hK0, f7, f8, f9, f10⟩ := F
  have hK := hK0.1
  obtain ⟨i9, hi9⟩ := List.getElem?_of_mem (List.mem_map.mpr ⟨_, hai, rfl⟩ : (X.2.1 ai, .int) ∈ am_ty.map (fun q => (X.2.1 q.1, q.2)))
  obtain ⟨x1, x2⟩ := am_ix h0 h1 hN
  obtain ⟨hge, hat⟩ := am_arr hR ha
  refine W.iast f1 f2 hat ((hK.2 i9 _ hi9).1 N f) (fun q => by cases q) (by rw [arrV_size]; exact x2) rfl rfl d fun H1 e1 e2 e3 => ?_
  rw [x1, arrV_store] at e1
  exact k H1 _ ls (am_R_put hR ha e2 e3 e1) (am_locs hL hge) hl
theorem v_lald (F : am_Fx p s m args meth c y cc nL ret et X) {ai N a : Nat} {f : Nat → Value} {z w : Int} (d : decode cc pc = .ok (.laload, 1)) (hp : pc + 1 = pc') (hai : (ai, .long) ∈ am_ty) (ha : h a = some (.inl (ai, N, f))) (hN : N < 2147483648) (h0 : 0 ≤ z) (h1 : z < N) (hv : f z.toNat = lV w) (k : V p l e R s m args below meth c nL X Q h nx cells slots pc' L (lV w :: st)) : V p l e R s m args below meth c nL X Q h nx cells slots pc L (iV z :: .ref a :: st) := by
  subst hp
  intro H locs ls hR hL hl
  obtain ⟨f1, f2, f3, f4, hts, hK0, f7, f8, f9, f10⟩ := F
  have hK := hK0.1
  obtain ⟨i9, hi9⟩ := List.getElem?_of_mem (List.mem_map.mpr ⟨_, hai, rfl⟩ : (X.2.1 ai, .long) ∈ am_ty.map (fun q => (X.2.1 q.1, q.2)))
  obtain ⟨x1, x2⟩ := am_ix h0 h1 hN
  exact W.lald f1 f2 (am_arr hR ha).2 ((hK.2 i9 _ hi9).1 N f) (fun q => by cases q) (by rw [arrV_size]; exact x2) (by rw [x1, arrV_read _ _ (by omega), hv]) rfl rfl d (k H locs ls hR hL hl)
theorem v_last (F : am_Fx p s m args meth c y cc nL ret et X) {ai N a : Nat} {f : Nat → Value} {z w : Int} (d : decode cc pc = .ok (.lastore, 1)) (hp : pc + 1 = pc') (hai : (ai, .long) ∈ am_ty) (ha : h a = some (.inl (ai, N, f))) (hN : N < 2147483648) (h0 : 0 ≤ z) (h1 : z < N) (k : V p l e R s m args below meth c nL X Q (am_up h a (.inl (ai, N, updV f z.toNat (lV w)))) nx cells slots pc' L st) : V p l e R s m args below meth c nL X Q h nx cells slots pc L (lV w :: iV z :: .ref a :: st) := by
  subst hp
  intro H locs ls hR hL hl
  obtain ⟨f1, f2, f3, f4, hts, hK0, f7, f8, f9, f10⟩ := F
  have hK := hK0.1
  obtain ⟨i9, hi9⟩ := List.getElem?_of_mem (List.mem_map.mpr ⟨_, hai, rfl⟩ : (X.2.1 ai, .long) ∈ am_ty.map (fun q => (X.2.1 q.1, q.2)))
  obtain ⟨x1, x2⟩ := am_ix h0 h1 hN
  obtain ⟨hge, hat⟩ := am_arr hR ha
  refine W.last f1 f2 hat ((hK.2 i9 _ hi9).1 N f) (fun q => by cases q) (by rw [arrV_size]; exact x2) rfl rfl d fun H1 e1 e2 e3 => ?_
  rw [x1, arrV_store] at e1
  exact k H1 _ ls (am_R_put hR ha e2 e3 e1) (am_locs hL hge) hl
theorem v_aald (F : am_Fx p s m args meth c y cc nL ret et X) {ai N a : Nat} {C : String} {f : Nat → Value} {z : Int} {v : Value} (d : decode cc pc = .ok (.aaload, 1)) (hp : pc + 1 = pc') (hai : (ai, .object C) ∈ am_ty) (ha : h a = some (.inl (ai, N, f))) (hN : N < 2147483648) (h0 : 0 ≤ z) (h1 : z < N) (hv : f z.toNat = v) (k : V p l e R s m args below meth c nL X Q h nx cells slots pc' L (v :: st)) : V p l e R s m args below meth c nL X Q h nx cells slots pc L (iV z :: .ref a :: st) := by
  subst hp
  intro H locs ls hR hL hl
  obtain ⟨f1, f2, f3, f4, hts, hK0, f7, f8, f9, f10⟩ := F
  have hK := hK0.1
  obtain ⟨i9, hi9⟩ := List.getElem?_of_mem (List.mem_map.mpr ⟨_, hai, rfl⟩ : (X.2.1 ai, .object C) ∈ am_ty.map (fun q => (X.2.1 q.1, q.2)))
  obtain ⟨x1, x2⟩ := am_ix h0 h1 hN
  exact W.aald (ty := .object C) f1 f2 (am_arr hR ha).2 ((hK.2 i9 _ hi9).1 N f) rfl (fun q => by cases q) (by rw [arrV_size]; exact x2) (by rw [x1, arrV_read _ _ (by omega), hv]) rfl rfl d (k H locs ls hR hL hl)
end AMH
