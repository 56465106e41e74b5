/-! THE ABSTRACT MACHINE (part am, written by wip/whole/mkam.py). Ints and longs of the machine stand as Ints (iV, lV); the heap since the law's start H0 is a map from addresses to cells (am_H), the next new address is nx; V is the kit's W for every heap, every list of written places and every array of locals that the map and the list L allow. -/
abbrev iV (z : Int) : Value := .int (Int32.ofInt z)
abbrev lV (z : Int) : Value := .long (Int64.ofInt z)
abbrev am_E : Type := (Nat × Nat × (Nat → Value)) ⊕ (Nat × List Value)
abbrev am_H : Type := Nat → Option am_E
def am_up (h : am_H) (a : Nat) (e : am_E) : am_H := fun b => if b = a then some e else h b
theorem am_up_s {h : am_H} {a : Nat} {e : am_E} : am_up h a e a = some e := if_pos rfl
theorem am_up_n {h : am_H} {a b : Nat} {e : am_E} (hne : b ≠ a) : am_up h a e b = h b := if_neg hne
/-- what is fixed: class numbers and slots, array classes, the heap at the start, the address of ArrayList's empty array -/
abbrev am_X : Type := va_G × (Nat → ClassId) × Heap × Nat
abbrev am_sz (X : am_X) : Nat := X.2.2.1.size
/-- the cell e stands at the address a -/
def am_at (X : am_X) (a : Nat) (e : am_E) (H : Heap) : Prop := match e with
  | .inl x => H[a]? = some (arrV (X.2.1 x.1) x.2.1 x.2.2)
  | .inr o => ∃ r : vw_C, am_cl[o.1]? = some r ∧ t_OB a (X.1.1 o.1) r.2.2 (X.1.2 o.1) H (vp_V o.2)
/-- the heap H holds the map h, its next address is nx, and below the law's start it is as it was -/
def am_R (X : am_X) (h : am_H) (nx : Nat) (H : Heap) : Prop := H.size = nx ∧ am_sz X ≤ nx ∧ (∀ q : Nat, q < am_sz X → H[q]? = X.2.2.1[q]?) ∧ ∀ (a : Nat) (e : am_E), h a = some e → am_sz X ≤ a ∧ am_at X a e H
/-- the good words of the tables -/
def am_tb : List Cond := lw_tbl.filter goodWord
theorem am_in {w : Cond} (h : w ∈ lw_tbl) (g : goodWord w = true) : w ∈ am_tb := List.mem_filter.mpr ⟨h, g⟩
theorem am_lays {C : String} {T : u_T} {N : Nat} (h : ∀ w ∈ u_ws C T N, w ∈ lw_tbl) : ∀ w ∈ u_ws C T N, w ∈ am_tb := fun w hw => am_in (h w hw) (by
  obtain ⟨k, -, rfl⟩ := List.mem_map.mp hw
  unfold u_lay
  split <;> rfl)
/-- words that stay for a reason of their own -/
def am_xt : Cond → Bool
  | .castable _ _ => true
  | .declares _ => true
  | .methodLinkNest _ _ _ _ => true
  | .arrayOver (.object _) => true
  | _ => false
theorem am_xt_warm {w : Cond} {s U : State} (hx : am_xt w = true) (hW : s.WarmedH U.vm) (h : va_Nw w s) : va_Nw w U := by
  cases w <;> first
    | exact va_Nw.warmC hW h
    | exact va_Nw.warmD hW h
    | exact va_Nw.warmM hW h
    | (rename_i ty; cases ty <;> first | exact va_AO.moved hW.alike h | cases hx)
    | cases hx
abbrev am_DE : String := "DEFAULTCAPACITY_EMPTY_ELEMENTDATA"
/-- a static field's place in the heap H -/
def am_LS (C n d : String) (U : State) (H : Heap) : Prop := ∃ (c : ClassId) (k : Class) (i : Nat) (f : Field) (a : Nat) (cell : Cell), U.vm.findClass C = some c ∧ U.fieldFound? C n d = some (c, k, i, f) ∧ f.isStatic = true ∧ k.statics = some a ∧ H[a]? = some cell ∧ cell.vm.isStatics = true ∧ cell.cls = c ∧ f.slot < cell.slots.size ∧ k.staticTypes[f.slot]? = some f.type
theorem am_LS.moved {C n d : String} {u U : State} {H : Heap} (hvm : u.vm.Alike U.vm) (h : am_LS C n d u H) : am_LS C n d U H := by
  obtain ⟨c, k, i, f, a, cell, h1, h2, h3, h4, h5, h6, h7, h8, h9⟩ := h
  obtain ⟨k', hi', he⟩ := State.fieldFound?_setVm hvm h2
  exact ⟨c, k', i, f, a, cell, by rw [hvm.findClass]; exact h1, hi', h3, by rw [he]; exact h4, h5, h6, h7, h8, by rw [he]; exact h9⟩
def am_K (X : am_X) (U : State) : Prop :=
  va_K X.1 am_cl (am_ty.map (fun q => (X.2.1 q.1, q.2))) U ∧ (∀ w ∈ lw_tbl, am_xt w = true → va_Nw w U) ∧ (∀ (o : String) (k : Nat) (tx : String), Cond.stringRef o k tx ∈ lw_tbl → ∃ a : Nat, vk_R o k tx a U) ∧
  va_Z "java/util/ArrayList" am_DE "[Ljava/lang/Object;" (.ref X.2.2.2) (fun q => am_sz X ≤ q) U X.2.2.1 ∧ va_T (.object "java/lang/Object") X.2.2.2 0 (fun _ => .null) (fun q => am_sz X ≤ q) U X.2.2.1 ∧
  va_Zq "java/lang/Throwable" "UNASSIGNED_STACK" "[Ljava/lang/StackTraceElement;" (fun q => am_sz X ≤ q) U X.2.2.1 ∧ va_Zq "java/lang/Throwable" "SUPPRESSED_SENTINEL" "Ljava/util/List;" (fun q => am_sz X ≤ q) U X.2.2.1 ∧
  va_Mi "[Ljava/lang/Object;" (X.2.1 9) U ∧ va_Nc "java/lang/IllegalStateException" "java/lang/IllegalArgumentException" U ∧
  am_LS "java/lang/Throwable" "UNASSIGNED_STACK" "[Ljava/lang/StackTraceElement;" U X.2.2.1 ∧ am_LS "java/lang/Throwable" "SUPPRESSED_SENTINEL" "Ljava/util/List;" U X.2.2.1 ∧ (∀ q : Nat, q < am_sz X → U.heap[q]? = X.2.2.1[q]?)
theorem am_K_warm {X : am_X} {s U : State} (hW : s.WarmedH U.vm) (h : am_K X s) (hH : ∀ q : Nat, q < am_sz X → U.heap[q]? = X.2.2.1[q]?) : am_K X U := by
  obtain ⟨h1, h2, h3, h4, h5, h6, h7, h8, h9, h10, h11, -⟩ := h
  exact ⟨h1.moved hW.alike, fun w hw hx => am_xt_warm hx hW (h2 w hw hx), fun o k tx hm => (by obtain ⟨a, ha⟩ := h3 o k tx hm; exact ⟨a, ha.warm hW⟩), h4.moved hW.alike, h5.moved hW.alike, h6.moved hW.alike, h7.moved hW.alike, h8.moved hW.alike, h9.moved hW.alike, h10.moved hW.alike, h11.moved hW.alike, hH⟩
def am_Fx (p : Program) (s : State) (m : MethodId) (args : Array Value) (meth : Method) (c : Code) (y : MethodName) (cc : ByteArray) (nL : Nat) (ret : Option FieldType) (et : List (Nat × Nat × Nat × Nat)) (X : am_X) : Prop :=
  p.tables.exec = Jvm.exec ∧ c.code = cc ∧ c.maxLocals = nL ∧ s.vm.findClass y.cls = some m.cls ∧ (∀ w ∈ am_tb, w.before args s = true) ∧ am_K X s ∧ meth.locks = false ∧ meth.sig.returnType = ret ∧ meth.name = y.name ∧ c.exceptionTable.toList.map (fun h => (h.startPc, h.endPc, h.handlerPc, h.catchType)) = et
def am_L (ls : Array Slot) (nL : Nat) (L : List (Option Value)) : Prop := ls.size = nL ∧ lv_wf ls ∧ ∀ (i : Nat) (v : Value), L[i]? = some (some v) → ls[i]? = some (.val v)
def V (p : Program) (l : Launch) (e : Env) (R : Room) (s : State) (m : MethodId) (args : Array Value) (below : List Frame) (meth : Method) (c : Code) (nL : Nat) (X : am_X) (Q : State → Prop) (h : am_H) (nx cells slots pc : Nat) (L : List (Option Value)) (st : List Value) : Prop :=
  ∀ (H : Heap) (locs : List Loc) (ls : Array Slot), am_R X h nx H → (∀ q ∈ locs, am_sz X ≤ q.base) → am_L ls nL L → W p l e R s m args below meth c H locs cells slots Q (F0 m pc ls st)
/-! the variables of a frame -/
def am_li (L : List (Option Value)) : List (Nat × Value) := (List.range L.length).filterMap (fun i => match L[i]? with | some (some v) => some (i, v) | _ => none)
theorem am_li_mem {L : List (Option Value)} {q : Nat × Value} : q ∈ am_li L ↔ L[q.1]? = some (some q.2) := by
  unfold am_li
  rw [List.mem_filterMap]
  constructor
  · rintro ⟨i, -, hi⟩
    split at hi
    next v hv => cases hi; exact hv
    next => cases hi
  · intro hq
    refine ⟨q.1, List.mem_range.mpr ?_, ?_⟩
    · exact (List.getElem?_eq_some_iff.mp hq).1
    · rw [hq]
theorem am_L_has {ls : Array Slot} {nL : Nat} {L : List (Option Value)} : am_L ls nL L ↔ lv_has ls nL (am_li L) := by
  constructor
  · rintro ⟨h1, h2, h3⟩
    exact ⟨h1, h2, fun q hq => h3 q.1 q.2 (am_li_mem.mp hq)⟩
  · rintro ⟨h1, h2, h3⟩
    exact ⟨h1, h2, fun i v hv => h3 (i, v) (am_li_mem.mpr hv)⟩
def am_nl (L : List (Option Value)) (k : Nat) : Bool := match k with
  | 0 => true
  | k + 1 => match L[k]? with
    | some (some v) => v.category != 2
    | _ => true
theorem am_nl_ne {L : List (Option Value)} {k j : Nat} {v : Value} (hk : am_nl L k = true) (hj : j + 1 = k) (hv : L[j]? = some (some v)) : (v.category == 2) = false := by
  subst hj
  simp only [am_nl, hv] at hk
  simpa using hk
theorem am_store1 {ls : Array Slot} {nL : Nat} {L : List (Option Value)} {k : Nat} {v : Value} (h : am_L ls nL L) (hk : k < nL) (hc : v.category = 1) (hn : am_nl L k = true) : ∃ ls', storeLocals ls k v = some ls' ∧ am_L ls' nL (L.set k (some v)) := by
  obtain ⟨ls', e1, h1, h2, h3⟩ := lv_store1 (v := v) (am_L_has.mp h) hk hc
  refine ⟨ls', e1, h1, h2, fun i w hw => ?_⟩
  by_cases hi : i = k
  · subst hi
    rw [List.getElem?_set] at hw
    simp only [if_true] at hw
    split at hw
    · cases hw; exact h3 (i, v) List.mem_cons_self
    · cases hw
  · rw [List.getElem?_set, if_neg (fun q => hi q.symm)] at hw
    refine h3 (i, w) (List.mem_cons_of_mem _ (List.mem_filter.mpr ⟨am_li_mem.mpr hw, ?_⟩))
    have a1 : (i == k) = false := by simpa using hi
    by_cases h5 : i + 1 = k
    · simp [a1, am_nl_ne hn h5 hw]
    · have a2 : (i + 1 == k) = false := by simpa using h5
      simp [a1, a2]
theorem am_store2 {ls : Array Slot} {nL : Nat} {L : List (Option Value)} {k : Nat} {v : Value} (h : am_L ls nL L) (hk : k + 1 < nL) (hc : v.category = 2) (hn : am_nl L k = true) : ∃ ls', storeLocals ls k v = some ls' ∧ am_L ls' nL ((L.set k (some v)).set (k + 1) none) := by
  obtain ⟨ls', e1, h1, h2, h3⟩ := lv_store2 (v := v) (am_L_has.mp h) hk hc
  refine ⟨ls', e1, h1, h2, fun i w hw => ?_⟩
  rw [List.getElem?_set] at hw
  by_cases hj : k + 1 = i
  · rw [if_pos hj] at hw
    split at hw <;> cases hw
  · rw [if_neg hj, List.getElem?_set] at hw
    by_cases hi : k = i
    · rw [if_pos hi] at hw
      subst hi
      split at hw
      · cases hw; exact h3 (k, v) List.mem_cons_self
      · cases hw
    · rw [if_neg hi] at hw
      refine h3 (i, w) (List.mem_cons_of_mem _ (List.mem_filter.mpr ⟨am_li_mem.mpr hw, ?_⟩))
      have a1 : (i == k) = false := by simpa using (fun q : i = k => hi q.symm)
      have a3 : (i == k + 1) = false := by simpa using (fun q : i = k + 1 => hj q.symm)
      by_cases h5 : i + 1 = k
      · simp [a1, a3, am_nl_ne hn h5 hw]
      · have a2 : (i + 1 == k) = false := by simpa using h5
        simp [a1, a2, a3]
theorem am_L_sub {ls : Array Slot} {nL : Nat} {L L' : List (Option Value)} (h : am_L ls nL L) (hs : ∀ (i : Nat) (v : Value), L'[i]? = some (some v) → L[i]? = some (some v)) : am_L ls nL L' := ⟨h.1, h.2.1, fun i v hv => h.2.2 i v (hs i v hv)⟩
/-! numbers -/
theorem i32_toInt {a : Int} (ha : -2147483648 ≤ a ∧ a < 2147483648) : (Int32.ofInt a).toInt = a := Int32.toInt_ofInt_of_le (by omega) (by omega)
theorem i32_lt {a b : Int} (ha : -2147483648 ≤ a ∧ a < 2147483648) (hb : -2147483648 ≤ b ∧ b < 2147483648) : Int32.ofInt a < Int32.ofInt b ↔ a < b := by rw [Int32.lt_iff_toInt_lt, i32_toInt ha, i32_toInt hb]
theorem i32_le {a b : Int} (ha : -2147483648 ≤ a ∧ a < 2147483648) (hb : -2147483648 ≤ b ∧ b < 2147483648) : Int32.ofInt a ≤ Int32.ofInt b ↔ a ≤ b := by rw [Int32.le_iff_toInt_le, i32_toInt ha, i32_toInt hb]
theorem i64_toInt {a : Int} (ha : -9223372036854775808 ≤ a ∧ a < 9223372036854775808) : (Int64.ofInt a).toInt = a := Int64.toInt_ofInt_of_le (by omega) (by omega)
theorem i32_eq {a b : Int} (ha : -2147483648 ≤ a ∧ a < 2147483648) (hb : -2147483648 ≤ b ∧ b < 2147483648) : Int32.ofInt a = Int32.ofInt b ↔ a = b := ⟨fun h => by rw [← i32_toInt ha, ← i32_toInt hb, h], fun h => by rw [h]⟩
theorem i64_eq {a b : Int} (ha : -9223372036854775808 ≤ a ∧ a < 9223372036854775808) (hb : -9223372036854775808 ≤ b ∧ b < 9223372036854775808) : Int64.ofInt a = Int64.ofInt b ↔ a = b := ⟨fun h => by rw [← i64_toInt ha, ← i64_toInt hb, h], fun h => by rw [h]⟩
theorem i64_lt {a b : Int} (ha : -9223372036854775808 ≤ a ∧ a < 9223372036854775808) (hb : -9223372036854775808 ≤ b ∧ b < 9223372036854775808) : Int64.ofInt a < Int64.ofInt b ↔ a < b := by rw [Int64.lt_iff_toInt_lt, i64_toInt ha, i64_toInt hb]
theorem i32_clamp {n : Nat} (hn : n < 2147483648) : (Int32.ofInt (n : Int)).toNatClampNeg = n := by
  show (Int32.ofInt (n : Int)).toInt.toNat = n
  rw [i32_toInt (by omega)]
  rfl
theorem i32_div {a b : Int} (ha : -2147483648 < a ∧ a < 2147483648) (hb : -2147483648 ≤ b ∧ b < 2147483648) : Int32.ofInt a / Int32.ofInt b = Int32.ofInt (a.tdiv b) := by
  apply Int32.toInt_inj.mp
  rw [Int32.toInt_div_of_ne_left _ _ (by intro h; have := congrArg Int32.toInt h; rw [i32_toInt (by omega)] at this; simp at this; omega), i32_toInt (by omega), i32_toInt hb, i32_toInt]
  have h1 := Int.natAbs_tdiv_le_natAbs a b
  omega
theorem i64_div {a b : Int} (ha : -9223372036854775808 < a ∧ a < 9223372036854775808) (hb : -9223372036854775808 ≤ b ∧ b < 9223372036854775808) : Int64.ofInt a / Int64.ofInt b = Int64.ofInt (a.tdiv b) := by
  apply Int64.toInt_inj.mp
  rw [Int64.toInt_div_of_ne_left _ _ (by intro h; have := congrArg Int64.toInt h; rw [i64_toInt (by omega)] at this; simp at this; omega), i64_toInt (by omega), i64_toInt hb, i64_toInt]
  have h1 := Int.natAbs_tdiv_le_natAbs a b
  omega
theorem i64_of32 {a : Int} (ha : -2147483648 ≤ a ∧ a < 2147483648) : (Int32.ofInt a).toInt64 = Int64.ofInt a := by
  apply Int64.toInt_inj.mp
  rw [Int32.toInt_toInt64, i32_toInt ha, i64_toInt (by omega)]
theorem i32_of64 {a : Int} : (Int64.ofInt a).toInt32 = Int32.ofInt a := by simp

section AM
variable {p : Program} {l : Launch} {e : Env} {R : Room} {s : State} {m : MethodId} {args : Array Value} {below : List Frame} {meth : Method} {c : Code} {nL : Nat} {X : am_X} {Q : State → Prop}
variable {cc : ByteArray} {y : MethodName} {ret : Option FieldType} {et : List (Nat × Nat × Nat × Nat)} {h : am_H} {nx cells slots pc pc' : Nat} {L : List (Option Value)} {st : List Value}
theorem v_sub {L' : List (Option Value)} (hs : ∀ (i : Nat) (v : Value), L'[i]? = some (some v) → L[i]? = some (some v)) (k : V p l e R s m args below meth c nL X Q h nx cells slots pc L' st) : V p l e R s m args below meth c nL X Q h nx cells slots pc L st := fun H locs ls hR hL hl => k H locs ls hR hL (am_L_sub hl hs)
theorem v_widen {cells' slots' : Nat} (hc : cells ≤ cells') (hs : slots ≤ slots') (k : V p l e R s m args below meth c nL X Q h nx cells' slots' pc L st) : V p l e R s m args below meth c nL X Q h nx cells slots pc L st := fun H locs ls hR hL hl => W.widen hc hs (k H locs ls hR hL hl)
theorem v_iconst (F : am_Fx p s m args meth c y cc nL ret et X) {n : Int} (d : decode cc pc = .ok (.iconst n, 1)) (hp : pc + 1 = pc')  (k : V p l e R s m args below meth c nL X Q h nx cells slots pc' L (iV n :: st)) : V p l e R s m args below meth c nL X Q h nx cells slots pc L st := by
  subst hp
  intro H locs ls hR hL hl
  exact lv_iconst F.1 F.2.1 d rfl (k H locs ls hR hL hl)
theorem v_bipush (F : am_Fx p s m args meth c y cc nL ret et X) {n : Int} (d : decode cc pc = .ok (.bipush n, 2)) (hp : pc + 2 = pc') (hv : (Int8.ofInt n).toInt32 = Int32.ofInt n) (k : V p l e R s m args below meth c nL X Q h nx cells slots pc' L (iV n :: st)) : V p l e R s m args below meth c nL X Q h nx cells slots pc L st := by
  subst hp
  intro H locs ls hR hL hl
  exact lv_bipush F.1 F.2.1 d hv (k H locs ls hR hL hl)
theorem v_sipush (F : am_Fx p s m args meth c y cc nL ret et X) {n : Int} (d : decode cc pc = .ok (.sipush n, 3)) (hp : pc + 3 = pc') (hv : (Int16.ofInt n).toInt32 = Int32.ofInt n) (k : V p l e R s m args below meth c nL X Q h nx cells slots pc' L (iV n :: st)) : V p l e R s m args below meth c nL X Q h nx cells slots pc L st := by
  subst hp
  intro H locs ls hR hL hl
  exact lv_sipush F.1 F.2.1 d hv (k H locs ls hR hL hl)
theorem v_lconst (F : am_Fx p s m args meth c y cc nL ret et X) {n : Fin 2} {z : Int} (d : decode cc pc = .ok (.lconst n, 1)) (hp : pc + 1 = pc') (hv : Int64.ofNat (n : Nat) = Int64.ofInt z) (k : V p l e R s m args below meth c nL X Q h nx cells slots pc' L (lV z :: st)) : V p l e R s m args below meth c nL X Q h nx cells slots pc L st := by
  subst hp
  intro H locs ls hR hL hl
  exact lv_lconst F.1 F.2.1 d hv (k H locs ls hR hL hl)
theorem v_null (F : am_Fx p s m args meth c y cc nL ret et X)  (d : decode cc pc = .ok (.aconst_null, 1)) (hp : pc + 1 = pc')  (k : V p l e R s m args below meth c nL X Q h nx cells slots pc' L (.null :: st)) : V p l e R s m args below meth c nL X Q h nx cells slots pc L st := by
  subst hp
  intro H locs ls hR hL hl
  exact lv_null F.1 F.2.1 d  (k H locs ls hR hL hl)
theorem v_iload_n (F : am_Fx p s m args meth c y cc nL ret et X) {i : Fin 4} {j : Nat} {z : Int} (d : decode cc pc = .ok (.iload_n i, 1)) (hp : pc + 1 = pc') (hi : (i : Nat) = j) (hv : L[j]? = some (some (iV z))) (k : V p l e R s m args below meth c nL X Q h nx cells slots pc' L (iV z :: st)) : V p l e R s m args below meth c nL X Q h nx cells slots pc L st := by
  subst hp
  intro H locs ls hR hL hl
  exact lv_iload_n F.1 F.2.1 d hi (hl.2.2 _ _ hv) (k H locs ls hR hL hl)
theorem v_iload (F : am_Fx p s m args meth c y cc nL ret et X) {j : Nat} {z : Int} (d : decode cc pc = .ok (.iload j, 2)) (hp : pc + 2 = pc') (hv : L[j]? = some (some (iV z))) (k : V p l e R s m args below meth c nL X Q h nx cells slots pc' L (iV z :: st)) : V p l e R s m args below meth c nL X Q h nx cells slots pc L st := by
  subst hp
  intro H locs ls hR hL hl
  exact lv_iload F.1 F.2.1 d (hl.2.2 _ _ hv) (k H locs ls hR hL hl)
theorem v_lload_n (F : am_Fx p s m args meth c y cc nL ret et X) {i : Fin 4} {j : Nat} {z : Int} (d : decode cc pc = .ok (.lload_n i, 1)) (hp : pc + 1 = pc') (hi : (i : Nat) = j) (hv : L[j]? = some (some (lV z))) (k : V p l e R s m args below meth c nL X Q h nx cells slots pc' L (lV z :: st)) : V p l e R s m args below meth c nL X Q h nx cells slots pc L st := by
  subst hp
  intro H locs ls hR hL hl
  exact lv_lload_n F.1 F.2.1 d hi (hl.2.2 _ _ hv) (k H locs ls hR hL hl)
theorem v_lload (F : am_Fx p s m args meth c y cc nL ret et X) {j : Nat} {z : Int} (d : decode cc pc = .ok (.lload j, 2)) (hp : pc + 2 = pc') (hv : L[j]? = some (some (lV z))) (k : V p l e R s m args below meth c nL X Q h nx cells slots pc' L (lV z :: st)) : V p l e R s m args below meth c nL X Q h nx cells slots pc L st := by
  subst hp
  intro H locs ls hR hL hl
  exact lv_lload F.1 F.2.1 d (hl.2.2 _ _ hv) (k H locs ls hR hL hl)
theorem v_aload_n (F : am_Fx p s m args meth c y cc nL ret et X) {i : Fin 4} {j : Nat} {z : Nat} (d : decode cc pc = .ok (.aload_n i, 1)) (hp : pc + 1 = pc') (hi : (i : Nat) = j) (hv : L[j]? = some (some (.ref z))) (k : V p l e R s m args below meth c nL X Q h nx cells slots pc' L (.ref z :: st)) : V p l e R s m args below meth c nL X Q h nx cells slots pc L st := by
  subst hp
  intro H locs ls hR hL hl
  exact lv_aload_n F.1 F.2.1 d hi (hl.2.2 _ _ hv) (k H locs ls hR hL hl)
theorem v_aload (F : am_Fx p s m args meth c y cc nL ret et X) {j : Nat} {z : Nat} (d : decode cc pc = .ok (.aload j, 2)) (hp : pc + 2 = pc') (hv : L[j]? = some (some (.ref z))) (k : V p l e R s m args below meth c nL X Q h nx cells slots pc' L (.ref z :: st)) : V p l e R s m args below meth c nL X Q h nx cells slots pc L st := by
  subst hp
  intro H locs ls hR hL hl
  exact lv_aload F.1 F.2.1 d (hl.2.2 _ _ hv) (k H locs ls hR hL hl)
theorem v_istore_nG (F : am_Fx p s m args meth c y cc nL ret et X) {i : Fin 4} {j : Nat} {z : Int} (d : decode cc pc = .ok (.istore_n i, 1)) (hp : pc + 1 = pc') (hi : (i : Nat) = j) (hn : am_nl L j = true) (hb : j < nL) (k : V p l e R s m args below meth c nL X Q h nx cells slots pc' (L.set j (some (iV z))) st) : V p l e R s m args below meth c nL X Q h nx cells slots pc L (iV z :: st) := by
  subst hp
  intro H locs ls hR hL hl
  subst hi
  obtain ⟨ls', e', h'⟩ := am_store1 (v := iV z) hl hb rfl hn
  intro T hT X
  obtain ⟨t, a, b⟩ := k H locs ls' hR hL h' T hT X
  refine ⟨t, ?_, b⟩
  jvm_step X.here [X.here.top, ↓top_set X.here.top, F.1, F.2.1, d, e']
  exact a
theorem v_istore_0 (F : am_Fx p s m args meth c y cc nL ret et X) {z : Int} {x0 : Option Value} {T : List (Option Value)} (d : decode cc pc = .ok (.istore_n 0, 1)) (hp : pc + 1 = pc') (hn : am_nl (x0 :: T) 0 = true) (hb : 0 < nL) (k : V p l e R s m args below meth c nL X Q h nx cells slots pc' (some (iV z) :: T) st) : V p l e R s m args below meth c nL X Q h nx cells slots pc (x0 :: T) (iV z :: st) := v_istore_nG F (j := 0) d hp rfl hn hb k
theorem v_istore_1 (F : am_Fx p s m args meth c y cc nL ret et X) {z : Int} {x0 x1 : Option Value} {T : List (Option Value)} (d : decode cc pc = .ok (.istore_n 1, 1)) (hp : pc + 1 = pc') (hn : am_nl (x0 :: x1 :: T) 1 = true) (hb : 1 < nL) (k : V p l e R s m args below meth c nL X Q h nx cells slots pc' (x0 :: some (iV z) :: T) st) : V p l e R s m args below meth c nL X Q h nx cells slots pc (x0 :: x1 :: T) (iV z :: st) := v_istore_nG F (j := 1) d hp rfl hn hb k
theorem v_istore_2 (F : am_Fx p s m args meth c y cc nL ret et X) {z : Int} {x0 x1 x2 : Option Value} {T : List (Option Value)} (d : decode cc pc = .ok (.istore_n 2, 1)) (hp : pc + 1 = pc') (hn : am_nl (x0 :: x1 :: x2 :: T) 2 = true) (hb : 2 < nL) (k : V p l e R s m args below meth c nL X Q h nx cells slots pc' (x0 :: x1 :: some (iV z) :: T) st) : V p l e R s m args below meth c nL X Q h nx cells slots pc (x0 :: x1 :: x2 :: T) (iV z :: st) := v_istore_nG F (j := 2) d hp rfl hn hb k
theorem v_istore_3 (F : am_Fx p s m args meth c y cc nL ret et X) {z : Int} {x0 x1 x2 x3 : Option Value} {T : List (Option Value)} (d : decode cc pc = .ok (.istore_n 3, 1)) (hp : pc + 1 = pc') (hn : am_nl (x0 :: x1 :: x2 :: x3 :: T) 3 = true) (hb : 3 < nL) (k : V p l e R s m args below meth c nL X Q h nx cells slots pc' (x0 :: x1 :: x2 :: some (iV z) :: T) st) : V p l e R s m args below meth c nL X Q h nx cells slots pc (x0 :: x1 :: x2 :: x3 :: T) (iV z :: st) := v_istore_nG F (j := 3) d hp rfl hn hb k
theorem v_istoreG (F : am_Fx p s m args meth c y cc nL ret et X) {j : Nat} {z : Int} (d : decode cc pc = .ok (.istore j, 2)) (hp : pc + 2 = pc') (hn : am_nl L j = true) (hb : j < nL) (k : V p l e R s m args below meth c nL X Q h nx cells slots pc' (L.set j (some (iV z))) st) : V p l e R s m args below meth c nL X Q h nx cells slots pc L (iV z :: st) := by
  subst hp
  intro H locs ls hR hL hl
  skip
  obtain ⟨ls', e', h'⟩ := am_store1 (v := iV z) hl hb rfl hn
  intro T hT X
  obtain ⟨t, a, b⟩ := k H locs ls' hR hL h' T hT X
  refine ⟨t, ?_, b⟩
  jvm_step X.here [X.here.top, ↓top_set X.here.top, F.1, F.2.1, d, e']
  exact a
theorem v_istore_4 (F : am_Fx p s m args meth c y cc nL ret et X) {z : Int} {x0 x1 x2 x3 x4 : Option Value} {T : List (Option Value)} (d : decode cc pc = .ok (.istore 4, 2)) (hp : pc + 2 = pc') (hn : am_nl (x0 :: x1 :: x2 :: x3 :: x4 :: T) 4 = true) (hb : 4 < nL) (k : V p l e R s m args below meth c nL X Q h nx cells slots pc' (x0 :: x1 :: x2 :: x3 :: some (iV z) :: T) st) : V p l e R s m args below meth c nL X Q h nx cells slots pc (x0 :: x1 :: x2 :: x3 :: x4 :: T) (iV z :: st) := v_istoreG F (j := 4) d hp hn hb k
theorem v_istore_5 (F : am_Fx p s m args meth c y cc nL ret et X) {z : Int} {x0 x1 x2 x3 x4 x5 : Option Value} {T : List (Option Value)} (d : decode cc pc = .ok (.istore 5, 2)) (hp : pc + 2 = pc') (hn : am_nl (x0 :: x1 :: x2 :: x3 :: x4 :: x5 :: T) 5 = true) (hb : 5 < nL) (k : V p l e R s m args below meth c nL X Q h nx cells slots pc' (x0 :: x1 :: x2 :: x3 :: x4 :: some (iV z) :: T) st) : V p l e R s m args below meth c nL X Q h nx cells slots pc (x0 :: x1 :: x2 :: x3 :: x4 :: x5 :: T) (iV z :: st) := v_istoreG F (j := 5) d hp hn hb k
theorem v_istore_6 (F : am_Fx p s m args meth c y cc nL ret et X) {z : Int} {x0 x1 x2 x3 x4 x5 x6 : Option Value} {T : List (Option Value)} (d : decode cc pc = .ok (.istore 6, 2)) (hp : pc + 2 = pc') (hn : am_nl (x0 :: x1 :: x2 :: x3 :: x4 :: x5 :: x6 :: T) 6 = true) (hb : 6 < nL) (k : V p l e R s m args below meth c nL X Q h nx cells slots pc' (x0 :: x1 :: x2 :: x3 :: x4 :: x5 :: some (iV z) :: T) st) : V p l e R s m args below meth c nL X Q h nx cells slots pc (x0 :: x1 :: x2 :: x3 :: x4 :: x5 :: x6 :: T) (iV z :: st) := v_istoreG F (j := 6) d hp hn hb k
theorem v_istore_7 (F : am_Fx p s m args meth c y cc nL ret et X) {z : Int} {x0 x1 x2 x3 x4 x5 x6 x7 : Option Value} {T : List (Option Value)} (d : decode cc pc = .ok (.istore 7, 2)) (hp : pc + 2 = pc') (hn : am_nl (x0 :: x1 :: x2 :: x3 :: x4 :: x5 :: x6 :: x7 :: T) 7 = true) (hb : 7 < nL) (k : V p l e R s m args below meth c nL X Q h nx cells slots pc' (x0 :: x1 :: x2 :: x3 :: x4 :: x5 :: x6 :: some (iV z) :: T) st) : V p l e R s m args below meth c nL X Q h nx cells slots pc (x0 :: x1 :: x2 :: x3 :: x4 :: x5 :: x6 :: x7 :: T) (iV z :: st) := v_istoreG F (j := 7) d hp hn hb k
theorem v_istore_8 (F : am_Fx p s m args meth c y cc nL ret et X) {z : Int} {x0 x1 x2 x3 x4 x5 x6 x7 x8 : Option Value} {T : List (Option Value)} (d : decode cc pc = .ok (.istore 8, 2)) (hp : pc + 2 = pc') (hn : am_nl (x0 :: x1 :: x2 :: x3 :: x4 :: x5 :: x6 :: x7 :: x8 :: T) 8 = true) (hb : 8 < nL) (k : V p l e R s m args below meth c nL X Q h nx cells slots pc' (x0 :: x1 :: x2 :: x3 :: x4 :: x5 :: x6 :: x7 :: some (iV z) :: T) st) : V p l e R s m args below meth c nL X Q h nx cells slots pc (x0 :: x1 :: x2 :: x3 :: x4 :: x5 :: x6 :: x7 :: x8 :: T) (iV z :: st) := v_istoreG F (j := 8) d hp hn hb k
theorem v_istore_9 (F : am_Fx p s m args meth c y cc nL ret et X) {z : Int} {x0 x1 x2 x3 x4 x5 x6 x7 x8 x9 : Option Value} {T : List (Option Value)} (d : decode cc pc = .ok (.istore 9, 2)) (hp : pc + 2 = pc') (hn : am_nl (x0 :: x1 :: x2 :: x3 :: x4 :: x5 :: x6 :: x7 :: x8 :: x9 :: T) 9 = true) (hb : 9 < nL) (k : V p l e R s m args below meth c nL X Q h nx cells slots pc' (x0 :: x1 :: x2 :: x3 :: x4 :: x5 :: x6 :: x7 :: x8 :: some (iV z) :: T) st) : V p l e R s m args below meth c nL X Q h nx cells slots pc (x0 :: x1 :: x2 :: x3 :: x4 :: x5 :: x6 :: x7 :: x8 :: x9 :: T) (iV z :: st) := v_istoreG F (j := 9) d hp hn hb k
theorem v_istore_10 (F : am_Fx p s m args meth c y cc nL ret et X) {z : Int} {x0 x1 x2 x3 x4 x5 x6 x7 x8 x9 x10 : Option Value} {T : List (Option Value)} (d : decode cc pc = .ok (.istore 10, 2)) (hp : pc + 2 = pc') (hn : am_nl (x0 :: x1 :: x2 :: x3 :: x4 :: x5 :: x6 :: x7 :: x8 :: x9 :: x10 :: T) 10 = true) (hb : 10 < nL) (k : V p l e R s m args below meth c nL X Q h nx cells slots pc' (x0 :: x1 :: x2 :: x3 :: x4 :: x5 :: x6 :: x7 :: x8 :: x9 :: some (iV z) :: T) st) : V p l e R s m args below meth c nL X Q h nx cells slots pc (x0 :: x1 :: x2 :: x3 :: x4 :: x5 :: x6 :: x7 :: x8 :: x9 :: x10 :: T) (iV z :: st) := v_istoreG F (j := 10) d hp hn hb k
theorem v_istore_11 (F : am_Fx p s m args meth c y cc nL ret et X) {z : Int} {x0 x1 x2 x3 x4 x5 x6 x7 x8 x9 x10 x11 : Option Value} {T : List (Option Value)} (d : decode cc pc = .ok (.istore 11, 2)) (hp : pc + 2 = pc') (hn : am_nl (x0 :: x1 :: x2 :: x3 :: x4 :: x5 :: x6 :: x7 :: x8 :: x9 :: x10 :: x11 :: T) 11 = true) (hb : 11 < nL) (k : V p l e R s m args below meth c nL X Q h nx cells slots pc' (x0 :: x1 :: x2 :: x3 :: x4 :: x5 :: x6 :: x7 :: x8 :: x9 :: x10 :: some (iV z) :: T) st) : V p l e R s m args below meth c nL X Q h nx cells slots pc (x0 :: x1 :: x2 :: x3 :: x4 :: x5 :: x6 :: x7 :: x8 :: x9 :: x10 :: x11 :: T) (iV z :: st) := v_istoreG F (j := 11) d hp hn hb k
theorem v_istore_12 (F : am_Fx p s m args meth c y cc nL ret et X) {z : Int} {x0 x1 x2 x3 x4 x5 x6 x7 x8 x9 x10 x11 x12 : Option Value} {T : List (Option Value)} (d : decode cc pc = .ok (.istore 12, 2)) (hp : pc + 2 = pc') (hn : am_nl (x0 :: x1 :: x2 :: x3 :: x4 :: x5 :: x6 :: x7 :: x8 :: x9 :: x10 :: x11 :: x12 :: T) 12 = true) (hb : 12 < nL) (k : V p l e R s m args below meth c nL X Q h nx cells slots pc' (x0 :: x1 :: x2 :: x3 :: x4 :: x5 :: x6 :: x7 :: x8 :: x9 :: x10 :: x11 :: some (iV z) :: T) st) : V p l e R s m args below meth c nL X Q h nx cells slots pc (x0 :: x1 :: x2 :: x3 :: x4 :: x5 :: x6 :: x7 :: x8 :: x9 :: x10 :: x11 :: x12 :: T) (iV z :: st) := v_istoreG F (j := 12) d hp hn hb k
theorem v_istore_13 (F : am_Fx p s m args meth c y cc nL ret et X) {z : Int} {x0 x1 x2 x3 x4 x5 x6 x7 x8 x9 x10 x11 x12 x13 : Option Value} {T : List (Option Value)} (d : decode cc pc = .ok (.istore 13, 2)) (hp : pc + 2 = pc') (hn : am_nl (x0 :: x1 :: x2 :: x3 :: x4 :: x5 :: x6 :: x7 :: x8 :: x9 :: x10 :: x11 :: x12 :: x13 :: T) 13 = true) (hb : 13 < nL) (k : V p l e R s m args below meth c nL X Q h nx cells slots pc' (x0 :: x1 :: x2 :: x3 :: x4 :: x5 :: x6 :: x7 :: x8 :: x9 :: x10 :: x11 :: x12 :: some (iV z) :: T) st) : V p l e R s m args below meth c nL X Q h nx cells slots pc (x0 :: x1 :: x2 :: x3 :: x4 :: x5 :: x6 :: x7 :: x8 :: x9 :: x10 :: x11 :: x12 :: x13 :: T) (iV z :: st) := v_istoreG F (j := 13) d hp hn hb k
theorem v_istore_14 (F : am_Fx p s m args meth c y cc nL ret et X) {z : Int} {x0 x1 x2 x3 x4 x5 x6 x7 x8 x9 x10 x11 x12 x13 x14 : Option Value} {T : List (Option Value)} (d : decode cc pc = .ok (.istore 14, 2)) (hp : pc + 2 = pc') (hn : am_nl (x0 :: x1 :: x2 :: x3 :: x4 :: x5 :: x6 :: x7 :: x8 :: x9 :: x10 :: x11 :: x12 :: x13 :: x14 :: T) 14 = true) (hb : 14 < nL) (k : V p l e R s m args below meth c nL X Q h nx cells slots pc' (x0 :: x1 :: x2 :: x3 :: x4 :: x5 :: x6 :: x7 :: x8 :: x9 :: x10 :: x11 :: x12 :: x13 :: some (iV z) :: T) st) : V p l e R s m args below meth c nL X Q h nx cells slots pc (x0 :: x1 :: x2 :: x3 :: x4 :: x5 :: x6 :: x7 :: x8 :: x9 :: x10 :: x11 :: x12 :: x13 :: x14 :: T) (iV z :: st) := v_istoreG F (j := 14) d hp hn hb k
theorem v_istore_15 (F : am_Fx p s m args meth c y cc nL ret et X) {z : Int} {x0 x1 x2 x3 x4 x5 x6 x7 x8 x9 x10 x11 x12 x13 x14 x15 : Option Value} {T : List (Option Value)} (d : decode cc pc = .ok (.istore 15, 2)) (hp : pc + 2 = pc') (hn : am_nl (x0 :: x1 :: x2 :: x3 :: x4 :: x5 :: x6 :: x7 :: x8 :: x9 :: x10 :: x11 :: x12 :: x13 :: x14 :: x15 :: T) 15 = true) (hb : 15 < nL) (k : V p l e R s m args below meth c nL X Q h nx cells slots pc' (x0 :: x1 :: x2 :: x3 :: x4 :: x5 :: x6 :: x7 :: x8 :: x9 :: x10 :: x11 :: x12 :: x13 :: x14 :: some (iV z) :: T) st) : V p l e R s m args below meth c nL X Q h nx cells slots pc (x0 :: x1 :: x2 :: x3 :: x4 :: x5 :: x6 :: x7 :: x8 :: x9 :: x10 :: x11 :: x12 :: x13 :: x14 :: x15 :: T) (iV z :: st) := v_istoreG F (j := 15) d hp hn hb k
theorem v_istore_16 (F : am_Fx p s m args meth c y cc nL ret et X) {z : Int} {x0 x1 x2 x3 x4 x5 x6 x7 x8 x9 x10 x11 x12 x13 x14 x15 x16 : Option Value} {T : List (Option Value)} (d : decode cc pc = .ok (.istore 16, 2)) (hp : pc + 2 = pc') (hn : am_nl (x0 :: x1 :: x2 :: x3 :: x4 :: x5 :: x6 :: x7 :: x8 :: x9 :: x10 :: x11 :: x12 :: x13 :: x14 :: x15 :: x16 :: T) 16 = true) (hb : 16 < nL) (k : V p l e R s m args below meth c nL X Q h nx cells slots pc' (x0 :: x1 :: x2 :: x3 :: x4 :: x5 :: x6 :: x7 :: x8 :: x9 :: x10 :: x11 :: x12 :: x13 :: x14 :: x15 :: some (iV z) :: T) st) : V p l e R s m args below meth c nL X Q h nx cells slots pc (x0 :: x1 :: x2 :: x3 :: x4 :: x5 :: x6 :: x7 :: x8 :: x9 :: x10 :: x11 :: x12 :: x13 :: x14 :: x15 :: x16 :: T) (iV z :: st) := v_istoreG F (j := 16) d hp hn hb k
theorem v_istore_17 (F : am_Fx p s m args meth c y cc nL ret et X) {z : Int} {x0 x1 x2 x3 x4 x5 x6 x7 x8 x9 x10 x11 x12 x13 x14 x15 x16 x17 : Option Value} {T : List (Option Value)} (d : decode cc pc = .ok (.istore 17, 2)) (hp : pc + 2 = pc') (hn : am_nl (x0 :: x1 :: x2 :: x3 :: x4 :: x5 :: x6 :: x7 :: x8 :: x9 :: x10 :: x11 :: x12 :: x13 :: x14 :: x15 :: x16 :: x17 :: T) 17 = true) (hb : 17 < nL) (k : V p l e R s m args below meth c nL X Q h nx cells slots pc' (x0 :: x1 :: x2 :: x3 :: x4 :: x5 :: x6 :: x7 :: x8 :: x9 :: x10 :: x11 :: x12 :: x13 :: x14 :: x15 :: x16 :: some (iV z) :: T) st) : V p l e R s m args below meth c nL X Q h nx cells slots pc (x0 :: x1 :: x2 :: x3 :: x4 :: x5 :: x6 :: x7 :: x8 :: x9 :: x10 :: x11 :: x12 :: x13 :: x14 :: x15 :: x16 :: x17 :: T) (iV z :: st) := v_istoreG F (j := 17) d hp hn hb k
theorem v_lstore_nG (F : am_Fx p s m args meth c y cc nL ret et X) {i : Fin 4} {j : Nat} {z : Int} (d : decode cc pc = .ok (.lstore_n i, 1)) (hp : pc + 1 = pc') (hi : (i : Nat) = j) (hn : am_nl L j = true) (hb : j + 1 < nL) (k : V p l e R s m args below meth c nL X Q h nx cells slots pc' ((L.set j (some (lV z))).set (j + 1) none) st) : V p l e R s m args below meth c nL X Q h nx cells slots pc L (lV z :: st) := by
  subst hp
  intro H locs ls hR hL hl
  subst hi
  obtain ⟨ls', e', h'⟩ := am_store2 (v := lV z) hl hb rfl hn
  intro T hT X
  obtain ⟨t, a, b⟩ := k H locs ls' hR hL h' T hT X
  refine ⟨t, ?_, b⟩
  jvm_step X.here [X.here.top, ↓top_set X.here.top, F.1, F.2.1, d, e']
  exact a
theorem v_lstore_0 (F : am_Fx p s m args meth c y cc nL ret et X) {z : Int} {x0 x1 : Option Value} {T : List (Option Value)} (d : decode cc pc = .ok (.lstore_n 0, 1)) (hp : pc + 1 = pc') (hn : am_nl (x0 :: x1 :: T) 0 = true) (hb : 0 + 1 < nL) (k : V p l e R s m args below meth c nL X Q h nx cells slots pc' (some (lV z) :: none :: T) st) : V p l e R s m args below meth c nL X Q h nx cells slots pc (x0 :: x1 :: T) (lV z :: st) := v_lstore_nG F (j := 0) d hp rfl hn hb k
theorem v_lstore_1 (F : am_Fx p s m args meth c y cc nL ret et X) {z : Int} {x0 x1 x2 : Option Value} {T : List (Option Value)} (d : decode cc pc = .ok (.lstore_n 1, 1)) (hp : pc + 1 = pc') (hn : am_nl (x0 :: x1 :: x2 :: T) 1 = true) (hb : 1 + 1 < nL) (k : V p l e R s m args below meth c nL X Q h nx cells slots pc' (x0 :: some (lV z) :: none :: T) st) : V p l e R s m args below meth c nL X Q h nx cells slots pc (x0 :: x1 :: x2 :: T) (lV z :: st) := v_lstore_nG F (j := 1) d hp rfl hn hb k
theorem v_lstore_2 (F : am_Fx p s m args meth c y cc nL ret et X) {z : Int} {x0 x1 x2 x3 : Option Value} {T : List (Option Value)} (d : decode cc pc = .ok (.lstore_n 2, 1)) (hp : pc + 1 = pc') (hn : am_nl (x0 :: x1 :: x2 :: x3 :: T) 2 = true) (hb : 2 + 1 < nL) (k : V p l e R s m args below meth c nL X Q h nx cells slots pc' (x0 :: x1 :: some (lV z) :: none :: T) st) : V p l e R s m args below meth c nL X Q h nx cells slots pc (x0 :: x1 :: x2 :: x3 :: T) (lV z :: st) := v_lstore_nG F (j := 2) d hp rfl hn hb k
theorem v_lstore_3 (F : am_Fx p s m args meth c y cc nL ret et X) {z : Int} {x0 x1 x2 x3 x4 : Option Value} {T : List (Option Value)} (d : decode cc pc = .ok (.lstore_n 3, 1)) (hp : pc + 1 = pc') (hn : am_nl (x0 :: x1 :: x2 :: x3 :: x4 :: T) 3 = true) (hb : 3 + 1 < nL) (k : V p l e R s m args below meth c nL X Q h nx cells slots pc' (x0 :: x1 :: x2 :: some (lV z) :: none :: T) st) : V p l e R s m args below meth c nL X Q h nx cells slots pc (x0 :: x1 :: x2 :: x3 :: x4 :: T) (lV z :: st) := v_lstore_nG F (j := 3) d hp rfl hn hb k
theorem v_lstoreG (F : am_Fx p s m args meth c y cc nL ret et X) {j : Nat} {z : Int} (d : decode cc pc = .ok (.lstore j, 2)) (hp : pc + 2 = pc') (hn : am_nl L j = true) (hb : j + 1 < nL) (k : V p l e R s m args below meth c nL X Q h nx cells slots pc' ((L.set j (some (lV z))).set (j + 1) none) st) : V p l e R s m args below meth c nL X Q h nx cells slots pc L (lV z :: st) := by
  subst hp
  intro H locs ls hR hL hl
  skip
  obtain ⟨ls', e', h'⟩ := am_store2 (v := lV z) hl hb rfl hn
  intro T hT X
  obtain ⟨t, a, b⟩ := k H locs ls' hR hL h' T hT X
  refine ⟨t, ?_, b⟩
  jvm_step X.here [X.here.top, ↓top_set X.here.top, F.1, F.2.1, d, e']
  exact a
theorem v_lstore_4 (F : am_Fx p s m args meth c y cc nL ret et X) {z : Int} {x0 x1 x2 x3 x4 x5 : Option Value} {T : List (Option Value)} (d : decode cc pc = .ok (.lstore 4, 2)) (hp : pc + 2 = pc') (hn : am_nl (x0 :: x1 :: x2 :: x3 :: x4 :: x5 :: T) 4 = true) (hb : 4 + 1 < nL) (k : V p l e R s m args below meth c nL X Q h nx cells slots pc' (x0 :: x1 :: x2 :: x3 :: some (lV z) :: none :: T) st) : V p l e R s m args below meth c nL X Q h nx cells slots pc (x0 :: x1 :: x2 :: x3 :: x4 :: x5 :: T) (lV z :: st) := v_lstoreG F (j := 4) d hp hn hb k
theorem v_lstore_5 (F : am_Fx p s m args meth c y cc nL ret et X) {z : Int} {x0 x1 x2 x3 x4 x5 x6 : Option Value} {T : List (Option Value)} (d : decode cc pc = .ok (.lstore 5, 2)) (hp : pc + 2 = pc') (hn : am_nl (x0 :: x1 :: x2 :: x3 :: x4 :: x5 :: x6 :: T) 5 = true) (hb : 5 + 1 < nL) (k : V p l e R s m args below meth c nL X Q h nx cells slots pc' (x0 :: x1 :: x2 :: x3 :: x4 :: some (lV z) :: none :: T) st) : V p l e R s m args below meth c nL X Q h nx cells slots pc (x0 :: x1 :: x2 :: x3 :: x4 :: x5 :: x6 :: T) (lV z :: st) := v_lstoreG F (j := 5) d hp hn hb k
theorem v_lstore_6 (F : am_Fx p s m args meth c y cc nL ret et X) {z : Int} {x0 x1 x2 x3 x4 x5 x6 x7 : Option Value} {T : List (Option Value)} (d : decode cc pc = .ok (.lstore 6, 2)) (hp : pc + 2 = pc') (hn : am_nl (x0 :: x1 :: x2 :: x3 :: x4 :: x5 :: x6 :: x7 :: T) 6 = true) (hb : 6 + 1 < nL) (k : V p l e R s m args below meth c nL X Q h nx cells slots pc' (x0 :: x1 :: x2 :: x3 :: x4 :: x5 :: some (lV z) :: none :: T) st) : V p l e R s m args below meth c nL X Q h nx cells slots pc (x0 :: x1 :: x2 :: x3 :: x4 :: x5 :: x6 :: x7 :: T) (lV z :: st) := v_lstoreG F (j := 6) d hp hn hb k
theorem v_lstore_7 (F : am_Fx p s m args meth c y cc nL ret et X) {z : Int} {x0 x1 x2 x3 x4 x5 x6 x7 x8 : Option Value} {T : List (Option Value)} (d : decode cc pc = .ok (.lstore 7, 2)) (hp : pc + 2 = pc') (hn : am_nl (x0 :: x1 :: x2 :: x3 :: x4 :: x5 :: x6 :: x7 :: x8 :: T) 7 = true) (hb : 7 + 1 < nL) (k : V p l e R s m args below meth c nL X Q h nx cells slots pc' (x0 :: x1 :: x2 :: x3 :: x4 :: x5 :: x6 :: some (lV z) :: none :: T) st) : V p l e R s m args below meth c nL X Q h nx cells slots pc (x0 :: x1 :: x2 :: x3 :: x4 :: x5 :: x6 :: x7 :: x8 :: T) (lV z :: st) := v_lstoreG F (j := 7) d hp hn hb k
theorem v_lstore_8 (F : am_Fx p s m args meth c y cc nL ret et X) {z : Int} {x0 x1 x2 x3 x4 x5 x6 x7 x8 x9 : Option Value} {T : List (Option Value)} (d : decode cc pc = .ok (.lstore 8, 2)) (hp : pc + 2 = pc') (hn : am_nl (x0 :: x1 :: x2 :: x3 :: x4 :: x5 :: x6 :: x7 :: x8 :: x9 :: T) 8 = true) (hb : 8 + 1 < nL) (k : V p l e R s m args below meth c nL X Q h nx cells slots pc' (x0 :: x1 :: x2 :: x3 :: x4 :: x5 :: x6 :: x7 :: some (lV z) :: none :: T) st) : V p l e R s m args below meth c nL X Q h nx cells slots pc (x0 :: x1 :: x2 :: x3 :: x4 :: x5 :: x6 :: x7 :: x8 :: x9 :: T) (lV z :: st) := v_lstoreG F (j := 8) d hp hn hb k
theorem v_lstore_9 (F : am_Fx p s m args meth c y cc nL ret et X) {z : Int} {x0 x1 x2 x3 x4 x5 x6 x7 x8 x9 x10 : Option Value} {T : List (Option Value)} (d : decode cc pc = .ok (.lstore 9, 2)) (hp : pc + 2 = pc') (hn : am_nl (x0 :: x1 :: x2 :: x3 :: x4 :: x5 :: x6 :: x7 :: x8 :: x9 :: x10 :: T) 9 = true) (hb : 9 + 1 < nL) (k : V p l e R s m args below meth c nL X Q h nx cells slots pc' (x0 :: x1 :: x2 :: x3 :: x4 :: x5 :: x6 :: x7 :: x8 :: some (lV z) :: none :: T) st) : V p l e R s m args below meth c nL X Q h nx cells slots pc (x0 :: x1 :: x2 :: x3 :: x4 :: x5 :: x6 :: x7 :: x8 :: x9 :: x10 :: T) (lV z :: st) := v_lstoreG F (j := 9) d hp hn hb k
theorem v_lstore_10 (F : am_Fx p s m args meth c y cc nL ret et X) {z : Int} {x0 x1 x2 x3 x4 x5 x6 x7 x8 x9 x10 x11 : Option Value} {T : List (Option Value)} (d : decode cc pc = .ok (.lstore 10, 2)) (hp : pc + 2 = pc') (hn : am_nl (x0 :: x1 :: x2 :: x3 :: x4 :: x5 :: x6 :: x7 :: x8 :: x9 :: x10 :: x11 :: T) 10 = true) (hb : 10 + 1 < nL) (k : V p l e R s m args below meth c nL X Q h nx cells slots pc' (x0 :: x1 :: x2 :: x3 :: x4 :: x5 :: x6 :: x7 :: x8 :: x9 :: some (lV z) :: none :: T) st) : V p l e R s m args below meth c nL X Q h nx cells slots pc (x0 :: x1 :: x2 :: x3 :: x4 :: x5 :: x6 :: x7 :: x8 :: x9 :: x10 :: x11 :: T) (lV z :: st) := v_lstoreG F (j := 10) d hp hn hb k
theorem v_lstore_11 (F : am_Fx p s m args meth c y cc nL ret et X) {z : Int} {x0 x1 x2 x3 x4 x5 x6 x7 x8 x9 x10 x11 x12 : Option Value} {T : List (Option Value)} (d : decode cc pc = .ok (.lstore 11, 2)) (hp : pc + 2 = pc') (hn : am_nl (x0 :: x1 :: x2 :: x3 :: x4 :: x5 :: x6 :: x7 :: x8 :: x9 :: x10 :: x11 :: x12 :: T) 11 = true) (hb : 11 + 1 < nL) (k : V p l e R s m args below meth c nL X Q h nx cells slots pc' (x0 :: x1 :: x2 :: x3 :: x4 :: x5 :: x6 :: x7 :: x8 :: x9 :: x10 :: some (lV z) :: none :: T) st) : V p l e R s m args below meth c nL X Q h nx cells slots pc (x0 :: x1 :: x2 :: x3 :: x4 :: x5 :: x6 :: x7 :: x8 :: x9 :: x10 :: x11 :: x12 :: T) (lV z :: st) := v_lstoreG F (j := 11) d hp hn hb k
theorem v_lstore_12 (F : am_Fx p s m args meth c y cc nL ret et X) {z : Int} {x0 x1 x2 x3 x4 x5 x6 x7 x8 x9 x10 x11 x12 x13 : Option Value} {T : List (Option Value)} (d : decode cc pc = .ok (.lstore 12, 2)) (hp : pc + 2 = pc') (hn : am_nl (x0 :: x1 :: x2 :: x3 :: x4 :: x5 :: x6 :: x7 :: x8 :: x9 :: x10 :: x11 :: x12 :: x13 :: T) 12 = true) (hb : 12 + 1 < nL) (k : V p l e R s m args below meth c nL X Q h nx cells slots pc' (x0 :: x1 :: x2 :: x3 :: x4 :: x5 :: x6 :: x7 :: x8 :: x9 :: x10 :: x11 :: some (lV z) :: none :: T) st) : V p l e R s m args below meth c nL X Q h nx cells slots pc (x0 :: x1 :: x2 :: x3 :: x4 :: x5 :: x6 :: x7 :: x8 :: x9 :: x10 :: x11 :: x12 :: x13 :: T) (lV z :: st) := v_lstoreG F (j := 12) d hp hn hb k
theorem v_lstore_13 (F : am_Fx p s m args meth c y cc nL ret et X) {z : Int} {x0 x1 x2 x3 x4 x5 x6 x7 x8 x9 x10 x11 x12 x13 x14 : Option Value} {T : List (Option Value)} (d : decode cc pc = .ok (.lstore 13, 2)) (hp : pc + 2 = pc') (hn : am_nl (x0 :: x1 :: x2 :: x3 :: x4 :: x5 :: x6 :: x7 :: x8 :: x9 :: x10 :: x11 :: x12 :: x13 :: x14 :: T) 13 = true) (hb : 13 + 1 < nL) (k : V p l e R s m args below meth c nL X Q h nx cells slots pc' (x0 :: x1 :: x2 :: x3 :: x4 :: x5 :: x6 :: x7 :: x8 :: x9 :: x10 :: x11 :: x12 :: some (lV z) :: none :: T) st) : V p l e R s m args below meth c nL X Q h nx cells slots pc (x0 :: x1 :: x2 :: x3 :: x4 :: x5 :: x6 :: x7 :: x8 :: x9 :: x10 :: x11 :: x12 :: x13 :: x14 :: T) (lV z :: st) := v_lstoreG F (j := 13) d hp hn hb k
theorem v_lstore_14 (F : am_Fx p s m args meth c y cc nL ret et X) {z : Int} {x0 x1 x2 x3 x4 x5 x6 x7 x8 x9 x10 x11 x12 x13 x14 x15 : Option Value} {T : List (Option Value)} (d : decode cc pc = .ok (.lstore 14, 2)) (hp : pc + 2 = pc') (hn : am_nl (x0 :: x1 :: x2 :: x3 :: x4 :: x5 :: x6 :: x7 :: x8 :: x9 :: x10 :: x11 :: x12 :: x13 :: x14 :: x15 :: T) 14 = true) (hb : 14 + 1 < nL) (k : V p l e R s m args below meth c nL X Q h nx cells slots pc' (x0 :: x1 :: x2 :: x3 :: x4 :: x5 :: x6 :: x7 :: x8 :: x9 :: x10 :: x11 :: x12 :: x13 :: some (lV z) :: none :: T) st) : V p l e R s m args below meth c nL X Q h nx cells slots pc (x0 :: x1 :: x2 :: x3 :: x4 :: x5 :: x6 :: x7 :: x8 :: x9 :: x10 :: x11 :: x12 :: x13 :: x14 :: x15 :: T) (lV z :: st) := v_lstoreG F (j := 14) d hp hn hb k
theorem v_lstore_15 (F : am_Fx p s m args meth c y cc nL ret et X) {z : Int} {x0 x1 x2 x3 x4 x5 x6 x7 x8 x9 x10 x11 x12 x13 x14 x15 x16 : Option Value} {T : List (Option Value)} (d : decode cc pc = .ok (.lstore 15, 2)) (hp : pc + 2 = pc') (hn : am_nl (x0 :: x1 :: x2 :: x3 :: x4 :: x5 :: x6 :: x7 :: x8 :: x9 :: x10 :: x11 :: x12 :: x13 :: x14 :: x15 :: x16 :: T) 15 = true) (hb : 15 + 1 < nL) (k : V p l e R s m args below meth c nL X Q h nx cells slots pc' (x0 :: x1 :: x2 :: x3 :: x4 :: x5 :: x6 :: x7 :: x8 :: x9 :: x10 :: x11 :: x12 :: x13 :: x14 :: some (lV z) :: none :: T) st) : V p l e R s m args below meth c nL X Q h nx cells slots pc (x0 :: x1 :: x2 :: x3 :: x4 :: x5 :: x6 :: x7 :: x8 :: x9 :: x10 :: x11 :: x12 :: x13 :: x14 :: x15 :: x16 :: T) (lV z :: st) := v_lstoreG F (j := 15) d hp hn hb k
theorem v_lstore_16 (F : am_Fx p s m args meth c y cc nL ret et X) {z : Int} {x0 x1 x2 x3 x4 x5 x6 x7 x8 x9 x10 x11 x12 x13 x14 x15 x16 x17 : Option Value} {T : List (Option Value)} (d : decode cc pc = .ok (.lstore 16, 2)) (hp : pc + 2 = pc') (hn : am_nl (x0 :: x1 :: x2 :: x3 :: x4 :: x5 :: x6 :: x7 :: x8 :: x9 :: x10 :: x11 :: x12 :: x13 :: x14 :: x15 :: x16 :: x17 :: T) 16 = true) (hb : 16 + 1 < nL) (k : V p l e R s m args below meth c nL X Q h nx cells slots pc' (x0 :: x1 :: x2 :: x3 :: x4 :: x5 :: x6 :: x7 :: x8 :: x9 :: x10 :: x11 :: x12 :: x13 :: x14 :: x15 :: some (lV z) :: none :: T) st) : V p l e R s m args below meth c nL X Q h nx cells slots pc (x0 :: x1 :: x2 :: x3 :: x4 :: x5 :: x6 :: x7 :: x8 :: x9 :: x10 :: x11 :: x12 :: x13 :: x14 :: x15 :: x16 :: x17 :: T) (lV z :: st) := v_lstoreG F (j := 16) d hp hn hb k
theorem v_lstore_17 (F : am_Fx p s m args meth c y cc nL ret et X) {z : Int} {x0 x1 x2 x3 x4 x5 x6 x7 x8 x9 x10 x11 x12 x13 x14 x15 x16 x17 x18 : Option Value} {T : List (Option Value)} (d : decode cc pc = .ok (.lstore 17, 2)) (hp : pc + 2 = pc') (hn : am_nl (x0 :: x1 :: x2 :: x3 :: x4 :: x5 :: x6 :: x7 :: x8 :: x9 :: x10 :: x11 :: x12 :: x13 :: x14 :: x15 :: x16 :: x17 :: x18 :: T) 17 = true) (hb : 17 + 1 < nL) (k : V p l e R s m args below meth c nL X Q h nx cells slots pc' (x0 :: x1 :: x2 :: x3 :: x4 :: x5 :: x6 :: x7 :: x8 :: x9 :: x10 :: x11 :: x12 :: x13 :: x14 :: x15 :: x16 :: some (lV z) :: none :: T) st) : V p l e R s m args below meth c nL X Q h nx cells slots pc (x0 :: x1 :: x2 :: x3 :: x4 :: x5 :: x6 :: x7 :: x8 :: x9 :: x10 :: x11 :: x12 :: x13 :: x14 :: x15 :: x16 :: x17 :: x18 :: T) (lV z :: st) := v_lstoreG F (j := 17) d hp hn hb k
theorem v_astore_nG (F : am_Fx p s m args meth c y cc nL ret et X) {i : Fin 4} {j : Nat} {z : Nat} (d : decode cc pc = .ok (.astore_n i, 1)) (hp : pc + 1 = pc') (hi : (i : Nat) = j) (hn : am_nl L j = true) (hb : j < nL) (k : V p l e R s m args below meth c nL X Q h nx cells slots pc' (L.set j (some (.ref z))) st) : V p l e R s m args below meth c nL X Q h nx cells slots pc L (.ref z :: st) := by
  subst hp
  intro H locs ls hR hL hl
  subst hi
  obtain ⟨ls', e', h'⟩ := am_store1 (v := .ref z) hl hb rfl hn
  intro T hT X
  obtain ⟨t, a, b⟩ := k H locs ls' hR hL h' T hT X
  refine ⟨t, ?_, b⟩
  jvm_step X.here [X.here.top, ↓top_set X.here.top, F.1, F.2.1, d, e', Value.isRef]
  exact a
theorem v_astore_0 (F : am_Fx p s m args meth c y cc nL ret et X) {z : Nat} {x0 : Option Value} {T : List (Option Value)} (d : decode cc pc = .ok (.astore_n 0, 1)) (hp : pc + 1 = pc') (hn : am_nl (x0 :: T) 0 = true) (hb : 0 < nL) (k : V p l e R s m args below meth c nL X Q h nx cells slots pc' (some (.ref z) :: T) st) : V p l e R s m args below meth c nL X Q h nx cells slots pc (x0 :: T) (.ref z :: st) := v_astore_nG F (j := 0) d hp rfl hn hb k
theorem v_astore_1 (F : am_Fx p s m args meth c y cc nL ret et X) {z : Nat} {x0 x1 : Option Value} {T : List (Option Value)} (d : decode cc pc = .ok (.astore_n 1, 1)) (hp : pc + 1 = pc') (hn : am_nl (x0 :: x1 :: T) 1 = true) (hb : 1 < nL) (k : V p l e R s m args below meth c nL X Q h nx cells slots pc' (x0 :: some (.ref z) :: T) st) : V p l e R s m args below meth c nL X Q h nx cells slots pc (x0 :: x1 :: T) (.ref z :: st) := v_astore_nG F (j := 1) d hp rfl hn hb k
theorem v_astore_2 (F : am_Fx p s m args meth c y cc nL ret et X) {z : Nat} {x0 x1 x2 : Option Value} {T : List (Option Value)} (d : decode cc pc = .ok (.astore_n 2, 1)) (hp : pc + 1 = pc') (hn : am_nl (x0 :: x1 :: x2 :: T) 2 = true) (hb : 2 < nL) (k : V p l e R s m args below meth c nL X Q h nx cells slots pc' (x0 :: x1 :: some (.ref z) :: T) st) : V p l e R s m args below meth c nL X Q h nx cells slots pc (x0 :: x1 :: x2 :: T) (.ref z :: st) := v_astore_nG F (j := 2) d hp rfl hn hb k
theorem v_astore_3 (F : am_Fx p s m args meth c y cc nL ret et X) {z : Nat} {x0 x1 x2 x3 : Option Value} {T : List (Option Value)} (d : decode cc pc = .ok (.astore_n 3, 1)) (hp : pc + 1 = pc') (hn : am_nl (x0 :: x1 :: x2 :: x3 :: T) 3 = true) (hb : 3 < nL) (k : V p l e R s m args below meth c nL X Q h nx cells slots pc' (x0 :: x1 :: x2 :: some (.ref z) :: T) st) : V p l e R s m args below meth c nL X Q h nx cells slots pc (x0 :: x1 :: x2 :: x3 :: T) (.ref z :: st) := v_astore_nG F (j := 3) d hp rfl hn hb k
theorem v_astoreG (F : am_Fx p s m args meth c y cc nL ret et X) {j : Nat} {z : Nat} (d : decode cc pc = .ok (.astore j, 2)) (hp : pc + 2 = pc') (hn : am_nl L j = true) (hb : j < nL) (k : V p l e R s m args below meth c nL X Q h nx cells slots pc' (L.set j (some (.ref z))) st) : V p l e R s m args below meth c nL X Q h nx cells slots pc L (.ref z :: st) := by
  subst hp
  intro H locs ls hR hL hl
  skip
  obtain ⟨ls', e', h'⟩ := am_store1 (v := .ref z) hl hb rfl hn
  intro T hT X
  obtain ⟨t, a, b⟩ := k H locs ls' hR hL h' T hT X
  refine ⟨t, ?_, b⟩
  jvm_step X.here [X.here.top, ↓top_set X.here.top, F.1, F.2.1, d, e', Value.isRef]
  exact a
theorem v_astore_4 (F : am_Fx p s m args meth c y cc nL ret et X) {z : Nat} {x0 x1 x2 x3 x4 : Option Value} {T : List (Option Value)} (d : decode cc pc = .ok (.astore 4, 2)) (hp : pc + 2 = pc') (hn : am_nl (x0 :: x1 :: x2 :: x3 :: x4 :: T) 4 = true) (hb : 4 < nL) (k : V p l e R s m args below meth c nL X Q h nx cells slots pc' (x0 :: x1 :: x2 :: x3 :: some (.ref z) :: T) st) : V p l e R s m args below meth c nL X Q h nx cells slots pc (x0 :: x1 :: x2 :: x3 :: x4 :: T) (.ref z :: st) := v_astoreG F (j := 4) d hp hn hb k
theorem v_astore_5 (F : am_Fx p s m args meth c y cc nL ret et X) {z : Nat} {x0 x1 x2 x3 x4 x5 : Option Value} {T : List (Option Value)} (d : decode cc pc = .ok (.astore 5, 2)) (hp : pc + 2 = pc') (hn : am_nl (x0 :: x1 :: x2 :: x3 :: x4 :: x5 :: T) 5 = true) (hb : 5 < nL) (k : V p l e R s m args below meth c nL X Q h nx cells slots pc' (x0 :: x1 :: x2 :: x3 :: x4 :: some (.ref z) :: T) st) : V p l e R s m args below meth c nL X Q h nx cells slots pc (x0 :: x1 :: x2 :: x3 :: x4 :: x5 :: T) (.ref z :: st) := v_astoreG F (j := 5) d hp hn hb k
theorem v_astore_6 (F : am_Fx p s m args meth c y cc nL ret et X) {z : Nat} {x0 x1 x2 x3 x4 x5 x6 : Option Value} {T : List (Option Value)} (d : decode cc pc = .ok (.astore 6, 2)) (hp : pc + 2 = pc') (hn : am_nl (x0 :: x1 :: x2 :: x3 :: x4 :: x5 :: x6 :: T) 6 = true) (hb : 6 < nL) (k : V p l e R s m args below meth c nL X Q h nx cells slots pc' (x0 :: x1 :: x2 :: x3 :: x4 :: x5 :: some (.ref z) :: T) st) : V p l e R s m args below meth c nL X Q h nx cells slots pc (x0 :: x1 :: x2 :: x3 :: x4 :: x5 :: x6 :: T) (.ref z :: st) := v_astoreG F (j := 6) d hp hn hb k
theorem v_astore_7 (F : am_Fx p s m args meth c y cc nL ret et X) {z : Nat} {x0 x1 x2 x3 x4 x5 x6 x7 : Option Value} {T : List (Option Value)} (d : decode cc pc = .ok (.astore 7, 2)) (hp : pc + 2 = pc') (hn : am_nl (x0 :: x1 :: x2 :: x3 :: x4 :: x5 :: x6 :: x7 :: T) 7 = true) (hb : 7 < nL) (k : V p l e R s m args below meth c nL X Q h nx cells slots pc' (x0 :: x1 :: x2 :: x3 :: x4 :: x5 :: x6 :: some (.ref z) :: T) st) : V p l e R s m args below meth c nL X Q h nx cells slots pc (x0 :: x1 :: x2 :: x3 :: x4 :: x5 :: x6 :: x7 :: T) (.ref z :: st) := v_astoreG F (j := 7) d hp hn hb k
theorem v_astore_8 (F : am_Fx p s m args meth c y cc nL ret et X) {z : Nat} {x0 x1 x2 x3 x4 x5 x6 x7 x8 : Option Value} {T : List (Option Value)} (d : decode cc pc = .ok (.astore 8, 2)) (hp : pc + 2 = pc') (hn : am_nl (x0 :: x1 :: x2 :: x3 :: x4 :: x5 :: x6 :: x7 :: x8 :: T) 8 = true) (hb : 8 < nL) (k : V p l e R s m args below meth c nL X Q h nx cells slots pc' (x0 :: x1 :: x2 :: x3 :: x4 :: x5 :: x6 :: x7 :: some (.ref z) :: T) st) : V p l e R s m args below meth c nL X Q h nx cells slots pc (x0 :: x1 :: x2 :: x3 :: x4 :: x5 :: x6 :: x7 :: x8 :: T) (.ref z :: st) := v_astoreG F (j := 8) d hp hn hb k
theorem v_astore_9 (F : am_Fx p s m args meth c y cc nL ret et X) {z : Nat} {x0 x1 x2 x3 x4 x5 x6 x7 x8 x9 : Option Value} {T : List (Option Value)} (d : decode cc pc = .ok (.astore 9, 2)) (hp : pc + 2 = pc') (hn : am_nl (x0 :: x1 :: x2 :: x3 :: x4 :: x5 :: x6 :: x7 :: x8 :: x9 :: T) 9 = true) (hb : 9 < nL) (k : V p l e R s m args below meth c nL X Q h nx cells slots pc' (x0 :: x1 :: x2 :: x3 :: x4 :: x5 :: x6 :: x7 :: x8 :: some (.ref z) :: T) st) : V p l e R s m args below meth c nL X Q h nx cells slots pc (x0 :: x1 :: x2 :: x3 :: x4 :: x5 :: x6 :: x7 :: x8 :: x9 :: T) (.ref z :: st) := v_astoreG F (j := 9) d hp hn hb k
theorem v_astore_10 (F : am_Fx p s m args meth c y cc nL ret et X) {z : Nat} {x0 x1 x2 x3 x4 x5 x6 x7 x8 x9 x10 : Option Value} {T : List (Option Value)} (d : decode cc pc = .ok (.astore 10, 2)) (hp : pc + 2 = pc') (hn : am_nl (x0 :: x1 :: x2 :: x3 :: x4 :: x5 :: x6 :: x7 :: x8 :: x9 :: x10 :: T) 10 = true) (hb : 10 < nL) (k : V p l e R s m args below meth c nL X Q h nx cells slots pc' (x0 :: x1 :: x2 :: x3 :: x4 :: x5 :: x6 :: x7 :: x8 :: x9 :: some (.ref z) :: T) st) : V p l e R s m args below meth c nL X Q h nx cells slots pc (x0 :: x1 :: x2 :: x3 :: x4 :: x5 :: x6 :: x7 :: x8 :: x9 :: x10 :: T) (.ref z :: st) := v_astoreG F (j := 10) d hp hn hb k
theorem v_astore_11 (F : am_Fx p s m args meth c y cc nL ret et X) {z : Nat} {x0 x1 x2 x3 x4 x5 x6 x7 x8 x9 x10 x11 : Option Value} {T : List (Option Value)} (d : decode cc pc = .ok (.astore 11, 2)) (hp : pc + 2 = pc') (hn : am_nl (x0 :: x1 :: x2 :: x3 :: x4 :: x5 :: x6 :: x7 :: x8 :: x9 :: x10 :: x11 :: T) 11 = true) (hb : 11 < nL) (k : V p l e R s m args below meth c nL X Q h nx cells slots pc' (x0 :: x1 :: x2 :: x3 :: x4 :: x5 :: x6 :: x7 :: x8 :: x9 :: x10 :: some (.ref z) :: T) st) : V p l e R s m args below meth c nL X Q h nx cells slots pc (x0 :: x1 :: x2 :: x3 :: x4 :: x5 :: x6 :: x7 :: x8 :: x9 :: x10 :: x11 :: T) (.ref z :: st) := v_astoreG F (j := 11) d hp hn hb k
theorem v_astore_12 (F : am_Fx p s m args meth c y cc nL ret et X) {z : Nat} {x0 x1 x2 x3 x4 x5 x6 x7 x8 x9 x10 x11 x12 : Option Value} {T : List (Option Value)} (d : decode cc pc = .ok (.astore 12, 2)) (hp : pc + 2 = pc') (hn : am_nl (x0 :: x1 :: x2 :: x3 :: x4 :: x5 :: x6 :: x7 :: x8 :: x9 :: x10 :: x11 :: x12 :: T) 12 = true) (hb : 12 < nL) (k : V p l e R s m args below meth c nL X Q h nx cells slots pc' (x0 :: x1 :: x2 :: x3 :: x4 :: x5 :: x6 :: x7 :: x8 :: x9 :: x10 :: x11 :: some (.ref z) :: T) st) : V p l e R s m args below meth c nL X Q h nx cells slots pc (x0 :: x1 :: x2 :: x3 :: x4 :: x5 :: x6 :: x7 :: x8 :: x9 :: x10 :: x11 :: x12 :: T) (.ref z :: st) := v_astoreG F (j := 12) d hp hn hb k
theorem v_astore_13 (F : am_Fx p s m args meth c y cc nL ret et X) {z : Nat} {x0 x1 x2 x3 x4 x5 x6 x7 x8 x9 x10 x11 x12 x13 : Option Value} {T : List (Option Value)} (d : decode cc pc = .ok (.astore 13, 2)) (hp : pc + 2 = pc') (hn : am_nl (x0 :: x1 :: x2 :: x3 :: x4 :: x5 :: x6 :: x7 :: x8 :: x9 :: x10 :: x11 :: x12 :: x13 :: T) 13 = true) (hb : 13 < nL) (k : V p l e R s m args below meth c nL X Q h nx cells slots pc' (x0 :: x1 :: x2 :: x3 :: x4 :: x5 :: x6 :: x7 :: x8 :: x9 :: x10 :: x11 :: x12 :: some (.ref z) :: T) st) : V p l e R s m args below meth c nL X Q h nx cells slots pc (x0 :: x1 :: x2 :: x3 :: x4 :: x5 :: x6 :: x7 :: x8 :: x9 :: x10 :: x11 :: x12 :: x13 :: T) (.ref z :: st) := v_astoreG F (j := 13) d hp hn hb k
theorem v_astore_14 (F : am_Fx p s m args meth c y cc nL ret et X) {z : Nat} {x0 x1 x2 x3 x4 x5 x6 x7 x8 x9 x10 x11 x12 x13 x14 : Option Value} {T : List (Option Value)} (d : decode cc pc = .ok (.astore 14, 2)) (hp : pc + 2 = pc') (hn : am_nl (x0 :: x1 :: x2 :: x3 :: x4 :: x5 :: x6 :: x7 :: x8 :: x9 :: x10 :: x11 :: x12 :: x13 :: x14 :: T) 14 = true) (hb : 14 < nL) (k : V p l e R s m args below meth c nL X Q h nx cells slots pc' (x0 :: x1 :: x2 :: x3 :: x4 :: x5 :: x6 :: x7 :: x8 :: x9 :: x10 :: x11 :: x12 :: x13 :: some (.ref z) :: T) st) : V p l e R s m args below meth c nL X Q h nx cells slots pc (x0 :: x1 :: x2 :: x3 :: x4 :: x5 :: x6 :: x7 :: x8 :: x9 :: x10 :: x11 :: x12 :: x13 :: x14 :: T) (.ref z :: st) := v_astoreG F (j := 14) d hp hn hb k
theorem v_astore_15 (F : am_Fx p s m args meth c y cc nL ret et X) {z : Nat} {x0 x1 x2 x3 x4 x5 x6 x7 x8 x9 x10 x11 x12 x13 x14 x15 : Option Value} {T : List (Option Value)} (d : decode cc pc = .ok (.astore 15, 2)) (hp : pc + 2 = pc') (hn : am_nl (x0 :: x1 :: x2 :: x3 :: x4 :: x5 :: x6 :: x7 :: x8 :: x9 :: x10 :: x11 :: x12 :: x13 :: x14 :: x15 :: T) 15 = true) (hb : 15 < nL) (k : V p l e R s m args below meth c nL X Q h nx cells slots pc' (x0 :: x1 :: x2 :: x3 :: x4 :: x5 :: x6 :: x7 :: x8 :: x9 :: x10 :: x11 :: x12 :: x13 :: x14 :: some (.ref z) :: T) st) : V p l e R s m args below meth c nL X Q h nx cells slots pc (x0 :: x1 :: x2 :: x3 :: x4 :: x5 :: x6 :: x7 :: x8 :: x9 :: x10 :: x11 :: x12 :: x13 :: x14 :: x15 :: T) (.ref z :: st) := v_astoreG F (j := 15) d hp hn hb k
theorem v_astore_16 (F : am_Fx p s m args meth c y cc nL ret et X) {z : Nat} {x0 x1 x2 x3 x4 x5 x6 x7 x8 x9 x10 x11 x12 x13 x14 x15 x16 : Option Value} {T : List (Option Value)} (d : decode cc pc = .ok (.astore 16, 2)) (hp : pc + 2 = pc') (hn : am_nl (x0 :: x1 :: x2 :: x3 :: x4 :: x5 :: x6 :: x7 :: x8 :: x9 :: x10 :: x11 :: x12 :: x13 :: x14 :: x15 :: x16 :: T) 16 = true) (hb : 16 < nL) (k : V p l e R s m args below meth c nL X Q h nx cells slots pc' (x0 :: x1 :: x2 :: x3 :: x4 :: x5 :: x6 :: x7 :: x8 :: x9 :: x10 :: x11 :: x12 :: x13 :: x14 :: x15 :: some (.ref z) :: T) st) : V p l e R s m args below meth c nL X Q h nx cells slots pc (x0 :: x1 :: x2 :: x3 :: x4 :: x5 :: x6 :: x7 :: x8 :: x9 :: x10 :: x11 :: x12 :: x13 :: x14 :: x15 :: x16 :: T) (.ref z :: st) := v_astoreG F (j := 16) d hp hn hb k
theorem v_astore_17 (F : am_Fx p s m args meth c y cc nL ret et X) {z : Nat} {x0 x1 x2 x3 x4 x5 x6 x7 x8 x9 x10 x11 x12 x13 x14 x15 x16 x17 : Option Value} {T : List (Option Value)} (d : decode cc pc = .ok (.astore 17, 2)) (hp : pc + 2 = pc') (hn : am_nl (x0 :: x1 :: x2 :: x3 :: x4 :: x5 :: x6 :: x7 :: x8 :: x9 :: x10 :: x11 :: x12 :: x13 :: x14 :: x15 :: x16 :: x17 :: T) 17 = true) (hb : 17 < nL) (k : V p l e R s m args below meth c nL X Q h nx cells slots pc' (x0 :: x1 :: x2 :: x3 :: x4 :: x5 :: x6 :: x7 :: x8 :: x9 :: x10 :: x11 :: x12 :: x13 :: x14 :: x15 :: x16 :: some (.ref z) :: T) st) : V p l e R s m args below meth c nL X Q h nx cells slots pc (x0 :: x1 :: x2 :: x3 :: x4 :: x5 :: x6 :: x7 :: x8 :: x9 :: x10 :: x11 :: x12 :: x13 :: x14 :: x15 :: x16 :: x17 :: T) (.ref z :: st) := v_astoreG F (j := 17) d hp hn hb k
theorem v_iincG (F : am_Fx p s m args meth c y cc nL ret et X) {j : Nat} {n z : Int} (d : decode cc pc = .ok (.iinc j n, 3)) (hp : pc + 3 = pc') (hv : L[j]? = some (some (iV z))) (hn : am_nl L j = true) (hb : j < nL) (k : V p l e R s m args below meth c nL X Q h nx cells slots pc' (L.set j (some (iV (z + n)))) st) : V p l e R s m args below meth c nL X Q h nx cells slots pc L st := by
  subst hp
  intro H locs ls hR hL hl
  have hg := hl.2.2 _ _ hv
  obtain ⟨ls', e', h'⟩ := am_store1 (v := iV (z + n)) hl hb rfl hn
  rw [show iV (z + n) = Value.int (Int32.ofInt z + Int32.ofInt n) by rw [← Int32.ofInt_add]] at e'
  intro T hT X
  obtain ⟨t, a, b⟩ := k H locs ls' hR hL h' T hT X
  refine ⟨t, ?_, b⟩
  jvm_step X.here [X.here.top, ↓top_set X.here.top, F.1, F.2.1, d, hg, e']
  exact a
theorem v_iinc_0 (F : am_Fx p s m args meth c y cc nL ret et X) {n z : Int} {T : List (Option Value)} (d : decode cc pc = .ok (.iinc 0 n, 3)) (hp : pc + 3 = pc') (hn : am_nl (some (iV z) :: T) 0 = true) (hb : 0 < nL) (k : V p l e R s m args below meth c nL X Q h nx cells slots pc' (some (iV (z + n)) :: T) st) : V p l e R s m args below meth c nL X Q h nx cells slots pc (some (iV z) :: T) st := v_iincG F (j := 0) d hp rfl hn hb k
theorem v_iinc_1 (F : am_Fx p s m args meth c y cc nL ret et X) {n z : Int} {x0 : Option Value} {T : List (Option Value)} (d : decode cc pc = .ok (.iinc 1 n, 3)) (hp : pc + 3 = pc') (hn : am_nl (x0 :: some (iV z) :: T) 1 = true) (hb : 1 < nL) (k : V p l e R s m args below meth c nL X Q h nx cells slots pc' (x0 :: some (iV (z + n)) :: T) st) : V p l e R s m args below meth c nL X Q h nx cells slots pc (x0 :: some (iV z) :: T) st := v_iincG F (j := 1) d hp rfl hn hb k
theorem v_iinc_2 (F : am_Fx p s m args meth c y cc nL ret et X) {n z : Int} {x0 x1 : Option Value} {T : List (Option Value)} (d : decode cc pc = .ok (.iinc 2 n, 3)) (hp : pc + 3 = pc') (hn : am_nl (x0 :: x1 :: some (iV z) :: T) 2 = true) (hb : 2 < nL) (k : V p l e R s m args below meth c nL X Q h nx cells slots pc' (x0 :: x1 :: some (iV (z + n)) :: T) st) : V p l e R s m args below meth c nL X Q h nx cells slots pc (x0 :: x1 :: some (iV z) :: T) st := v_iincG F (j := 2) d hp rfl hn hb k
theorem v_iinc_3 (F : am_Fx p s m args meth c y cc nL ret et X) {n z : Int} {x0 x1 x2 : Option Value} {T : List (Option Value)} (d : decode cc pc = .ok (.iinc 3 n, 3)) (hp : pc + 3 = pc') (hn : am_nl (x0 :: x1 :: x2 :: some (iV z) :: T) 3 = true) (hb : 3 < nL) (k : V p l e R s m args below meth c nL X Q h nx cells slots pc' (x0 :: x1 :: x2 :: some (iV (z + n)) :: T) st) : V p l e R s m args below meth c nL X Q h nx cells slots pc (x0 :: x1 :: x2 :: some (iV z) :: T) st := v_iincG F (j := 3) d hp rfl hn hb k
theorem v_iinc_4 (F : am_Fx p s m args meth c y cc nL ret et X) {n z : Int} {x0 x1 x2 x3 : Option Value} {T : List (Option Value)} (d : decode cc pc = .ok (.iinc 4 n, 3)) (hp : pc + 3 = pc') (hn : am_nl (x0 :: x1 :: x2 :: x3 :: some (iV z) :: T) 4 = true) (hb : 4 < nL) (k : V p l e R s m args below meth c nL X Q h nx cells slots pc' (x0 :: x1 :: x2 :: x3 :: some (iV (z + n)) :: T) st) : V p l e R s m args below meth c nL X Q h nx cells slots pc (x0 :: x1 :: x2 :: x3 :: some (iV z) :: T) st := v_iincG F (j := 4) d hp rfl hn hb k
theorem v_iinc_5 (F : am_Fx p s m args meth c y cc nL ret et X) {n z : Int} {x0 x1 x2 x3 x4 : Option Value} {T : List (Option Value)} (d : decode cc pc = .ok (.iinc 5 n, 3)) (hp : pc + 3 = pc') (hn : am_nl (x0 :: x1 :: x2 :: x3 :: x4 :: some (iV z) :: T) 5 = true) (hb : 5 < nL) (k : V p l e R s m args below meth c nL X Q h nx cells slots pc' (x0 :: x1 :: x2 :: x3 :: x4 :: some (iV (z + n)) :: T) st) : V p l e R s m args below meth c nL X Q h nx cells slots pc (x0 :: x1 :: x2 :: x3 :: x4 :: some (iV z) :: T) st := v_iincG F (j := 5) d hp rfl hn hb k
theorem v_iinc_6 (F : am_Fx p s m args meth c y cc nL ret et X) {n z : Int} {x0 x1 x2 x3 x4 x5 : Option Value} {T : List (Option Value)} (d : decode cc pc = .ok (.iinc 6 n, 3)) (hp : pc + 3 = pc') (hn : am_nl (x0 :: x1 :: x2 :: x3 :: x4 :: x5 :: some (iV z) :: T) 6 = true) (hb : 6 < nL) (k : V p l e R s m args below meth c nL X Q h nx cells slots pc' (x0 :: x1 :: x2 :: x3 :: x4 :: x5 :: some (iV (z + n)) :: T) st) : V p l e R s m args below meth c nL X Q h nx cells slots pc (x0 :: x1 :: x2 :: x3 :: x4 :: x5 :: some (iV z) :: T) st := v_iincG F (j := 6) d hp rfl hn hb k
theorem v_iinc_7 (F : am_Fx p s m args meth c y cc nL ret et X) {n z : Int} {x0 x1 x2 x3 x4 x5 x6 : Option Value} {T : List (Option Value)} (d : decode cc pc = .ok (.iinc 7 n, 3)) (hp : pc + 3 = pc') (hn : am_nl (x0 :: x1 :: x2 :: x3 :: x4 :: x5 :: x6 :: some (iV z) :: T) 7 = true) (hb : 7 < nL) (k : V p l e R s m args below meth c nL X Q h nx cells slots pc' (x0 :: x1 :: x2 :: x3 :: x4 :: x5 :: x6 :: some (iV (z + n)) :: T) st) : V p l e R s m args below meth c nL X Q h nx cells slots pc (x0 :: x1 :: x2 :: x3 :: x4 :: x5 :: x6 :: some (iV z) :: T) st := v_iincG F (j := 7) d hp rfl hn hb k
theorem v_iinc_8 (F : am_Fx p s m args meth c y cc nL ret et X) {n z : Int} {x0 x1 x2 x3 x4 x5 x6 x7 : Option Value} {T : List (Option Value)} (d : decode cc pc = .ok (.iinc 8 n, 3)) (hp : pc + 3 = pc') (hn : am_nl (x0 :: x1 :: x2 :: x3 :: x4 :: x5 :: x6 :: x7 :: some (iV z) :: T) 8 = true) (hb : 8 < nL) (k : V p l e R s m args below meth c nL X Q h nx cells slots pc' (x0 :: x1 :: x2 :: x3 :: x4 :: x5 :: x6 :: x7 :: some (iV (z + n)) :: T) st) : V p l e R s m args below meth c nL X Q h nx cells slots pc (x0 :: x1 :: x2 :: x3 :: x4 :: x5 :: x6 :: x7 :: some (iV z) :: T) st := v_iincG F (j := 8) d hp rfl hn hb k
theorem v_iinc_9 (F : am_Fx p s m args meth c y cc nL ret et X) {n z : Int} {x0 x1 x2 x3 x4 x5 x6 x7 x8 : Option Value} {T : List (Option Value)} (d : decode cc pc = .ok (.iinc 9 n, 3)) (hp : pc + 3 = pc') (hn : am_nl (x0 :: x1 :: x2 :: x3 :: x4 :: x5 :: x6 :: x7 :: x8 :: some (iV z) :: T) 9 = true) (hb : 9 < nL) (k : V p l e R s m args below meth c nL X Q h nx cells slots pc' (x0 :: x1 :: x2 :: x3 :: x4 :: x5 :: x6 :: x7 :: x8 :: some (iV (z + n)) :: T) st) : V p l e R s m args below meth c nL X Q h nx cells slots pc (x0 :: x1 :: x2 :: x3 :: x4 :: x5 :: x6 :: x7 :: x8 :: some (iV z) :: T) st := v_iincG F (j := 9) d hp rfl hn hb k
theorem v_iinc_10 (F : am_Fx p s m args meth c y cc nL ret et X) {n z : Int} {x0 x1 x2 x3 x4 x5 x6 x7 x8 x9 : Option Value} {T : List (Option Value)} (d : decode cc pc = .ok (.iinc 10 n, 3)) (hp : pc + 3 = pc') (hn : am_nl (x0 :: x1 :: x2 :: x3 :: x4 :: x5 :: x6 :: x7 :: x8 :: x9 :: some (iV z) :: T) 10 = true) (hb : 10 < nL) (k : V p l e R s m args below meth c nL X Q h nx cells slots pc' (x0 :: x1 :: x2 :: x3 :: x4 :: x5 :: x6 :: x7 :: x8 :: x9 :: some (iV (z + n)) :: T) st) : V p l e R s m args below meth c nL X Q h nx cells slots pc (x0 :: x1 :: x2 :: x3 :: x4 :: x5 :: x6 :: x7 :: x8 :: x9 :: some (iV z) :: T) st := v_iincG F (j := 10) d hp rfl hn hb k
theorem v_iinc_11 (F : am_Fx p s m args meth c y cc nL ret et X) {n z : Int} {x0 x1 x2 x3 x4 x5 x6 x7 x8 x9 x10 : Option Value} {T : List (Option Value)} (d : decode cc pc = .ok (.iinc 11 n, 3)) (hp : pc + 3 = pc') (hn : am_nl (x0 :: x1 :: x2 :: x3 :: x4 :: x5 :: x6 :: x7 :: x8 :: x9 :: x10 :: some (iV z) :: T) 11 = true) (hb : 11 < nL) (k : V p l e R s m args below meth c nL X Q h nx cells slots pc' (x0 :: x1 :: x2 :: x3 :: x4 :: x5 :: x6 :: x7 :: x8 :: x9 :: x10 :: some (iV (z + n)) :: T) st) : V p l e R s m args below meth c nL X Q h nx cells slots pc (x0 :: x1 :: x2 :: x3 :: x4 :: x5 :: x6 :: x7 :: x8 :: x9 :: x10 :: some (iV z) :: T) st := v_iincG F (j := 11) d hp rfl hn hb k
theorem v_iinc_12 (F : am_Fx p s m args meth c y cc nL ret et X) {n z : Int} {x0 x1 x2 x3 x4 x5 x6 x7 x8 x9 x10 x11 : Option Value} {T : List (Option Value)} (d : decode cc pc = .ok (.iinc 12 n, 3)) (hp : pc + 3 = pc') (hn : am_nl (x0 :: x1 :: x2 :: x3 :: x4 :: x5 :: x6 :: x7 :: x8 :: x9 :: x10 :: x11 :: some (iV z) :: T) 12 = true) (hb : 12 < nL) (k : V p l e R s m args below meth c nL X Q h nx cells slots pc' (x0 :: x1 :: x2 :: x3 :: x4 :: x5 :: x6 :: x7 :: x8 :: x9 :: x10 :: x11 :: some (iV (z + n)) :: T) st) : V p l e R s m args below meth c nL X Q h nx cells slots pc (x0 :: x1 :: x2 :: x3 :: x4 :: x5 :: x6 :: x7 :: x8 :: x9 :: x10 :: x11 :: some (iV z) :: T) st := v_iincG F (j := 12) d hp rfl hn hb k
theorem v_iinc_13 (F : am_Fx p s m args meth c y cc nL ret et X) {n z : Int} {x0 x1 x2 x3 x4 x5 x6 x7 x8 x9 x10 x11 x12 : Option Value} {T : List (Option Value)} (d : decode cc pc = .ok (.iinc 13 n, 3)) (hp : pc + 3 = pc') (hn : am_nl (x0 :: x1 :: x2 :: x3 :: x4 :: x5 :: x6 :: x7 :: x8 :: x9 :: x10 :: x11 :: x12 :: some (iV z) :: T) 13 = true) (hb : 13 < nL) (k : V p l e R s m args below meth c nL X Q h nx cells slots pc' (x0 :: x1 :: x2 :: x3 :: x4 :: x5 :: x6 :: x7 :: x8 :: x9 :: x10 :: x11 :: x12 :: some (iV (z + n)) :: T) st) : V p l e R s m args below meth c nL X Q h nx cells slots pc (x0 :: x1 :: x2 :: x3 :: x4 :: x5 :: x6 :: x7 :: x8 :: x9 :: x10 :: x11 :: x12 :: some (iV z) :: T) st := v_iincG F (j := 13) d hp rfl hn hb k
theorem v_iinc_14 (F : am_Fx p s m args meth c y cc nL ret et X) {n z : Int} {x0 x1 x2 x3 x4 x5 x6 x7 x8 x9 x10 x11 x12 x13 : Option Value} {T : List (Option Value)} (d : decode cc pc = .ok (.iinc 14 n, 3)) (hp : pc + 3 = pc') (hn : am_nl (x0 :: x1 :: x2 :: x3 :: x4 :: x5 :: x6 :: x7 :: x8 :: x9 :: x10 :: x11 :: x12 :: x13 :: some (iV z) :: T) 14 = true) (hb : 14 < nL) (k : V p l e R s m args below meth c nL X Q h nx cells slots pc' (x0 :: x1 :: x2 :: x3 :: x4 :: x5 :: x6 :: x7 :: x8 :: x9 :: x10 :: x11 :: x12 :: x13 :: some (iV (z + n)) :: T) st) : V p l e R s m args below meth c nL X Q h nx cells slots pc (x0 :: x1 :: x2 :: x3 :: x4 :: x5 :: x6 :: x7 :: x8 :: x9 :: x10 :: x11 :: x12 :: x13 :: some (iV z) :: T) st := v_iincG F (j := 14) d hp rfl hn hb k
theorem v_iinc_15 (F : am_Fx p s m args meth c y cc nL ret et X) {n z : Int} {x0 x1 x2 x3 x4 x5 x6 x7 x8 x9 x10 x11 x12 x13 x14 : Option Value} {T : List (Option Value)} (d : decode cc pc = .ok (.iinc 15 n, 3)) (hp : pc + 3 = pc') (hn : am_nl (x0 :: x1 :: x2 :: x3 :: x4 :: x5 :: x6 :: x7 :: x8 :: x9 :: x10 :: x11 :: x12 :: x13 :: x14 :: some (iV z) :: T) 15 = true) (hb : 15 < nL) (k : V p l e R s m args below meth c nL X Q h nx cells slots pc' (x0 :: x1 :: x2 :: x3 :: x4 :: x5 :: x6 :: x7 :: x8 :: x9 :: x10 :: x11 :: x12 :: x13 :: x14 :: some (iV (z + n)) :: T) st) : V p l e R s m args below meth c nL X Q h nx cells slots pc (x0 :: x1 :: x2 :: x3 :: x4 :: x5 :: x6 :: x7 :: x8 :: x9 :: x10 :: x11 :: x12 :: x13 :: x14 :: some (iV z) :: T) st := v_iincG F (j := 15) d hp rfl hn hb k
theorem v_iinc_16 (F : am_Fx p s m args meth c y cc nL ret et X) {n z : Int} {x0 x1 x2 x3 x4 x5 x6 x7 x8 x9 x10 x11 x12 x13 x14 x15 : Option Value} {T : List (Option Value)} (d : decode cc pc = .ok (.iinc 16 n, 3)) (hp : pc + 3 = pc') (hn : am_nl (x0 :: x1 :: x2 :: x3 :: x4 :: x5 :: x6 :: x7 :: x8 :: x9 :: x10 :: x11 :: x12 :: x13 :: x14 :: x15 :: some (iV z) :: T) 16 = true) (hb : 16 < nL) (k : V p l e R s m args below meth c nL X Q h nx cells slots pc' (x0 :: x1 :: x2 :: x3 :: x4 :: x5 :: x6 :: x7 :: x8 :: x9 :: x10 :: x11 :: x12 :: x13 :: x14 :: x15 :: some (iV (z + n)) :: T) st) : V p l e R s m args below meth c nL X Q h nx cells slots pc (x0 :: x1 :: x2 :: x3 :: x4 :: x5 :: x6 :: x7 :: x8 :: x9 :: x10 :: x11 :: x12 :: x13 :: x14 :: x15 :: some (iV z) :: T) st := v_iincG F (j := 16) d hp rfl hn hb k
theorem v_iinc_17 (F : am_Fx p s m args meth c y cc nL ret et X) {n z : Int} {x0 x1 x2 x3 x4 x5 x6 x7 x8 x9 x10 x11 x12 x13 x14 x15 x16 : Option Value} {T : List (Option Value)} (d : decode cc pc = .ok (.iinc 17 n, 3)) (hp : pc + 3 = pc') (hn : am_nl (x0 :: x1 :: x2 :: x3 :: x4 :: x5 :: x6 :: x7 :: x8 :: x9 :: x10 :: x11 :: x12 :: x13 :: x14 :: x15 :: x16 :: some (iV z) :: T) 17 = true) (hb : 17 < nL) (k : V p l e R s m args below meth c nL X Q h nx cells slots pc' (x0 :: x1 :: x2 :: x3 :: x4 :: x5 :: x6 :: x7 :: x8 :: x9 :: x10 :: x11 :: x12 :: x13 :: x14 :: x15 :: x16 :: some (iV (z + n)) :: T) st) : V p l e R s m args below meth c nL X Q h nx cells slots pc (x0 :: x1 :: x2 :: x3 :: x4 :: x5 :: x6 :: x7 :: x8 :: x9 :: x10 :: x11 :: x12 :: x13 :: x14 :: x15 :: x16 :: some (iV z) :: T) st := v_iincG F (j := 17) d hp rfl hn hb k
theorem v_iadd (F : am_Fx p s m args meth c y cc nL ret et X) {a b : Int} (d : decode cc pc = .ok (.iadd, 1)) (hp : pc + 1 = pc') (k : V p l e R s m args below meth c nL X Q h nx cells slots pc' L (iV (a + b) :: st)) : V p l e R s m args below meth c nL X Q h nx cells slots pc L (iV b :: iV a :: st) := by
  subst hp
  intro H locs ls hR hL hl
  have k := k H locs ls hR hL hl
  refine lv_iadd F.1 F.2.1 d ?_
  rw [← Int32.ofInt_add]
  exact k
theorem v_isub (F : am_Fx p s m args meth c y cc nL ret et X) {a b : Int} (d : decode cc pc = .ok (.isub, 1)) (hp : pc + 1 = pc') (k : V p l e R s m args below meth c nL X Q h nx cells slots pc' L (iV (a - b) :: st)) : V p l e R s m args below meth c nL X Q h nx cells slots pc L (iV b :: iV a :: st) := by
  subst hp
  intro H locs ls hR hL hl
  have k := k H locs ls hR hL hl
  refine lv_isub F.1 F.2.1 d ?_
  rw [← Int32.ofInt_sub]
  exact k
theorem v_imul (F : am_Fx p s m args meth c y cc nL ret et X) {a b : Int} (d : decode cc pc = .ok (.imul, 1)) (hp : pc + 1 = pc') (k : V p l e R s m args below meth c nL X Q h nx cells slots pc' L (iV (a * b) :: st)) : V p l e R s m args below meth c nL X Q h nx cells slots pc L (iV b :: iV a :: st) := by
  subst hp
  intro H locs ls hR hL hl
  have k := k H locs ls hR hL hl
  refine lv_imul F.1 F.2.1 d ?_
  rw [← Int32.ofInt_mul]
  exact k
theorem v_idiv (F : am_Fx p s m args meth c y cc nL ret et X) {a b : Int} (d : decode cc pc = .ok (.idiv, 1)) (hp : pc + 1 = pc') (hb : b ≠ 0) (ra : -2147483648 < a ∧ a < 2147483648) (rb : -2147483648 ≤ b ∧ b < 2147483648) (k : V p l e R s m args below meth c nL X Q h nx cells slots pc' L (iV (a.tdiv b) :: st)) : V p l e R s m args below meth c nL X Q h nx cells slots pc L (iV b :: iV a :: st) := by
  subst hp
  intro H locs ls hR hL hl
  have k := k H locs ls hR hL hl
  refine lv_idiv F.1 F.2.1 d (fun q => hb (by have := congrArg Int32.toInt q; rw [i32_toInt rb] at this; simpa using this)) ?_
  rw [i32_div ra rb]
  exact k
theorem v_ladd (F : am_Fx p s m args meth c y cc nL ret et X) {a b : Int} (d : decode cc pc = .ok (.ladd, 1)) (hp : pc + 1 = pc') (k : V p l e R s m args below meth c nL X Q h nx cells slots pc' L (lV (a + b) :: st)) : V p l e R s m args below meth c nL X Q h nx cells slots pc L (lV b :: lV a :: st) := by
  subst hp
  intro H locs ls hR hL hl
  have k := k H locs ls hR hL hl
  refine lv_ladd F.1 F.2.1 d ?_
  rw [← Int64.ofInt_add]
  exact k
theorem v_lsub (F : am_Fx p s m args meth c y cc nL ret et X) {a b : Int} (d : decode cc pc = .ok (.lsub, 1)) (hp : pc + 1 = pc') (k : V p l e R s m args below meth c nL X Q h nx cells slots pc' L (lV (a - b) :: st)) : V p l e R s m args below meth c nL X Q h nx cells slots pc L (lV b :: lV a :: st) := by
  subst hp
  intro H locs ls hR hL hl
  have k := k H locs ls hR hL hl
  refine lv_lsub F.1 F.2.1 d ?_
  rw [← Int64.ofInt_sub]
  exact k
theorem v_lmul (F : am_Fx p s m args meth c y cc nL ret et X) {a b : Int} (d : decode cc pc = .ok (.lmul, 1)) (hp : pc + 1 = pc') (k : V p l e R s m args below meth c nL X Q h nx cells slots pc' L (lV (a * b) :: st)) : V p l e R s m args below meth c nL X Q h nx cells slots pc L (lV b :: lV a :: st) := by
  subst hp
  intro H locs ls hR hL hl
  have k := k H locs ls hR hL hl
  refine lv_lmul F.1 F.2.1 d ?_
  rw [← Int64.ofInt_mul]
  exact k
theorem v_ldiv (F : am_Fx p s m args meth c y cc nL ret et X) {a b : Int} (d : decode cc pc = .ok (.ldiv, 1)) (hp : pc + 1 = pc') (hb : b ≠ 0) (ra : -9223372036854775808 < a ∧ a < 9223372036854775808) (rb : -9223372036854775808 ≤ b ∧ b < 9223372036854775808) (k : V p l e R s m args below meth c nL X Q h nx cells slots pc' L (lV (a.tdiv b) :: st)) : V p l e R s m args below meth c nL X Q h nx cells slots pc L (lV b :: lV a :: st) := by
  subst hp
  intro H locs ls hR hL hl
  have k := k H locs ls hR hL hl
  refine lv_ldiv F.1 F.2.1 d (fun q => hb (by have := congrArg Int64.toInt q; rw [i64_toInt rb] at this; simpa using this)) ?_
  rw [i64_div ra rb]
  exact k
theorem v_lrem (F : am_Fx p s m args meth c y cc nL ret et X) {a b : Int} (d : decode cc pc = .ok (.lrem, 1)) (hp : pc + 1 = pc') (hb : b ≠ 0) (ra : -9223372036854775808 < a ∧ a < 9223372036854775808) (rb : -9223372036854775808 ≤ b ∧ b < 9223372036854775808) (k : V p l e R s m args below meth c nL X Q h nx cells slots pc' L (lV (a.tmod b) :: st)) : V p l e R s m args below meth c nL X Q h nx cells slots pc L (lV b :: lV a :: st) := by
  subst hp
  intro H locs ls hR hL hl
  refine lv_lrem F.1 F.2.1 d (fun q => hb (by have := congrArg Int64.toInt q; rw [i64_toInt rb] at this; simpa using this)) ?_
  rw [i64_div ra rb, ← Int64.ofInt_mul, ← Int64.ofInt_sub, show a - a.tdiv b * b = a.tmod b by rw [Int.tmod_def, Int.mul_comm]]
  exact k H locs ls hR hL hl
theorem v_i2l (F : am_Fx p s m args meth c y cc nL ret et X) {a : Int} (d : decode cc pc = .ok (.i2l, 1)) (hp : pc + 1 = pc') (ra : -2147483648 ≤ a ∧ a < 2147483648) (k : V p l e R s m args below meth c nL X Q h nx cells slots pc' L (lV a :: st)) : V p l e R s m args below meth c nL X Q h nx cells slots pc L (iV a :: st) := by
  subst hp
  intro H locs ls hR hL hl
  exact lv_i2l F.1 F.2.1 d (i64_of32 ra) (k H locs ls hR hL hl)
theorem v_l2i (F : am_Fx p s m args meth c y cc nL ret et X) {a : Int} (d : decode cc pc = .ok (.l2i, 1)) (hp : pc + 1 = pc') (k : V p l e R s m args below meth c nL X Q h nx cells slots pc' L (iV a :: st)) : V p l e R s m args below meth c nL X Q h nx cells slots pc L (lV a :: st) := by
  subst hp
  intro H locs ls hR hL hl
  exact lv_l2i F.1 F.2.1 d i32_of64 (k H locs ls hR hL hl)
theorem v_lcmp (F : am_Fx p s m args meth c y cc nL ret et X) {a b : Int} (d : decode cc pc = .ok (.lcmp, 1)) (hp : pc + 1 = pc') (ra : -9223372036854775808 ≤ a ∧ a < 9223372036854775808) (rb : -9223372036854775808 ≤ b ∧ b < 9223372036854775808) (k : V p l e R s m args below meth c nL X Q h nx cells slots pc' L (iV (if b < a then 1 else if a = b then 0 else -1) :: st)) : V p l e R s m args below meth c nL X Q h nx cells slots pc L (lV b :: lV a :: st) := by
  subst hp
  intro H locs ls hR hL hl
  refine W.lcmp F.1 F.2.1 d ?_
  have e1 : lg_cmp (Int64.ofInt a) (Int64.ofInt b) = Int32.ofInt (if b < a then 1 else if a = b then 0 else -1) := by
    unfold lg_cmp
    by_cases h1 : b < a
    · rw [if_pos ((i64_lt rb ra).mpr h1), if_pos h1]; rfl
    · rw [if_neg (fun q => h1 ((i64_lt rb ra).mp q)), if_neg h1]
      by_cases h2 : a = b
      · rw [if_pos ((i64_eq ra rb).mpr h2), if_pos h2]; rfl
      · rw [if_neg (fun q => h2 ((i64_eq ra rb).mp q)), if_neg h2]; rfl
  rw [e1]
  exact k H locs ls hR hL hl
theorem v_dup (F : am_Fx p s m args meth c y cc nL ret et X) {v : Value} (d : decode cc pc = .ok (.dup, 1)) (hp : pc + 1 = pc') (hv : v.category = 1) (k : V p l e R s m args below meth c nL X Q h nx cells slots pc' L (v :: v :: st)) : V p l e R s m args below meth c nL X Q h nx cells slots pc L (v :: st) := by
  subst hp
  intro H locs ls hR hL hl
  exact lv_dup F.1 F.2.1 d hv (k H locs ls hR hL hl)
theorem v_dup_x1 (F : am_Fx p s m args meth c y cc nL ret et X) {v w : Value} (d : decode cc pc = .ok (.dup_x1, 1)) (hp : pc + 1 = pc') (hv : v.category = 1) (hw : w.category = 1) (k : V p l e R s m args below meth c nL X Q h nx cells slots pc' L (v :: w :: v :: st)) : V p l e R s m args below meth c nL X Q h nx cells slots pc L (v :: w :: st) := by
  subst hp
  intro H locs ls hR hL hl
  exact lv_dup_x1 F.1 F.2.1 d hv hw (k H locs ls hR hL hl)
theorem v_dup2 (F : am_Fx p s m args meth c y cc nL ret et X) {v w : Value} (d : decode cc pc = .ok (.dup2, 1)) (hp : pc + 1 = pc') (hv : v.category = 1) (hw : w.category = 1) (k : V p l e R s m args below meth c nL X Q h nx cells slots pc' L (v :: w :: v :: w :: st)) : V p l e R s m args below meth c nL X Q h nx cells slots pc L (v :: w :: st) := by
  subst hp
  intro H locs ls hR hL hl
  exact lv_dup2_11 F.1 F.2.1 d hv hw (k H locs ls hR hL hl)
theorem v_pop (F : am_Fx p s m args meth c y cc nL ret et X) {v : Value} (d : decode cc pc = .ok (.pop, 1)) (hp : pc + 1 = pc') (hv : v.category = 1) (k : V p l e R s m args below meth c nL X Q h nx cells slots pc' L st) : V p l e R s m args below meth c nL X Q h nx cells slots pc L (v :: st) := by
  subst hp
  intro H locs ls hR hL hl
  exact lv_pop F.1 F.2.1 d hv (k H locs ls hR hL hl)
theorem v_goto (F : am_Fx p s m args meth c y cc nL ret et X) {off : Int} {tgt : Nat} (d : decode cc pc = .ok (.goto off, 3)) (ht : (pc : Int) + off = (tgt : Int)) (k : V p l e R s m args below meth c nL X Q h nx cells slots tgt L st) : V p l e R s m args below meth c nL X Q h nx cells slots pc L st := fun H locs ls hR hL hl => lv_goto F.1 F.2.1 d ht (k H locs ls hR hL hl)
theorem v_if_eq (F : am_Fx p s m args meth c y cc nL ret et X) {a off : Int} {tgt : Nat} (d : decode cc pc = .ok (.ifCond .eq off, 3)) (ht : (pc : Int) + off = (tgt : Int)) (hp : pc + 3 = pc') (ra : -2147483648 ≤ a ∧ a < 2147483648) (kt : a = 0 → V p l e R s m args below meth c nL X Q h nx cells slots tgt L st) (kf : ¬ (a = 0) → V p l e R s m args below meth c nL X Q h nx cells slots pc' L st) : V p l e R s m args below meth c nL X Q h nx cells slots pc L (iV a :: st) := by
  subst hp
  intro H locs ls hR hL hl
  have hi := i32_eq (b := 0) ra (by omega)
  exact lv_if_eq F.1 F.2.1 d ht (fun q => kt (hi.mp q) H locs ls hR hL hl) (fun q => kf (fun z => q (hi.mpr z)) H locs ls hR hL hl)
theorem v_icmp_eq (F : am_Fx p s m args meth c y cc nL ret et X) {a b off : Int} {tgt : Nat} (d : decode cc pc = .ok (.if_icmp .eq off, 3)) (ht : (pc : Int) + off = (tgt : Int)) (hp : pc + 3 = pc') (ra : -2147483648 ≤ a ∧ a < 2147483648) (rb : -2147483648 ≤ b ∧ b < 2147483648) (kt : a = b → V p l e R s m args below meth c nL X Q h nx cells slots tgt L st) (kf : ¬ (a = b) → V p l e R s m args below meth c nL X Q h nx cells slots pc' L st) : V p l e R s m args below meth c nL X Q h nx cells slots pc L (iV b :: iV a :: st) := by
  subst hp
  intro H locs ls hR hL hl
  have hi := i32_eq ra rb
  exact lv_icmp_eq F.1 F.2.1 d ht (fun q => kt (hi.mp q) H locs ls hR hL hl) (fun q => kf (fun z => q (hi.mpr z)) H locs ls hR hL hl)
theorem v_if_ne (F : am_Fx p s m args meth c y cc nL ret et X) {a off : Int} {tgt : Nat} (d : decode cc pc = .ok (.ifCond .ne off, 3)) (ht : (pc : Int) + off = (tgt : Int)) (hp : pc + 3 = pc') (ra : -2147483648 ≤ a ∧ a < 2147483648) (kt : ¬ a = 0 → V p l e R s m args below meth c nL X Q h nx cells slots tgt L st) (kf : a = 0 → V p l e R s m args below meth c nL X Q h nx cells slots pc' L st) : V p l e R s m args below meth c nL X Q h nx cells slots pc L (iV a :: st) := by
  subst hp
  intro H locs ls hR hL hl
  have hi := not_congr (i32_eq (b := 0) ra (by omega))
  exact lv_if_ne F.1 F.2.1 d ht (fun q => kt (hi.mp q) H locs ls hR hL hl) (fun q => kf (Classical.byContradiction fun z => hi.mpr z q) H locs ls hR hL hl)
theorem v_icmp_ne (F : am_Fx p s m args meth c y cc nL ret et X) {a b off : Int} {tgt : Nat} (d : decode cc pc = .ok (.if_icmp .ne off, 3)) (ht : (pc : Int) + off = (tgt : Int)) (hp : pc + 3 = pc') (ra : -2147483648 ≤ a ∧ a < 2147483648) (rb : -2147483648 ≤ b ∧ b < 2147483648) (kt : ¬ a = b → V p l e R s m args below meth c nL X Q h nx cells slots tgt L st) (kf : a = b → V p l e R s m args below meth c nL X Q h nx cells slots pc' L st) : V p l e R s m args below meth c nL X Q h nx cells slots pc L (iV b :: iV a :: st) := by
  subst hp
  intro H locs ls hR hL hl
  have hi := not_congr (i32_eq ra rb)
  exact lv_icmp_ne F.1 F.2.1 d ht (fun q => kt (hi.mp q) H locs ls hR hL hl) (fun q => kf (Classical.byContradiction fun z => hi.mpr z q) H locs ls hR hL hl)
theorem v_if_lt (F : am_Fx p s m args meth c y cc nL ret et X) {a off : Int} {tgt : Nat} (d : decode cc pc = .ok (.ifCond .lt off, 3)) (ht : (pc : Int) + off = (tgt : Int)) (hp : pc + 3 = pc') (ra : -2147483648 ≤ a ∧ a < 2147483648) (kt : a < 0 → V p l e R s m args below meth c nL X Q h nx cells slots tgt L st) (kf : ¬ (a < 0) → V p l e R s m args below meth c nL X Q h nx cells slots pc' L st) : V p l e R s m args below meth c nL X Q h nx cells slots pc L (iV a :: st) := by
  subst hp
  intro H locs ls hR hL hl
  have hi := i32_lt (b := 0) ra (by omega)
  exact lv_if_lt F.1 F.2.1 d ht (fun q => kt (hi.mp q) H locs ls hR hL hl) (fun q => kf (fun z => q (hi.mpr z)) H locs ls hR hL hl)
theorem v_icmp_lt (F : am_Fx p s m args meth c y cc nL ret et X) {a b off : Int} {tgt : Nat} (d : decode cc pc = .ok (.if_icmp .lt off, 3)) (ht : (pc : Int) + off = (tgt : Int)) (hp : pc + 3 = pc') (ra : -2147483648 ≤ a ∧ a < 2147483648) (rb : -2147483648 ≤ b ∧ b < 2147483648) (kt : a < b → V p l e R s m args below meth c nL X Q h nx cells slots tgt L st) (kf : ¬ (a < b) → V p l e R s m args below meth c nL X Q h nx cells slots pc' L st) : V p l e R s m args below meth c nL X Q h nx cells slots pc L (iV b :: iV a :: st) := by
  subst hp
  intro H locs ls hR hL hl
  have hi := i32_lt ra rb
  exact lv_icmp_lt F.1 F.2.1 d ht (fun q => kt (hi.mp q) H locs ls hR hL hl) (fun q => kf (fun z => q (hi.mpr z)) H locs ls hR hL hl)
theorem v_if_ge (F : am_Fx p s m args meth c y cc nL ret et X) {a off : Int} {tgt : Nat} (d : decode cc pc = .ok (.ifCond .ge off, 3)) (ht : (pc : Int) + off = (tgt : Int)) (hp : pc + 3 = pc') (ra : -2147483648 ≤ a ∧ a < 2147483648) (kt : 0 ≤ a → V p l e R s m args below meth c nL X Q h nx cells slots tgt L st) (kf : ¬ (0 ≤ a) → V p l e R s m args below meth c nL X Q h nx cells slots pc' L st) : V p l e R s m args below meth c nL X Q h nx cells slots pc L (iV a :: st) := by
  subst hp
  intro H locs ls hR hL hl
  have hi := i32_le (a := 0) (by omega) ra
  exact lv_if_ge F.1 F.2.1 d ht (fun q => kt (hi.mp q) H locs ls hR hL hl) (fun q => kf (fun z => q (hi.mpr z)) H locs ls hR hL hl)
theorem v_icmp_ge (F : am_Fx p s m args meth c y cc nL ret et X) {a b off : Int} {tgt : Nat} (d : decode cc pc = .ok (.if_icmp .ge off, 3)) (ht : (pc : Int) + off = (tgt : Int)) (hp : pc + 3 = pc') (ra : -2147483648 ≤ a ∧ a < 2147483648) (rb : -2147483648 ≤ b ∧ b < 2147483648) (kt : b ≤ a → V p l e R s m args below meth c nL X Q h nx cells slots tgt L st) (kf : ¬ (b ≤ a) → V p l e R s m args below meth c nL X Q h nx cells slots pc' L st) : V p l e R s m args below meth c nL X Q h nx cells slots pc L (iV b :: iV a :: st) := by
  subst hp
  intro H locs ls hR hL hl
  have hi := i32_le rb ra
  exact lv_icmp_ge F.1 F.2.1 d ht (fun q => kt (hi.mp q) H locs ls hR hL hl) (fun q => kf (fun z => q (hi.mpr z)) H locs ls hR hL hl)
theorem v_if_gt (F : am_Fx p s m args meth c y cc nL ret et X) {a off : Int} {tgt : Nat} (d : decode cc pc = .ok (.ifCond .gt off, 3)) (ht : (pc : Int) + off = (tgt : Int)) (hp : pc + 3 = pc') (ra : -2147483648 ≤ a ∧ a < 2147483648) (kt : 0 < a → V p l e R s m args below meth c nL X Q h nx cells slots tgt L st) (kf : ¬ (0 < a) → V p l e R s m args below meth c nL X Q h nx cells slots pc' L st) : V p l e R s m args below meth c nL X Q h nx cells slots pc L (iV a :: st) := by
  subst hp
  intro H locs ls hR hL hl
  have hi := i32_lt (a := 0) (by omega) ra
  exact lv_if_gt F.1 F.2.1 d ht (fun q => kt (hi.mp q) H locs ls hR hL hl) (fun q => kf (fun z => q (hi.mpr z)) H locs ls hR hL hl)
theorem v_icmp_gt (F : am_Fx p s m args meth c y cc nL ret et X) {a b off : Int} {tgt : Nat} (d : decode cc pc = .ok (.if_icmp .gt off, 3)) (ht : (pc : Int) + off = (tgt : Int)) (hp : pc + 3 = pc') (ra : -2147483648 ≤ a ∧ a < 2147483648) (rb : -2147483648 ≤ b ∧ b < 2147483648) (kt : b < a → V p l e R s m args below meth c nL X Q h nx cells slots tgt L st) (kf : ¬ (b < a) → V p l e R s m args below meth c nL X Q h nx cells slots pc' L st) : V p l e R s m args below meth c nL X Q h nx cells slots pc L (iV b :: iV a :: st) := by
  subst hp
  intro H locs ls hR hL hl
  have hi := i32_lt rb ra
  exact lv_icmp_gt F.1 F.2.1 d ht (fun q => kt (hi.mp q) H locs ls hR hL hl) (fun q => kf (fun z => q (hi.mpr z)) H locs ls hR hL hl)
theorem v_if_le (F : am_Fx p s m args meth c y cc nL ret et X) {a off : Int} {tgt : Nat} (d : decode cc pc = .ok (.ifCond .le off, 3)) (ht : (pc : Int) + off = (tgt : Int)) (hp : pc + 3 = pc') (ra : -2147483648 ≤ a ∧ a < 2147483648) (kt : a ≤ 0 → V p l e R s m args below meth c nL X Q h nx cells slots tgt L st) (kf : ¬ (a ≤ 0) → V p l e R s m args below meth c nL X Q h nx cells slots pc' L st) : V p l e R s m args below meth c nL X Q h nx cells slots pc L (iV a :: st) := by
  subst hp
  intro H locs ls hR hL hl
  have hi := i32_le (b := 0) ra (by omega)
  exact lv_if_le F.1 F.2.1 d ht (fun q => kt (hi.mp q) H locs ls hR hL hl) (fun q => kf (fun z => q (hi.mpr z)) H locs ls hR hL hl)
theorem v_icmp_le (F : am_Fx p s m args meth c y cc nL ret et X) {a b off : Int} {tgt : Nat} (d : decode cc pc = .ok (.if_icmp .le off, 3)) (ht : (pc : Int) + off = (tgt : Int)) (hp : pc + 3 = pc') (ra : -2147483648 ≤ a ∧ a < 2147483648) (rb : -2147483648 ≤ b ∧ b < 2147483648) (kt : a ≤ b → V p l e R s m args below meth c nL X Q h nx cells slots tgt L st) (kf : ¬ (a ≤ b) → V p l e R s m args below meth c nL X Q h nx cells slots pc' L st) : V p l e R s m args below meth c nL X Q h nx cells slots pc L (iV b :: iV a :: st) := by
  subst hp
  intro H locs ls hR hL hl
  have hi := i32_le ra rb
  exact lv_icmp_le F.1 F.2.1 d ht (fun q => kt (hi.mp q) H locs ls hR hL hl) (fun q => kf (fun z => q (hi.mpr z)) H locs ls hR hL hl)
theorem v_ifnull (F : am_Fx p s m args meth c y cc nL ret et X) {x : Nat} {off : Int} (d : decode cc pc = .ok (.ifnull off, 3)) (hp : pc + 3 = pc') (k : V p l e R s m args below meth c nL X Q h nx cells slots pc' L st) : V p l e R s m args below meth c nL X Q h nx cells slots pc L (.ref x :: st) := by
  subst hp
  intro H locs ls hR hL hl
  exact lv_ifnull F.1 F.2.1 d (k H locs ls hR hL hl)
theorem v_ifnullN (F : am_Fx p s m args meth c y cc nL ret et X) {off : Int} {tgt : Nat} (d : decode cc pc = .ok (.ifnull off, 3)) (ht : (pc : Int) + off = (tgt : Int)) (k : V p l e R s m args below meth c nL X Q h nx cells slots tgt L st) : V p l e R s m args below meth c nL X Q h nx cells slots pc L (.null :: st) := fun H locs ls hR hL hl => lv_ifnullN F.1 F.2.1 d ht (k H locs ls hR hL hl)
theorem v_ifnonnull (F : am_Fx p s m args meth c y cc nL ret et X) {x : Nat} {off : Int} {tgt : Nat} (d : decode cc pc = .ok (.ifnonnull off, 3)) (ht : (pc : Int) + off = (tgt : Int)) (k : V p l e R s m args below meth c nL X Q h nx cells slots tgt L st) : V p l e R s m args below meth c nL X Q h nx cells slots pc L (.ref x :: st) := fun H locs ls hR hL hl => lv_ifnonnull F.1 F.2.1 d ht (k H locs ls hR hL hl)
theorem v_ifnonnullN (F : am_Fx p s m args meth c y cc nL ret et X) {off : Int} (d : decode cc pc = .ok (.ifnonnull off, 3)) (hp : pc + 3 = pc') (k : V p l e R s m args below meth c nL X Q h nx cells slots pc' L st) : V p l e R s m args below meth c nL X Q h nx cells slots pc L (.null :: st) := by
  subst hp
  intro H locs ls hR hL hl
  exact lv_ifnonnullN F.1 F.2.1 d (k H locs ls hR hL hl)
end AM
