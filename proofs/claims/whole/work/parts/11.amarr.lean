/-! arrays as functions of Ints, lcmp with its branch, calls of callees that change nothing (written by wip/whole/mkarr.py) -/
abbrev am_ia (N : Nat) (g : Int → Int) : am_E := .inl (0, N, fun i => iV (g (i : Int)))
abbrev am_la (N : Nat) (g : Int → Int) : am_E := .inl (1, N, fun i => lV (g (i : Int)))
abbrev am_za (N : Nat) (g : Int → Int) : am_E := .inl (4, N, fun i => iV (g (i : Int)))
def upI (g : Int → Int) (z w : Int) : Int → Int := fun i => if i = z then w else g i
theorem upI_s {g : Int → Int} {z w : Int} : upI g z w z = w := if_pos rfl
theorem upI_n {g : Int → Int} {z w i : Int} (h : i ≠ z) : upI g z w i = g i := if_neg h
theorem am_upi {g : Int → Int} {z w : Int} (h0 : 0 ≤ z) : updV (fun i : Nat => iV (g (i : Int))) z.toNat (iV w) = fun i : Nat => iV (upI g z w (i : Int)) := by
  funext i
  unfold updV upI
  by_cases h : i = z.toNat
  · rw [if_pos h, if_pos (by omega)]
  · rw [if_neg h, if_neg (by omega)]
theorem am_upl {g : Int → Int} {z w : Int} (h0 : 0 ≤ z) : updV (fun i : Nat => lV (g (i : Int))) z.toNat (lV w) = fun i : Nat => lV (upI g z w (i : Int)) := by
  funext i
  unfold updV upI
  by_cases h : i = z.toNat
  · rw [if_pos h, if_pos (by omega)]
  · rw [if_neg h, if_neg (by omega)]
/-- the truth of a proposition as an int -/
noncomputable def bI (q : Prop) : Int := @ite Int q (Classical.propDecidable q) 1 0
theorem bI_t {q : Prop} (h : q) : bI q = 1 := if_pos h
theorem bI_f {q : Prop} (h : ¬ q) : bI q = 0 := if_neg h
theorem bI_r (q : Prop) : bI q = 0 ∨ bI q = 1 := by
  by_cases h : q
  · exact Or.inr (bI_t h)
  · exact Or.inl (bI_f h)
theorem bI_1 {q : Prop} : bI q = 1 ↔ q := ⟨fun h => Classical.byContradiction fun n => (by rw [bI_f n] at h; cases h), bI_t⟩
theorem bI_0 {q : Prop} : bI q = 0 ↔ ¬ q := ⟨fun h n => (by rw [bI_t n] at h; cases h), bI_f⟩
theorem bI_c {q r : Prop} (h : q ↔ r) : bI q = bI r := by rw [propext h]
/-- a callee that changes nothing -/
def CnP (l : Launch) (X : am_X) (y : MethodName) (rm : Room) (av : List Value) (h : am_H) (nx : Nat) (r : Value) : Prop := Cn l X y rm av h nx (fun o h' nx' => o = .returned (some r) ∧ h' = h ∧ nx' = nx)

section AMA
variable {p : Program} {l : Launch} {e : Env} {R : Room} {s : State} {m : MethodId} {args : Array Value} {below : List Frame} {meth : Method} {c : Code} {nL : Nat} {X : am_X} {Q : State → Prop}
variable {cc : ByteArray} {y : MethodName} {ret : Option FieldType} {et : List (Nat × Nat × Nat × Nat)} {h : am_H} {nx cells slots pc pc' : Nat} {L : List (Option Value)} {st : List Value}
variable {y' : MethodName} {rm : Room} {av : List Value} {bytes : ByteArray} {maxL index : Nat} {ret' : Option FieldType}
theorem v_iag (F : am_Fx p s m args meth c y cc nL ret et X) {N a : Nat} {g : Int → Int} {z : Int} (d : decode cc pc = .ok (.iaload, 1)) (hp : pc + 1 = pc') (ha : h a = some (am_ia N g)) (hN : N < 2147483648) (h0 : 0 ≤ z) (h1 : z < N) (k : V p l e R s m args below meth c nL X Q h nx cells slots pc' L (iV (g z) :: st)) : V p l e R s m args below meth c nL X Q h nx cells slots pc L (iV z :: .ref a :: st) :=
  v_iald F d hp (ai := 0) (by decide) ha hN h0 h1 (by show iV (g (z.toNat : Int)) = _; rw [Int.toNat_of_nonneg h0]) k
theorem v_iap (F : am_Fx p s m args meth c y cc nL ret et X) {N a : Nat} {g : Int → Int} {z w : Int} (d : decode cc pc = .ok (.iastore, 1)) (hp : pc + 1 = pc') (ha : h a = some (am_ia N g)) (hN : N < 2147483648) (h0 : 0 ≤ z) (h1 : z < N) (k : V p l e R s m args below meth c nL X Q (am_up h a (am_ia N (upI g z w))) nx cells slots pc' L st) : V p l e R s m args below meth c nL X Q h nx cells slots pc L (iV w :: iV z :: .ref a :: st) :=
  v_iast F d hp (ai := 0) (by decide) ha hN h0 h1 (by rw [am_upi h0]; exact k)
theorem v_lag (F : am_Fx p s m args meth c y cc nL ret et X) {N a : Nat} {g : Int → Int} {z : Int} (d : decode cc pc = .ok (.laload, 1)) (hp : pc + 1 = pc') (ha : h a = some (am_la N g)) (hN : N < 2147483648) (h0 : 0 ≤ z) (h1 : z < N) (k : V p l e R s m args below meth c nL X Q h nx cells slots pc' L (lV (g z) :: st)) : V p l e R s m args below meth c nL X Q h nx cells slots pc L (iV z :: .ref a :: st) :=
  v_lald F d hp (ai := 1) (by decide) ha hN h0 h1 (by show lV (g (z.toNat : Int)) = _; rw [Int.toNat_of_nonneg h0]) k
theorem v_lap (F : am_Fx p s m args meth c y cc nL ret et X) {N a : Nat} {g : Int → Int} {z w : Int} (d : decode cc pc = .ok (.lastore, 1)) (hp : pc + 1 = pc') (ha : h a = some (am_la N g)) (hN : N < 2147483648) (h0 : 0 ≤ z) (h1 : z < N) (k : V p l e R s m args below meth c nL X Q (am_up h a (am_la N (upI g z w))) nx cells slots pc' L st) : V p l e R s m args below meth c nL X Q h nx cells slots pc L (lV w :: iV z :: .ref a :: st) :=
  v_last F d hp (ai := 1) (by decide) ha hN h0 h1 (by rw [am_upl h0]; exact k)
theorem v_zag (F : am_Fx p s m args meth c y cc nL ret et X) {N a : Nat} {g : Int → Int} {z : Int} (d : decode cc pc = .ok (.baload, 1)) (hp : pc + 1 = pc') (ha : h a = some (am_za N g)) (hN : N < 2147483648) (h0 : 0 ≤ z) (h1 : z < N) (k : V p l e R s m args below meth c nL X Q h nx cells slots pc' L (iV (g z) :: st)) : V p l e R s m args below meth c nL X Q h nx cells slots pc L (iV z :: .ref a :: st) := by
  subst hp
  intro H locs ls hR hL hl
  obtain ⟨f1, f2, f3, f4, hts, hK0, f7, f8, f9, f10⟩ := F
  have hK := hK0.1
  obtain ⟨i9, hi9⟩ := List.getElem?_of_mem (List.mem_map.mpr ⟨(4, .boolean), by decide, rfl⟩ : (X.2.1 4, FieldType.boolean) ∈ am_ty.map (fun q => (X.2.1 q.1, q.2)))
  obtain ⟨x1, x2⟩ := am_ix h0 h1 hN
  exact W.zald f1 f2 (am_arr hR ha).2 ((hK.2 i9 _ hi9).1 N _) (fun q => by cases q) (by rw [arrV_size]; exact x2) (by rw [x1, arrV_read _ _ (by omega), Int.toNat_of_nonneg h0]) rfl rfl d (k H locs ls hR hL hl)
theorem v_zap (F : am_Fx p s m args meth c y cc nL ret et X) {N a : Nat} {g : Int → Int} {z w : Int} (d : decode cc pc = .ok (.bastore, 1)) (hp : pc + 1 = pc') (ha : h a = some (am_za N g)) (hN : N < 2147483648) (h0 : 0 ≤ z) (h1 : z < N) (hw : w = 0 ∨ w = 1) (k : V p l e R s m args below meth c nL X Q (am_up h a (am_za N (upI g z w))) nx cells slots pc' L st) : V p l e R s m args below meth c nL X Q h nx cells slots pc L (iV w :: iV z :: .ref a :: st) := by
  subst hp
  intro H locs ls hR hL hl
  obtain ⟨f1, f2, f3, f4, hts, hK0, f7, f8, f9, f10⟩ := F
  have hK := hK0.1
  obtain ⟨i9, hi9⟩ := List.getElem?_of_mem (List.mem_map.mpr ⟨(4, .boolean), by decide, rfl⟩ : (X.2.1 4, FieldType.boolean) ∈ am_ty.map (fun q => (X.2.1 q.1, q.2)))
  obtain ⟨x1, x2⟩ := am_ix h0 h1 hN
  obtain ⟨hge, hat⟩ := am_arr hR ha
  refine W.zast f1 f2 hat ((hK.2 i9 _ hi9).1 N _) (fun q => by cases q) (by rw [arrV_size]; exact x2) rfl rfl d fun H1 e1 e2 e3 => ?_
  refine k H1 _ ls (am_R_put hR ha e2 e3 ?_) (am_locs hL hge) hl
  have en : narrow .boolean (iV w) = iV w := by rcases hw with rfl | rfl <;> rfl
  rw [x1] at e1
  first | rw [en, arrV_store, am_upi h0] at e1 | rw [arrV_store, am_upi h0] at e1
  exact e1
theorem v_lc_eq (F : am_Fx p s m args meth c y cc nL ret et X) {a b off : Int} {tgt : Nat} (d : decode cc pc = .ok (.lcmp, 1)) (d2 : decode cc (pc + 1) = .ok (.ifCond .eq off, 3)) (ht : ((pc + 1 : Nat) : Int) + off = (tgt : Int)) (hp : pc + 1 + 3 = pc') (ra : -9223372036854775808 ≤ a ∧ a < 9223372036854775808) (rb : -9223372036854775808 ≤ b ∧ b < 9223372036854775808) (kt : a = b → V p l e R s m args below meth c nL X Q h nx cells slots tgt L st) (kf : ¬ (a = b) → V p l e R s m args below meth c nL X Q h nx cells slots pc' L st) : V p l e R s m args below meth c nL X Q h nx cells slots pc L (lV b :: lV a :: st) := by
  refine v_lcmp F d rfl ra rb ?_
  refine v_if_eq F d2 ht hp ?_ (fun q => kt ?_) (fun q => kf ?_)
  · by_cases h1 : b < a
    · simp only [if_pos h1]; omega
    · by_cases h2 : a = b
      · simp only [if_neg h1, if_pos h2]; omega
      · simp only [if_neg h1, if_neg h2]; omega
  · by_cases h1 : b < a
    · simp only [if_pos h1] at q; omega
    · by_cases h2 : a = b
      · simp only [if_neg h1, if_pos h2] at q; first | omega | exact absurd trivial q
      · simp only [if_neg h1, if_neg h2] at q; omega
  · by_cases h1 : b < a
    · simp only [if_pos h1] at q; omega
    · by_cases h2 : a = b
      · simp only [if_neg h1, if_pos h2] at q; first | omega | exact absurd trivial q
      · simp only [if_neg h1, if_neg h2] at q; omega
theorem v_lc_ne (F : am_Fx p s m args meth c y cc nL ret et X) {a b off : Int} {tgt : Nat} (d : decode cc pc = .ok (.lcmp, 1)) (d2 : decode cc (pc + 1) = .ok (.ifCond .ne off, 3)) (ht : ((pc + 1 : Nat) : Int) + off = (tgt : Int)) (hp : pc + 1 + 3 = pc') (ra : -9223372036854775808 ≤ a ∧ a < 9223372036854775808) (rb : -9223372036854775808 ≤ b ∧ b < 9223372036854775808) (kt : ¬ a = b → V p l e R s m args below meth c nL X Q h nx cells slots tgt L st) (kf : a = b → V p l e R s m args below meth c nL X Q h nx cells slots pc' L st) : V p l e R s m args below meth c nL X Q h nx cells slots pc L (lV b :: lV a :: st) := by
  refine v_lcmp F d rfl ra rb ?_
  refine v_if_ne F d2 ht hp ?_ (fun q => kt ?_) (fun q => kf ?_)
  · by_cases h1 : b < a
    · simp only [if_pos h1]; omega
    · by_cases h2 : a = b
      · simp only [if_neg h1, if_pos h2]; omega
      · simp only [if_neg h1, if_neg h2]; omega
  · by_cases h1 : b < a
    · simp only [if_pos h1] at q; omega
    · by_cases h2 : a = b
      · simp only [if_neg h1, if_pos h2] at q; first | omega | exact absurd trivial q
      · simp only [if_neg h1, if_neg h2] at q; omega
  · by_cases h1 : b < a
    · simp only [if_pos h1] at q; omega
    · by_cases h2 : a = b
      · simp only [if_neg h1, if_pos h2] at q; first | omega | exact absurd trivial q
      · simp only [if_neg h1, if_neg h2] at q; omega
theorem v_lc_lt (F : am_Fx p s m args meth c y cc nL ret et X) {a b off : Int} {tgt : Nat} (d : decode cc pc = .ok (.lcmp, 1)) (d2 : decode cc (pc + 1) = .ok (.ifCond .lt off, 3)) (ht : ((pc + 1 : Nat) : Int) + off = (tgt : Int)) (hp : pc + 1 + 3 = pc') (ra : -9223372036854775808 ≤ a ∧ a < 9223372036854775808) (rb : -9223372036854775808 ≤ b ∧ b < 9223372036854775808) (kt : a < b → V p l e R s m args below meth c nL X Q h nx cells slots tgt L st) (kf : ¬ (a < b) → V p l e R s m args below meth c nL X Q h nx cells slots pc' L st) : V p l e R s m args below meth c nL X Q h nx cells slots pc L (lV b :: lV a :: st) := by
  refine v_lcmp F d rfl ra rb ?_
  refine v_if_lt F d2 ht hp ?_ (fun q => kt ?_) (fun q => kf ?_)
  · by_cases h1 : b < a
    · simp only [if_pos h1]; omega
    · by_cases h2 : a = b
      · simp only [if_neg h1, if_pos h2]; omega
      · simp only [if_neg h1, if_neg h2]; omega
  · by_cases h1 : b < a
    · simp only [if_pos h1] at q; omega
    · by_cases h2 : a = b
      · simp only [if_neg h1, if_pos h2] at q; first | omega | exact absurd trivial q
      · simp only [if_neg h1, if_neg h2] at q; omega
  · by_cases h1 : b < a
    · simp only [if_pos h1] at q; omega
    · by_cases h2 : a = b
      · simp only [if_neg h1, if_pos h2] at q; first | omega | exact absurd trivial q
      · simp only [if_neg h1, if_neg h2] at q; omega
theorem v_lc_ge (F : am_Fx p s m args meth c y cc nL ret et X) {a b off : Int} {tgt : Nat} (d : decode cc pc = .ok (.lcmp, 1)) (d2 : decode cc (pc + 1) = .ok (.ifCond .ge off, 3)) (ht : ((pc + 1 : Nat) : Int) + off = (tgt : Int)) (hp : pc + 1 + 3 = pc') (ra : -9223372036854775808 ≤ a ∧ a < 9223372036854775808) (rb : -9223372036854775808 ≤ b ∧ b < 9223372036854775808) (kt : b ≤ a → V p l e R s m args below meth c nL X Q h nx cells slots tgt L st) (kf : ¬ (b ≤ a) → V p l e R s m args below meth c nL X Q h nx cells slots pc' L st) : V p l e R s m args below meth c nL X Q h nx cells slots pc L (lV b :: lV a :: st) := by
  refine v_lcmp F d rfl ra rb ?_
  refine v_if_ge F d2 ht hp ?_ (fun q => kt ?_) (fun q => kf ?_)
  · by_cases h1 : b < a
    · simp only [if_pos h1]; omega
    · by_cases h2 : a = b
      · simp only [if_neg h1, if_pos h2]; omega
      · simp only [if_neg h1, if_neg h2]; omega
  · by_cases h1 : b < a
    · simp only [if_pos h1] at q; omega
    · by_cases h2 : a = b
      · simp only [if_neg h1, if_pos h2] at q; first | omega | exact absurd trivial q
      · simp only [if_neg h1, if_neg h2] at q; omega
  · by_cases h1 : b < a
    · simp only [if_pos h1] at q; omega
    · by_cases h2 : a = b
      · simp only [if_neg h1, if_pos h2] at q; first | omega | exact absurd trivial q
      · simp only [if_neg h1, if_neg h2] at q; omega
theorem v_lc_gt (F : am_Fx p s m args meth c y cc nL ret et X) {a b off : Int} {tgt : Nat} (d : decode cc pc = .ok (.lcmp, 1)) (d2 : decode cc (pc + 1) = .ok (.ifCond .gt off, 3)) (ht : ((pc + 1 : Nat) : Int) + off = (tgt : Int)) (hp : pc + 1 + 3 = pc') (ra : -9223372036854775808 ≤ a ∧ a < 9223372036854775808) (rb : -9223372036854775808 ≤ b ∧ b < 9223372036854775808) (kt : b < a → V p l e R s m args below meth c nL X Q h nx cells slots tgt L st) (kf : ¬ (b < a) → V p l e R s m args below meth c nL X Q h nx cells slots pc' L st) : V p l e R s m args below meth c nL X Q h nx cells slots pc L (lV b :: lV a :: st) := by
  refine v_lcmp F d rfl ra rb ?_
  refine v_if_gt F d2 ht hp ?_ (fun q => kt ?_) (fun q => kf ?_)
  · by_cases h1 : b < a
    · simp only [if_pos h1]; omega
    · by_cases h2 : a = b
      · simp only [if_neg h1, if_pos h2]; omega
      · simp only [if_neg h1, if_neg h2]; omega
  · by_cases h1 : b < a
    · simp only [if_pos h1] at q; omega
    · by_cases h2 : a = b
      · simp only [if_neg h1, if_pos h2] at q; first | omega | exact absurd trivial q
      · simp only [if_neg h1, if_neg h2] at q; omega
  · by_cases h1 : b < a
    · simp only [if_pos h1] at q; omega
    · by_cases h2 : a = b
      · simp only [if_neg h1, if_pos h2] at q; first | omega | exact absurd trivial q
      · simp only [if_neg h1, if_neg h2] at q; omega
theorem v_lc_le (F : am_Fx p s m args meth c y cc nL ret et X) {a b off : Int} {tgt : Nat} (d : decode cc pc = .ok (.lcmp, 1)) (d2 : decode cc (pc + 1) = .ok (.ifCond .le off, 3)) (ht : ((pc + 1 : Nat) : Int) + off = (tgt : Int)) (hp : pc + 1 + 3 = pc') (ra : -9223372036854775808 ≤ a ∧ a < 9223372036854775808) (rb : -9223372036854775808 ≤ b ∧ b < 9223372036854775808) (kt : a ≤ b → V p l e R s m args below meth c nL X Q h nx cells slots tgt L st) (kf : ¬ (a ≤ b) → V p l e R s m args below meth c nL X Q h nx cells slots pc' L st) : V p l e R s m args below meth c nL X Q h nx cells slots pc L (lV b :: lV a :: st) := by
  refine v_lcmp F d rfl ra rb ?_
  refine v_if_le F d2 ht hp ?_ (fun q => kt ?_) (fun q => kf ?_)
  · by_cases h1 : b < a
    · simp only [if_pos h1]; omega
    · by_cases h2 : a = b
      · simp only [if_neg h1, if_pos h2]; omega
      · simp only [if_neg h1, if_neg h2]; omega
  · by_cases h1 : b < a
    · simp only [if_pos h1] at q; omega
    · by_cases h2 : a = b
      · simp only [if_neg h1, if_pos h2] at q; first | omega | exact absurd trivial q
      · simp only [if_neg h1, if_neg h2] at q; omega
  · by_cases h1 : b < a
    · simp only [if_pos h1] at q; omega
    · by_cases h2 : a = b
      · simp only [if_neg h1, if_pos h2] at q; first | omega | exact absurd trivial q
      · simp only [if_neg h1, if_neg h2] at q; omega
theorem v_lc_ne0 (F : am_Fx p s m args meth c y cc nL ret et X) {a off : Int} {tgt : Nat} (d : decode cc pc = .ok (.lcmp, 1)) (d2 : decode cc (pc + 1) = .ok (.ifCond .eq off, 3)) (ht : ((pc + 1 : Nat) : Int) + off = (tgt : Int)) (k : V p l e R s m args below meth c nL X Q h nx cells slots tgt L st) : V p l e R s m args below meth c nL X Q h nx cells slots pc L (lV a :: lV a :: st) := by
  intro H locs ls hR hL hl
  refine W.lcmp F.1 F.2.1 d ?_
  have e1 : lg_cmp (Int64.ofInt a) (Int64.ofInt a) = 0 := (lg_cmp_eq _ _).mpr rfl
  rw [e1]
  exact lv_if_eq F.1 F.2.1 d2 ht (fun _ => k H locs ls hR hL hl) (fun q => absurd rfl q)
theorem v_callSP (F : am_Fx p s m args meth c y cc nL ret et X) {st0 : List Value} {r : Value} (d : decode cc pc = .ok (.invokestatic index, 3)) (hp : pc + 3 = pc') (hcal : am_cal y' bytes maxL ret' av.length) (hlink : Cond.methodLink y.cls index y' ∈ lw_tbl) (hstat : Cond.static y' ∈ lw_tbl) (hC : CnP l X y' rm av h nx r) (hst : st0 = av.reverse ++ st) (hfit : am_fit R rm maxL cells slots) (hw : (st.map fun v => v.category).sum ≤ 8) (h1 : rm.cells = 0) (h2 : rm.slots = 0) (k : V p l e R s m args below meth c nL X Q h nx cells slots pc' L (r :: st)) : V p l e R s m args below meth c nL X Q h nx cells slots pc L st0 :=
  v_callS F d hp hcal hlink hstat hC hst hfit hw (fun _ _ _ q => by cases q.1) (fun v h' nx' q => by
    obtain ⟨q1, rfl, rfl⟩ := q
    cases q1
    rw [h1, h2]
    exact k)
theorem v_callSNP (F : am_Fx p s m args meth c y cc nL ret et X) {st0 : List Value} {r : Value} {host : String} (d : decode cc pc = .ok (.invokestatic index, 3)) (hp : pc + 3 = pc') (hcal : am_cal y' bytes maxL ret' av.length) (hlink : Cond.methodLinkNest y.cls index y' host ∈ lw_tbl) (hstat : Cond.static y' ∈ lw_tbl) (hC : CnP l X y' rm av h nx r) (hst : st0 = av.reverse ++ st) (hfit : am_fit R rm maxL cells slots) (hw : (st.map fun v => v.category).sum ≤ 8) (h1 : rm.cells = 0) (h2 : rm.slots = 0) (k : V p l e R s m args below meth c nL X Q h nx cells slots pc' L (r :: st)) : V p l e R s m args below meth c nL X Q h nx cells slots pc L st0 :=
  v_callSN F d hp hcal hlink hstat hC hst hfit hw (fun _ _ _ q => by cases q.1) (fun v h' nx' q => by
    obtain ⟨q1, rfl, rfl⟩ := q
    cases q1
    rw [h1, h2]
    exact k)
theorem v_callVP (F : am_Fx p s m args meth c y cc nL ret et X) {st0 : List Value} {r : Value} {b ci : Nat} {fs : List Value} {C : String} {T9 : u_T} {N : Nat} (d : decode cc pc = .ok (.invokevirtual index, 3)) (hp : pc + 3 = pc') (hcal : am_cal y' bytes maxL ret' av.length) (hlink : Cond.methodLink y.cls index y' ∈ lw_tbl) (hinst : Cond.instanceMethod y' ∈ lw_tbl) (hsel : Cond.selects C y' y' ∈ lw_tbl) (hc : am_cl[ci]? = some (C, T9, N)) (hb : h b = some (.inr (ci, fs))) (hC : CnP l X y' rm (.ref b :: av) h nx r) (hst : st0 = av.reverse ++ .ref b :: st) (hfit : am_fit R rm maxL cells slots) (hw : (st.map fun v => v.category).sum ≤ 8) (h1 : rm.cells = 0) (h2 : rm.slots = 0) (k : V p l e R s m args below meth c nL X Q h nx cells slots pc' L (r :: st)) : V p l e R s m args below meth c nL X Q h nx cells slots pc L st0 :=
  v_callV F d hp hcal hlink hinst hsel hc hb hC hst hfit hw (fun _ _ _ q => by cases q.1) (fun v h' nx' q => by
    obtain ⟨q1, rfl, rfl⟩ := q
    cases q1
    rw [h1, h2]
    exact k)
theorem v_ldc (F : am_Fx p s m args meth c y cc nL ret et X) {z : Int} {w : Int32} (d : decode cc pc = .ok (.ldc index, 2)) (hp : pc + 2 = pc') (hk : Cond.constant y.cls index w ∈ lw_tbl) (hw : w = Int32.ofInt z) (k : V p l e R s m args below meth c nL X Q h nx cells slots pc' L (iV z :: st)) : V p l e R s m args below meth c nL X Q h nx cells slots pc L st := by
  subst hp hw
  intro H locs ls hR hL hl
  exact lv_ldc F.1 F.2.1 F.2.2.2.1 (F.2.2.2.2.1 _ (am_in hk rfl)) d (k H locs ls hR hL hl)
theorem v_ldc2 (F : am_Fx p s m args meth c y cc nL ret et X) {z : Int} {w : Int64} (d : decode cc pc = .ok (.ldc2_w index, 3)) (hp : pc + 3 = pc') (hk : Cond.constantLong y.cls index w ∈ lw_tbl) (hw : w = Int64.ofInt z) (k : V p l e R s m args below meth c nL X Q h nx cells slots pc' L (lV z :: st)) : V p l e R s m args below meth c nL X Q h nx cells slots pc L st := by
  subst hp hw
  intro H locs ls hR hL hl
  exact lv_ldc2 F.1 F.2.1 F.2.2.2.1 (F.2.2.2.2.1 _ (am_in hk rfl)) d (k H locs ls hR hL hl)
/-- another name for a number on top -/
theorem v_topi {a b : Int} (hab : a = b) (k : V p l e R s m args below meth c nL X Q h nx cells slots pc L (iV b :: st)) : V p l e R s m args below meth c nL X Q h nx cells slots pc L (iV a :: st) := by rw [hab]; exact k
theorem v_topl {a b : Int} (hab : a = b) (k : V p l e R s m args below meth c nL X Q h nx cells slots pc L (lV b :: st)) : V p l e R s m args below meth c nL X Q h nx cells slots pc L (lV a :: st) := by rw [hab]; exact k
end AMA
