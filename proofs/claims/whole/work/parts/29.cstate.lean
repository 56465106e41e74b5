/-! the class's cells as a picture of a state (written by wip/whole/mkclass.py): the cells are named by tags; P gives a tag's address; fields of M from 28 on are the class's own -/
abbrev Tg : Type := Nat × Int
/-- a row of a field: w places from w * f on -/
def rowI (M : MS) (k : Nat) (w f : Int) : Int → Int := fun i => if 0 ≤ i ∧ i < w then M k (w * f + i) else 0
theorem rowI_in {M : MS} {k : Nat} {w f i : Int} (h : 0 ≤ i ∧ i < w) : rowI M k w f i = M k (w * f + i) := if_pos h
theorem rowI_up {M : MS} {k : Nat} {w f z v : Int} (hz : 0 ≤ z ∧ z < w) : rowI (upM M k (w * f + z) v) k w f = upI (rowI M k w f) z v := by
  funext i
  show (if 0 ≤ i ∧ i < w then upM M k (w * f + z) v k (w * f + i) else 0) = (if i = z then v else if 0 ≤ i ∧ i < w then M k (w * f + i) else 0)
  by_cases h : 0 ≤ i ∧ i < w
  · rw [if_pos h, if_pos h]
    by_cases hi : i = z
    · rw [if_pos hi, hi, upM_ss]
    · rw [if_neg hi, upM_sn (by omega)]
  · rw [if_neg h, if_neg h, if_neg (fun q => h (by rw [q]; exact hz))]
theorem rowI_n {M : MS} {k : Nat} {w f g z v : Int} (hz : 0 ≤ z ∧ z < w) (hg : g ≠ f) : rowI (upM M k (w * f + z) v) k w g = rowI M k w g := by
  funext i
  unfold rowI
  by_cases h : 0 ≤ i ∧ i < w
  · rw [if_pos h, if_pos h]
    refine upM_sn (fun q => hg ?_)
    have h1 : (w * g + i) / w = g := by rw [Int.add_comm, Int.add_mul_ediv_left _ _ (by omega), Int.ediv_eq_zero_of_lt h.1 h.2]; omega
    have h2 : (w * f + z) / w = f := by rw [Int.add_comm, Int.add_mul_ediv_left _ _ (by omega), Int.ediv_eq_zero_of_lt hz.1 hz.2]; omega
    rw [← h1, ← h2, q]
  · rw [if_neg h, if_neg h]
/-- costs, as the class lays them -/
def cosI (M : MS) : Int → Int := fun j => if 0 ≤ j ∧ j < 40 then M 18 (4 * (j % 10) + j / 10) else 0
theorem cosI_in {M : MS} {k a : Int} (h : (0 ≤ k ∧ k ≤ 3) ∧ 0 ≤ a ∧ a ≤ 9) : cosI M (k * 10 + a) = M 18 (4 * a + k) := by
  unfold cosI
  rw [if_pos (by omega), show (k * 10 + a) % 10 = a by omega, show (k * 10 + a) / 10 = k by omega]
theorem cosI_up {M : MS} {k a v : Int} (h : (0 ≤ k ∧ k ≤ 3) ∧ 0 ≤ a ∧ a ≤ 9) : cosI (upM M 18 (4 * a + k) v) = upI (cosI M) (k * 10 + a) v := by
  funext j
  show (if 0 ≤ j ∧ j < 40 then upM M 18 (4 * a + k) v 18 (4 * (j % 10) + j / 10) else 0) = (if j = k * 10 + a then v else if 0 ≤ j ∧ j < 40 then M 18 (4 * (j % 10) + j / 10) else 0)
  by_cases hj : 0 ≤ j ∧ j < 40
  · rw [if_pos hj, if_pos hj]
    by_cases hi : j = k * 10 + a
    · rw [if_pos hi, hi, show (k * 10 + a) % 10 = a by omega, show (k * 10 + a) / 10 = k by omega, upM_ss]
    · rw [if_neg hi, upM_sn (by omega)]
  · rw [if_neg hj, if_neg hj, if_neg (by omega)]
def flC (P : Tg → Nat) (f a b c t w d : Int) : am_E := .inr (1, [iV a, iV b, .ref (P (7, f)), .ref (P (9, f)), iV c, .ref (P (10, f)), .ref (P (11, f)), iV t, lV w, lV d])
def mtC (P : Tg → Nat) (m k a b t r : Int) : am_E := .inr (2, [iV k, iV a, iV b, iV t, iV r, .ref (P (13, m)), .ref (P (14, m)), .ref (P (15, m))])
def blC (P : Tg → Nat) (b w : Int) : am_E := .inr (3, [.ref (P (17, b)), .ref (P (18, b)), lV w])
/-- what the three lists hold -/
def elt (M : MS) (k i : Int) : Tg := if k = 0 then (6, i) else if k = 1 then (6, M 32 i) else (12, i)
def refs (P : Tg → Nat) (g : Int → Tg) (n : Int) : Nat → Value := fun i => if (i : Int) < n then .ref (P (g i)) else .null
/-- a flat's bills -/
def bsF (P : Tg → Nat) (M : MS) (i : Int) : Nat → Value := fun a => if (a : Int) < 10 ∧ i < M 21 (a : Int) then .ref (P (16, 20 * (a : Int) + i)) else .null
/-- which tags are there -/
def Lv (M : MS) (t : Tg) : Prop := match t.1 with
  | 0 => t.2 = 0
  | 1 => t.2 = 0
  | 2 => t.2 = 0
  | 3 => t.2 = 0
  | 4 => 0 ≤ t.2 ∧ t.2 < 3
  | 5 => (0 ≤ t.2 ∧ t.2 < 3) ∧ 0 < M 36 t.2
  | 6 => 0 ≤ t.2 ∧ t.2 < M 1 0
  | 7 => 0 ≤ t.2 ∧ t.2 < M 1 0
  | 8 => (0 ≤ t.2 ∧ t.2 < M 1 0) ∧ 0 < M 35 t.2
  | 9 => 0 ≤ t.2 ∧ t.2 < M 1 0
  | 10 => 0 ≤ t.2 ∧ t.2 < M 1 0
  | 11 => 0 ≤ t.2 ∧ t.2 < M 1 0
  | 12 => 0 ≤ t.2 ∧ t.2 < M 7 0
  | 13 => 0 ≤ t.2 ∧ t.2 < M 7 0
  | 14 => 0 ≤ t.2 ∧ t.2 < M 7 0
  | 15 => 0 ≤ t.2 ∧ t.2 < M 7 0
  | 16 => (0 ≤ t.2 ∧ t.2 < 200) ∧ t.2 % 20 < M 21 (t.2 / 20)
  | 17 => (0 ≤ t.2 ∧ t.2 < 200) ∧ t.2 % 20 < M 21 (t.2 / 20)
  | 18 => (0 ≤ t.2 ∧ t.2 < 200) ∧ t.2 % 20 < M 21 (t.2 / 20)
  | _ => False
def cellC (X : am_X) (P : Tg → Nat) (M : MS) (t : Tg) : am_E := match t.1 with
  | 0 => .inr (0, [.ref (P (4, 0)), .ref (P (4, 1)), .ref (P (4, 2)), .ref (P (1, 0)), .ref (P (2, 0)), .ref (P (3, 0))])
  | 1 => am_ia 40 (cosI M)
  | 2 => am_ia 4 (M 19)
  | 3 => am_ia 10 (M 20)
  | 4 => .inr (5, [.ref (if 0 < M 36 t.2 then P (5, t.2) else X.2.2.2), iV (M 36 t.2), iV (M 38 t.2)])
  | 5 => .inl (2, (M 37 t.2).toNat, refs P (elt M t.2) (M 36 t.2))
  | 6 => flC P t.2 (M 2 t.2) (M 3 t.2) (M 4 t.2) (M 28 t.2) (M 29 t.2) (M 30 t.2)
  | 7 => .inr (5, [.ref (if 0 < M 35 t.2 then P (8, t.2) else X.2.2.2), iV (M 35 t.2), iV (M 40 t.2)])
  | 8 => .inl (2, (M 39 t.2).toNat, refs P (fun j => ((12, M 34 (60 * t.2 + j)) : Tg)) (M 35 t.2))
  | 9 => am_ia 12 (rowI M 5 12 t.2)
  | 10 => am_la 10 (rowI M 6 10 t.2)
  | 11 => .inl (3, 10, bsF P M t.2)
  | 12 => mtC P t.2 (M 9 t.2) (M 10 t.2) (M 11 t.2) (M 12 t.2) (M 13 t.2)
  | 13 => am_ia 40 (rowI M 14 40 t.2)
  | 14 => am_ia 40 (rowI M 15 40 t.2)
  | 15 => am_ia 40 (rowI M 33 40 t.2)
  | 16 => blC P t.2 (M 31 t.2)
  | 17 => am_la 4 (rowI M 23 4 t.2)
  | 18 => am_la 4 (rowI M 24 4 t.2)
  | _ => am_ia 0 (M 0)
/-- the object at x is in the state M; A: where it may lie -/
def RepC (X : am_X) (x : Nat) (A : Nat → Prop) (P : Tg → Nat) (M : MS) (h : am_H) : Prop := P (0, 0) = x ∧ (∀ t, Lv M t → h (P t) = some (cellC X P M t)) ∧ (∀ t t', Lv M t → Lv M t' → P t = P t' → t = t') ∧ (∀ t, Lv M t → A (P t))
theorem RepC.top {X : am_X} {x : Nat} {A : Nat → Prop} {P : Tg → Nat} {M : MS} {h : am_H} (hC : RepC X x A P M h) : P (0, 0) = x := hC.1
theorem RepC.at_ {X : am_X} {x : Nat} {A : Nat → Prop} {P : Tg → Nat} {M : MS} {h : am_H} (hC : RepC X x A P M h) (t : Tg) (ht : Lv M t) : h (P t) = some (cellC X P M t) := hC.2.1 t ht
theorem RepC.inj {X : am_X} {x : Nat} {A : Nat → Prop} {P : Tg → Nat} {M : MS} {h : am_H} (hC : RepC X x A P M h) (t t' : Tg) (ht : Lv M t) (ht' : Lv M t') (e : P t = P t') : t = t' := hC.2.2.1 t t' ht ht' e
theorem RepC.own {X : am_X} {x : Nat} {A : Nat → Prop} {P : Tg → Nat} {M : MS} {h : am_H} (hC : RepC X x A P M h) (t : Tg) (ht : Lv M t) : A (P t) := hC.2.2.2 t ht
/-- nothing but what may be the object's has changed -/
def OF (A : Nat → Prop) (h h' : am_H) : Prop := ∀ a, ¬ A a → h' a = h a
theorem OF.rf {A : Nat → Prop} {h : am_H} : OF A h h := fun _ _ => rfl
theorem OF.tr {A : Nat → Prop} {h h1 h2 : am_H} (a : OF A h h1) (b : OF A h1 h2) : OF A h h2 := fun q hq => (b q hq).trans (a q hq)
theorem RepC.sub {X : am_X} {x : Nat} {A : Nat → Prop} {P : Tg → Nat} {M : MS} {h h' : am_H} (hC : RepC X x A P M h) (hs : ∀ a, A a → (∃ e, h a = some e) → h' a = h a) : RepC X x A P M h' := ⟨hC.top, fun t ht => (hs _ (hC.own t ht) ⟨_, hC.at_ t ht⟩).trans (hC.at_ t ht), hC.inj, hC.own⟩
theorem RepC.put {X : am_X} {x : Nat} {A : Nat → Prop} {P : Tg → Nat} {M M' : MS} {h : am_H} {t : Tg} {e : am_E} (hC : RepC X x A P M h) (ht : Lv M t) (hl : ∀ t', Lv M' t' → Lv M t') (he : e = cellC X P M' t) (ho : ∀ t', t' ≠ t → Lv M t' → cellC X P M' t' = cellC X P M t') : RepC X x A P M' (am_up h (P t) e) ∧ OF A h (am_up h (P t) e) := by
  refine ⟨⟨hC.top, fun t' ht' => ?_, fun a b ha hb => hC.inj a b (hl a ha) (hl b hb), fun a ha => hC.own a (hl a ha)⟩, fun a ha => am_up_n (fun q => ha (by rw [q]; exact hC.own t ht))⟩
  by_cases h1 : t' = t
  · subst h1; rw [am_up_s, he]
  · rw [am_up_n (fun q => h1 (hC.inj _ _ (hl _ ht') ht q)), hC.at_ t' (hl _ ht'), ho t' h1 (hl _ ht')]
theorem RepC.t_top {X : am_X} {x : Nat} {A : Nat → Prop} {P : Tg → Nat} {M : MS} {h : am_H} (hC : RepC X x A P M h) : h (P (0, 0)) = some (.inr (0, [.ref (P (4, 0)), .ref (P (4, 1)), .ref (P (4, 2)), .ref (P (1, 0)), .ref (P (2, 0)), .ref (P (3, 0))])) := hC.at_ (0, 0) rfl
theorem RepC.t_cost {X : am_X} {x : Nat} {A : Nat → Prop} {P : Tg → Nat} {M : MS} {h : am_H} (hC : RepC X x A P M h) : h (P (1, 0)) = some (am_ia 40 (cosI M)) := hC.at_ (1, 0) rfl
theorem RepC.t_bas {X : am_X} {x : Nat} {A : Nat → Prop} {P : Tg → Nat} {M : MS} {h : am_H} (hC : RepC X x A P M h) : h (P (2, 0)) = some (am_ia 4 (M 19)) := hC.at_ (2, 0) rfl
theorem RepC.t_eds {X : am_X} {x : Nat} {A : Nat → Prop} {P : Tg → Nat} {M : MS} {h : am_H} (hC : RepC X x A P M h) : h (P (3, 0)) = some (am_ia 10 (M 20)) := hC.at_ (3, 0) rfl
theorem RepC.t_ls {X : am_X} {x : Nat} {A : Nat → Prop} {P : Tg → Nat} {M : MS} {h : am_H} (hC : RepC X x A P M h) {i : Int} (hi : 0 ≤ i ∧ i < 3) : h (P (4, i)) = some (.inr (5, [.ref (if 0 < M 36 i then P (5, i) else X.2.2.2), iV (M 36 i), iV (M 38 i)])) := hC.at_ (4, i) hi
theorem RepC.t_la {X : am_X} {x : Nat} {A : Nat → Prop} {P : Tg → Nat} {M : MS} {h : am_H} (hC : RepC X x A P M h) {i : Int} (hi : (0 ≤ i ∧ i < 3) ∧ 0 < M 36 i) : h (P (5, i)) = some (.inl (2, (M 37 i).toNat, refs P (elt M i) (M 36 i))) := hC.at_ (5, i) hi
theorem RepC.t_fl {X : am_X} {x : Nat} {A : Nat → Prop} {P : Tg → Nat} {M : MS} {h : am_H} (hC : RepC X x A P M h) {i : Int} (hi : 0 ≤ i ∧ i < M 1 0) : h (P (6, i)) = some (flC P i (M 2 i) (M 3 i) (M 4 i) (M 28 i) (M 29 i) (M 30 i)) := hC.at_ (6, i) hi
theorem RepC.t_fm {X : am_X} {x : Nat} {A : Nat → Prop} {P : Tg → Nat} {M : MS} {h : am_H} (hC : RepC X x A P M h) {i : Int} (hi : 0 ≤ i ∧ i < M 1 0) : h (P (7, i)) = some (.inr (5, [.ref (if 0 < M 35 i then P (8, i) else X.2.2.2), iV (M 35 i), iV (M 40 i)])) := hC.at_ (7, i) hi
theorem RepC.t_fa {X : am_X} {x : Nat} {A : Nat → Prop} {P : Tg → Nat} {M : MS} {h : am_H} (hC : RepC X x A P M h) {i : Int} (hi : (0 ≤ i ∧ i < M 1 0) ∧ 0 < M 35 i) : h (P (8, i)) = some (.inl (2, (M 39 i).toNat, refs P (fun j => ((12, M 34 (60 * i + j)) : Tg)) (M 35 i))) := hC.at_ (8, i) hi
theorem RepC.t_mv {X : am_X} {x : Nat} {A : Nat → Prop} {P : Tg → Nat} {M : MS} {h : am_H} (hC : RepC X x A P M h) {i : Int} (hi : 0 ≤ i ∧ i < M 1 0) : h (P (9, i)) = some (am_ia 12 (rowI M 5 12 i)) := hC.at_ (9, i) hi
theorem RepC.t_pd {X : am_X} {x : Nat} {A : Nat → Prop} {P : Tg → Nat} {M : MS} {h : am_H} (hC : RepC X x A P M h) {i : Int} (hi : 0 ≤ i ∧ i < M 1 0) : h (P (10, i)) = some (am_la 10 (rowI M 6 10 i)) := hC.at_ (10, i) hi
theorem RepC.t_bs {X : am_X} {x : Nat} {A : Nat → Prop} {P : Tg → Nat} {M : MS} {h : am_H} (hC : RepC X x A P M h) {i : Int} (hi : 0 ≤ i ∧ i < M 1 0) : h (P (11, i)) = some (.inl (3, 10, bsF P M i)) := hC.at_ (11, i) hi
theorem RepC.t_mt {X : am_X} {x : Nat} {A : Nat → Prop} {P : Tg → Nat} {M : MS} {h : am_H} (hC : RepC X x A P M h) {i : Int} (hi : 0 ≤ i ∧ i < M 7 0) : h (P (12, i)) = some (mtC P i (M 9 i) (M 10 i) (M 11 i) (M 12 i) (M 13 i)) := hC.at_ (12, i) hi
theorem RepC.t_dy {X : am_X} {x : Nat} {A : Nat → Prop} {P : Tg → Nat} {M : MS} {h : am_H} (hC : RepC X x A P M h) {i : Int} (hi : 0 ≤ i ∧ i < M 7 0) : h (P (13, i)) = some (am_ia 40 (rowI M 14 40 i)) := hC.at_ (13, i) hi
theorem RepC.t_vl {X : am_X} {x : Nat} {A : Nat → Prop} {P : Tg → Nat} {M : MS} {h : am_H} (hC : RepC X x A P M h) {i : Int} (hi : 0 ≤ i ∧ i < M 7 0) : h (P (14, i)) = some (am_ia 40 (rowI M 15 40 i)) := hC.at_ (14, i) hi
theorem RepC.t_st {X : am_X} {x : Nat} {A : Nat → Prop} {P : Tg → Nat} {M : MS} {h : am_H} (hC : RepC X x A P M h) {i : Int} (hi : 0 ≤ i ∧ i < M 7 0) : h (P (15, i)) = some (am_ia 40 (rowI M 33 40 i)) := hC.at_ (15, i) hi
theorem RepC.t_bl {X : am_X} {x : Nat} {A : Nat → Prop} {P : Tg → Nat} {M : MS} {h : am_H} (hC : RepC X x A P M h) {i : Int} (hi : (0 ≤ i ∧ i < 200) ∧ i % 20 < M 21 (i / 20)) : h (P (16, i)) = some (blC P i (M 31 i)) := hC.at_ (16, i) hi
theorem RepC.t_bb {X : am_X} {x : Nat} {A : Nat → Prop} {P : Tg → Nat} {M : MS} {h : am_H} (hC : RepC X x A P M h) {i : Int} (hi : (0 ≤ i ∧ i < 200) ∧ i % 20 < M 21 (i / 20)) : h (P (17, i)) = some (am_la 4 (rowI M 23 4 i)) := hC.at_ (17, i) hi
theorem RepC.t_bu {X : am_X} {x : Nat} {A : Nat → Prop} {P : Tg → Nat} {M : MS} {h : am_H} (hC : RepC X x A P M h) {i : Int} (hi : (0 ≤ i ∧ i < 200) ∧ i % 20 < M 21 (i / 20)) : h (P (18, i)) = some (am_la 4 (rowI M 24 4 i)) := hC.at_ (18, i) hi
section CST
variable {p : Program} {l : Launch} {e : Env} {R : Room} {s : State} {m : MethodId} {args : Array Value} {below : List Frame} {meth : Method} {c : Code} {nL : Nat} {X : am_X} {Q : State → Prop}
variable {cc : ByteArray} {y0 : MethodName} {ret : Option FieldType} {et : List (Nat × Nat × Nat × Nat)} {h : am_H} {nx cells slots pc pc' : Nat} {L : List (Option Value)} {st : List Value} {x : Nat} {A : Nat → Prop} {P : Tg → Nat} {M : MS}
theorem cg_mv (F : am_Fx p s m args meth c y0 cc nL ret et X) (hC : RepC X x A P M h) {f z : Int} (hf : 0 ≤ f ∧ f < M 1 0) (d : decode cc pc = .ok (.iaload, 1)) (hp : pc + 1 = pc') (h0 : 0 ≤ z) (h1 : z < 12) (k : V p l e R s m args below meth c nL X Q h nx cells slots pc' L (iV (M 5 (12 * f + z)) :: st)) : V p l e R s m args below meth c nL X Q h nx cells slots pc L (iV z :: .ref (P (9, f)) :: st) :=
  v_iag F d hp (hC.at_ (9, f) hf) (by decide) h0 h1 (by rw [rowI_in ⟨h0, h1⟩]; exact k)
theorem cp_mv (F : am_Fx p s m args meth c y0 cc nL ret et X) (hC : RepC X x A P M h) {f z w : Int} (hf : 0 ≤ f ∧ f < M 1 0) (d : decode cc pc = .ok (.iastore, 1)) (hp : pc + 1 = pc') (h0 : 0 ≤ z) (h1 : z < 12) (k : ∀ h' : am_H, RepC X x A P (upM M 5 (12 * f + z) w) h' → OF A h h' → V p l e R s m args below meth c nL X Q h' nx cells slots pc' L (st)) : V p l e R s m args below meth c nL X Q h nx cells slots pc L (iV w :: iV z :: .ref (P (9, f)) :: st) := by
  obtain ⟨a1, a2⟩ := hC.put (M' := upM M 5 (12 * f + z) w) (t := (9, f)) (e := am_ia 12 (upI (rowI M 5 12 f) z w)) hf (fun t' ht => by rcases t' with ⟨_ | _ | _ | _ | _ | _ | _ | _ | _ | _ | _ | _ | _ | _ | _ | _ | _ | _ | _ | n, g⟩ <;> exact ht) (congrArg (am_ia 12) (rowI_up ⟨h0, h1⟩).symm) (fun t' hne hlv => by
    rcases t' with ⟨_ | _ | _ | _ | _ | _ | _ | _ | _ | _ | _ | _ | _ | _ | _ | _ | _ | _ | _ | n, g⟩ <;> first | rfl | exact congrArg (am_ia 12) (rowI_n ⟨h0, h1⟩ (fun q => hne (Prod.ext rfl q))))
  exact v_iap F d hp (hC.at_ (9, f) hf) (by decide) h0 h1 (k _ a1 a2)
theorem cg_pd (F : am_Fx p s m args meth c y0 cc nL ret et X) (hC : RepC X x A P M h) {f z : Int} (hf : 0 ≤ f ∧ f < M 1 0) (d : decode cc pc = .ok (.laload, 1)) (hp : pc + 1 = pc') (h0 : 0 ≤ z) (h1 : z < 10) (k : V p l e R s m args below meth c nL X Q h nx cells slots pc' L (lV (M 6 (10 * f + z)) :: st)) : V p l e R s m args below meth c nL X Q h nx cells slots pc L (iV z :: .ref (P (10, f)) :: st) :=
  v_lag F d hp (hC.at_ (10, f) hf) (by decide) h0 h1 (by rw [rowI_in ⟨h0, h1⟩]; exact k)
theorem cp_pd (F : am_Fx p s m args meth c y0 cc nL ret et X) (hC : RepC X x A P M h) {f z w : Int} (hf : 0 ≤ f ∧ f < M 1 0) (d : decode cc pc = .ok (.lastore, 1)) (hp : pc + 1 = pc') (h0 : 0 ≤ z) (h1 : z < 10) (k : ∀ h' : am_H, RepC X x A P (upM M 6 (10 * f + z) w) h' → OF A h h' → V p l e R s m args below meth c nL X Q h' nx cells slots pc' L (st)) : V p l e R s m args below meth c nL X Q h nx cells slots pc L (lV w :: iV z :: .ref (P (10, f)) :: st) := by
  obtain ⟨a1, a2⟩ := hC.put (M' := upM M 6 (10 * f + z) w) (t := (10, f)) (e := am_la 10 (upI (rowI M 6 10 f) z w)) hf (fun t' ht => by rcases t' with ⟨_ | _ | _ | _ | _ | _ | _ | _ | _ | _ | _ | _ | _ | _ | _ | _ | _ | _ | _ | n, g⟩ <;> exact ht) (congrArg (am_la 10) (rowI_up ⟨h0, h1⟩).symm) (fun t' hne hlv => by
    rcases t' with ⟨_ | _ | _ | _ | _ | _ | _ | _ | _ | _ | _ | _ | _ | _ | _ | _ | _ | _ | _ | n, g⟩ <;> first | rfl | exact congrArg (am_la 10) (rowI_n ⟨h0, h1⟩ (fun q => hne (Prod.ext rfl q))))
  exact v_lap F d hp (hC.at_ (10, f) hf) (by decide) h0 h1 (k _ a1 a2)
theorem cg_dy (F : am_Fx p s m args meth c y0 cc nL ret et X) (hC : RepC X x A P M h) {f z : Int} (hf : 0 ≤ f ∧ f < M 7 0) (d : decode cc pc = .ok (.iaload, 1)) (hp : pc + 1 = pc') (h0 : 0 ≤ z) (h1 : z < 40) (k : V p l e R s m args below meth c nL X Q h nx cells slots pc' L (iV (M 14 (40 * f + z)) :: st)) : V p l e R s m args below meth c nL X Q h nx cells slots pc L (iV z :: .ref (P (13, f)) :: st) :=
  v_iag F d hp (hC.at_ (13, f) hf) (by decide) h0 h1 (by rw [rowI_in ⟨h0, h1⟩]; exact k)
theorem cp_dy (F : am_Fx p s m args meth c y0 cc nL ret et X) (hC : RepC X x A P M h) {f z w : Int} (hf : 0 ≤ f ∧ f < M 7 0) (d : decode cc pc = .ok (.iastore, 1)) (hp : pc + 1 = pc') (h0 : 0 ≤ z) (h1 : z < 40) (k : ∀ h' : am_H, RepC X x A P (upM M 14 (40 * f + z) w) h' → OF A h h' → V p l e R s m args below meth c nL X Q h' nx cells slots pc' L (st)) : V p l e R s m args below meth c nL X Q h nx cells slots pc L (iV w :: iV z :: .ref (P (13, f)) :: st) := by
  obtain ⟨a1, a2⟩ := hC.put (M' := upM M 14 (40 * f + z) w) (t := (13, f)) (e := am_ia 40 (upI (rowI M 14 40 f) z w)) hf (fun t' ht => by rcases t' with ⟨_ | _ | _ | _ | _ | _ | _ | _ | _ | _ | _ | _ | _ | _ | _ | _ | _ | _ | _ | n, g⟩ <;> exact ht) (congrArg (am_ia 40) (rowI_up ⟨h0, h1⟩).symm) (fun t' hne hlv => by
    rcases t' with ⟨_ | _ | _ | _ | _ | _ | _ | _ | _ | _ | _ | _ | _ | _ | _ | _ | _ | _ | _ | n, g⟩ <;> first | rfl | exact congrArg (am_ia 40) (rowI_n ⟨h0, h1⟩ (fun q => hne (Prod.ext rfl q))))
  exact v_iap F d hp (hC.at_ (13, f) hf) (by decide) h0 h1 (k _ a1 a2)
theorem cg_vl (F : am_Fx p s m args meth c y0 cc nL ret et X) (hC : RepC X x A P M h) {f z : Int} (hf : 0 ≤ f ∧ f < M 7 0) (d : decode cc pc = .ok (.iaload, 1)) (hp : pc + 1 = pc') (h0 : 0 ≤ z) (h1 : z < 40) (k : V p l e R s m args below meth c nL X Q h nx cells slots pc' L (iV (M 15 (40 * f + z)) :: st)) : V p l e R s m args below meth c nL X Q h nx cells slots pc L (iV z :: .ref (P (14, f)) :: st) :=
  v_iag F d hp (hC.at_ (14, f) hf) (by decide) h0 h1 (by rw [rowI_in ⟨h0, h1⟩]; exact k)
theorem cp_vl (F : am_Fx p s m args meth c y0 cc nL ret et X) (hC : RepC X x A P M h) {f z w : Int} (hf : 0 ≤ f ∧ f < M 7 0) (d : decode cc pc = .ok (.iastore, 1)) (hp : pc + 1 = pc') (h0 : 0 ≤ z) (h1 : z < 40) (k : ∀ h' : am_H, RepC X x A P (upM M 15 (40 * f + z) w) h' → OF A h h' → V p l e R s m args below meth c nL X Q h' nx cells slots pc' L (st)) : V p l e R s m args below meth c nL X Q h nx cells slots pc L (iV w :: iV z :: .ref (P (14, f)) :: st) := by
  obtain ⟨a1, a2⟩ := hC.put (M' := upM M 15 (40 * f + z) w) (t := (14, f)) (e := am_ia 40 (upI (rowI M 15 40 f) z w)) hf (fun t' ht => by rcases t' with ⟨_ | _ | _ | _ | _ | _ | _ | _ | _ | _ | _ | _ | _ | _ | _ | _ | _ | _ | _ | n, g⟩ <;> exact ht) (congrArg (am_ia 40) (rowI_up ⟨h0, h1⟩).symm) (fun t' hne hlv => by
    rcases t' with ⟨_ | _ | _ | _ | _ | _ | _ | _ | _ | _ | _ | _ | _ | _ | _ | _ | _ | _ | _ | n, g⟩ <;> first | rfl | exact congrArg (am_ia 40) (rowI_n ⟨h0, h1⟩ (fun q => hne (Prod.ext rfl q))))
  exact v_iap F d hp (hC.at_ (14, f) hf) (by decide) h0 h1 (k _ a1 a2)
theorem cg_st (F : am_Fx p s m args meth c y0 cc nL ret et X) (hC : RepC X x A P M h) {f z : Int} (hf : 0 ≤ f ∧ f < M 7 0) (d : decode cc pc = .ok (.iaload, 1)) (hp : pc + 1 = pc') (h0 : 0 ≤ z) (h1 : z < 40) (k : V p l e R s m args below meth c nL X Q h nx cells slots pc' L (iV (M 33 (40 * f + z)) :: st)) : V p l e R s m args below meth c nL X Q h nx cells slots pc L (iV z :: .ref (P (15, f)) :: st) :=
  v_iag F d hp (hC.at_ (15, f) hf) (by decide) h0 h1 (by rw [rowI_in ⟨h0, h1⟩]; exact k)
theorem cp_st (F : am_Fx p s m args meth c y0 cc nL ret et X) (hC : RepC X x A P M h) {f z w : Int} (hf : 0 ≤ f ∧ f < M 7 0) (d : decode cc pc = .ok (.iastore, 1)) (hp : pc + 1 = pc') (h0 : 0 ≤ z) (h1 : z < 40) (k : ∀ h' : am_H, RepC X x A P (upM M 33 (40 * f + z) w) h' → OF A h h' → V p l e R s m args below meth c nL X Q h' nx cells slots pc' L (st)) : V p l e R s m args below meth c nL X Q h nx cells slots pc L (iV w :: iV z :: .ref (P (15, f)) :: st) := by
  obtain ⟨a1, a2⟩ := hC.put (M' := upM M 33 (40 * f + z) w) (t := (15, f)) (e := am_ia 40 (upI (rowI M 33 40 f) z w)) hf (fun t' ht => by rcases t' with ⟨_ | _ | _ | _ | _ | _ | _ | _ | _ | _ | _ | _ | _ | _ | _ | _ | _ | _ | _ | n, g⟩ <;> exact ht) (congrArg (am_ia 40) (rowI_up ⟨h0, h1⟩).symm) (fun t' hne hlv => by
    rcases t' with ⟨_ | _ | _ | _ | _ | _ | _ | _ | _ | _ | _ | _ | _ | _ | _ | _ | _ | _ | _ | n, g⟩ <;> first | rfl | exact congrArg (am_ia 40) (rowI_n ⟨h0, h1⟩ (fun q => hne (Prod.ext rfl q))))
  exact v_iap F d hp (hC.at_ (15, f) hf) (by decide) h0 h1 (k _ a1 a2)
theorem cg_bb (F : am_Fx p s m args meth c y0 cc nL ret et X) (hC : RepC X x A P M h) {f z : Int} (hf : (0 ≤ f ∧ f < 200) ∧ f % 20 < M 21 (f / 20)) (d : decode cc pc = .ok (.laload, 1)) (hp : pc + 1 = pc') (h0 : 0 ≤ z) (h1 : z < 4) (k : V p l e R s m args below meth c nL X Q h nx cells slots pc' L (lV (M 23 (4 * f + z)) :: st)) : V p l e R s m args below meth c nL X Q h nx cells slots pc L (iV z :: .ref (P (17, f)) :: st) :=
  v_lag F d hp (hC.at_ (17, f) hf) (by decide) h0 h1 (by rw [rowI_in ⟨h0, h1⟩]; exact k)
theorem cp_bb (F : am_Fx p s m args meth c y0 cc nL ret et X) (hC : RepC X x A P M h) {f z w : Int} (hf : (0 ≤ f ∧ f < 200) ∧ f % 20 < M 21 (f / 20)) (d : decode cc pc = .ok (.lastore, 1)) (hp : pc + 1 = pc') (h0 : 0 ≤ z) (h1 : z < 4) (k : ∀ h' : am_H, RepC X x A P (upM M 23 (4 * f + z) w) h' → OF A h h' → V p l e R s m args below meth c nL X Q h' nx cells slots pc' L (st)) : V p l e R s m args below meth c nL X Q h nx cells slots pc L (lV w :: iV z :: .ref (P (17, f)) :: st) := by
  obtain ⟨a1, a2⟩ := hC.put (M' := upM M 23 (4 * f + z) w) (t := (17, f)) (e := am_la 4 (upI (rowI M 23 4 f) z w)) hf (fun t' ht => by rcases t' with ⟨_ | _ | _ | _ | _ | _ | _ | _ | _ | _ | _ | _ | _ | _ | _ | _ | _ | _ | _ | n, g⟩ <;> exact ht) (congrArg (am_la 4) (rowI_up ⟨h0, h1⟩).symm) (fun t' hne hlv => by
    rcases t' with ⟨_ | _ | _ | _ | _ | _ | _ | _ | _ | _ | _ | _ | _ | _ | _ | _ | _ | _ | _ | n, g⟩ <;> first | rfl | exact congrArg (am_la 4) (rowI_n ⟨h0, h1⟩ (fun q => hne (Prod.ext rfl q))))
  exact v_lap F d hp (hC.at_ (17, f) hf) (by decide) h0 h1 (k _ a1 a2)
theorem cg_bu (F : am_Fx p s m args meth c y0 cc nL ret et X) (hC : RepC X x A P M h) {f z : Int} (hf : (0 ≤ f ∧ f < 200) ∧ f % 20 < M 21 (f / 20)) (d : decode cc pc = .ok (.laload, 1)) (hp : pc + 1 = pc') (h0 : 0 ≤ z) (h1 : z < 4) (k : V p l e R s m args below meth c nL X Q h nx cells slots pc' L (lV (M 24 (4 * f + z)) :: st)) : V p l e R s m args below meth c nL X Q h nx cells slots pc L (iV z :: .ref (P (18, f)) :: st) :=
  v_lag F d hp (hC.at_ (18, f) hf) (by decide) h0 h1 (by rw [rowI_in ⟨h0, h1⟩]; exact k)
theorem cp_bu (F : am_Fx p s m args meth c y0 cc nL ret et X) (hC : RepC X x A P M h) {f z w : Int} (hf : (0 ≤ f ∧ f < 200) ∧ f % 20 < M 21 (f / 20)) (d : decode cc pc = .ok (.lastore, 1)) (hp : pc + 1 = pc') (h0 : 0 ≤ z) (h1 : z < 4) (k : ∀ h' : am_H, RepC X x A P (upM M 24 (4 * f + z) w) h' → OF A h h' → V p l e R s m args below meth c nL X Q h' nx cells slots pc' L (st)) : V p l e R s m args below meth c nL X Q h nx cells slots pc L (lV w :: iV z :: .ref (P (18, f)) :: st) := by
  obtain ⟨a1, a2⟩ := hC.put (M' := upM M 24 (4 * f + z) w) (t := (18, f)) (e := am_la 4 (upI (rowI M 24 4 f) z w)) hf (fun t' ht => by rcases t' with ⟨_ | _ | _ | _ | _ | _ | _ | _ | _ | _ | _ | _ | _ | _ | _ | _ | _ | _ | _ | n, g⟩ <;> exact ht) (congrArg (am_la 4) (rowI_up ⟨h0, h1⟩).symm) (fun t' hne hlv => by
    rcases t' with ⟨_ | _ | _ | _ | _ | _ | _ | _ | _ | _ | _ | _ | _ | _ | _ | _ | _ | _ | _ | n, g⟩ <;> first | rfl | exact congrArg (am_la 4) (rowI_n ⟨h0, h1⟩ (fun q => hne (Prod.ext rfl q))))
  exact v_lap F d hp (hC.at_ (18, f) hf) (by decide) h0 h1 (k _ a1 a2)
theorem cg_bas (F : am_Fx p s m args meth c y0 cc nL ret et X) (hC : RepC X x A P M h) {z : Int} (d : decode cc pc = .ok (.iaload, 1)) (hp : pc + 1 = pc') (h0 : 0 ≤ z) (h1 : z < 4) (k : V p l e R s m args below meth c nL X Q h nx cells slots pc' L (iV (M 19 z) :: st)) : V p l e R s m args below meth c nL X Q h nx cells slots pc L (iV z :: .ref (P (2, 0)) :: st) := v_iag F d hp (hC.at_ (2, 0) rfl) (by decide) h0 h1 k
theorem cp_bas (F : am_Fx p s m args meth c y0 cc nL ret et X) (hC : RepC X x A P M h) {z w : Int} (d : decode cc pc = .ok (.iastore, 1)) (hp : pc + 1 = pc') (h0 : 0 ≤ z) (h1 : z < 4) (k : ∀ h' : am_H, RepC X x A P (upM M 19 z w) h' → OF A h h' → V p l e R s m args below meth c nL X Q h' nx cells slots pc' L (st)) : V p l e R s m args below meth c nL X Q h nx cells slots pc L (iV w :: iV z :: .ref (P (2, 0)) :: st) := by
  obtain ⟨a1, a2⟩ := hC.put (M' := upM M 19 z w) (t := (2, 0)) (e := am_ia 4 (upI (M 19) z w)) rfl (fun t' ht => by rcases t' with ⟨_ | _ | _ | _ | _ | _ | _ | _ | _ | _ | _ | _ | _ | _ | _ | _ | _ | _ | _ | n, g⟩ <;> exact ht) rfl (fun t' hne hlv => by
    rcases t' with ⟨_ | _ | _ | _ | _ | _ | _ | _ | _ | _ | _ | _ | _ | _ | _ | _ | _ | _ | _ | n, g⟩ <;> first | rfl | exact (hne (Prod.ext rfl (show g = 0 from hlv))).elim)
  exact v_iap F d hp (hC.at_ (2, 0) rfl) (by decide) h0 h1 (k _ a1 a2)
theorem cg_eds (F : am_Fx p s m args meth c y0 cc nL ret et X) (hC : RepC X x A P M h) {z : Int} (d : decode cc pc = .ok (.iaload, 1)) (hp : pc + 1 = pc') (h0 : 0 ≤ z) (h1 : z < 10) (k : V p l e R s m args below meth c nL X Q h nx cells slots pc' L (iV (M 20 z) :: st)) : V p l e R s m args below meth c nL X Q h nx cells slots pc L (iV z :: .ref (P (3, 0)) :: st) := v_iag F d hp (hC.at_ (3, 0) rfl) (by decide) h0 h1 k
theorem cp_eds (F : am_Fx p s m args meth c y0 cc nL ret et X) (hC : RepC X x A P M h) {z w : Int} (d : decode cc pc = .ok (.iastore, 1)) (hp : pc + 1 = pc') (h0 : 0 ≤ z) (h1 : z < 10) (k : ∀ h' : am_H, RepC X x A P (upM M 20 z w) h' → OF A h h' → V p l e R s m args below meth c nL X Q h' nx cells slots pc' L (st)) : V p l e R s m args below meth c nL X Q h nx cells slots pc L (iV w :: iV z :: .ref (P (3, 0)) :: st) := by
  obtain ⟨a1, a2⟩ := hC.put (M' := upM M 20 z w) (t := (3, 0)) (e := am_ia 10 (upI (M 20) z w)) rfl (fun t' ht => by rcases t' with ⟨_ | _ | _ | _ | _ | _ | _ | _ | _ | _ | _ | _ | _ | _ | _ | _ | _ | _ | _ | n, g⟩ <;> exact ht) rfl (fun t' hne hlv => by
    rcases t' with ⟨_ | _ | _ | _ | _ | _ | _ | _ | _ | _ | _ | _ | _ | _ | _ | _ | _ | _ | _ | n, g⟩ <;> first | rfl | exact (hne (Prod.ext rfl (show g = 0 from hlv))).elim)
  exact v_iap F d hp (hC.at_ (3, 0) rfl) (by decide) h0 h1 (k _ a1 a2)
theorem cg_cost (F : am_Fx p s m args meth c y0 cc nL ret et X) (hC : RepC X x A P M h) {kk a : Int} (hk : (0 ≤ kk ∧ kk ≤ 3) ∧ 0 ≤ a ∧ a ≤ 9) (d : decode cc pc = .ok (.iaload, 1)) (hp : pc + 1 = pc') (k : V p l e R s m args below meth c nL X Q h nx cells slots pc' L (iV (M 18 (4 * a + kk)) :: st)) : V p l e R s m args below meth c nL X Q h nx cells slots pc L (iV (kk * 10 + a) :: .ref (P (1, 0)) :: st) := v_iag F d hp (hC.at_ (1, 0) rfl) (by decide) (by omega) (by omega) (by rw [cosI_in hk]; exact k)
theorem cp_cost (F : am_Fx p s m args meth c y0 cc nL ret et X) (hC : RepC X x A P M h) {kk a w : Int} (hk : (0 ≤ kk ∧ kk ≤ 3) ∧ 0 ≤ a ∧ a ≤ 9) (d : decode cc pc = .ok (.iastore, 1)) (hp : pc + 1 = pc') (k : ∀ h' : am_H, RepC X x A P (upM M 18 (4 * a + kk) w) h' → OF A h h' → V p l e R s m args below meth c nL X Q h' nx cells slots pc' L (st)) : V p l e R s m args below meth c nL X Q h nx cells slots pc L (iV w :: iV (kk * 10 + a) :: .ref (P (1, 0)) :: st) := by
  obtain ⟨a1, a2⟩ := hC.put (M' := upM M 18 (4 * a + kk) w) (t := (1, 0)) (e := am_ia 40 (upI (cosI M) (kk * 10 + a) w)) rfl (fun t' ht => by rcases t' with ⟨_ | _ | _ | _ | _ | _ | _ | _ | _ | _ | _ | _ | _ | _ | _ | _ | _ | _ | _ | n, g⟩ <;> exact ht) (congrArg (am_ia 40) (cosI_up hk).symm) (fun t' hne hlv => by
    rcases t' with ⟨_ | _ | _ | _ | _ | _ | _ | _ | _ | _ | _ | _ | _ | _ | _ | _ | _ | _ | _ | n, g⟩ <;> first | rfl | exact (hne (Prod.ext rfl (show g = 0 from hlv))).elim)
  exact v_iap F d hp (hC.at_ (1, 0) rfl) (by decide) (by omega) (by omega) (k _ a1 a2)
theorem cp_dw (F : am_Fx p s m args meth c y0 cc nL ret et X) (hC : RepC X x A P M h) {f w : Int} {index : Nat} (hf : 0 ≤ f ∧ f < M 1 0) (d : decode cc pc = .ok (.putfield index, 3)) (hp : pc + 3 = pc') (hlink : Cond.fieldLink y0.cls index "BillShares$Flat" "dwellers" "I" ∈ lw_tbl) (k : ∀ h' : am_H, RepC X x A P (upM M 4 f w) h' → OF A h h' → V p l e R s m args below meth c nL X Q h' nx cells slots pc' L (st)) : V p l e R s m args below meth c nL X Q h nx cells slots pc L (iV w :: .ref (P (6, f)) :: st) := by
  obtain ⟨a1, a2⟩ := hC.put (M' := upM M 4 f w) (t := (6, f)) (e := flC P f (M 2 f) (M 3 f) w (M 28 f) (M 29 f) (M 30 f)) hf (fun t' ht => by rcases t' with ⟨_ | _ | _ | _ | _ | _ | _ | _ | _ | _ | _ | _ | _ | _ | _ | _ | _ | _ | _ | n, g⟩ <;> exact ht) (congrArg (fun z => flC P f (M 2 f) (M 3 f) z (M 28 f) (M 29 f) (M 30 f)) upM_ss.symm) (fun t' hne hlv => by
    rcases t' with ⟨_ | _ | _ | _ | _ | _ | _ | _ | _ | _ | _ | _ | _ | _ | _ | _ | _ | _ | _ | n, g⟩ <;> first | rfl | (exact congrArg (fun z => flC P g (M 2 g) (M 3 g) z (M 28 g) (M 29 g) (M 30 g)) (upM_sn (fun q => hne (Prod.ext rfl q)))))
  exact v_putf (C := zR_F) (T := zF_F) (N := 10) (ref := "BillShares$Flat") F d hp zi_F zt_F zk_F zn_F rfl 4 (by decide) hlink (Or.inl rfl) (Or.inl rfl) (zk_F 4 (by decide)) rfl rfl (hC.at_ (6, f) hf) (by show 4 < 10; decide) (k _ a1 a2)
theorem cp_to (F : am_Fx p s m args meth c y0 cc nL ret et X) (hC : RepC X x A P M h) {f w : Int} {index : Nat} (hf : 0 ≤ f ∧ f < M 1 0) (hw : w = 0 ∨ w = 1) (d : decode cc pc = .ok (.putfield index, 3)) (hp : pc + 3 = pc') (hlink : Cond.fieldLink y0.cls index "BillShares$Flat" "told" "Z" ∈ lw_tbl) (k : ∀ h' : am_H, RepC X x A P (upM M 28 f w) h' → OF A h h' → V p l e R s m args below meth c nL X Q h' nx cells slots pc' L (st)) : V p l e R s m args below meth c nL X Q h nx cells slots pc L (iV w :: .ref (P (6, f)) :: st) := by
  obtain ⟨a1, a2⟩ := hC.put (M' := upM M 28 f w) (t := (6, f)) (e := flC P f (M 2 f) (M 3 f) (M 4 f) w (M 29 f) (M 30 f)) hf (fun t' ht => by rcases t' with ⟨_ | _ | _ | _ | _ | _ | _ | _ | _ | _ | _ | _ | _ | _ | _ | _ | _ | _ | _ | n, g⟩ <;> exact ht) (congrArg (fun z => flC P f (M 2 f) (M 3 f) (M 4 f) z (M 29 f) (M 30 f)) upM_ss.symm) (fun t' hne hlv => by
    rcases t' with ⟨_ | _ | _ | _ | _ | _ | _ | _ | _ | _ | _ | _ | _ | _ | _ | _ | _ | _ | _ | n, g⟩ <;> first | rfl | (exact congrArg (fun z => flC P g (M 2 g) (M 3 g) (M 4 g) z (M 29 g) (M 30 g)) (upM_sn (fun q => hne (Prod.ext rfl q)))))
  exact v_putf (C := zR_F) (T := zF_F) (N := 10) (ref := "BillShares$Flat") F d hp zi_F zt_F zk_F zn_F rfl 7 (by decide) hlink (Or.inl rfl) (Or.inl rfl) (zk_F 7 (by decide)) (by rcases hw with q | q <;> rw [q] <;> rfl) (by rcases hw with q | q <;> rw [q] <;> rfl) (hC.at_ (6, f) hf) (by show 7 < 10; decide) (k _ a1 a2)
theorem cp_we (F : am_Fx p s m args meth c y0 cc nL ret et X) (hC : RepC X x A P M h) {f w : Int} {index : Nat} (hf : 0 ≤ f ∧ f < M 1 0) (d : decode cc pc = .ok (.putfield index, 3)) (hp : pc + 3 = pc') (hlink : Cond.fieldLink y0.cls index "BillShares$Flat" "weight" "J" ∈ lw_tbl) (k : ∀ h' : am_H, RepC X x A P (upM M 29 f w) h' → OF A h h' → V p l e R s m args below meth c nL X Q h' nx cells slots pc' L (st)) : V p l e R s m args below meth c nL X Q h nx cells slots pc L (lV w :: .ref (P (6, f)) :: st) := by
  obtain ⟨a1, a2⟩ := hC.put (M' := upM M 29 f w) (t := (6, f)) (e := flC P f (M 2 f) (M 3 f) (M 4 f) (M 28 f) w (M 30 f)) hf (fun t' ht => by rcases t' with ⟨_ | _ | _ | _ | _ | _ | _ | _ | _ | _ | _ | _ | _ | _ | _ | _ | _ | _ | _ | n, g⟩ <;> exact ht) (congrArg (fun z => flC P f (M 2 f) (M 3 f) (M 4 f) (M 28 f) z (M 30 f)) upM_ss.symm) (fun t' hne hlv => by
    rcases t' with ⟨_ | _ | _ | _ | _ | _ | _ | _ | _ | _ | _ | _ | _ | _ | _ | _ | _ | _ | _ | n, g⟩ <;> first | rfl | (exact congrArg (fun z => flC P g (M 2 g) (M 3 g) (M 4 g) (M 28 g) z (M 30 g)) (upM_sn (fun q => hne (Prod.ext rfl q)))))
  exact v_putf (C := zR_F) (T := zF_F) (N := 10) (ref := "BillShares$Flat") F d hp zi_F zt_F zk_F zn_F rfl 8 (by decide) hlink (Or.inl rfl) (Or.inl rfl) (zk_F 8 (by decide)) rfl rfl (hC.at_ (6, f) hf) (by show 8 < 10; decide) (k _ a1 a2)
theorem cp_de (F : am_Fx p s m args meth c y0 cc nL ret et X) (hC : RepC X x A P M h) {f w : Int} {index : Nat} (hf : 0 ≤ f ∧ f < M 1 0) (d : decode cc pc = .ok (.putfield index, 3)) (hp : pc + 3 = pc') (hlink : Cond.fieldLink y0.cls index "BillShares$Flat" "dealt" "J" ∈ lw_tbl) (k : ∀ h' : am_H, RepC X x A P (upM M 30 f w) h' → OF A h h' → V p l e R s m args below meth c nL X Q h' nx cells slots pc' L (st)) : V p l e R s m args below meth c nL X Q h nx cells slots pc L (lV w :: .ref (P (6, f)) :: st) := by
  obtain ⟨a1, a2⟩ := hC.put (M' := upM M 30 f w) (t := (6, f)) (e := flC P f (M 2 f) (M 3 f) (M 4 f) (M 28 f) (M 29 f) w) hf (fun t' ht => by rcases t' with ⟨_ | _ | _ | _ | _ | _ | _ | _ | _ | _ | _ | _ | _ | _ | _ | _ | _ | _ | _ | n, g⟩ <;> exact ht) (congrArg (fun z => flC P f (M 2 f) (M 3 f) (M 4 f) (M 28 f) (M 29 f) z) upM_ss.symm) (fun t' hne hlv => by
    rcases t' with ⟨_ | _ | _ | _ | _ | _ | _ | _ | _ | _ | _ | _ | _ | _ | _ | _ | _ | _ | _ | n, g⟩ <;> first | rfl | (exact congrArg (fun z => flC P g (M 2 g) (M 3 g) (M 4 g) (M 28 g) (M 29 g) z) (upM_sn (fun q => hne (Prod.ext rfl q)))))
  exact v_putf (C := zR_F) (T := zF_F) (N := 10) (ref := "BillShares$Flat") F d hp zi_F zt_F zk_F zn_F rfl 9 (by decide) hlink (Or.inl rfl) (Or.inl rfl) (zk_F 9 (by decide)) rfl rfl (hC.at_ (6, f) hf) (by show 9 < 10; decide) (k _ a1 a2)
theorem cp_te (F : am_Fx p s m args meth c y0 cc nL ret et X) (hC : RepC X x A P M h) {f w : Int} {index : Nat} (hf : 0 ≤ f ∧ f < M 7 0) (d : decode cc pc = .ok (.putfield index, 3)) (hp : pc + 3 = pc') (hlink : Cond.fieldLink y0.cls index "BillShares$Meter" "testedTo" "I" ∈ lw_tbl) (k : ∀ h' : am_H, RepC X x A P (upM M 12 f w) h' → OF A h h' → V p l e R s m args below meth c nL X Q h' nx cells slots pc' L (st)) : V p l e R s m args below meth c nL X Q h nx cells slots pc L (iV w :: .ref (P (12, f)) :: st) := by
  obtain ⟨a1, a2⟩ := hC.put (M' := upM M 12 f w) (t := (12, f)) (e := mtC P f (M 9 f) (M 10 f) (M 11 f) w (M 13 f)) hf (fun t' ht => by rcases t' with ⟨_ | _ | _ | _ | _ | _ | _ | _ | _ | _ | _ | _ | _ | _ | _ | _ | _ | _ | _ | n, g⟩ <;> exact ht) (congrArg (fun z => mtC P f (M 9 f) (M 10 f) (M 11 f) z (M 13 f)) upM_ss.symm) (fun t' hne hlv => by
    rcases t' with ⟨_ | _ | _ | _ | _ | _ | _ | _ | _ | _ | _ | _ | _ | _ | _ | _ | _ | _ | _ | n, g⟩ <;> first | rfl | (exact congrArg (fun z => mtC P g (M 9 g) (M 10 g) (M 11 g) z (M 13 g)) (upM_sn (fun q => hne (Prod.ext rfl q)))))
  exact v_putf (C := zR_T) (T := zF_T) (N := 8) (ref := "BillShares$Meter") F d hp zi_T zt_T zk_T zn_T rfl 3 (by decide) hlink (Or.inl rfl) (Or.inl rfl) (zk_T 3 (by decide)) rfl rfl (hC.at_ (12, f) hf) (by show 3 < 8; decide) (k _ a1 a2)
theorem cp_re (F : am_Fx p s m args meth c y0 cc nL ret et X) (hC : RepC X x A P M h) {f w : Int} {index : Nat} (hf : 0 ≤ f ∧ f < M 7 0) (d : decode cc pc = .ok (.putfield index, 3)) (hp : pc + 3 = pc') (hlink : Cond.fieldLink y0.cls index "BillShares$Meter" "readings" "I" ∈ lw_tbl) (k : ∀ h' : am_H, RepC X x A P (upM M 13 f w) h' → OF A h h' → V p l e R s m args below meth c nL X Q h' nx cells slots pc' L (st)) : V p l e R s m args below meth c nL X Q h nx cells slots pc L (iV w :: .ref (P (12, f)) :: st) := by
  obtain ⟨a1, a2⟩ := hC.put (M' := upM M 13 f w) (t := (12, f)) (e := mtC P f (M 9 f) (M 10 f) (M 11 f) (M 12 f) w) hf (fun t' ht => by rcases t' with ⟨_ | _ | _ | _ | _ | _ | _ | _ | _ | _ | _ | _ | _ | _ | _ | _ | _ | _ | _ | n, g⟩ <;> exact ht) (congrArg (fun z => mtC P f (M 9 f) (M 10 f) (M 11 f) (M 12 f) z) upM_ss.symm) (fun t' hne hlv => by
    rcases t' with ⟨_ | _ | _ | _ | _ | _ | _ | _ | _ | _ | _ | _ | _ | _ | _ | _ | _ | _ | _ | n, g⟩ <;> first | rfl | (exact congrArg (fun z => mtC P g (M 9 g) (M 10 g) (M 11 g) (M 12 g) z) (upM_sn (fun q => hne (Prod.ext rfl q)))))
  exact v_putf (C := zR_T) (T := zF_T) (N := 8) (ref := "BillShares$Meter") F d hp zi_T zt_T zk_T zn_T rfl 4 (by decide) hlink (Or.inl rfl) (Or.inl rfl) (zk_T 4 (by decide)) rfl rfl (hC.at_ (12, f) hf) (by show 4 < 8; decide) (k _ a1 a2)
theorem cp_be (F : am_Fx p s m args meth c y0 cc nL ret et X) (hC : RepC X x A P M h) {f w : Int} {index : Nat} (hf : (0 ≤ f ∧ f < 200) ∧ f % 20 < M 21 (f / 20)) (d : decode cc pc = .ok (.putfield index, 3)) (hp : pc + 3 = pc') (hlink : Cond.fieldLink y0.cls index "BillShares$Bill" "before" "J" ∈ lw_tbl) (k : ∀ h' : am_H, RepC X x A P (upM M 31 f w) h' → OF A h h' → V p l e R s m args below meth c nL X Q h' nx cells slots pc' L (st)) : V p l e R s m args below meth c nL X Q h nx cells slots pc L (lV w :: .ref (P (16, f)) :: st) := by
  obtain ⟨a1, a2⟩ := hC.put (M' := upM M 31 f w) (t := (16, f)) (e := blC P f w) hf (fun t' ht => by rcases t' with ⟨_ | _ | _ | _ | _ | _ | _ | _ | _ | _ | _ | _ | _ | _ | _ | _ | _ | _ | _ | n, g⟩ <;> exact ht) (congrArg (fun z => blC P f z) upM_ss.symm) (fun t' hne hlv => by
    rcases t' with ⟨_ | _ | _ | _ | _ | _ | _ | _ | _ | _ | _ | _ | _ | _ | _ | _ | _ | _ | _ | n, g⟩ <;> first | rfl | (exact congrArg (fun z => blC P g z) (upM_sn (fun q => hne (Prod.ext rfl q)))))
  exact v_putf (C := zR_B) (T := zF_B) (N := 3) (ref := "BillShares$Bill") F d hp zi_B zt_B zk_B zn_B rfl 2 (by decide) hlink (Or.inl rfl) (Or.inl rfl) (zk_B 2 (by decide)) rfl rfl (hC.at_ (16, f) hf) (by show 2 < 3; decide) (k _ a1 a2)
theorem cg_bs (F : am_Fx p s m args meth c y0 cc nL ret et X) (hC : RepC X x A P M h) {f z : Int} (hf : 0 ≤ f ∧ f < M 1 0) (d : decode cc pc = .ok (.aaload, 1)) (hp : pc + 1 = pc') (h0 : 0 ≤ z) (h1 : z < 10) (k : V p l e R s m args below meth c nL X Q h nx cells slots pc' L ((if f < M 21 z then .ref (P (16, (20 * z + f))) else .null) :: st)) : V p l e R s m args below meth c nL X Q h nx cells slots pc L (iV z :: .ref (P (11, f)) :: st) :=
  v_aald (C := "BillShares$Bill") F d hp (by decide) (hC.at_ (11, f) hf) (by decide) h0 h1 (by show (if ((z.toNat : Nat) : Int) < 10 ∧ f < M 21 ((z.toNat : Nat) : Int) then Value.ref (P (16, 20 * ((z.toNat : Nat) : Int) + f)) else Value.null) = _; rw [Int.toNat_of_nonneg h0]; by_cases q : f < M 21 z <;> simp [q, h1]) k
end CST
