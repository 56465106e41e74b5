/-! rows for callees of the reference that write, branches on truth values, what a public method of the reference owes -/
def CnM (l : Launch) (X : am_X) (y' : MethodName) (rm : Room) (av : List Value) (h : am_H) (nx : Nat) (y : Nat) (M' : MS) (r : Value) : Prop := Cn l X y' rm av h nx (fun o h' nx' => RepM y M' h' ∧ MF y h h' ∧ nx' = nx ∧ o = .returned (some r))
def CnV (l : Launch) (X : am_X) (y' : MethodName) (rm : Room) (av : List Value) (h : am_H) (nx : Nat) (y : Nat) (M' : MS) : Prop := Cn l X y' rm av h nx (fun o h' nx' => RepM y M' h' ∧ MF y h h' ∧ nx' = nx ∧ o = .returned none)
section MRW
variable {p : Program} {l : Launch} {e : Env} {R : Room} {s : State} {m : MethodId} {args : Array Value} {below : List Frame} {meth : Method} {c : Code} {nL : Nat} {X : am_X} {Q : State → Prop}
variable {cc : ByteArray} {y0 : MethodName} {ret : Option FieldType} {et : List (Nat × Nat × Nat × Nat)} {h : am_H} {nx cells slots pc pc' : Nat} {L : List (Option Value)} {st : List Value} {y : Nat} {M : MS}
variable {y' : MethodName} {rm : Room} {av : List Value} {bytes : ByteArray} {maxL index : Nat} {ret' : Option FieldType}
theorem v_callVM (F : am_Fx p s m args meth c y0 cc nL ret et X) {st0 : List Value} {r : Value} {b ci ya : Nat} {M' : MS} {fs : List Value} {C : String} {T9 : u_T} {N : Nat} (d : decode cc pc = .ok (.invokevirtual index, 3)) (hp : pc + 3 = pc') (hcal : am_cal y' bytes maxL ret' av.length) (hlink : Cond.methodLink y0.cls index y' ∈ lw_tbl) (hinst : Cond.instanceMethod y' ∈ lw_tbl) (hsel : Cond.selects C y' y' ∈ lw_tbl) (hc : am_cl[ci]? = some (C, T9, N)) (hb : h b = some (.inr (ci, fs))) (hC : CnM l X y' rm (.ref b :: av) h nx ya M' r) (hst : st0 = av.reverse ++ .ref b :: st) (hfit : am_fit R rm maxL cells slots) (hw : (st.map fun v => v.category).sum ≤ 8) (h1 : rm.cells = 0) (h2 : rm.slots = 0)
    (k : ∀ h' : am_H, RepM ya M' h' → MF ya h h' → V p l e R s m args below meth c nL X Q h' nx cells slots pc' L (r :: st)) : V p l e R s m args below meth c nL X Q h nx cells slots pc L st0 :=
  v_callV F d hp hcal hlink hinst hsel hc hb hC hst hfit hw (fun _ _ _ q => by cases q.2.2.2) (fun v h' nx' q => by
    obtain ⟨q1, q2, rfl, q4⟩ := q
    cases q4
    rw [h1, h2]
    exact k h' q1 q2)
theorem v_callVV (F : am_Fx p s m args meth c y0 cc nL ret et X) {st0 : List Value} {b ci ya : Nat} {M' : MS} {fs : List Value} {C : String} {T9 : u_T} {N : Nat} (d : decode cc pc = .ok (.invokevirtual index, 3)) (hp : pc + 3 = pc') (hcal : am_cal y' bytes maxL ret' av.length) (hlink : Cond.methodLink y0.cls index y' ∈ lw_tbl) (hinst : Cond.instanceMethod y' ∈ lw_tbl) (hsel : Cond.selects C y' y' ∈ lw_tbl) (hc : am_cl[ci]? = some (C, T9, N)) (hb : h b = some (.inr (ci, fs))) (hC : CnV l X y' rm (.ref b :: av) h nx ya M') (hst : st0 = av.reverse ++ .ref b :: st) (hfit : am_fit R rm maxL cells slots) (hw : (st.map fun v => v.category).sum ≤ 8) (h1 : rm.cells = 0) (h2 : rm.slots = 0)
    (k : ∀ h' : am_H, RepM ya M' h' → MF ya h h' → V p l e R s m args below meth c nL X Q h' nx cells slots pc' L st) : V p l e R s m args below meth c nL X Q h nx cells slots pc L st0 :=
  v_callV F d hp hcal hlink hinst hsel hc hb hC hst hfit hw (fun _ _ _ q => by cases q.2.2.2) (fun v h' nx' q => by
    obtain ⟨q1, q2, rfl, q4⟩ := q
    cases q4
    rw [h1, h2]
    exact k h' q1 q2)
theorem v_zif_eq (F : am_Fx p s m args meth c y0 cc nL ret et X) {q : Prop} {off : Int} {tgt : Nat} (d : decode cc pc = .ok (.ifCond .eq off, 3)) (ht : (pc : Int) + off = (tgt : Int)) (hp : pc + 3 = pc') (kt : ¬ q → V p l e R s m args below meth c nL X Q h nx cells slots tgt L st) (kf : q → V p l e R s m args below meth c nL X Q h nx cells slots pc' L st) : V p l e R s m args below meth c nL X Q h nx cells slots pc L (iV (bI q) :: st) :=
  v_if_eq F d ht hp (by rcases bI_r q with z | z <;> rw [z] <;> omega) (fun z => kt (bI_0.mp z)) (fun z => kf (Classical.byContradiction fun n => z (bI_f n)))
theorem v_zif_ne (F : am_Fx p s m args meth c y0 cc nL ret et X) {q : Prop} {off : Int} {tgt : Nat} (d : decode cc pc = .ok (.ifCond .ne off, 3)) (ht : (pc : Int) + off = (tgt : Int)) (hp : pc + 3 = pc') (kt : q → V p l e R s m args below meth c nL X Q h nx cells slots tgt L st) (kf : ¬ q → V p l e R s m args below meth c nL X Q h nx cells slots pc' L st) : V p l e R s m args below meth c nL X Q h nx cells slots pc L (iV (bI q) :: st) :=
  v_if_ne F d ht hp (by rcases bI_r q with z | z <;> rw [z] <;> omega) (fun z => kt (Classical.byContradiction fun n => z (bI_f n))) (fun z => kf (bI_0.mp z))
/-- a read passes a write of another field -/
theorem v_un {j k : Nat} {i v z : Int} (hj : k ≠ j) (kk : V p l e R s m args below meth c nL X Q h nx cells slots pc L (iV (M k z) :: st)) : V p l e R s m args below meth c nL X Q h nx cells slots pc L (iV (upM M j i v k z) :: st) := by rw [upM_n hj]; exact kk
theorem v_unl {j k : Nat} {i v z : Int} (hj : k ≠ j) (kk : V p l e R s m args below meth c nL X Q h nx cells slots pc L (lV (M k z) :: st)) : V p l e R s m args below meth c nL X Q h nx cells slots pc L (lV (upM M j i v k z) :: st) := by rw [upM_n hj]; exact kk
theorem v_us {k : Nat} {i v : Int} (kk : V p l e R s m args below meth c nL X Q h nx cells slots pc L (iV v :: st)) : V p l e R s m args below meth c nL X Q h nx cells slots pc L (iV (upM M k i v k i) :: st) := by rw [upM_ss]; exact kk
theorem v_usl {k : Nat} {i v : Int} (kk : V p l e R s m args below meth c nL X Q h nx cells slots pc L (lV v :: st)) : V p l e R s m args below meth c nL X Q h nx cells slots pc L (lV (upM M k i v k i) :: st) := by rw [upM_ss]; exact kk
end MRW
theorem c_allows_1 (l : Launch) (X : am_X) (h : am_H) (nx : Nat) (y : Nat) (M : MS) (b : Int) (hM : RepM y M h) (rb : -2147483648 ≤ b ∧ b < 2147483648) : CnM l X y_M_allows ({ frames := 0, cells := 0, slots := 0, locals := 0 }) [.ref y, iV 0, iV b] h nx y (upM M 0 0 1) (iV 0) :=
  (c_M_allows l X h nx y M 0 b hM (by omega) rb).mono fun o h' nx' q => by rw [sp_code_1 rfl] at q; rw [bI_f (by decide)] at q; exact q
theorem c_allows_2 (l : Launch) (X : am_X) (h : am_H) (nx : Nat) (y : Nat) (M : MS) (hM : RepM y M h) : CnM l X y_M_allows ({ frames := 0, cells := 0, slots := 0, locals := 0 }) [.ref y, iV 1, iV 0] h nx y (upM M 0 0 2) (iV 0) :=
  (c_M_allows l X h nx y M 1 0 hM (by omega) (by omega)).mono fun o h' nx' q => by rw [sp_code_2 (by decide) rfl] at q; rw [bI_f (by decide)] at q; exact q
theorem c_allows_0 (l : Launch) (X : am_X) (h : am_H) (nx : Nat) (y : Nat) (M : MS) (hM : RepM y M h) : CnM l X y_M_allows ({ frames := 0, cells := 0, slots := 0, locals := 0 }) [.ref y, iV 1, iV 1] h nx y (upM M 0 0 0) (iV 1) :=
  (c_M_allows l X h nx y M 1 1 hM (by omega) (by omega)).mono fun o h' nx' q => by rw [sp_code_0 (by decide) (by decide)] at q; rw [bI_t rfl] at q; exact q
theorem c_allows_q (l : Launch) (X : am_X) (h : am_H) (nx : Nat) (y : Nat) (M : MS) (q : Prop) (hM : RepM y M h) : CnM l X y_M_allows ({ frames := 0, cells := 0, slots := 0, locals := 0 }) [.ref y, iV (bI q), iV 1] h nx y (upM M 0 0 (1 - bI q)) (iV (bI q)) := by
  by_cases hq : q
  · rw [bI_t hq]; exact c_allows_0 l X h nx y M hM
  · rw [bI_f hq]; exact c_allows_1 l X h nx y M 1 hM (by omega)
/-- states alike but for the reference's own notes -/
def eqv (M N : MS) : Prop := ∀ k, k ≠ 0 → k ≠ 26 → k ≠ 27 → M k = N k
theorem eqv.rf {M : MS} : eqv M M := fun _ _ _ _ => rfl
theorem eqv.note {M : MS} {k : Nat} {i v : Int} (hk : k = 0 ∨ k = 26 ∨ k = 27) : eqv (upM M k i v) M := fun j h0 h1 h2 => upM_n (by omega)
theorem eqv.tr {A B C : MS} (a : eqv A B) (b : eqv B C) : eqv A C := fun k h0 h1 h2 => (a k h0 h1 h2).trans (b k h0 h1 h2)
theorem eqv.up {A B : MS} (a : eqv A B) (k : Nat) (i v : Int) : eqv (upM A k i v) (upM B k i v) := fun j h0 h1 h2 => by
  unfold upM
  by_cases hj : j = k
  · subst hj; rw [if_pos rfl, if_pos rfl, a j h0 h1 h2]
  · rw [if_neg hj, if_neg hj]; exact a j h0 h1 h2
/-- what a public method of the reference owes: its note is the code, its state the next one, its answer (where nothing is refused) the answer -/
def mpost (y : Nat) (h : am_H) (nx : Nat) (mk : Int → Value) (t : Int × Int × MS) : Outcome → am_H → Nat → Prop := fun o h' nx' => ∃ M', RepM y M' h' ∧ MF y h h' ∧ nx' = nx ∧ M' 0 0 = t.1 ∧ eqv M' t.2.2 ∧ ∃ r : Int, o = .returned (some (mk r)) ∧ (t.1 = 0 → r = t.2.1)
