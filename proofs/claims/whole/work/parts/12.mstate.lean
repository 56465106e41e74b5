/-! the reference's cells as a picture of a state (written by wip/whole/mkmodel.py): field k of BillSharesModel is M k; a number stands at M k 0 -/
abbrev MS : Type := Nat → Int → Int
def upM (M : MS) (k : Nat) (i v : Int) : MS := fun a => if a = k then upI (M k) i v else M a
theorem upM_s {M : MS} {k : Nat} {i v : Int} : upM M k i v k = upI (M k) i v := if_pos rfl
theorem upM_n {M : MS} {k a : Nat} {i v : Int} (h : a ≠ k) : upM M k i v a = M a := if_neg h
theorem upM_ss {M : MS} {k : Nat} {i v : Int} : upM M k i v k i = v := by rw [upM_s, upI_s]
theorem upM_sn {M : MS} {k : Nat} {i j v : Int} (h : j ≠ i) : upM M k i v k j = M k j := by rw [upM_s, upI_n h]
def md_fs (y : Nat) (M : MS) : List Value := [iV (M 0 0), iV (M 1 0), .ref (y + 1), .ref (y + 2), .ref (y + 3), .ref (y + 4), .ref (y + 5), iV (M 7 0), .ref (y + 6), .ref (y + 7), .ref (y + 8), .ref (y + 9), .ref (y + 10), .ref (y + 11), .ref (y + 12), .ref (y + 13), .ref (y + 14), .ref (y + 15), .ref (y + 16), .ref (y + 17), .ref (y + 18), .ref (y + 19), .ref (y + 20), .ref (y + 21), .ref (y + 22), .ref (y + 23), .ref (y + 24), .ref (y + 25)]
def md_cell (M : MS) (k : Nat) : am_E := match k with
  | 2 => am_ia 20 (M 2)
  | 3 => am_ia 20 (M 3)
  | 4 => am_ia 20 (M 4)
  | 5 => am_ia 240 (M 5)
  | 6 => am_la 200 (M 6)
  | 8 => am_ia 60 (M 8)
  | 9 => am_ia 60 (M 9)
  | 10 => am_ia 60 (M 10)
  | 11 => am_ia 60 (M 11)
  | 12 => am_ia 60 (M 12)
  | 13 => am_ia 60 (M 13)
  | 14 => am_ia 2400 (M 14)
  | 15 => am_ia 2400 (M 15)
  | 16 => am_ia 2400 (M 16)
  | 17 => am_za 2400 (M 17)
  | 18 => am_ia 40 (M 18)
  | 19 => am_ia 4 (M 19)
  | 20 => am_ia 10 (M 20)
  | 21 => am_ia 10 (M 21)
  | 22 => am_ia 10 (M 22)
  | 23 => am_la 800 (M 23)
  | 24 => am_la 800 (M 24)
  | 25 => am_la 200 (M 25)
  | 26 => am_la 20 (M 26)
  | 27 => am_la 20 (M 27)
  | _ => am_ia 0 (M k)
def md_off (k : Nat) : Nat := if k < 7 then k - 1 else k - 2
theorem md_cell_c {M M' : MS} {k : Nat} (h : M k = M' k) : md_cell M k = md_cell M' k := by
  unfold md_cell
  split <;> rw [h]
/-- the reference at y is in the state M -/
def RepM (y : Nat) (M : MS) (h : am_H) : Prop := h y = some (.inr (4, md_fs y M)) ∧ ∀ k, 2 ≤ k → k < 28 → k ≠ 7 → h (y + md_off k) = some (md_cell M k)
/-- nothing but the reference's own cells has changed -/
def MF (y : Nat) (h h' : am_H) : Prop := ∀ a : Nat, (a < y ∨ y + 26 ≤ a) → h' a = h a
theorem MF.rf {y : Nat} {h : am_H} : MF y h h := fun _ _ => rfl
theorem MF.tr {y : Nat} {h h1 h2 : am_H} (a : MF y h h1) (b : MF y h1 h2) : MF y h h2 := fun q hq => (b q hq).trans (a q hq)
theorem RepM.sub {y : Nat} {M : MS} {h h' : am_H} (hM : RepM y M h) (hs : ∀ a : Nat, y ≤ a → a < y + 26 → h' a = h a) : RepM y M h' := by
  refine ⟨by rw [hs y (by omega) (by omega)]; exact hM.1, fun k h1 h2 h3 => ?_⟩
  rw [hs (y + md_off k) (by omega) (by unfold md_off; split <;> omega)]
  exact hM.2 k h1 h2 h3
theorem md_put {y : Nat} {M : MS} {h : am_H} {k : Nat} {i v : Int} {e : am_E} (hM : RepM y M h) (h1 : 2 ≤ k) (h2 : k < 28) (h3 : k ≠ 7) (he : e = md_cell (upM M k i v) k) : RepM y (upM M k i v) (am_up h (y + md_off k) e) ∧ MF y h (am_up h (y + md_off k) e) := by
  have ho : 1 ≤ md_off k ∧ md_off k < 26 := by unfold md_off; split <;> omega
  refine ⟨⟨?_, fun j j1 j2 j3 => ?_⟩, fun a ha => am_up_n (by omega)⟩
  · rw [am_up_n (by omega), hM.1]
    have e0 : upM M k i v 0 = M 0 := upM_n (by omega)
    have e1 : upM M k i v 1 = M 1 := upM_n (by omega)
    have e7 : upM M k i v 7 = M 7 := upM_n (fun q => h3 q.symm)
    unfold md_fs
    rw [e0, e1, e7]
  · by_cases hj : j = k
    · subst hj
      rw [am_up_s, he]
    · have hne : md_off j ≠ md_off k := by unfold md_off; split <;> split <;> omega
      rw [am_up_n (by omega), hM.2 j j1 j2 j3, md_cell_c (upM_n hj).symm]
theorem rm_2 {y : Nat} {M : MS} {h : am_H} (hM : RepM y M h) : h (y + 1) = some (am_ia 20 (M 2)) := hM.2 2 (by decide) (by decide) (by decide)
theorem rm_3 {y : Nat} {M : MS} {h : am_H} (hM : RepM y M h) : h (y + 2) = some (am_ia 20 (M 3)) := hM.2 3 (by decide) (by decide) (by decide)
theorem rm_4 {y : Nat} {M : MS} {h : am_H} (hM : RepM y M h) : h (y + 3) = some (am_ia 20 (M 4)) := hM.2 4 (by decide) (by decide) (by decide)
theorem rm_5 {y : Nat} {M : MS} {h : am_H} (hM : RepM y M h) : h (y + 4) = some (am_ia 240 (M 5)) := hM.2 5 (by decide) (by decide) (by decide)
theorem rm_6 {y : Nat} {M : MS} {h : am_H} (hM : RepM y M h) : h (y + 5) = some (am_la 200 (M 6)) := hM.2 6 (by decide) (by decide) (by decide)
theorem rm_8 {y : Nat} {M : MS} {h : am_H} (hM : RepM y M h) : h (y + 6) = some (am_ia 60 (M 8)) := hM.2 8 (by decide) (by decide) (by decide)
theorem rm_9 {y : Nat} {M : MS} {h : am_H} (hM : RepM y M h) : h (y + 7) = some (am_ia 60 (M 9)) := hM.2 9 (by decide) (by decide) (by decide)
theorem rm_10 {y : Nat} {M : MS} {h : am_H} (hM : RepM y M h) : h (y + 8) = some (am_ia 60 (M 10)) := hM.2 10 (by decide) (by decide) (by decide)
theorem rm_11 {y : Nat} {M : MS} {h : am_H} (hM : RepM y M h) : h (y + 9) = some (am_ia 60 (M 11)) := hM.2 11 (by decide) (by decide) (by decide)
theorem rm_12 {y : Nat} {M : MS} {h : am_H} (hM : RepM y M h) : h (y + 10) = some (am_ia 60 (M 12)) := hM.2 12 (by decide) (by decide) (by decide)
theorem rm_13 {y : Nat} {M : MS} {h : am_H} (hM : RepM y M h) : h (y + 11) = some (am_ia 60 (M 13)) := hM.2 13 (by decide) (by decide) (by decide)
theorem rm_14 {y : Nat} {M : MS} {h : am_H} (hM : RepM y M h) : h (y + 12) = some (am_ia 2400 (M 14)) := hM.2 14 (by decide) (by decide) (by decide)
theorem rm_15 {y : Nat} {M : MS} {h : am_H} (hM : RepM y M h) : h (y + 13) = some (am_ia 2400 (M 15)) := hM.2 15 (by decide) (by decide) (by decide)
theorem rm_16 {y : Nat} {M : MS} {h : am_H} (hM : RepM y M h) : h (y + 14) = some (am_ia 2400 (M 16)) := hM.2 16 (by decide) (by decide) (by decide)
theorem rm_17 {y : Nat} {M : MS} {h : am_H} (hM : RepM y M h) : h (y + 15) = some (am_za 2400 (M 17)) := hM.2 17 (by decide) (by decide) (by decide)
theorem rm_18 {y : Nat} {M : MS} {h : am_H} (hM : RepM y M h) : h (y + 16) = some (am_ia 40 (M 18)) := hM.2 18 (by decide) (by decide) (by decide)
theorem rm_19 {y : Nat} {M : MS} {h : am_H} (hM : RepM y M h) : h (y + 17) = some (am_ia 4 (M 19)) := hM.2 19 (by decide) (by decide) (by decide)
theorem rm_20 {y : Nat} {M : MS} {h : am_H} (hM : RepM y M h) : h (y + 18) = some (am_ia 10 (M 20)) := hM.2 20 (by decide) (by decide) (by decide)
theorem rm_21 {y : Nat} {M : MS} {h : am_H} (hM : RepM y M h) : h (y + 19) = some (am_ia 10 (M 21)) := hM.2 21 (by decide) (by decide) (by decide)
theorem rm_22 {y : Nat} {M : MS} {h : am_H} (hM : RepM y M h) : h (y + 20) = some (am_ia 10 (M 22)) := hM.2 22 (by decide) (by decide) (by decide)
theorem rm_23 {y : Nat} {M : MS} {h : am_H} (hM : RepM y M h) : h (y + 21) = some (am_la 800 (M 23)) := hM.2 23 (by decide) (by decide) (by decide)
theorem rm_24 {y : Nat} {M : MS} {h : am_H} (hM : RepM y M h) : h (y + 22) = some (am_la 800 (M 24)) := hM.2 24 (by decide) (by decide) (by decide)
theorem rm_25 {y : Nat} {M : MS} {h : am_H} (hM : RepM y M h) : h (y + 23) = some (am_la 200 (M 25)) := hM.2 25 (by decide) (by decide) (by decide)
theorem rm_26 {y : Nat} {M : MS} {h : am_H} (hM : RepM y M h) : h (y + 24) = some (am_la 20 (M 26)) := hM.2 26 (by decide) (by decide) (by decide)
theorem rm_27 {y : Nat} {M : MS} {h : am_H} (hM : RepM y M h) : h (y + 25) = some (am_la 20 (M 27)) := hM.2 27 (by decide) (by decide) (by decide)
theorem md_set {y : Nat} {M : MS} {h : am_H} {k : Nat} {v : Int} {e : am_E} (hM : RepM y M h) (hk : k = 0 ∨ k = 1 ∨ k = 7) (he : e = .inr (4, md_fs y (upM M k 0 v))) : RepM y (upM M k 0 v) (am_up h y e) ∧ MF y h (am_up h y e) := by
  refine ⟨⟨by rw [am_up_s, he], fun j j1 j2 j3 => ?_⟩, fun a ha => am_up_n (by omega)⟩
  have ho : 1 ≤ md_off j := by unfold md_off; split <;> omega
  rw [am_up_n (by omega), hM.2 j j1 j2 j3, md_cell_c (M' := upM M k 0 v) (upM_n (by omega)).symm]
section MST
variable {p : Program} {l : Launch} {e : Env} {R : Room} {s : State} {m : MethodId} {args : Array Value} {below : List Frame} {meth : Method} {c : Code} {nL : Nat} {X : am_X} {Q : State → Prop}
variable {cc : ByteArray} {y0 : MethodName} {ret : Option FieldType} {et : List (Nat × Nat × Nat × Nat)} {h : am_H} {nx cells slots pc pc' : Nat} {L : List (Option Value)} {st : List Value} {y : Nat} {M : MS}
theorem mg_2 (F : am_Fx p s m args meth c y0 cc nL ret et X) (hM : RepM y M h) {z : Int} (d : decode cc pc = .ok (.iaload, 1)) (hp : pc + 1 = pc') (h0 : 0 ≤ z) (h1 : z < 20) (k : V p l e R s m args below meth c nL X Q h nx cells slots pc' L (iV (M 2 z) :: st)) : V p l e R s m args below meth c nL X Q h nx cells slots pc L (iV z :: .ref (y + 1) :: st) := v_iag F d hp (rm_2 hM) (by decide) h0 h1 k
theorem mp_2 (F : am_Fx p s m args meth c y0 cc nL ret et X) (hM : RepM y M h) {z w : Int} (d : decode cc pc = .ok (.iastore, 1)) (hp : pc + 1 = pc') (h0 : 0 ≤ z) (h1 : z < 20) (k : ∀ h' : am_H, RepM y (upM M 2 z w) h' → MF y h h' → V p l e R s m args below meth c nL X Q h' nx cells slots pc' L (st)) : V p l e R s m args below meth c nL X Q h nx cells slots pc L (iV w :: iV z :: .ref (y + 1) :: st) := by
  obtain ⟨a1, a2⟩ := md_put (k := 2) (i := z) (v := w) (e := am_ia 20 (upI (M 2) z w)) hM (by decide) (by decide) (by decide) rfl
  exact v_iap F d hp (rm_2 hM) (by decide) h0 h1 (k _ a1 a2)
theorem mg_3 (F : am_Fx p s m args meth c y0 cc nL ret et X) (hM : RepM y M h) {z : Int} (d : decode cc pc = .ok (.iaload, 1)) (hp : pc + 1 = pc') (h0 : 0 ≤ z) (h1 : z < 20) (k : V p l e R s m args below meth c nL X Q h nx cells slots pc' L (iV (M 3 z) :: st)) : V p l e R s m args below meth c nL X Q h nx cells slots pc L (iV z :: .ref (y + 2) :: st) := v_iag F d hp (rm_3 hM) (by decide) h0 h1 k
theorem mp_3 (F : am_Fx p s m args meth c y0 cc nL ret et X) (hM : RepM y M h) {z w : Int} (d : decode cc pc = .ok (.iastore, 1)) (hp : pc + 1 = pc') (h0 : 0 ≤ z) (h1 : z < 20) (k : ∀ h' : am_H, RepM y (upM M 3 z w) h' → MF y h h' → V p l e R s m args below meth c nL X Q h' nx cells slots pc' L (st)) : V p l e R s m args below meth c nL X Q h nx cells slots pc L (iV w :: iV z :: .ref (y + 2) :: st) := by
  obtain ⟨a1, a2⟩ := md_put (k := 3) (i := z) (v := w) (e := am_ia 20 (upI (M 3) z w)) hM (by decide) (by decide) (by decide) rfl
  exact v_iap F d hp (rm_3 hM) (by decide) h0 h1 (k _ a1 a2)
theorem mg_4 (F : am_Fx p s m args meth c y0 cc nL ret et X) (hM : RepM y M h) {z : Int} (d : decode cc pc = .ok (.iaload, 1)) (hp : pc + 1 = pc') (h0 : 0 ≤ z) (h1 : z < 20) (k : V p l e R s m args below meth c nL X Q h nx cells slots pc' L (iV (M 4 z) :: st)) : V p l e R s m args below meth c nL X Q h nx cells slots pc L (iV z :: .ref (y + 3) :: st) := v_iag F d hp (rm_4 hM) (by decide) h0 h1 k
theorem mp_4 (F : am_Fx p s m args meth c y0 cc nL ret et X) (hM : RepM y M h) {z w : Int} (d : decode cc pc = .ok (.iastore, 1)) (hp : pc + 1 = pc') (h0 : 0 ≤ z) (h1 : z < 20) (k : ∀ h' : am_H, RepM y (upM M 4 z w) h' → MF y h h' → V p l e R s m args below meth c nL X Q h' nx cells slots pc' L (st)) : V p l e R s m args below meth c nL X Q h nx cells slots pc L (iV w :: iV z :: .ref (y + 3) :: st) := by
  obtain ⟨a1, a2⟩ := md_put (k := 4) (i := z) (v := w) (e := am_ia 20 (upI (M 4) z w)) hM (by decide) (by decide) (by decide) rfl
  exact v_iap F d hp (rm_4 hM) (by decide) h0 h1 (k _ a1 a2)
theorem mg_5 (F : am_Fx p s m args meth c y0 cc nL ret et X) (hM : RepM y M h) {z : Int} (d : decode cc pc = .ok (.iaload, 1)) (hp : pc + 1 = pc') (h0 : 0 ≤ z) (h1 : z < 240) (k : V p l e R s m args below meth c nL X Q h nx cells slots pc' L (iV (M 5 z) :: st)) : V p l e R s m args below meth c nL X Q h nx cells slots pc L (iV z :: .ref (y + 4) :: st) := v_iag F d hp (rm_5 hM) (by decide) h0 h1 k
theorem mp_5 (F : am_Fx p s m args meth c y0 cc nL ret et X) (hM : RepM y M h) {z w : Int} (d : decode cc pc = .ok (.iastore, 1)) (hp : pc + 1 = pc') (h0 : 0 ≤ z) (h1 : z < 240) (k : ∀ h' : am_H, RepM y (upM M 5 z w) h' → MF y h h' → V p l e R s m args below meth c nL X Q h' nx cells slots pc' L (st)) : V p l e R s m args below meth c nL X Q h nx cells slots pc L (iV w :: iV z :: .ref (y + 4) :: st) := by
  obtain ⟨a1, a2⟩ := md_put (k := 5) (i := z) (v := w) (e := am_ia 240 (upI (M 5) z w)) hM (by decide) (by decide) (by decide) rfl
  exact v_iap F d hp (rm_5 hM) (by decide) h0 h1 (k _ a1 a2)
theorem mg_6 (F : am_Fx p s m args meth c y0 cc nL ret et X) (hM : RepM y M h) {z : Int} (d : decode cc pc = .ok (.laload, 1)) (hp : pc + 1 = pc') (h0 : 0 ≤ z) (h1 : z < 200) (k : V p l e R s m args below meth c nL X Q h nx cells slots pc' L (lV (M 6 z) :: st)) : V p l e R s m args below meth c nL X Q h nx cells slots pc L (iV z :: .ref (y + 5) :: st) := v_lag F d hp (rm_6 hM) (by decide) h0 h1 k
theorem mp_6 (F : am_Fx p s m args meth c y0 cc nL ret et X) (hM : RepM y M h) {z w : Int} (d : decode cc pc = .ok (.lastore, 1)) (hp : pc + 1 = pc') (h0 : 0 ≤ z) (h1 : z < 200) (k : ∀ h' : am_H, RepM y (upM M 6 z w) h' → MF y h h' → V p l e R s m args below meth c nL X Q h' nx cells slots pc' L (st)) : V p l e R s m args below meth c nL X Q h nx cells slots pc L (lV w :: iV z :: .ref (y + 5) :: st) := by
  obtain ⟨a1, a2⟩ := md_put (k := 6) (i := z) (v := w) (e := am_la 200 (upI (M 6) z w)) hM (by decide) (by decide) (by decide) rfl
  exact v_lap F d hp (rm_6 hM) (by decide) h0 h1 (k _ a1 a2)
theorem mg_8 (F : am_Fx p s m args meth c y0 cc nL ret et X) (hM : RepM y M h) {z : Int} (d : decode cc pc = .ok (.iaload, 1)) (hp : pc + 1 = pc') (h0 : 0 ≤ z) (h1 : z < 60) (k : V p l e R s m args below meth c nL X Q h nx cells slots pc' L (iV (M 8 z) :: st)) : V p l e R s m args below meth c nL X Q h nx cells slots pc L (iV z :: .ref (y + 6) :: st) := v_iag F d hp (rm_8 hM) (by decide) h0 h1 k
theorem mp_8 (F : am_Fx p s m args meth c y0 cc nL ret et X) (hM : RepM y M h) {z w : Int} (d : decode cc pc = .ok (.iastore, 1)) (hp : pc + 1 = pc') (h0 : 0 ≤ z) (h1 : z < 60) (k : ∀ h' : am_H, RepM y (upM M 8 z w) h' → MF y h h' → V p l e R s m args below meth c nL X Q h' nx cells slots pc' L (st)) : V p l e R s m args below meth c nL X Q h nx cells slots pc L (iV w :: iV z :: .ref (y + 6) :: st) := by
  obtain ⟨a1, a2⟩ := md_put (k := 8) (i := z) (v := w) (e := am_ia 60 (upI (M 8) z w)) hM (by decide) (by decide) (by decide) rfl
  exact v_iap F d hp (rm_8 hM) (by decide) h0 h1 (k _ a1 a2)
theorem mg_9 (F : am_Fx p s m args meth c y0 cc nL ret et X) (hM : RepM y M h) {z : Int} (d : decode cc pc = .ok (.iaload, 1)) (hp : pc + 1 = pc') (h0 : 0 ≤ z) (h1 : z < 60) (k : V p l e R s m args below meth c nL X Q h nx cells slots pc' L (iV (M 9 z) :: st)) : V p l e R s m args below meth c nL X Q h nx cells slots pc L (iV z :: .ref (y + 7) :: st) := v_iag F d hp (rm_9 hM) (by decide) h0 h1 k
theorem mp_9 (F : am_Fx p s m args meth c y0 cc nL ret et X) (hM : RepM y M h) {z w : Int} (d : decode cc pc = .ok (.iastore, 1)) (hp : pc + 1 = pc') (h0 : 0 ≤ z) (h1 : z < 60) (k : ∀ h' : am_H, RepM y (upM M 9 z w) h' → MF y h h' → V p l e R s m args below meth c nL X Q h' nx cells slots pc' L (st)) : V p l e R s m args below meth c nL X Q h nx cells slots pc L (iV w :: iV z :: .ref (y + 7) :: st) := by
  obtain ⟨a1, a2⟩ := md_put (k := 9) (i := z) (v := w) (e := am_ia 60 (upI (M 9) z w)) hM (by decide) (by decide) (by decide) rfl
  exact v_iap F d hp (rm_9 hM) (by decide) h0 h1 (k _ a1 a2)
theorem mg_10 (F : am_Fx p s m args meth c y0 cc nL ret et X) (hM : RepM y M h) {z : Int} (d : decode cc pc = .ok (.iaload, 1)) (hp : pc + 1 = pc') (h0 : 0 ≤ z) (h1 : z < 60) (k : V p l e R s m args below meth c nL X Q h nx cells slots pc' L (iV (M 10 z) :: st)) : V p l e R s m args below meth c nL X Q h nx cells slots pc L (iV z :: .ref (y + 8) :: st) := v_iag F d hp (rm_10 hM) (by decide) h0 h1 k
theorem mp_10 (F : am_Fx p s m args meth c y0 cc nL ret et X) (hM : RepM y M h) {z w : Int} (d : decode cc pc = .ok (.iastore, 1)) (hp : pc + 1 = pc') (h0 : 0 ≤ z) (h1 : z < 60) (k : ∀ h' : am_H, RepM y (upM M 10 z w) h' → MF y h h' → V p l e R s m args below meth c nL X Q h' nx cells slots pc' L (st)) : V p l e R s m args below meth c nL X Q h nx cells slots pc L (iV w :: iV z :: .ref (y + 8) :: st) := by
  obtain ⟨a1, a2⟩ := md_put (k := 10) (i := z) (v := w) (e := am_ia 60 (upI (M 10) z w)) hM (by decide) (by decide) (by decide) rfl
  exact v_iap F d hp (rm_10 hM) (by decide) h0 h1 (k _ a1 a2)
theorem mg_11 (F : am_Fx p s m args meth c y0 cc nL ret et X) (hM : RepM y M h) {z : Int} (d : decode cc pc = .ok (.iaload, 1)) (hp : pc + 1 = pc') (h0 : 0 ≤ z) (h1 : z < 60) (k : V p l e R s m args below meth c nL X Q h nx cells slots pc' L (iV (M 11 z) :: st)) : V p l e R s m args below meth c nL X Q h nx cells slots pc L (iV z :: .ref (y + 9) :: st) := v_iag F d hp (rm_11 hM) (by decide) h0 h1 k
theorem mp_11 (F : am_Fx p s m args meth c y0 cc nL ret et X) (hM : RepM y M h) {z w : Int} (d : decode cc pc = .ok (.iastore, 1)) (hp : pc + 1 = pc') (h0 : 0 ≤ z) (h1 : z < 60) (k : ∀ h' : am_H, RepM y (upM M 11 z w) h' → MF y h h' → V p l e R s m args below meth c nL X Q h' nx cells slots pc' L (st)) : V p l e R s m args below meth c nL X Q h nx cells slots pc L (iV w :: iV z :: .ref (y + 9) :: st) := by
  obtain ⟨a1, a2⟩ := md_put (k := 11) (i := z) (v := w) (e := am_ia 60 (upI (M 11) z w)) hM (by decide) (by decide) (by decide) rfl
  exact v_iap F d hp (rm_11 hM) (by decide) h0 h1 (k _ a1 a2)
theorem mg_12 (F : am_Fx p s m args meth c y0 cc nL ret et X) (hM : RepM y M h) {z : Int} (d : decode cc pc = .ok (.iaload, 1)) (hp : pc + 1 = pc') (h0 : 0 ≤ z) (h1 : z < 60) (k : V p l e R s m args below meth c nL X Q h nx cells slots pc' L (iV (M 12 z) :: st)) : V p l e R s m args below meth c nL X Q h nx cells slots pc L (iV z :: .ref (y + 10) :: st) := v_iag F d hp (rm_12 hM) (by decide) h0 h1 k
theorem mp_12 (F : am_Fx p s m args meth c y0 cc nL ret et X) (hM : RepM y M h) {z w : Int} (d : decode cc pc = .ok (.iastore, 1)) (hp : pc + 1 = pc') (h0 : 0 ≤ z) (h1 : z < 60) (k : ∀ h' : am_H, RepM y (upM M 12 z w) h' → MF y h h' → V p l e R s m args below meth c nL X Q h' nx cells slots pc' L (st)) : V p l e R s m args below meth c nL X Q h nx cells slots pc L (iV w :: iV z :: .ref (y + 10) :: st) := by
  obtain ⟨a1, a2⟩ := md_put (k := 12) (i := z) (v := w) (e := am_ia 60 (upI (M 12) z w)) hM (by decide) (by decide) (by decide) rfl
  exact v_iap F d hp (rm_12 hM) (by decide) h0 h1 (k _ a1 a2)
theorem mg_13 (F : am_Fx p s m args meth c y0 cc nL ret et X) (hM : RepM y M h) {z : Int} (d : decode cc pc = .ok (.iaload, 1)) (hp : pc + 1 = pc') (h0 : 0 ≤ z) (h1 : z < 60) (k : V p l e R s m args below meth c nL X Q h nx cells slots pc' L (iV (M 13 z) :: st)) : V p l e R s m args below meth c nL X Q h nx cells slots pc L (iV z :: .ref (y + 11) :: st) := v_iag F d hp (rm_13 hM) (by decide) h0 h1 k
theorem mp_13 (F : am_Fx p s m args meth c y0 cc nL ret et X) (hM : RepM y M h) {z w : Int} (d : decode cc pc = .ok (.iastore, 1)) (hp : pc + 1 = pc') (h0 : 0 ≤ z) (h1 : z < 60) (k : ∀ h' : am_H, RepM y (upM M 13 z w) h' → MF y h h' → V p l e R s m args below meth c nL X Q h' nx cells slots pc' L (st)) : V p l e R s m args below meth c nL X Q h nx cells slots pc L (iV w :: iV z :: .ref (y + 11) :: st) := by
  obtain ⟨a1, a2⟩ := md_put (k := 13) (i := z) (v := w) (e := am_ia 60 (upI (M 13) z w)) hM (by decide) (by decide) (by decide) rfl
  exact v_iap F d hp (rm_13 hM) (by decide) h0 h1 (k _ a1 a2)
theorem mg_14 (F : am_Fx p s m args meth c y0 cc nL ret et X) (hM : RepM y M h) {z : Int} (d : decode cc pc = .ok (.iaload, 1)) (hp : pc + 1 = pc') (h0 : 0 ≤ z) (h1 : z < 2400) (k : V p l e R s m args below meth c nL X Q h nx cells slots pc' L (iV (M 14 z) :: st)) : V p l e R s m args below meth c nL X Q h nx cells slots pc L (iV z :: .ref (y + 12) :: st) := v_iag F d hp (rm_14 hM) (by decide) h0 h1 k
theorem mp_14 (F : am_Fx p s m args meth c y0 cc nL ret et X) (hM : RepM y M h) {z w : Int} (d : decode cc pc = .ok (.iastore, 1)) (hp : pc + 1 = pc') (h0 : 0 ≤ z) (h1 : z < 2400) (k : ∀ h' : am_H, RepM y (upM M 14 z w) h' → MF y h h' → V p l e R s m args below meth c nL X Q h' nx cells slots pc' L (st)) : V p l e R s m args below meth c nL X Q h nx cells slots pc L (iV w :: iV z :: .ref (y + 12) :: st) := by
  obtain ⟨a1, a2⟩ := md_put (k := 14) (i := z) (v := w) (e := am_ia 2400 (upI (M 14) z w)) hM (by decide) (by decide) (by decide) rfl
  exact v_iap F d hp (rm_14 hM) (by decide) h0 h1 (k _ a1 a2)
theorem mg_15 (F : am_Fx p s m args meth c y0 cc nL ret et X) (hM : RepM y M h) {z : Int} (d : decode cc pc = .ok (.iaload, 1)) (hp : pc + 1 = pc') (h0 : 0 ≤ z) (h1 : z < 2400) (k : V p l e R s m args below meth c nL X Q h nx cells slots pc' L (iV (M 15 z) :: st)) : V p l e R s m args below meth c nL X Q h nx cells slots pc L (iV z :: .ref (y + 13) :: st) := v_iag F d hp (rm_15 hM) (by decide) h0 h1 k
theorem mp_15 (F : am_Fx p s m args meth c y0 cc nL ret et X) (hM : RepM y M h) {z w : Int} (d : decode cc pc = .ok (.iastore, 1)) (hp : pc + 1 = pc') (h0 : 0 ≤ z) (h1 : z < 2400) (k : ∀ h' : am_H, RepM y (upM M 15 z w) h' → MF y h h' → V p l e R s m args below meth c nL X Q h' nx cells slots pc' L (st)) : V p l e R s m args below meth c nL X Q h nx cells slots pc L (iV w :: iV z :: .ref (y + 13) :: st) := by
  obtain ⟨a1, a2⟩ := md_put (k := 15) (i := z) (v := w) (e := am_ia 2400 (upI (M 15) z w)) hM (by decide) (by decide) (by decide) rfl
  exact v_iap F d hp (rm_15 hM) (by decide) h0 h1 (k _ a1 a2)
theorem mg_16 (F : am_Fx p s m args meth c y0 cc nL ret et X) (hM : RepM y M h) {z : Int} (d : decode cc pc = .ok (.iaload, 1)) (hp : pc + 1 = pc') (h0 : 0 ≤ z) (h1 : z < 2400) (k : V p l e R s m args below meth c nL X Q h nx cells slots pc' L (iV (M 16 z) :: st)) : V p l e R s m args below meth c nL X Q h nx cells slots pc L (iV z :: .ref (y + 14) :: st) := v_iag F d hp (rm_16 hM) (by decide) h0 h1 k
theorem mp_16 (F : am_Fx p s m args meth c y0 cc nL ret et X) (hM : RepM y M h) {z w : Int} (d : decode cc pc = .ok (.iastore, 1)) (hp : pc + 1 = pc') (h0 : 0 ≤ z) (h1 : z < 2400) (k : ∀ h' : am_H, RepM y (upM M 16 z w) h' → MF y h h' → V p l e R s m args below meth c nL X Q h' nx cells slots pc' L (st)) : V p l e R s m args below meth c nL X Q h nx cells slots pc L (iV w :: iV z :: .ref (y + 14) :: st) := by
  obtain ⟨a1, a2⟩ := md_put (k := 16) (i := z) (v := w) (e := am_ia 2400 (upI (M 16) z w)) hM (by decide) (by decide) (by decide) rfl
  exact v_iap F d hp (rm_16 hM) (by decide) h0 h1 (k _ a1 a2)
theorem mg_17 (F : am_Fx p s m args meth c y0 cc nL ret et X) (hM : RepM y M h) {z : Int} (d : decode cc pc = .ok (.baload, 1)) (hp : pc + 1 = pc') (h0 : 0 ≤ z) (h1 : z < 2400) (k : V p l e R s m args below meth c nL X Q h nx cells slots pc' L (iV (M 17 z) :: st)) : V p l e R s m args below meth c nL X Q h nx cells slots pc L (iV z :: .ref (y + 15) :: st) := v_zag F d hp (rm_17 hM) (by decide) h0 h1 k
theorem mp_17 (F : am_Fx p s m args meth c y0 cc nL ret et X) (hM : RepM y M h) {z w : Int} (d : decode cc pc = .ok (.bastore, 1)) (hp : pc + 1 = pc') (h0 : 0 ≤ z) (h1 : z < 2400) (hw : w = 0 ∨ w = 1) (k : ∀ h' : am_H, RepM y (upM M 17 z w) h' → MF y h h' → V p l e R s m args below meth c nL X Q h' nx cells slots pc' L (st)) : V p l e R s m args below meth c nL X Q h nx cells slots pc L (iV w :: iV z :: .ref (y + 15) :: st) := by
  obtain ⟨a1, a2⟩ := md_put (k := 17) (i := z) (v := w) (e := am_za 2400 (upI (M 17) z w)) hM (by decide) (by decide) (by decide) rfl
  exact v_zap F d hp (rm_17 hM) (by decide) h0 h1 hw (k _ a1 a2)
theorem mg_18 (F : am_Fx p s m args meth c y0 cc nL ret et X) (hM : RepM y M h) {z : Int} (d : decode cc pc = .ok (.iaload, 1)) (hp : pc + 1 = pc') (h0 : 0 ≤ z) (h1 : z < 40) (k : V p l e R s m args below meth c nL X Q h nx cells slots pc' L (iV (M 18 z) :: st)) : V p l e R s m args below meth c nL X Q h nx cells slots pc L (iV z :: .ref (y + 16) :: st) := v_iag F d hp (rm_18 hM) (by decide) h0 h1 k
theorem mp_18 (F : am_Fx p s m args meth c y0 cc nL ret et X) (hM : RepM y M h) {z w : Int} (d : decode cc pc = .ok (.iastore, 1)) (hp : pc + 1 = pc') (h0 : 0 ≤ z) (h1 : z < 40) (k : ∀ h' : am_H, RepM y (upM M 18 z w) h' → MF y h h' → V p l e R s m args below meth c nL X Q h' nx cells slots pc' L (st)) : V p l e R s m args below meth c nL X Q h nx cells slots pc L (iV w :: iV z :: .ref (y + 16) :: st) := by
  obtain ⟨a1, a2⟩ := md_put (k := 18) (i := z) (v := w) (e := am_ia 40 (upI (M 18) z w)) hM (by decide) (by decide) (by decide) rfl
  exact v_iap F d hp (rm_18 hM) (by decide) h0 h1 (k _ a1 a2)
theorem mg_19 (F : am_Fx p s m args meth c y0 cc nL ret et X) (hM : RepM y M h) {z : Int} (d : decode cc pc = .ok (.iaload, 1)) (hp : pc + 1 = pc') (h0 : 0 ≤ z) (h1 : z < 4) (k : V p l e R s m args below meth c nL X Q h nx cells slots pc' L (iV (M 19 z) :: st)) : V p l e R s m args below meth c nL X Q h nx cells slots pc L (iV z :: .ref (y + 17) :: st) := v_iag F d hp (rm_19 hM) (by decide) h0 h1 k
theorem mp_19 (F : am_Fx p s m args meth c y0 cc nL ret et X) (hM : RepM y M h) {z w : Int} (d : decode cc pc = .ok (.iastore, 1)) (hp : pc + 1 = pc') (h0 : 0 ≤ z) (h1 : z < 4) (k : ∀ h' : am_H, RepM y (upM M 19 z w) h' → MF y h h' → V p l e R s m args below meth c nL X Q h' nx cells slots pc' L (st)) : V p l e R s m args below meth c nL X Q h nx cells slots pc L (iV w :: iV z :: .ref (y + 17) :: st) := by
  obtain ⟨a1, a2⟩ := md_put (k := 19) (i := z) (v := w) (e := am_ia 4 (upI (M 19) z w)) hM (by decide) (by decide) (by decide) rfl
  exact v_iap F d hp (rm_19 hM) (by decide) h0 h1 (k _ a1 a2)
theorem mg_20 (F : am_Fx p s m args meth c y0 cc nL ret et X) (hM : RepM y M h) {z : Int} (d : decode cc pc = .ok (.iaload, 1)) (hp : pc + 1 = pc') (h0 : 0 ≤ z) (h1 : z < 10) (k : V p l e R s m args below meth c nL X Q h nx cells slots pc' L (iV (M 20 z) :: st)) : V p l e R s m args below meth c nL X Q h nx cells slots pc L (iV z :: .ref (y + 18) :: st) := v_iag F d hp (rm_20 hM) (by decide) h0 h1 k
theorem mp_20 (F : am_Fx p s m args meth c y0 cc nL ret et X) (hM : RepM y M h) {z w : Int} (d : decode cc pc = .ok (.iastore, 1)) (hp : pc + 1 = pc') (h0 : 0 ≤ z) (h1 : z < 10) (k : ∀ h' : am_H, RepM y (upM M 20 z w) h' → MF y h h' → V p l e R s m args below meth c nL X Q h' nx cells slots pc' L (st)) : V p l e R s m args below meth c nL X Q h nx cells slots pc L (iV w :: iV z :: .ref (y + 18) :: st) := by
  obtain ⟨a1, a2⟩ := md_put (k := 20) (i := z) (v := w) (e := am_ia 10 (upI (M 20) z w)) hM (by decide) (by decide) (by decide) rfl
  exact v_iap F d hp (rm_20 hM) (by decide) h0 h1 (k _ a1 a2)
theorem mg_21 (F : am_Fx p s m args meth c y0 cc nL ret et X) (hM : RepM y M h) {z : Int} (d : decode cc pc = .ok (.iaload, 1)) (hp : pc + 1 = pc') (h0 : 0 ≤ z) (h1 : z < 10) (k : V p l e R s m args below meth c nL X Q h nx cells slots pc' L (iV (M 21 z) :: st)) : V p l e R s m args below meth c nL X Q h nx cells slots pc L (iV z :: .ref (y + 19) :: st) := v_iag F d hp (rm_21 hM) (by decide) h0 h1 k
theorem mp_21 (F : am_Fx p s m args meth c y0 cc nL ret et X) (hM : RepM y M h) {z w : Int} (d : decode cc pc = .ok (.iastore, 1)) (hp : pc + 1 = pc') (h0 : 0 ≤ z) (h1 : z < 10) (k : ∀ h' : am_H, RepM y (upM M 21 z w) h' → MF y h h' → V p l e R s m args below meth c nL X Q h' nx cells slots pc' L (st)) : V p l e R s m args below meth c nL X Q h nx cells slots pc L (iV w :: iV z :: .ref (y + 19) :: st) := by
  obtain ⟨a1, a2⟩ := md_put (k := 21) (i := z) (v := w) (e := am_ia 10 (upI (M 21) z w)) hM (by decide) (by decide) (by decide) rfl
  exact v_iap F d hp (rm_21 hM) (by decide) h0 h1 (k _ a1 a2)
theorem mg_22 (F : am_Fx p s m args meth c y0 cc nL ret et X) (hM : RepM y M h) {z : Int} (d : decode cc pc = .ok (.iaload, 1)) (hp : pc + 1 = pc') (h0 : 0 ≤ z) (h1 : z < 10) (k : V p l e R s m args below meth c nL X Q h nx cells slots pc' L (iV (M 22 z) :: st)) : V p l e R s m args below meth c nL X Q h nx cells slots pc L (iV z :: .ref (y + 20) :: st) := v_iag F d hp (rm_22 hM) (by decide) h0 h1 k
theorem mp_22 (F : am_Fx p s m args meth c y0 cc nL ret et X) (hM : RepM y M h) {z w : Int} (d : decode cc pc = .ok (.iastore, 1)) (hp : pc + 1 = pc') (h0 : 0 ≤ z) (h1 : z < 10) (k : ∀ h' : am_H, RepM y (upM M 22 z w) h' → MF y h h' → V p l e R s m args below meth c nL X Q h' nx cells slots pc' L (st)) : V p l e R s m args below meth c nL X Q h nx cells slots pc L (iV w :: iV z :: .ref (y + 20) :: st) := by
  obtain ⟨a1, a2⟩ := md_put (k := 22) (i := z) (v := w) (e := am_ia 10 (upI (M 22) z w)) hM (by decide) (by decide) (by decide) rfl
  exact v_iap F d hp (rm_22 hM) (by decide) h0 h1 (k _ a1 a2)
theorem mg_23 (F : am_Fx p s m args meth c y0 cc nL ret et X) (hM : RepM y M h) {z : Int} (d : decode cc pc = .ok (.laload, 1)) (hp : pc + 1 = pc') (h0 : 0 ≤ z) (h1 : z < 800) (k : V p l e R s m args below meth c nL X Q h nx cells slots pc' L (lV (M 23 z) :: st)) : V p l e R s m args below meth c nL X Q h nx cells slots pc L (iV z :: .ref (y + 21) :: st) := v_lag F d hp (rm_23 hM) (by decide) h0 h1 k
theorem mp_23 (F : am_Fx p s m args meth c y0 cc nL ret et X) (hM : RepM y M h) {z w : Int} (d : decode cc pc = .ok (.lastore, 1)) (hp : pc + 1 = pc') (h0 : 0 ≤ z) (h1 : z < 800) (k : ∀ h' : am_H, RepM y (upM M 23 z w) h' → MF y h h' → V p l e R s m args below meth c nL X Q h' nx cells slots pc' L (st)) : V p l e R s m args below meth c nL X Q h nx cells slots pc L (lV w :: iV z :: .ref (y + 21) :: st) := by
  obtain ⟨a1, a2⟩ := md_put (k := 23) (i := z) (v := w) (e := am_la 800 (upI (M 23) z w)) hM (by decide) (by decide) (by decide) rfl
  exact v_lap F d hp (rm_23 hM) (by decide) h0 h1 (k _ a1 a2)
theorem mg_24 (F : am_Fx p s m args meth c y0 cc nL ret et X) (hM : RepM y M h) {z : Int} (d : decode cc pc = .ok (.laload, 1)) (hp : pc + 1 = pc') (h0 : 0 ≤ z) (h1 : z < 800) (k : V p l e R s m args below meth c nL X Q h nx cells slots pc' L (lV (M 24 z) :: st)) : V p l e R s m args below meth c nL X Q h nx cells slots pc L (iV z :: .ref (y + 22) :: st) := v_lag F d hp (rm_24 hM) (by decide) h0 h1 k
theorem mp_24 (F : am_Fx p s m args meth c y0 cc nL ret et X) (hM : RepM y M h) {z w : Int} (d : decode cc pc = .ok (.lastore, 1)) (hp : pc + 1 = pc') (h0 : 0 ≤ z) (h1 : z < 800) (k : ∀ h' : am_H, RepM y (upM M 24 z w) h' → MF y h h' → V p l e R s m args below meth c nL X Q h' nx cells slots pc' L (st)) : V p l e R s m args below meth c nL X Q h nx cells slots pc L (lV w :: iV z :: .ref (y + 22) :: st) := by
  obtain ⟨a1, a2⟩ := md_put (k := 24) (i := z) (v := w) (e := am_la 800 (upI (M 24) z w)) hM (by decide) (by decide) (by decide) rfl
  exact v_lap F d hp (rm_24 hM) (by decide) h0 h1 (k _ a1 a2)
theorem mg_25 (F : am_Fx p s m args meth c y0 cc nL ret et X) (hM : RepM y M h) {z : Int} (d : decode cc pc = .ok (.laload, 1)) (hp : pc + 1 = pc') (h0 : 0 ≤ z) (h1 : z < 200) (k : V p l e R s m args below meth c nL X Q h nx cells slots pc' L (lV (M 25 z) :: st)) : V p l e R s m args below meth c nL X Q h nx cells slots pc L (iV z :: .ref (y + 23) :: st) := v_lag F d hp (rm_25 hM) (by decide) h0 h1 k
theorem mp_25 (F : am_Fx p s m args meth c y0 cc nL ret et X) (hM : RepM y M h) {z w : Int} (d : decode cc pc = .ok (.lastore, 1)) (hp : pc + 1 = pc') (h0 : 0 ≤ z) (h1 : z < 200) (k : ∀ h' : am_H, RepM y (upM M 25 z w) h' → MF y h h' → V p l e R s m args below meth c nL X Q h' nx cells slots pc' L (st)) : V p l e R s m args below meth c nL X Q h nx cells slots pc L (lV w :: iV z :: .ref (y + 23) :: st) := by
  obtain ⟨a1, a2⟩ := md_put (k := 25) (i := z) (v := w) (e := am_la 200 (upI (M 25) z w)) hM (by decide) (by decide) (by decide) rfl
  exact v_lap F d hp (rm_25 hM) (by decide) h0 h1 (k _ a1 a2)
theorem mg_26 (F : am_Fx p s m args meth c y0 cc nL ret et X) (hM : RepM y M h) {z : Int} (d : decode cc pc = .ok (.laload, 1)) (hp : pc + 1 = pc') (h0 : 0 ≤ z) (h1 : z < 20) (k : V p l e R s m args below meth c nL X Q h nx cells slots pc' L (lV (M 26 z) :: st)) : V p l e R s m args below meth c nL X Q h nx cells slots pc L (iV z :: .ref (y + 24) :: st) := v_lag F d hp (rm_26 hM) (by decide) h0 h1 k
theorem mp_26 (F : am_Fx p s m args meth c y0 cc nL ret et X) (hM : RepM y M h) {z w : Int} (d : decode cc pc = .ok (.lastore, 1)) (hp : pc + 1 = pc') (h0 : 0 ≤ z) (h1 : z < 20) (k : ∀ h' : am_H, RepM y (upM M 26 z w) h' → MF y h h' → V p l e R s m args below meth c nL X Q h' nx cells slots pc' L (st)) : V p l e R s m args below meth c nL X Q h nx cells slots pc L (lV w :: iV z :: .ref (y + 24) :: st) := by
  obtain ⟨a1, a2⟩ := md_put (k := 26) (i := z) (v := w) (e := am_la 20 (upI (M 26) z w)) hM (by decide) (by decide) (by decide) rfl
  exact v_lap F d hp (rm_26 hM) (by decide) h0 h1 (k _ a1 a2)
theorem mg_27 (F : am_Fx p s m args meth c y0 cc nL ret et X) (hM : RepM y M h) {z : Int} (d : decode cc pc = .ok (.laload, 1)) (hp : pc + 1 = pc') (h0 : 0 ≤ z) (h1 : z < 20) (k : V p l e R s m args below meth c nL X Q h nx cells slots pc' L (lV (M 27 z) :: st)) : V p l e R s m args below meth c nL X Q h nx cells slots pc L (iV z :: .ref (y + 25) :: st) := v_lag F d hp (rm_27 hM) (by decide) h0 h1 k
theorem mp_27 (F : am_Fx p s m args meth c y0 cc nL ret et X) (hM : RepM y M h) {z w : Int} (d : decode cc pc = .ok (.lastore, 1)) (hp : pc + 1 = pc') (h0 : 0 ≤ z) (h1 : z < 20) (k : ∀ h' : am_H, RepM y (upM M 27 z w) h' → MF y h h' → V p l e R s m args below meth c nL X Q h' nx cells slots pc' L (st)) : V p l e R s m args below meth c nL X Q h nx cells slots pc L (lV w :: iV z :: .ref (y + 25) :: st) := by
  obtain ⟨a1, a2⟩ := md_put (k := 27) (i := z) (v := w) (e := am_la 20 (upI (M 27) z w)) hM (by decide) (by decide) (by decide) rfl
  exact v_lap F d hp (rm_27 hM) (by decide) h0 h1 (k _ a1 a2)
theorem mp_0 (F : am_Fx p s m args meth c y0 cc nL ret et X) (hM : RepM y M h) {w : Int} {index : Nat} (d : decode cc pc = .ok (.putfield index, 3)) (hp : pc + 3 = pc') (hlink : Cond.fieldLink y0.cls index "BillSharesModel" "code" "I" ∈ lw_tbl) (k : ∀ h' : am_H, RepM y (upM M 0 0 w) h' → MF y h h' → V p l e R s m args below meth c nL X Q h' nx cells slots pc' L (st)) : V p l e R s m args below meth c nL X Q h nx cells slots pc L (iV w :: .ref y :: st) := by
  obtain ⟨a1, a2⟩ := md_set (k := 0) (v := w) (e := .inr (4, (md_fs y M).set 0 (iV w))) hM (by decide) rfl
  exact v_putf (C := zR_M) (T := zF_M) (N := 28) (ref := "BillSharesModel") (ty := .int) F d hp zi_M zt_M zk_M zn_M rfl 0 (by decide) hlink (Or.inl rfl) (Or.inl rfl) (by decide +kernel) rfl rfl hM.1 (by show 0 < 28; decide) (k _ a1 a2)
theorem mp_1 (F : am_Fx p s m args meth c y0 cc nL ret et X) (hM : RepM y M h) {w : Int} {index : Nat} (d : decode cc pc = .ok (.putfield index, 3)) (hp : pc + 3 = pc') (hlink : Cond.fieldLink y0.cls index "BillSharesModel" "flats" "I" ∈ lw_tbl) (k : ∀ h' : am_H, RepM y (upM M 1 0 w) h' → MF y h h' → V p l e R s m args below meth c nL X Q h' nx cells slots pc' L (st)) : V p l e R s m args below meth c nL X Q h nx cells slots pc L (iV w :: .ref y :: st) := by
  obtain ⟨a1, a2⟩ := md_set (k := 1) (v := w) (e := .inr (4, (md_fs y M).set 1 (iV w))) hM (by decide) rfl
  exact v_putf (C := zR_M) (T := zF_M) (N := 28) (ref := "BillSharesModel") (ty := .int) F d hp zi_M zt_M zk_M zn_M rfl 1 (by decide) hlink (Or.inl rfl) (Or.inl rfl) (by decide +kernel) rfl rfl hM.1 (by show 1 < 28; decide) (k _ a1 a2)
theorem mp_7 (F : am_Fx p s m args meth c y0 cc nL ret et X) (hM : RepM y M h) {w : Int} {index : Nat} (d : decode cc pc = .ok (.putfield index, 3)) (hp : pc + 3 = pc') (hlink : Cond.fieldLink y0.cls index "BillSharesModel" "meters" "I" ∈ lw_tbl) (k : ∀ h' : am_H, RepM y (upM M 7 0 w) h' → MF y h h' → V p l e R s m args below meth c nL X Q h' nx cells slots pc' L (st)) : V p l e R s m args below meth c nL X Q h nx cells slots pc L (iV w :: .ref y :: st) := by
  obtain ⟨a1, a2⟩ := md_set (k := 7) (v := w) (e := .inr (4, (md_fs y M).set 7 (iV w))) hM (by decide) rfl
  exact v_putf (C := zR_M) (T := zF_M) (N := 28) (ref := "BillSharesModel") (ty := .int) F d hp zi_M zt_M zk_M zn_M rfl 7 (by decide) hlink (Or.inl rfl) (Or.inl rfl) (by decide +kernel) rfl rfl hM.1 (by show 7 < 28; decide) (k _ a1 a2)
end MST
