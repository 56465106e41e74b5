/-! what a run of the class is made of (written by wip/whole/cc11.py) -/
set_option maxRecDepth 100000 in
set_option maxHeartbeats 4000000 in
theorem c_F_billOfE (l : Launch) (X : am_X) (h : am_H) (nx : Nat) (x : Nat) (A : Nat → Prop) (P : Tg → Nat) (M : MS) (f a : Int) (hC : RepC X x A P M h) (hf : 0 ≤ f ∧ f < M 1 0) (ry : 0 ≤ a ∧ a ≤ 9) (hb : f < M 21 a) : CnP l X y_F_billOf ({ frames := 2, cells := 0, slots := 0, locals := 40 }) [.ref (P (6, f)), iV a] h nx (.ref (P (16, 20 * a + f))) := by
  refine cn_of (k := 0) (L0 := [some (.ref (P (6, f))), some (iV a)]) rfl wx_489 (Nat.le_of_ble_eq_true rfl) rfl (fun p e s m args below meth c F => ?_)
  refine v_aload_n (pc' := 1) (j := 0) F d_F_billOf_0 rfl rfl rfl ?_
  refine v_getf (pc' := 4) (C := zR_F) (T := zF_F) (N := 10) (ref := "BillShares$Flat") F d_F_billOf_1 rfl zi_F rfl 6 (by decide) wx_197 (Or.inl rfl) (hC.t_fl (i := f) hf) rfl ?_
  refine v_iload_n (pc' := 5) (j := 1) F d_F_billOf_4 rfl rfl rfl ?_
  refine cg_bs (pc' := 6) F hC (f := f) hf d_F_billOf_5 rfl (by omega) (by omega) ?_
  refine v_topv (if_pos hb) ?_
  refine v_ifnonnull (tgt := 22) F d_F_billOf_6 (by decide) ?_
  refine v_aload_n (pc' := 23) (j := 0) F d_F_billOf_22 rfl rfl rfl ?_
  refine v_getf (pc' := 26) (C := zR_F) (T := zF_F) (N := 10) (ref := "BillShares$Flat") F d_F_billOf_23 rfl zi_F rfl 6 (by decide) wx_197 (Or.inl rfl) (hC.t_fl (i := f) hf) rfl ?_
  refine v_iload_n (pc' := 27) (j := 1) F d_F_billOf_26 rfl rfl rfl ?_
  refine cg_bs (pc' := 28) F hC (f := f) hf d_F_billOf_27 rfl (by omega) (by omega) ?_
  refine v_topv (if_pos hb) ?_
  exact v_areturn F d_F_billOf_28 rfl (Or.inl ⟨_, rfl⟩) (Or.inr ⟨_, rfl⟩) (Nat.le_refl _) (Nat.le_refl _) ⟨rfl, rfl, rfl⟩
set_option maxRecDepth 100000 in
set_option maxHeartbeats 4000000 in
theorem tl_F_billOf {p : Program} {l : Launch} {e : Env} {s : State} {m : MethodId} {args : Array Value} {below : List Frame} {meth : Method} {c : Code} {X : am_X} {h : am_H} {nx : Nat} {x : Nat} {A : Nat → Prop} {P : Tg → Nat} {M : MS}  {h5 : am_H} {f a : Int} (F : am_Fx p s m args meth c y_F_billOf b_F_billOf 2 (some (.object "BillShares$Bill")) [] X) (hC : RepC X x A (pB P (20 * a + f) nx) (newB M f a) h5) (hf : 0 ≤ f ∧ f < M 1 0) (ry : 0 ≤ a ∧ a ≤ 9) (hF : OF A h h5) : V p l e ({ frames := 2, cells := 3, slots := 11, locals := 40 }) s m args below meth c 2 X (am_Q X below s 3 11 (fun o h' nx' => o = .returned (some (.ref nx)) ∧ nx' = nx + 3 ∧ RepC X x A (pB P (20 * a + f) nx) (newB M f a) h' ∧ OF A h h')) h5 (nx + 3) 3 11 22 [some (.ref (P (6, f))), some (iV a)] [] := by
  refine v_aload_n (pc' := 23) (j := 0) F d_F_billOf_22 rfl rfl rfl ?_
  refine v_getf (pc' := 26) (C := zR_F) (T := zF_F) (N := 10) (ref := "BillShares$Flat") F d_F_billOf_23 rfl zi_F rfl 6 (by decide) wx_197 (Or.inl rfl) (hC.t_fl (i := f) hf) rfl ?_
  refine v_iload_n (pc' := 27) (j := 1) F d_F_billOf_26 rfl rfl rfl ?_
  refine cg_bs (pc' := 28) F hC (f := f) hf d_F_billOf_27 rfl (by omega) (by omega) ?_
  refine v_topv (b := .ref nx) ((if_pos (show f < upM M 21 a (f + 1) 21 a by rw [upM_ss]; omega)).trans (congrArg Value.ref (pB_16 (P := P) (n := 20 * a + f) (b := nx)))) ?_
  exact v_areturn F d_F_billOf_28 rfl (Or.inl ⟨_, rfl⟩) (Or.inr ⟨_, rfl⟩) (by decide) (by decide) ⟨rfl, rfl, hC, hF⟩
set_option maxRecDepth 100000 in
set_option maxHeartbeats 4000000 in
theorem c_F_billOfN (l : Launch) (X : am_X) (h : am_H) (nx : Nat) (x : Nat) (A : Nat → Prop) (P : Tg → Nat) (M : MS) (f a : Int) (hC : RepC X x A P M h) (hI : RI M) (hA : ∀ q : Nat, nx ≤ q → A q) (hf : 0 ≤ f ∧ f < M 1 0) (ry : 0 ≤ a ∧ a ≤ 9) (h21 : M 21 a = f) : Cn l X y_F_billOf ({ frames := 2, cells := 3, slots := 11, locals := 40 }) [.ref (P (6, f)), iV a] h nx (fun o h' nx' => o = .returned (some (.ref nx)) ∧ nx' = nx + 3 ∧ RepC X x A (pB P (20 * a + f) nx) (newB M f a) h' ∧ OF A h h') := by
  refine cn_of (k := 0) (L0 := [some (.ref (P (6, f))), some (iV a)]) rfl wx_489 (Nat.le_of_ble_eq_true rfl) rfl (fun p e s m args below meth c F => ?_)
  refine v_fr (fun hfr => ?_)
  have hbl : P (11, f) < nx := hC.lt hfr (t := (11, f)) hf
  refine v_aload_n (pc' := 1) (j := 0) F d_F_billOf_0 rfl rfl rfl ?_
  refine v_getf (pc' := 4) (C := zR_F) (T := zF_F) (N := 10) (ref := "BillShares$Flat") F d_F_billOf_1 rfl zi_F rfl 6 (by decide) wx_197 (Or.inl rfl) (hC.t_fl (i := f) hf) rfl ?_
  refine v_iload_n (pc' := 5) (j := 1) F d_F_billOf_4 rfl rfl rfl ?_
  refine cg_bs (pc' := 6) F hC (f := f) hf d_F_billOf_5 rfl (by omega) (by omega) ?_
  refine v_topv (if_neg (by omega)) ?_
  refine v_ifnonnullN (pc' := 9) F d_F_billOf_6 rfl ?_
  refine v_aload_n (pc' := 10) (j := 0) F d_F_billOf_9 rfl rfl rfl ?_
  refine v_getf (pc' := 13) (C := zR_F) (T := zF_F) (N := 10) (ref := "BillShares$Flat") F d_F_billOf_10 rfl zi_F rfl 6 (by decide) wx_197 (Or.inl rfl) (hC.t_fl (i := f) hf) rfl ?_
  refine v_iload_n (pc' := 14) (j := 1) F d_F_billOf_13 rfl rfl rfl ?_
  refine v_new (pc' := 17) (ci := 3) (C := zR_B) (T := zF_B) (N := 3) (fs := [.null, .null, lV 0]) F d_F_billOf_14 rfl zi_B zt_B zk_B rfl wx_184 wx_490 wx_19 (by decide +kernel) (by decide) (by decide) ?_
  refine v_dup (pc' := 18) F d_F_billOf_17 rfl rfl ?_
  refine v_callIN (pc' := 21) (av := []) F d_F_billOf_18 rfl wx_493 cal_B_init rfl wx_491 wx_492 (c_B_init l X _ _ _ am_up_s (Nat.lt_succ_self _)) rfl ⟨by decide, by decide, by decide, by decide⟩ (Nat.le_of_ble_eq_true rfl) (fun _ _ _ q => by cases q.1) (fun r9 h4 n4 q => ?_)
  obtain ⟨q9, rfl, hk4, k0, k1, k2⟩ := q
  cases q9
  refine v_aast (pc' := 22) (ai := 3) (E := "BillShares$Bill") F d_F_billOf_21 rfl (by decide) ((hk4 _ (Nat.ne_of_lt hbl) (Nat.lt_succ_of_lt hbl)).trans ((am_up_n (Nat.ne_of_lt hbl)).trans (hC.t_bs (i := f) hf))) (by decide) (by omega) (by omega) (ci := 3) rfl k0 (Or.inr rfl) ?_
  have hC5 := hC.newBill (f := f) (a := a) (h1 := am_up h4 (P (11, f)) (.inl (3, 10, updV (bsF P M f) a.toNat (.ref nx)))) hfr hA hI hf ry h21 (fun q z1 z2 => (am_up_n z2).trans ((hk4 q (by omega) (by omega)).trans (am_up_n (by omega)))) am_up_s ((am_up_n (Nat.ne_of_gt hbl)).trans k0) ((am_up_n (by omega)).trans k1) ((am_up_n (by omega)).trans k2)
  have hF5 : OF A h (am_up h4 (P (11, f)) (.inl (3, 10, updV (bsF P M f) a.toNat (.ref nx)))) := fun q hq => by
    have hne : q ≠ P (11, f) := fun w => hq (by rw [w]; exact hC.own (11, f) hf)
    rw [am_up_n hne]
    by_cases c : q < nx
    · exact (hk4 q (by omega) (by omega)).trans (am_up_n (by omega))
    · exact absurd (hA q (by omega)) hq
  exact tl_F_billOf F hC5 hf ry hF5
set_option maxRecDepth 100000 in
set_option maxHeartbeats 4000000 in
theorem lp_S_sumOfWeights {p : Program} {l : Launch} {e : Env} {s : State} {m : MethodId} {args : Array Value} {below : List Frame} {meth : Method} {c : Code} {X : am_X} {Q : State → Prop} {h : am_H} {nx : Nat} {x : Nat} {A : Nat → Prop} {P : Tg → Nat} {M : MS}   (F : am_Fx p s m args meth c y_S_sumOfWeights b_S_sumOfWeights 4 ((Option.some FieldType.long)) [] X) (hC : RepC X x A P M h) (hI : RI M) (hN : NI M) (hx : V p l e ({ frames := 3, cells := 0, slots := 0, locals := 64 }) s m args below meth c 4 X Q h nx 0 0 38 [some (.ref (P (0, 0))), some (lV (sumI (M 29) (M 1 0).toNat)), none, some (iV ((M 1 0).toNat : Int))] []) : ∀ (n k : Nat), (M 1 0).toNat < k + n → k ≤ (M 1 0).toNat → V p l e ({ frames := 3, cells := 0, slots := 0, locals := 64 }) s m args below meth c 4 X Q h nx 0 0 4 [some (.ref (P (0, 0))), some (lV (sumI (M 29) k)), none, some (iV (k : Int))] [] := by
  intro n
  induction n with
  | zero =>
    intro k hk hk2
    exact absurd hk (by omega)
  | succ n ih =>
    intro k hk hk2
    have q1 := hI.hfl
    refine v_iload_n (pc' := 5) (j := 3) F d_S_sumOfWeights_4 rfl rfl rfl ?_
    refine v_aload_n (pc' := 6) (j := 0) F d_S_sumOfWeights_5 rfl rfl rfl ?_
    refine v_getf (pc' := 9) (C := zR_S) (T := zF_S) (N := 6) (ref := "BillShares") F d_S_sumOfWeights_6 rfl zi_S rfl 0 (by decide) wx_57 (Or.inl rfl) (hC.t_top) rfl ?_
    refine v_callVP (pc' := 12) (C := zR_A) (T9 := zF_A) (N := 3) F d_S_sumOfWeights_9 rfl cal_A_size wx_156 wx_157 wx_158 rfl (hC.t_ls (i := 0) ⟨by decide, by decide⟩) (c_size l X _ _ _ _ 0 (M 1 0) hC ⟨by decide, by decide⟩ hN.z0) rfl ⟨by decide, by decide, by decide, by decide⟩ (Nat.le_of_ble_eq_true rfl) rfl rfl ?_
    refine v_icmp_ge (tgt := 38) (pc' := 15) F d_S_sumOfWeights_12 (by decide) rfl (by omega) (by omega) (fun c12 => ?_) (fun c12 => ?_)
    · obtain rfl : k = (M 1 0).toNat := by omega
      exact hx
    · refine v_lload_n (pc' := 16) (j := 1) F d_S_sumOfWeights_15 rfl rfl rfl ?_
      refine v_aload_n (pc' := 17) (j := 0) F d_S_sumOfWeights_16 rfl rfl rfl ?_
      refine v_getf (pc' := 20) (C := zR_S) (T := zF_S) (N := 6) (ref := "BillShares") F d_S_sumOfWeights_17 rfl zi_S rfl 0 (by decide) wx_57 (Or.inl rfl) (hC.t_top) rfl ?_
      refine v_iload_n (pc' := 21) (j := 3) F d_S_sumOfWeights_20 rfl rfl rfl ?_
      refine v_callVP (pc' := 24) (C := zR_A) (T9 := zF_A) (N := 3) F d_S_sumOfWeights_21 rfl cal_A_get wx_283 wx_284 wx_285 rfl (hC.t_ls (i := 0) ⟨by decide, by decide⟩) (c_get l X _ _ _ _ 0 (k : Int) hC ⟨by decide, by decide⟩ (hN.hcp 0 (by decide) (by decide)) (by show 0 ≤ (k : Int) ∧ (k : Int) < M 36 0; have := hN.z0; omega)) rfl ⟨by decide, by decide, by decide, by decide⟩ (Nat.le_of_ble_eq_true rfl) rfl rfl ?_
      refine v_cast (pc' := 27) (C := zR_F) (T9 := zF_F) (N := 10) F d_S_sumOfWeights_24 rfl wx_176 wx_915 rfl (hC.t_fl (i := (k : Int)) (show 0 ≤ (k : Int) ∧ (k : Int) < M 1 0 by omega)) ?_
      refine v_getf (pc' := 30) (C := zR_F) (T := zF_F) (N := 10) (ref := "BillShares$Flat") F d_S_sumOfWeights_27 rfl zi_F rfl 8 (by decide) wx_200 (Or.inl rfl) (hC.t_fl (i := (k : Int)) (show 0 ≤ (k : Int) ∧ (k : Int) < M 1 0 by omega)) rfl ?_
      refine v_ladd (pc' := 31) F d_S_sumOfWeights_30 rfl ?_
      refine v_lstore_1 (pc' := 32) F d_S_sumOfWeights_31 rfl rfl (by decide) ?_
      refine v_iinc_3 (pc' := 35) F d_S_sumOfWeights_32 rfl rfl (by decide) ?_
      refine v_goto (tgt := 4) F d_S_sumOfWeights_35 (by decide) ?_
      exact ih (k + 1) (by omega) (by omega)
set_option maxRecDepth 100000 in
set_option maxHeartbeats 4000000 in
theorem c_S_sumOfWeights (l : Launch) (X : am_X) (h : am_H) (nx : Nat) (x : Nat) (A : Nat → Prop) (P : Tg → Nat) (M : MS)  (hC : RepC X x A P M h) (hI : RI M) (hN : NI M) : CnP l X y_S_sumOfWeights ({ frames := 3, cells := 0, slots := 0, locals := 64 }) [.ref (P (0, 0))] h nx (lV (sumI (M 29) (M 1 0).toNat)) := by
  refine cn_of (k := 3) (L0 := [some (.ref (P (0, 0))), none, none, none]) rfl wx_534 (Nat.le_of_ble_eq_true rfl) rfl (fun p e s m args below meth c F => ?_)
  refine v_lconst (pc' := 1) (z := 0) F d_S_sumOfWeights_0 rfl (by decide) ?_
  refine v_lstore_1 (pc' := 2) F d_S_sumOfWeights_1 rfl rfl (by decide) ?_
  refine v_iconst (pc' := 3) F d_S_sumOfWeights_2 rfl ?_
  refine v_istore_3 (pc' := 4) F d_S_sumOfWeights_3 rfl rfl (by decide) ?_
  refine lp_S_sumOfWeights F hC hI hN ?_ ((M 1 0).toNat + 1) 0 (by omega) (by omega)
  refine v_lload_n (pc' := 39) (j := 1) F d_S_sumOfWeights_38 rfl rfl rfl ?_
  exact v_lreturn F d_S_sumOfWeights_39 rfl (Nat.le_refl _) (Nat.le_refl _) ⟨rfl, rfl, rfl⟩
set_option maxRecDepth 100000 in
set_option maxHeartbeats 4000000 in
theorem lp_S_weighByArea {p : Program} {l : Launch} {e : Env} {s : State} {m : MethodId} {args : Array Value} {below : List Frame} {meth : Method} {c : Code} {X : am_X} {Q : State → Prop} {h : am_H} {nx : Nat} {x : Nat} {A : Nat → Prop} {P : Tg → Nat} {M : MS}   (F : am_Fx p s m args meth c y_S_weighByArea b_S_weighByArea 3 ((Option.none : Option FieldType)) [] X) (hI : RI M) (hN : NI M) (hx : ∀ h9 : am_H, RepC X x A P (setC M 29 (M 2) (M 1 0).toNat) h9 → OF A h h9 → V p l e ({ frames := 3, cells := 0, slots := 0, locals := 64 }) s m args below meth c 3 X Q h9 nx 0 0 40 [some (.ref (P (0, 0))), some (iV ((M 1 0).toNat : Int)), none] []) : ∀ (n k : Nat), (M 1 0).toNat < k + n → k ≤ (M 1 0).toNat → ∀ h9 : am_H, RepC X x A P (setC M 29 (M 2) k) h9 → OF A h h9 → V p l e ({ frames := 3, cells := 0, slots := 0, locals := 64 }) s m args below meth c 3 X Q h9 nx 0 0 2 [some (.ref (P (0, 0))), some (iV (k : Int)), none] [] := by
  intro n
  induction n with
  | zero =>
    intro k hk hk2
    exact absurd hk (by omega)
  | succ n ih =>
    intro k hk hk2 h9 hC9 hF9
    have q1 := hI.hfl
    refine v_iload_n (pc' := 3) (j := 1) F d_S_weighByArea_2 rfl rfl rfl ?_
    refine v_aload_n (pc' := 4) (j := 0) F d_S_weighByArea_3 rfl rfl rfl ?_
    refine v_getf (pc' := 7) (C := zR_S) (T := zF_S) (N := 6) (ref := "BillShares") F d_S_weighByArea_4 rfl zi_S rfl 0 (by decide) wx_57 (Or.inl rfl) (hC9.t_top) rfl ?_
    refine v_callVP (pc' := 10) (C := zR_A) (T9 := zF_A) (N := 3) F d_S_weighByArea_7 rfl cal_A_size wx_156 wx_157 wx_158 rfl (hC9.t_ls (i := 0) ⟨by decide, by decide⟩) (c_size l X _ _ _ _ 0 (M 1 0) hC9 ⟨by decide, by decide⟩ hN.z0) rfl ⟨by decide, by decide, by decide, by decide⟩ (Nat.le_of_ble_eq_true rfl) rfl rfl ?_
    refine v_icmp_ge (tgt := 40) (pc' := 13) F d_S_weighByArea_10 (by decide) rfl (by omega) (by omega) (fun c10 => ?_) (fun c10 => ?_)
    · obtain rfl : k = (M 1 0).toNat := by omega
      exact hx h9 hC9 hF9
    · refine v_aload_n (pc' := 14) (j := 0) F d_S_weighByArea_13 rfl rfl rfl ?_
      refine v_getf (pc' := 17) (C := zR_S) (T := zF_S) (N := 6) (ref := "BillShares") F d_S_weighByArea_14 rfl zi_S rfl 0 (by decide) wx_57 (Or.inl rfl) (hC9.t_top) rfl ?_
      refine v_iload_n (pc' := 18) (j := 1) F d_S_weighByArea_17 rfl rfl rfl ?_
      refine v_callVP (pc' := 21) (C := zR_A) (T9 := zF_A) (N := 3) F d_S_weighByArea_18 rfl cal_A_get wx_283 wx_284 wx_285 rfl (hC9.t_ls (i := 0) ⟨by decide, by decide⟩) (c_get l X _ _ _ _ 0 (k : Int) hC9 ⟨by decide, by decide⟩ (hN.hcp 0 (by decide) (by decide)) (by show 0 ≤ (k : Int) ∧ (k : Int) < M 36 0; have := hN.z0; omega)) rfl ⟨by decide, by decide, by decide, by decide⟩ (Nat.le_of_ble_eq_true rfl) rfl rfl ?_
      refine v_cast (pc' := 24) (C := zR_F) (T9 := zF_F) (N := 10) F d_S_weighByArea_21 rfl wx_176 wx_915 rfl (hC9.t_fl (i := (k : Int)) (show 0 ≤ (k : Int) ∧ (k : Int) < M 1 0 by omega)) ?_
      refine v_astore_2 (pc' := 25) F d_S_weighByArea_24 rfl rfl (by decide) ?_
      refine v_aload_n (pc' := 26) (j := 2) F d_S_weighByArea_25 rfl rfl rfl ?_
      refine v_aload_n (pc' := 27) (j := 2) F d_S_weighByArea_26 rfl rfl rfl ?_
      have q2 := hI.har (k : Int) (by omega) (by omega)
      refine v_getf (pc' := 30) (C := zR_F) (T := zF_F) (N := 10) (ref := "BillShares$Flat") F d_S_weighByArea_27 rfl zi_F rfl 0 (by decide) wx_187 (Or.inl rfl) (hC9.t_fl (i := (k : Int)) (show 0 ≤ (k : Int) ∧ (k : Int) < M 1 0 by omega)) rfl ?_
      refine v_topi (b := M 2 (k : Int)) rfl ?_
      refine v_i2l (pc' := 31) F d_S_weighByArea_30 rfl (by omega) ?_
      refine cp_we (pc' := 34) F hC9 (f := (k : Int)) (show 0 ≤ (k : Int) ∧ (k : Int) < M 1 0 by omega) d_S_weighByArea_31 rfl wx_200 (fun h1 hC1 hF1 => ?_)
      refine v_iinc_1 (pc' := 37) F d_S_weighByArea_34 rfl rfl (by decide) ?_
      refine v_goto (tgt := 2) F d_S_weighByArea_37 (by decide) ?_
      exact v_subL (by (repeat' (first | exact trivial | exact rfl | refine And.intro ?_ ?_)); done) (ih (k + 1) (by omega) (by omega) _ (by rw [← setC_s]; exact hC1) ((hF9).tr hF1))
set_option maxRecDepth 100000 in
set_option maxHeartbeats 4000000 in
theorem c_S_weighByArea (l : Launch) (X : am_X) (h : am_H) (nx : Nat) (x : Nat) (A : Nat → Prop) (P : Tg → Nat) (M : MS)  (hC : RepC X x A P M h) (hI : RI M) (hN : NI M) : Cn l X y_S_weighByArea ({ frames := 3, cells := 0, slots := 0, locals := 64 }) [.ref (P (0, 0))] h nx (fun o h' nx' => RepC X x A P (setC M 29 (M 2) (M 1 0).toNat) h' ∧ OF A h h' ∧ nx' = nx ∧ o = .returned none) := by
  refine cn_of (k := 2) (L0 := [some (.ref (P (0, 0))), none, none]) rfl wx_526 (Nat.le_of_ble_eq_true rfl) rfl (fun p e s m args below meth c F => ?_)
  refine v_iconst (pc' := 1) F d_S_weighByArea_0 rfl ?_
  refine v_istore_1 (pc' := 2) F d_S_weighByArea_1 rfl rfl (by decide) ?_
  refine lp_S_weighByArea (h := h) F hI hN (fun h9 hC9 hF9 => ?_) ((M 1 0).toNat + 1) 0 (by omega) (by omega) _ (by rw [setC_0]; exact hC) OF.rf
  exact v_return F d_S_weighByArea_40 rfl (Nat.le_refl _) (Nat.le_refl _) ⟨hC9, hF9, rfl, rfl⟩
set_option maxRecDepth 100000 in
set_option maxHeartbeats 4000000 in
theorem lpA_S_dealOut {p : Program} {l : Launch} {e : Env} {s : State} {m : MethodId} {args : Array Value} {below : List Frame} {meth : Method} {c : Code} {X : am_X} {Q : State → Prop} {h : am_H} {nx : Nat} {x : Nat} {A : Nat → Prop} {P : Tg → Nat} {M : MS}  {p0 : Int} (F : am_Fx p s m args meth c y_S_dealOut b_S_dealOut 9 ((Option.none : Option FieldType)) [] X) (hI : RI M) (hN : NI M) (hw0 : ∀ f : Int, 0 ≤ f → f < M 1 0 → 0 ≤ M 29 f ∧ M 29 f ≤ 23400000000000000) (hw1 : 0 < (sumI (M 29) (M 1 0).toNat) ∧ (sumI (M 29) (M 1 0).toNat) ≤ 468000000000000000) (hp0 : 0 ≤ p0 ∧ p0 ≤ 1000000000) (hx : ∀ h9 : am_H, RepC X x A P (setC M 30 (fun f => p0 * M 29 f / (sumI (M 29) (M 1 0).toNat)) (M 1 0).toNat) h9 → OF A h h9 → V p l e ({ frames := 4, cells := 0, slots := 0, locals := 87 }) s m args below meth c 9 X Q h9 nx 0 0 68 [some (.ref (P (0, 0))), some (lV p0), none, some (lV (sumI (M 29) (M 1 0).toNat)), none, some (lV (p0 - sumI (fun f => p0 * M 29 f / (sumI (M 29) (M 1 0).toNat)) (M 1 0).toNat)), none, some (iV ((M 1 0).toNat : Int)), none] []) : ∀ (n k : Nat), (M 1 0).toNat < k + n → k ≤ (M 1 0).toNat → ∀ h9 : am_H, RepC X x A P (setC M 30 (fun f => p0 * M 29 f / (sumI (M 29) (M 1 0).toNat)) k) h9 → OF A h h9 → V p l e ({ frames := 4, cells := 0, slots := 0, locals := 87 }) s m args below meth c 9 X Q h9 nx 0 0 11 [some (.ref (P (0, 0))), some (lV p0), none, some (lV (sumI (M 29) (M 1 0).toNat)), none, some (lV (p0 - sumI (fun f => p0 * M 29 f / (sumI (M 29) (M 1 0).toNat)) k)), none, some (iV (k : Int)), none] [] := by
  intro n
  induction n with
  | zero =>
    intro k hk hk2
    exact absurd hk (by omega)
  | succ n ih =>
    intro k hk hk2 h9 hC9 hF9
    have q1 := hI.hfl
    refine v_iload (pc' := 13) F d_S_dealOut_11 rfl rfl ?_
    refine v_aload_n (pc' := 14) (j := 0) F d_S_dealOut_13 rfl rfl rfl ?_
    refine v_getf (pc' := 17) (C := zR_S) (T := zF_S) (N := 6) (ref := "BillShares") F d_S_dealOut_14 rfl zi_S rfl 0 (by decide) wx_57 (Or.inl rfl) (hC9.t_top) rfl ?_
    refine v_callVP (pc' := 20) (C := zR_A) (T9 := zF_A) (N := 3) F d_S_dealOut_17 rfl cal_A_size wx_156 wx_157 wx_158 rfl (hC9.t_ls (i := 0) ⟨by decide, by decide⟩) (c_size l X _ _ _ _ 0 (M 1 0) hC9 ⟨by decide, by decide⟩ hN.z0) rfl ⟨by decide, by decide, by decide, by decide⟩ (Nat.le_of_ble_eq_true rfl) rfl rfl ?_
    refine v_icmp_ge (tgt := 68) (pc' := 23) F d_S_dealOut_20 (by decide) rfl (by omega) (by omega) (fun c20 => ?_) (fun c20 => ?_)
    · obtain rfl : k = (M 1 0).toNat := by omega
      exact v_subL (by (repeat' (first | exact trivial | exact rfl | refine And.intro ?_ ?_)); done) (hx h9 hC9 hF9)
    · refine v_aload_n (pc' := 24) (j := 0) F d_S_dealOut_23 rfl rfl rfl ?_
      refine v_getf (pc' := 27) (C := zR_S) (T := zF_S) (N := 6) (ref := "BillShares") F d_S_dealOut_24 rfl zi_S rfl 0 (by decide) wx_57 (Or.inl rfl) (hC9.t_top) rfl ?_
      refine v_iload (pc' := 29) F d_S_dealOut_27 rfl rfl ?_
      refine v_callVP (pc' := 32) (C := zR_A) (T9 := zF_A) (N := 3) F d_S_dealOut_29 rfl cal_A_get wx_283 wx_284 wx_285 rfl (hC9.t_ls (i := 0) ⟨by decide, by decide⟩) (c_get l X _ _ _ _ 0 (k : Int) hC9 ⟨by decide, by decide⟩ (hN.hcp 0 (by decide) (by decide)) (by show 0 ≤ (k : Int) ∧ (k : Int) < M 36 0; have := hN.z0; omega)) rfl ⟨by decide, by decide, by decide, by decide⟩ (Nat.le_of_ble_eq_true rfl) rfl rfl ?_
      refine v_cast (pc' := 35) (C := zR_F) (T9 := zF_F) (N := 10) F d_S_dealOut_32 rfl wx_176 wx_915 rfl (hC9.t_fl (i := (k : Int)) (show 0 ≤ (k : Int) ∧ (k : Int) < M 1 0 by omega)) ?_
      refine v_astore_8 (pc' := 37) F d_S_dealOut_35 rfl rfl (by decide) ?_
      refine v_aload (pc' := 39) F d_S_dealOut_37 rfl rfl ?_
      refine v_lload_n (pc' := 40) (j := 1) F d_S_dealOut_39 rfl rfl rfl ?_
      refine v_aload (pc' := 42) F d_S_dealOut_40 rfl rfl ?_
      have q2 := hw0 (k : Int) (by omega) (by omega)
      refine v_getf (pc' := 45) (C := zR_F) (T := zF_F) (N := 10) (ref := "BillShares$Flat") F d_S_dealOut_42 rfl zi_F rfl 8 (by decide) wx_200 (Or.inl rfl) (hC9.t_fl (i := (k : Int)) (show 0 ≤ (k : Int) ∧ (k : Int) < M 1 0 by omega)) rfl ?_
      refine v_topl (b := M 29 (k : Int)) rfl ?_
      refine v_lload_n (pc' := 46) (j := 3) F d_S_dealOut_45 rfl rfl rfl ?_
      refine v_callSP (pc' := 49) F d_S_dealOut_46 rfl cal_S_portion wx_517 wx_518 (c_S_portion l X _ _ p0 (M 29 (k : Int)) (sumI (M 29) (M 1 0).toNat) (by omega) (by omega) (by omega) (by omega)) rfl ⟨by decide, by decide, by decide, by decide⟩ (Nat.le_of_ble_eq_true rfl) rfl rfl ?_
      refine cp_de (pc' := 52) F hC9 (f := (k : Int)) (show 0 ≤ (k : Int) ∧ (k : Int) < M 1 0 by omega) d_S_dealOut_49 rfl wx_201 (fun h1 hC1 hF1 => ?_)
      refine v_lload (pc' := 54) F d_S_dealOut_52 rfl rfl ?_
      refine v_aload (pc' := 56) F d_S_dealOut_54 rfl rfl ?_
      refine v_getf (pc' := 59) (C := zR_F) (T := zF_F) (N := 10) (ref := "BillShares$Flat") F d_S_dealOut_56 rfl zi_F rfl 9 (by decide) wx_201 (Or.inl rfl) (hC1.t_fl (i := (k : Int)) (show 0 ≤ (k : Int) ∧ (k : Int) < M 1 0 by omega)) rfl ?_
      refine v_usl ?_
      refine v_lsub (pc' := 60) F d_S_dealOut_59 rfl ?_
      refine v_topl (b := p0 - sumI (fun f => p0 * M 29 f / (sumI (M 29) (M 1 0).toNat)) (k + 1)) (by show _ = p0 - (sumI (fun f => p0 * M 29 f / (sumI (M 29) (M 1 0).toNat)) k + p0 * M 29 (k : Int) / (sumI (M 29) (M 1 0).toNat)); omega) ?_
      refine v_lstore_5 (pc' := 62) F d_S_dealOut_60 rfl rfl (by decide) ?_
      refine v_iinc_7 (pc' := 65) F d_S_dealOut_62 rfl rfl (by decide) ?_
      refine v_goto (tgt := 11) F d_S_dealOut_65 (by decide) ?_
      exact v_subL (by (repeat' (first | exact trivial | exact rfl | refine And.intro ?_ ?_)); done) (ih (k + 1) (by omega) (by omega) _ (by rw [← setC_s]; exact hC1) ((hF9).tr hF1))
set_option maxRecDepth 100000 in
set_option maxHeartbeats 4000000 in
theorem lpB_S_dealOut {p : Program} {l : Launch} {e : Env} {s : State} {m : MethodId} {args : Array Value} {below : List Frame} {meth : Method} {c : Code} {X : am_X} {h : am_H} {nx : Nat} {x : Nat} {A : Nat → Prop} {P : Tg → Nat} {M : MS}  {p0 : Int} (F : am_Fx p s m args meth c y_S_dealOut b_S_dealOut 9 ((Option.none : Option FieldType)) [] X) (hI : RI M) (hN : NI M) (hw0 : ∀ f : Int, 0 ≤ f → f < M 1 0 → 0 ≤ M 29 f ∧ M 29 f ≤ 23400000000000000) (hw1 : 0 < (sumI (M 29) (M 1 0).toNat) ∧ (sumI (M 29) (M 1 0).toNat) ≤ 468000000000000000) (hp0 : 0 ≤ p0 ∧ p0 ≤ 1000000000) (hlc : p0c (p0 - sumI (fun f => p0 * M 29 f / (sumI (M 29) (M 1 0).toNat)) (M 1 0).toNat))  : ∀ (n k : Nat), (M 1 0).toNat < k + n → k ≤ (M 1 0).toNat → ((k : Int) ≤ p0 - sumI (fun f => p0 * M 29 f / (sumI (M 29) (M 1 0).toNat)) (M 1 0).toNat ∨ k = 0) → ∀ h9 : am_H, RepC X x A P (setC M 30 (dlk (M 3) (M 1 0).toNat (M 29) p0 (k : Int)) (M 1 0).toNat) h9 → OF A h h9 → V p l e ({ frames := 4, cells := 0, slots := 0, locals := 87 }) s m args below meth c 9 X (am_Q X below s 0 0 (fun o h' nx' => RepC X x A P (setC M 30 (dl (M 3) (M 1 0).toNat (M 29) p0) (M 1 0).toNat) h' ∧ OF A h h' ∧ nx' = nx ∧ o = .returned none)) h9 nx 0 0 71 [some (.ref (P (0, 0))), some (lV p0), none, some (lV (sumI (M 29) (M 1 0).toNat)), none, some (lV (p0 - sumI (fun f => p0 * M 29 f / (sumI (M 29) (M 1 0).toNat)) (M 1 0).toNat - (k : Int))), none, some (iV (k : Int)), none] [] := by
  intro n
  induction n with
  | zero =>
    intro k hk hk2
    exact absurd hk (by omega)
  | succ n ih =>
    intro k hk hk2 hin h9 hC9 hF9
    have q1 := hI.hfl
    refine v_iload (pc' := 73) F d_S_dealOut_71 rfl rfl ?_
    refine v_aload_n (pc' := 74) (j := 0) F d_S_dealOut_73 rfl rfl rfl ?_
    refine v_getf (pc' := 77) (C := zR_S) (T := zF_S) (N := 6) (ref := "BillShares") F d_S_dealOut_74 rfl zi_S rfl 1 (by decide) wx_58 (Or.inl rfl) (hC9.t_top) rfl ?_
    refine v_callVP (pc' := 80) (C := zR_A) (T9 := zF_A) (N := 3) F d_S_dealOut_77 rfl cal_A_size wx_156 wx_157 wx_158 rfl (hC9.t_ls (i := 1) ⟨by decide, by decide⟩) (c_size l X _ _ _ _ 1 (M 1 0) hC9 ⟨by decide, by decide⟩ hN.z1) rfl ⟨by decide, by decide, by decide, by decide⟩ (Nat.le_of_ble_eq_true rfl) rfl rfl ?_
    refine v_icmp_ge (tgt := 123) (pc' := 83) F d_S_dealOut_80 (by decide) rfl (by omega) (by omega) (fun c80 => ?_) (fun c80 => ?_)
    · exact v_return F d_S_dealOut_123 rfl (Nat.le_refl _) (Nat.le_refl _) (by first | exact ⟨by rw [← dlk_e (j := k) (Or.inl (by omega))]; exact hC9, hF9, rfl, rfl⟩ | exact ⟨by rw [← dlk_e (j := k) (Or.inr (by omega))]; exact hC9, hF9, rfl, rfl⟩)
    · refine v_lload (pc' := 85) F d_S_dealOut_83 rfl rfl ?_
      refine v_lconst (pc' := 86) (z := 0) F d_S_dealOut_85 rfl (by decide) ?_
      refine v_lc_le (tgt := 123) (pc' := 90) F d_S_dealOut_86 d_S_dealOut_87 (by decide) rfl (by unfold p0c at hlc; omega) (by omega) (fun c86 => ?_) (fun c86 => ?_)
      · exact v_return F d_S_dealOut_123 rfl (Nat.le_refl _) (Nat.le_refl _) (by first | exact ⟨by rw [← dlk_e (j := k) (Or.inl (by omega))]; exact hC9, hF9, rfl, rfl⟩ | exact ⟨by rw [← dlk_e (j := k) (Or.inr (by omega))]; exact hC9, hF9, rfl, rfl⟩)
      · have hor := hN.hor (k : Int) (by omega) (by omega)
        refine v_aload_n (pc' := 91) (j := 0) F d_S_dealOut_90 rfl rfl rfl ?_
        refine v_getf (pc' := 94) (C := zR_S) (T := zF_S) (N := 6) (ref := "BillShares") F d_S_dealOut_91 rfl zi_S rfl 1 (by decide) wx_58 (Or.inl rfl) (hC9.t_top) rfl ?_
        refine v_iload (pc' := 96) F d_S_dealOut_94 rfl rfl ?_
        refine v_callVP (pc' := 99) (C := zR_A) (T9 := zF_A) (N := 3) F d_S_dealOut_96 rfl cal_A_get wx_283 wx_284 wx_285 rfl (hC9.t_ls (i := 1) ⟨by decide, by decide⟩) (c_get l X _ _ _ _ 1 (k : Int) hC9 ⟨by decide, by decide⟩ (hN.hcp 1 (by decide) (by decide)) (by show 0 ≤ (k : Int) ∧ (k : Int) < M 36 1; have := hN.z1; omega)) rfl ⟨by decide, by decide, by decide, by decide⟩ (Nat.le_of_ble_eq_true rfl) rfl rfl ?_
        refine v_cast (pc' := 102) (C := zR_F) (T9 := zF_F) (N := 10) F d_S_dealOut_99 rfl wx_176 wx_915 rfl (hC9.t_fl (i := (M 32 (k : Int))) (show 0 ≤ M 32 (k : Int) ∧ M 32 (k : Int) < M 1 0 from hor.1)) ?_
        refine v_dup (pc' := 103) F d_S_dealOut_102 rfl rfl ?_
        refine v_getf (pc' := 106) (C := zR_F) (T := zF_F) (N := 10) (ref := "BillShares$Flat") F d_S_dealOut_103 rfl zi_F rfl 9 (by decide) wx_201 (Or.inl rfl) (hC9.t_fl (i := (M 32 (k : Int))) (show 0 ≤ M 32 (k : Int) ∧ M 32 (k : Int) < M 1 0 from hor.1)) rfl ?_
        refine v_topl (b := (dlk (M 3) (M 1 0).toNat (M 29) p0 (k : Int) (M 32 (k : Int)))) (setC_in (by omega)) ?_
        refine v_lconst (pc' := 107) (z := 1) F d_S_dealOut_106 rfl (by decide) ?_
        refine v_ladd (pc' := 108) F d_S_dealOut_107 rfl ?_
        refine cp_de (pc' := 111) F hC9 (f := (M 32 (k : Int))) (show 0 ≤ M 32 (k : Int) ∧ M 32 (k : Int) < M 1 0 from hor.1) d_S_dealOut_108 rfl wx_201 (fun h1 hC1 hF1 => ?_)
        refine v_lload (pc' := 113) F d_S_dealOut_111 rfl rfl ?_
        refine v_lconst (pc' := 114) (z := 1) F d_S_dealOut_113 rfl (by decide) ?_
        refine v_lsub (pc' := 115) F d_S_dealOut_114 rfl ?_
        refine v_topl (b := p0 - sumI (fun f => p0 * M 29 f / (sumI (M 29) (M 1 0).toNat)) (M 1 0).toNat - ((k + 1 : Nat) : Int)) (by omega) ?_
        refine v_lstore_5 (pc' := 117) F d_S_dealOut_115 rfl rfl (by decide) ?_
        refine v_iinc_7 (pc' := 120) F d_S_dealOut_117 rfl rfl (by decide) ?_
        refine v_goto (tgt := 71) F d_S_dealOut_120 (by decide) ?_
        exact v_subL (by (repeat' (first | exact trivial | exact rfl | refine And.intro ?_ ?_)); done) (ih (k + 1) (by omega) (by omega) (by omega) _ (by rw [← dlk_s (w := M 32 (k : Int)) (by omega) hor.2 (fun f z0 z1 z2 => by have := hN.hro f z0 (by omega); rw [show sp_before M f = (k : Int) from z2] at this; exact this.symm)]; exact hC1) ((hF9).tr hF1))
set_option maxRecDepth 100000 in
set_option maxHeartbeats 4000000 in
theorem c_S_dealOut (l : Launch) (X : am_X) (h : am_H) (nx : Nat) (x : Nat) (A : Nat → Prop) (P : Tg → Nat) (M : MS) (p0 : Int) (hC : RepC X x A P M h) (hI : RI M) (hN : NI M) (hw0 : ∀ f : Int, 0 ≤ f → f < M 1 0 → 0 ≤ M 29 f ∧ M 29 f ≤ 23400000000000000) (hw1 : 0 < (sumI (M 29) (M 1 0).toNat) ∧ (sumI (M 29) (M 1 0).toNat) ≤ 468000000000000000) (hp0 : 0 ≤ p0 ∧ p0 ≤ 1000000000) : Cn l X y_S_dealOut ({ frames := 4, cells := 0, slots := 0, locals := 87 }) [.ref (P (0, 0)), lV p0] h nx (fun o h' nx' => RepC X x A P (setC M 30 (dl (M 3) (M 1 0).toNat (M 29) p0) (M 1 0).toNat) h' ∧ OF A h h' ∧ nx' = nx ∧ o = .returned none) := by
  refine cn_of (k := 6) (L0 := [some (.ref (P (0, 0))), some (lV p0), none, none, none, none, none, none, none]) rfl wx_530 (Nat.le_of_ble_eq_true rfl) rfl (fun p e s m args below meth c F => ?_)
  have q1 := hI.hfl
  have hlc : p0c (p0 - sumI (fun f => p0 * M 29 f / (sumI (M 29) (M 1 0).toNat)) (M 1 0).toNat) := left_c hp0.1 hp0.2 (by omega) (fun i hi => (hw0 (i : Int) (by omega) (by omega)).1) hw1.1
  refine v_aload_n (pc' := 1) (j := 0) F d_S_dealOut_0 rfl rfl rfl ?_
  refine v_callVP (pc' := 4) (C := zR_S) (T9 := zF_S) (N := 6) F d_S_dealOut_1 rfl cal_S_sumOfWeights wx_531 wx_533 wp_13 rfl (hC.t_top) (c_S_sumOfWeights l X _ _ _ _ _ _ hC hI hN) rfl ⟨by decide, by decide, by decide, by decide⟩ (Nat.le_of_ble_eq_true rfl) rfl rfl ?_
  refine v_lstore_3 (pc' := 5) F d_S_dealOut_4 rfl rfl (by decide) ?_
  refine v_lload_n (pc' := 6) (j := 1) F d_S_dealOut_5 rfl rfl rfl ?_
  refine v_lstore_5 (pc' := 8) F d_S_dealOut_6 rfl rfl (by decide) ?_
  refine v_fr (fun _ => ?_)
  refine v_iconst (pc' := 9) F d_S_dealOut_8 rfl ?_
  refine v_istore_7 (pc' := 11) F d_S_dealOut_9 rfl rfl (by decide) ?_
  refine v_subL (L' := [some (.ref (P (0, 0))), some (lV p0), none, some (lV (sumI (M 29) (M 1 0).toNat)), none, some (lV (p0 - sumI (fun f => p0 * M 29 f / (sumI (M 29) (M 1 0).toNat)) 0)), none, some (iV ((0 : Nat) : Int)), none]) ?_ (lpA_S_dealOut (h := h) F hI hN hw0 hw1 hp0 (fun h9 hC9 hF9 => ?_) ((M 1 0).toNat + 1) 0 (by omega) (by omega) _ (by rw [setC_0]; exact hC) OF.rf)
  · rw [show p0 - sumI (fun f => p0 * M 29 f / sumI (M 29) (M 1 0).toNat) 0 = p0 from Int.sub_zero p0]; (repeat' (first | exact trivial | exact rfl | refine And.intro ?_ ?_)); done
  · refine v_eqh rfl ?_
    refine v_iconst (pc' := 69) F d_S_dealOut_68 rfl ?_
    refine v_istore_7 (pc' := 71) F d_S_dealOut_69 rfl rfl (by decide) ?_
    refine v_subL (L' := [some (.ref (P (0, 0))), some (lV p0), none, some (lV (sumI (M 29) (M 1 0).toNat)), none, some (lV (p0 - sumI (fun f => p0 * M 29 f / (sumI (M 29) (M 1 0).toNat)) (M 1 0).toNat - ((0 : Nat) : Int))), none, some (iV ((0 : Nat) : Int)), none]) ?_ (lpB_S_dealOut (h := h) F hI hN hw0 hw1 hp0 hlc ((M 1 0).toNat + 1) 0 (by omega) (by omega) (Or.inr rfl) _ (by rw [show ((0 : Nat) : Int) = 0 from rfl, ← dlk_0]; exact hC9) hF9)
    rw [show p0 - sumI (fun f => p0 * M 29 f / (sumI (M 29) (M 1 0).toNat)) (M 1 0).toNat - ((0 : Nat) : Int) = p0 - sumI (fun f => p0 * M 29 f / (sumI (M 29) (M 1 0).toNat)) (M 1 0).toNat from Int.sub_zero _]
    (repeat' (first | exact trivial | exact rfl | refine And.intro ?_ ?_)); done
