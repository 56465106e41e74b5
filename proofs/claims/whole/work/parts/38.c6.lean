/-! the class's writers without new objects (written by wip/whole/cc6.py) -/
/-- what a method that writes owes -/
def wpost (X : am_X) (x : Nat) (A : Nat → Prop) (mk : Int → Value) (t : Int × Int × MS) (h : am_H) (nx : Nat) : Outcome → am_H → Nat → Prop := fun o h' nx' => (t.1 = 0 ∧ o = .returned (some (mk t.2.1)) ∧ OF A h h' ∧ nx ≤ nx' ∧ ∃ (P' : Tg → Nat) (M' : MS), RepC X x A P' M' h' ∧ NI M' ∧ ∀ k : Nat, k ≠ 0 → k < 26 → M' k = t.2.2 k) ∨ (t.1 ≠ 0 ∧ ∃ fs : List Value, o = .threw nx ∧ h' = am_up h nx (.inr ((5 + t.1).toNat, fs)) ∧ nx' = nx + 1)
theorem wpost.thr {X : am_X} {x : Nat} {A : Nat → Prop} {mk : Int → Value} {k v : Int} {M : MS} {h : am_H} {nx : Nat} {fs : List Value} (hk : k ≠ 0) : wpost X x A mk (k, v, M) h nx (.threw nx) (am_up h nx (.inr ((5 + k).toNat, fs))) (nx + 1) := Or.inr ⟨hk, fs, rfl, rfl, rfl⟩
set_option maxRecDepth 100000 in
set_option maxHeartbeats 4000000 in
theorem c_S_tested (l : Launch) (X : am_X) (h : am_H) (nx : Nat) (x : Nat) (A : Nat → Prop) (P : Tg → Nat) (M : MS) (f d : Int) (ht : l.flags = pinnedFlags ++ [noTraceFlag]) (hC : RepC X x A P M h) (hI : RI M) (hN : NI M) (rf : -2147483648 ≤ f ∧ f < 2147483648) (rd : -2147483648 ≤ d ∧ d < 2147483648) : Cn l X y_S_tested ({ frames := 8, cells := 2, slots := 12, locals := 134 }) [.ref (P (0, 0)), iV f, iV d] h nx (wpost X x A iV (sp_tested M f d) h nx) := by
  refine cn_of (k := 2) (L0 := [some (.ref (P (0, 0))), some (iV f), some (iV d), none, none]) rfl wx_423 (Nat.le_of_ble_eq_true rfl) rfl (fun p e s m args below meth c F => ?_)
  have q1 := hI.hfl
  have q7 := hI.hme
  refine v_aload_n (pc' := 1) (j := 0) F d_S_tested_0 rfl rfl rfl ?_
  refine v_iload_n (pc' := 2) (j := 1) F d_S_tested_1 rfl rfl rfl ?_
  refine v_callVR (pc' := 5) (C := zR_S) (T9 := zF_S) (N := 6) F d_S_tested_2 rfl cal_S_meterAt wx_370 wx_372 wp_8 rfl (hC.t_top) (c_S_meterAt l X _ _ _ _ _ _ _ ht hC hI hN (by omega)) rfl ⟨by decide, by decide, by decide, by decide⟩ (Nat.le_of_ble_eq_true rfl) (fun n2 fs9 => ?_) (fun a2 => ?_)
  · exact v_out F (by decide) (by decide) (by rw [show sp_tested M f d = (1, 0, M) from if_neg (by omega)]; exact wpost.thr (k := 1) (by decide))
  refine v_astore_3 (pc' := 6) F d_S_tested_5 rfl rfl (by decide) ?_
  refine v_iload_n (pc' := 7) (j := 2) F d_S_tested_6 rfl rfl rfl ?_
  refine v_callSR (pc' := 10) F d_S_tested_7 rfl cal_S_checkDay wx_321 wx_322 (c_S_checkDay l X _ _ _ ht (by omega)) rfl ⟨by decide, by decide, by decide, by decide⟩ (Nat.le_of_ble_eq_true rfl) (fun n7 fs9 => ?_) (fun a7 => ?_)
  · exact v_out F (by decide) (by decide) (by rw [show sp_tested M f d = (1, 0, M) from if_neg (by omega)]; exact wpost.thr (k := 1) (by decide))
  refine v_aload_n (pc' := 11) (j := 3) F d_S_tested_10 rfl rfl rfl ?_
  refine v_getf (pc' := 14) (C := zR_T) (T := zF_T) (N := 8) (ref := "BillShares$Meter") F d_S_tested_11 rfl zi_T rfl 3 (by decide) wx_336 (Or.inl rfl) (hC.t_mt (i := f) (show 0 ≤ f ∧ f < M 7 0 by omega)) rfl ?_
  refine v_istore_4 (pc' := 16) F d_S_tested_14 rfl rfl (by decide) ?_
  refine v_aload_n (pc' := 17) (j := 3) F d_S_tested_16 rfl rfl rfl ?_
  refine v_iload_n (pc' := 18) (j := 2) F d_S_tested_17 rfl rfl rfl ?_
  refine cp_te (pc' := 21) F hC (f := f) (show 0 ≤ f ∧ f < M 7 0 by omega) d_S_tested_18 rfl wx_336 (fun h1 hC1 hF1 => ?_)
  refine v_iload (pc' := 23) F d_S_tested_21 rfl rfl ?_
  exact v_ireturn F rfl d_S_tested_23 rfl rfl (by decide) (by decide) (by rw [show sp_tested M f d = (0, M 12 f, upM M 12 f d) from if_pos (by omega)]; exact Or.inl ⟨rfl, rfl, ((OF.rf).tr hF1), Nat.le_refl _, P, _, hC1, hN, fun _ _ _ => rfl⟩)
set_option maxRecDepth 100000 in
set_option maxHeartbeats 4000000 in
theorem c_S_cost (l : Launch) (X : am_X) (h : am_H) (nx : Nat) (x : Nat) (A : Nat → Prop) (P : Tg → Nat) (M : MS) (k0 a v : Int) (ht : l.flags = pinnedFlags ++ [noTraceFlag]) (hC : RepC X x A P M h) (hI : RI M) (hN : NI M) (rk : -2147483648 ≤ k0 ∧ k0 < 2147483648) (ra : -2147483648 ≤ a ∧ a < 2147483648) (rv : -2147483648 ≤ v ∧ v < 2147483648) : Cn l X y_S_cost ({ frames := 8, cells := 3, slots := 18, locals := 134 }) [.ref (P (0, 0)), iV k0, iV a, iV v] h nx (wpost X x A iV (sp_cost M k0 a v) h nx) := by
  refine cn_of (k := 2) (L0 := [some (.ref (P (0, 0))), some (iV k0), some (iV a), some (iV v), none, none]) rfl wx_430 (Nat.le_of_ble_eq_true rfl) rfl (fun p e s m args below meth c F => ?_)
  have q1 := hI.hfl
  have q7 := hI.hme
  refine v_iload_n (pc' := 1) (j := 1) F d_S_cost_0 rfl rfl rfl ?_
  refine v_callSR (pc' := 4) F d_S_cost_1 rfl cal_S_checkKind wx_318 wx_319 (c_S_checkKind l X _ _ _ ht (by omega)) rfl ⟨by decide, by decide, by decide, by decide⟩ (Nat.le_of_ble_eq_true rfl) (fun n1 fs9 => ?_) (fun a1 => ?_)
  · exact v_out F (by decide) (by decide) (by rw [show sp_cost M k0 a v = (1, 0, M) from if_neg (by omega)]; exact wpost.thr (k := 1) (by decide))
  refine v_iload_n (pc' := 5) (j := 2) F d_S_cost_4 rfl rfl rfl ?_
  refine v_callSR (pc' := 8) F d_S_cost_5 rfl cal_S_checkYear wx_431 wx_432 (c_S_checkYear l X _ _ _ ht (by omega)) rfl ⟨by decide, by decide, by decide, by decide⟩ (Nat.le_of_ble_eq_true rfl) (fun n5 fs9 => ?_) (fun a5 => ?_)
  · exact v_out F (by decide) (by decide) (by rw [show sp_cost M k0 a v = (1, 0, M) from if_neg (by omega)]; exact wpost.thr (k := 1) (by decide))
  refine v_iload_n (pc' := 9) (j := 3) F d_S_cost_8 rfl rfl rfl ?_
  refine v_iconst (pc' := 10) F d_S_cost_9 rfl ?_
  refine v_ldc (pc' := 12) (z := 1000000000) F d_S_cost_10 rfl wx_434 (by decide) ?_
  refine v_callSR (pc' := 15) F d_S_cost_12 rfl cal_S_checkBounds wx_86 wx_87 (c_S_checkBounds l X _ _ _ _ _ ht (by omega) (by omega) (by omega)) rfl ⟨by decide, by decide, by decide, by decide⟩ (Nat.le_of_ble_eq_true rfl) (fun n12 fs9 => ?_) (fun a12 => ?_)
  · exact v_out F (by decide) (by decide) (by rw [show sp_cost M k0 a v = (1, 0, M) from if_neg (by omega)]; exact wpost.thr (k := 1) (by decide))
  refine v_iload_n (pc' := 16) (j := 1) F d_S_cost_15 rfl rfl rfl ?_
  refine v_bipush (pc' := 18) F d_S_cost_16 rfl (by decide) ?_
  refine v_imul (pc' := 19) F d_S_cost_18 rfl ?_
  refine v_iload_n (pc' := 20) (j := 2) F d_S_cost_19 rfl rfl rfl ?_
  refine v_iadd (pc' := 21) F d_S_cost_20 rfl ?_
  refine v_istore_4 (pc' := 23) F d_S_cost_21 rfl rfl (by decide) ?_
  refine v_aload_n (pc' := 24) (j := 0) F d_S_cost_23 rfl rfl rfl ?_
  refine v_getf (pc' := 27) (C := zR_S) (T := zF_S) (N := 6) (ref := "BillShares") F d_S_cost_24 rfl zi_S rfl 3 (by decide) wx_60 (Or.inl rfl) (hC.t_top) rfl ?_
  refine v_iload (pc' := 29) F d_S_cost_27 rfl rfl ?_
  refine cg_cost (pc' := 30) F hC (by omega) d_S_cost_29 rfl ?_
  refine v_istore_5 (pc' := 32) F d_S_cost_30 rfl rfl (by decide) ?_
  refine v_aload_n (pc' := 33) (j := 0) F d_S_cost_32 rfl rfl rfl ?_
  refine v_getf (pc' := 36) (C := zR_S) (T := zF_S) (N := 6) (ref := "BillShares") F d_S_cost_33 rfl zi_S rfl 3 (by decide) wx_60 (Or.inl rfl) (hC.t_top) rfl ?_
  refine v_iload (pc' := 38) F d_S_cost_36 rfl rfl ?_
  refine v_iload_n (pc' := 39) (j := 3) F d_S_cost_38 rfl rfl rfl ?_
  refine cp_cost (pc' := 40) F hC (by omega) d_S_cost_39 rfl (fun h1 hC1 hF1 => ?_)
  refine v_iload (pc' := 42) F d_S_cost_40 rfl rfl ?_
  exact v_ireturn F rfl d_S_cost_42 rfl rfl (by decide) (by decide) (by rw [show sp_cost M k0 a v = (0, M 18 (4 * a + k0), upM M 18 (4 * a + k0) v) from if_pos (by omega)]; exact Or.inl ⟨rfl, rfl, ((OF.rf).tr hF1), Nat.le_refl _, P, _, hC1, hN, fun _ _ _ => rfl⟩)
set_option maxRecDepth 100000 in
set_option maxHeartbeats 4000000 in
theorem c_S_base (l : Launch) (X : am_X) (h : am_H) (nx : Nat) (x : Nat) (A : Nat → Prop) (P : Tg → Nat) (M : MS) (k0 v : Int) (ht : l.flags = pinnedFlags ++ [noTraceFlag]) (hC : RepC X x A P M h) (hI : RI M) (hN : NI M) (rk : -2147483648 ≤ k0 ∧ k0 < 2147483648) (rv : -2147483648 ≤ v ∧ v < 2147483648) : Cn l X y_S_base ({ frames := 8, cells := 2, slots := 12, locals := 134 }) [.ref (P (0, 0)), iV k0, iV v] h nx (wpost X x A iV (sp_base M k0 v) h nx) := by
  refine cn_of (k := 1) (L0 := [some (.ref (P (0, 0))), some (iV k0), some (iV v), none]) rfl wx_441 (Nat.le_of_ble_eq_true rfl) rfl (fun p e s m args below meth c F => ?_)
  have q1 := hI.hfl
  have q7 := hI.hme
  refine v_iload_n (pc' := 1) (j := 1) F d_S_base_0 rfl rfl rfl ?_
  refine v_callSR (pc' := 4) F d_S_base_1 rfl cal_S_checkKind wx_318 wx_319 (c_S_checkKind l X _ _ _ ht (by omega)) rfl ⟨by decide, by decide, by decide, by decide⟩ (Nat.le_of_ble_eq_true rfl) (fun n1 fs9 => ?_) (fun a1 => ?_)
  · exact v_out F (by decide) (by decide) (by rw [show sp_base M k0 v = (1, 0, M) from if_neg (by omega)]; exact wpost.thr (k := 1) (by decide))
  refine v_iload_n (pc' := 5) (j := 2) F d_S_base_4 rfl rfl rfl ?_
  refine v_iconst (pc' := 6) F d_S_base_5 rfl ?_
  refine v_bipush (pc' := 8) F d_S_base_6 rfl (by decide) ?_
  refine v_callSR (pc' := 11) F d_S_base_8 rfl cal_S_checkBounds wx_86 wx_87 (c_S_checkBounds l X _ _ _ _ _ ht (by omega) (by omega) (by omega)) rfl ⟨by decide, by decide, by decide, by decide⟩ (Nat.le_of_ble_eq_true rfl) (fun n8 fs9 => ?_) (fun a8 => ?_)
  · exact v_out F (by decide) (by decide) (by rw [show sp_base M k0 v = (1, 0, M) from if_neg (by omega)]; exact wpost.thr (k := 1) (by decide))
  refine v_aload_n (pc' := 12) (j := 0) F d_S_base_11 rfl rfl rfl ?_
  refine v_getf (pc' := 15) (C := zR_S) (T := zF_S) (N := 6) (ref := "BillShares") F d_S_base_12 rfl zi_S rfl 4 (by decide) wx_61 (Or.inl rfl) (hC.t_top) rfl ?_
  refine v_iload_n (pc' := 16) (j := 1) F d_S_base_15 rfl rfl rfl ?_
  refine cg_bas (pc' := 17) F hC d_S_base_16 rfl (by omega) (by omega) ?_
  refine v_istore_3 (pc' := 18) F d_S_base_17 rfl rfl (by decide) ?_
  refine v_aload_n (pc' := 19) (j := 0) F d_S_base_18 rfl rfl rfl ?_
  refine v_getf (pc' := 22) (C := zR_S) (T := zF_S) (N := 6) (ref := "BillShares") F d_S_base_19 rfl zi_S rfl 4 (by decide) wx_61 (Or.inl rfl) (hC.t_top) rfl ?_
  refine v_iload_n (pc' := 23) (j := 1) F d_S_base_22 rfl rfl rfl ?_
  refine v_iload_n (pc' := 24) (j := 2) F d_S_base_23 rfl rfl rfl ?_
  refine cp_bas (pc' := 25) F hC d_S_base_24 rfl (by omega) (by omega) (fun h1 hC1 hF1 => ?_)
  refine v_iload_n (pc' := 26) (j := 3) F d_S_base_25 rfl rfl rfl ?_
  exact v_ireturn F rfl d_S_base_26 rfl rfl (by decide) (by decide) (by rw [show sp_base M k0 v = (0, M 19 k0, upM M 19 k0 v) from if_pos (by omega)]; exact Or.inl ⟨rfl, rfl, ((OF.rf).tr hF1), Nat.le_refl _, P, _, hC1, hN, fun _ _ _ => rfl⟩)
set_option maxRecDepth 100000 in
set_option maxHeartbeats 4000000 in
theorem c_S_prepaid (l : Launch) (X : am_X) (h : am_H) (nx : Nat) (x : Nat) (A : Nat → Prop) (P : Tg → Nat) (M : MS) (f a v : Int) (ht : l.flags = pinnedFlags ++ [noTraceFlag]) (hC : RepC X x A P M h) (hI : RI M) (hN : NI M) (rf : -2147483648 ≤ f ∧ f < 2147483648) (ra : -2147483648 ≤ a ∧ a < 2147483648) (rv : -2147483648 ≤ v ∧ v < 2147483648) : Cn l X y_S_prepaid ({ frames := 8, cells := 3, slots := 18, locals := 134 }) [.ref (P (0, 0)), iV f, iV a, iV v] h nx (wpost X x A lV (sp_prepaid M f a v) h nx) := by
  refine cn_of (k := 1) (L0 := [some (.ref (P (0, 0))), some (iV f), some (iV a), some (iV v), none]) rfl wx_469 (Nat.le_of_ble_eq_true rfl) rfl (fun p e s m args below meth c F => ?_)
  have q1 := hI.hfl
  have q7 := hI.hme
  refine v_aload_n (pc' := 1) (j := 0) F d_S_prepaid_0 rfl rfl rfl ?_
  refine v_iload_n (pc' := 2) (j := 1) F d_S_prepaid_1 rfl rfl rfl ?_
  refine v_callVR (pc' := 5) (C := zR_S) (T9 := zF_S) (N := 6) F d_S_prepaid_2 rfl cal_S_flatAt wx_313 wx_315 wp_6 rfl (hC.t_top) (c_S_flatAt l X _ _ _ _ _ _ _ ht hC hI hN (by omega)) rfl ⟨by decide, by decide, by decide, by decide⟩ (Nat.le_of_ble_eq_true rfl) (fun n2 fs9 => ?_) (fun a2 => ?_)
  · exact v_out F (by decide) (by decide) (by rw [show sp_prepaid M f a v = (1, 0, M) from if_neg (by omega)]; exact wpost.thr (k := 1) (by decide))
  refine v_astore_4 (pc' := 7) F d_S_prepaid_5 rfl rfl (by decide) ?_
  refine v_iload_n (pc' := 8) (j := 2) F d_S_prepaid_7 rfl rfl rfl ?_
  refine v_callSR (pc' := 11) F d_S_prepaid_8 rfl cal_S_checkYear wx_431 wx_432 (c_S_checkYear l X _ _ _ ht (by omega)) rfl ⟨by decide, by decide, by decide, by decide⟩ (Nat.le_of_ble_eq_true rfl) (fun n8 fs9 => ?_) (fun a8 => ?_)
  · exact v_out F (by decide) (by decide) (by rw [show sp_prepaid M f a v = (1, 0, M) from if_neg (by omega)]; exact wpost.thr (k := 1) (by decide))
  refine v_iload_n (pc' := 12) (j := 3) F d_S_prepaid_11 rfl rfl rfl ?_
  refine v_iconst (pc' := 13) F d_S_prepaid_12 rfl ?_
  refine v_ldc (pc' := 15) (z := 1000000000) F d_S_prepaid_13 rfl wx_434 (by decide) ?_
  refine v_callSR (pc' := 18) F d_S_prepaid_15 rfl cal_S_checkBounds wx_86 wx_87 (c_S_checkBounds l X _ _ _ _ _ ht (by omega) (by omega) (by omega)) rfl ⟨by decide, by decide, by decide, by decide⟩ (Nat.le_of_ble_eq_true rfl) (fun n15 fs9 => ?_) (fun a15 => ?_)
  · exact v_out F (by decide) (by decide) (by rw [show sp_prepaid M f a v = (1, 0, M) from if_neg (by omega)]; exact wpost.thr (k := 1) (by decide))
  refine v_aload (pc' := 20) F d_S_prepaid_18 rfl rfl ?_
  refine v_getf (pc' := 23) (C := zR_F) (T := zF_F) (N := 10) (ref := "BillShares$Flat") F d_S_prepaid_20 rfl zi_F rfl 5 (by decide) wx_196 (Or.inl rfl) (hC.t_fl (i := f) (show 0 ≤ f ∧ f < M 1 0 by omega)) rfl ?_
  refine v_iload_n (pc' := 24) (j := 2) F d_S_prepaid_23 rfl rfl rfl ?_
  refine v_dup2 (pc' := 25) F d_S_prepaid_24 rfl rfl rfl ?_
  refine cg_pd (pc' := 26) F hC (f := f) (show 0 ≤ f ∧ f < M 1 0 by omega) d_S_prepaid_25 rfl (by omega) (by omega) ?_
  refine v_iload_n (pc' := 27) (j := 3) F d_S_prepaid_26 rfl rfl rfl ?_
  refine v_i2l (pc' := 28) F d_S_prepaid_27 rfl (by omega) ?_
  refine v_ladd (pc' := 29) F d_S_prepaid_28 rfl ?_
  refine cp_pd (pc' := 30) F hC (f := f) (show 0 ≤ f ∧ f < M 1 0 by omega) d_S_prepaid_29 rfl (by omega) (by omega) (fun h1 hC1 hF1 => ?_)
  refine v_aload (pc' := 32) F d_S_prepaid_30 rfl rfl ?_
  refine v_getf (pc' := 35) (C := zR_F) (T := zF_F) (N := 10) (ref := "BillShares$Flat") F d_S_prepaid_32 rfl zi_F rfl 5 (by decide) wx_196 (Or.inl rfl) (hC1.t_fl (i := f) (show 0 ≤ f ∧ f < M 1 0 by omega)) rfl ?_
  refine v_iload_n (pc' := 36) (j := 2) F d_S_prepaid_35 rfl rfl rfl ?_
  refine cg_pd (pc' := 37) F hC1 (f := f) (show 0 ≤ f ∧ f < M 1 0 by omega) d_S_prepaid_36 rfl (by omega) (by omega) ?_
  refine v_usl ?_
  exact v_lreturn F d_S_prepaid_37 rfl (by decide) (by decide) (by rw [show sp_prepaid M f a v = (0, M 6 (10 * f + a) + v, upM M 6 (10 * f + a) (M 6 (10 * f + a) + v)) from if_pos (by omega)]; exact Or.inl ⟨rfl, rfl, ((OF.rf).tr hF1), Nat.le_refl _, P, _, hC1, hN, fun _ _ _ => rfl⟩)
set_option maxRecDepth 100000 in
set_option maxHeartbeats 4000000 in
theorem c_S_moves (l : Launch) (X : am_X) (h : am_H) (nx : Nat) (x : Nat) (A : Nat → Prop) (P : Tg → Nat) (M : MS) (f d : Int) (ht : l.flags = pinnedFlags ++ [noTraceFlag]) (hC : RepC X x A P M h) (hI : RI M) (hN : NI M) (rf : -2147483648 ≤ f ∧ f < 2147483648) (rd : -2147483648 ≤ d ∧ d < 2147483648) : Cn l X y_S_moves ({ frames := 8, cells := 3, slots := 18, locals := 134 }) [.ref (P (0, 0)), iV f, iV d] h nx (wpost X x A iV (sp_moves M f d) h nx) := by
  refine cn_of (k := 1) (L0 := [some (.ref (P (0, 0))), some (iV f), some (iV d), none]) rfl wx_448 (Nat.le_of_ble_eq_true rfl) rfl (fun p e s m args below meth c F => ?_)
  have q1 := hI.hfl
  have q7 := hI.hme
  refine v_aload_n (pc' := 1) (j := 0) F d_S_moves_0 rfl rfl rfl ?_
  refine v_iload_n (pc' := 2) (j := 1) F d_S_moves_1 rfl rfl rfl ?_
  refine v_callVR (pc' := 5) (C := zR_S) (T9 := zF_S) (N := 6) F d_S_moves_2 rfl cal_S_flatAt wx_313 wx_315 wp_6 rfl (hC.t_top) (c_S_flatAt l X _ _ _ _ _ _ _ ht hC hI hN (by omega)) rfl ⟨by decide, by decide, by decide, by decide⟩ (Nat.le_of_ble_eq_true rfl) (fun n2 fs9 => ?_) (fun a2 => ?_)
  · exact v_out F (by decide) (by decide) (by rw [show sp_moves M f d = (1, 0, M) from if_neg (by omega)]; exact wpost.thr (k := 1) (by decide))
  refine v_astore_3 (pc' := 6) F d_S_moves_5 rfl rfl (by decide) ?_
  refine v_iload_n (pc' := 7) (j := 2) F d_S_moves_6 rfl rfl rfl ?_
  refine v_callSR (pc' := 10) F d_S_moves_7 rfl cal_S_checkDay wx_321 wx_322 (c_S_checkDay l X _ _ _ ht (by omega)) rfl ⟨by decide, by decide, by decide, by decide⟩ (Nat.le_of_ble_eq_true rfl) (fun n7 fs9 => ?_) (fun a7 => ?_)
  · exact v_out F (by decide) (by decide) (by rw [show sp_moves M f d = (1, 0, M) from if_neg (by omega)]; exact wpost.thr (k := 1) (by decide))
  refine v_iload_n (pc' := 11) (j := 2) F d_S_moves_10 rfl rfl rfl ?_
  refine v_aload_n (pc' := 12) (j := 3) F d_S_moves_11 rfl rfl rfl ?_
  refine v_callVP (pc' := 15) (C := zR_F) (T9 := zF_F) (N := 10) F d_S_moves_12 rfl cal_F_latestMove wx_449 wx_450 wx_451 rfl (hC.t_fl (i := f) (show 0 ≤ f ∧ f < M 1 0 by omega)) (c_F_latestMove l X _ _ _ _ _ _ _ hC hI.hfl hI.hlv (by omega)) rfl ⟨by decide, by decide, by decide, by decide⟩ (Nat.le_of_ble_eq_true rfl) rfl rfl ?_
  have q4 := hI.hlv f (by omega) (by omega)
  have q5 := hI.hsi (12 * f + M 4 f - 1) (by omega) (by omega)
  refine v_icmp_gt (tgt := 28) (pc' := 18) F d_S_moves_15 (by decide) rfl (by omega) (by omega) (fun c15 => ?_) (fun c15 => ?_)
  · refine v_aload_n (pc' := 29) (j := 3) F d_S_moves_28 rfl rfl rfl ?_
    refine v_getf (pc' := 32) (C := zR_F) (T := zF_F) (N := 10) (ref := "BillShares$Flat") F d_S_moves_29 rfl zi_F rfl 4 (by decide) wx_194 (Or.inl rfl) (hC.t_fl (i := f) (show 0 ≤ f ∧ f < M 1 0 by omega)) rfl ?_
    refine v_bipush (pc' := 34) F d_S_moves_32 rfl (by decide) ?_
    refine v_icmp_lt (tgt := 47) (pc' := 37) F d_S_moves_34 (by decide) rfl (by omega) (by omega) (fun c34 => ?_) (fun c34 => ?_)
    · refine v_aload_n (pc' := 48) (j := 3) F d_S_moves_47 rfl rfl rfl ?_
      refine v_iload_n (pc' := 49) (j := 2) F d_S_moves_48 rfl rfl rfl ?_
      refine v_callV (pc' := 52) (C := zR_F) (T9 := zF_F) (N := 10) F d_S_moves_49 rfl cal_F_takeIn wx_459 wx_460 wx_461 rfl (hC.t_fl (i := f) (show 0 ≤ f ∧ f < M 1 0 by omega)) (c_F_takeIn l X _ _ _ _ _ _ _ _ hC hI.hfl hI.hlv (by omega) (by omega)) rfl ⟨by decide, by decide, by decide, by decide⟩ (Nat.le_of_ble_eq_true rfl) (fun _ _ _ q => by cases q.2.2.2) (fun r9 h' nx' q => ?_)
      obtain ⟨hC9, hF9, rfl, q9⟩ := q
      cases q9
      refine v_topi (b := M 4 f) (by omega) ?_
      exact v_ireturn F rfl d_S_moves_52 rfl rfl (by decide) (by decide) (by rw [show sp_moves M f d = (0, M 4 f, upM (upM M 5 (12 * f + M 4 f) d) 4 f (M 4 f + 1)) from (if_pos (by omega)).trans (if_pos (by omega))]; exact Or.inl ⟨rfl, rfl, ((OF.rf).tr hF9), Nat.le_refl _, P, _, hC9, hN, fun _ _ _ => rfl⟩)
    · refine v_newE (pc' := 46) (C := zR_IS) (T9 := zF_IS) (ci := 7) F ht am_exIS rfl wx_160 wx_161 wx_11 zi_IS wx_458 d_S_moves_37 d_S_moves_40 d_S_moves_41 d_S_moves_43 rfl (by decide) (by decide) (by decide) (Nat.le_of_ble_eq_true rfl) (fun fs9 => ?_)
      refine v_athrow F d_S_moves_46 ?_
      exact v_out F (by decide) (by decide) (by rw [show sp_moves M f d = (2, 0, M) from (if_pos (by omega)).trans (if_neg (by omega))]; exact wpost.thr (k := 2) (by decide))
  · refine v_newE (pc' := 27) (C := zR_IA) (T9 := zF_IA) (ci := 6) F ht am_exIA rfl wx_89 wx_90 wx_10 zi_IA wx_457 d_S_moves_18 d_S_moves_21 d_S_moves_22 d_S_moves_24 rfl (by decide) (by decide) (by decide) (Nat.le_of_ble_eq_true rfl) (fun fs9 => ?_)
    refine v_athrow F d_S_moves_27 ?_
    exact v_out F (by decide) (by decide) (by rw [show sp_moves M f d = (1, 0, M) from if_neg (by omega)]; exact wpost.thr (k := 1) (by decide))
theorem RepC.f16 {X : am_X} {x : Nat} {A : Nat → Prop} {P : Tg → Nat} {M : MS} {h : am_H} (hC : RepC X x A P M h) {k : Nat} (hk : k = 16 ∨ k = 17) (i v : Int) : RepC X x A P (upM M k i v) h := by
  rcases hk with rfl | rfl
  · refine ⟨hC.1, fun t' ht => ?_, fun t' u' ht hu => hC.2.2.1 t' u' ?_ ?_, fun t' ht => hC.2.2.2 t' ?_⟩
    · rcases t' with ⟨_ | _ | _ | _ | _ | _ | _ | _ | _ | _ | _ | _ | _ | _ | _ | _ | _ | _ | _ | n, g⟩ <;> first | exact hC.2.1 _ ht | exact ht.elim
    · rcases t' with ⟨_ | _ | _ | _ | _ | _ | _ | _ | _ | _ | _ | _ | _ | _ | _ | _ | _ | _ | _ | n, g⟩ <;> exact ht
    · rcases u' with ⟨_ | _ | _ | _ | _ | _ | _ | _ | _ | _ | _ | _ | _ | _ | _ | _ | _ | _ | _ | n, g⟩ <;> exact hu
    · rcases t' with ⟨_ | _ | _ | _ | _ | _ | _ | _ | _ | _ | _ | _ | _ | _ | _ | _ | _ | _ | _ | n, g⟩ <;> exact ht
  · refine ⟨hC.1, fun t' ht => ?_, fun t' u' ht hu => hC.2.2.1 t' u' ?_ ?_, fun t' ht => hC.2.2.2 t' ?_⟩
    · rcases t' with ⟨_ | _ | _ | _ | _ | _ | _ | _ | _ | _ | _ | _ | _ | _ | _ | _ | _ | _ | _ | n, g⟩ <;> first | exact hC.2.1 _ ht | exact ht.elim
    · rcases t' with ⟨_ | _ | _ | _ | _ | _ | _ | _ | _ | _ | _ | _ | _ | _ | _ | _ | _ | _ | _ | n, g⟩ <;> exact ht
    · rcases u' with ⟨_ | _ | _ | _ | _ | _ | _ | _ | _ | _ | _ | _ | _ | _ | _ | _ | _ | _ | _ | n, g⟩ <;> exact hu
    · rcases t' with ⟨_ | _ | _ | _ | _ | _ | _ | _ | _ | _ | _ | _ | _ | _ | _ | _ | _ | _ | _ | n, g⟩ <;> exact ht
def putM (M : MS) (f d v w b s0 : Int) : MS := upM (upM (upM (upM (upM (upM M 14 (40 * f + M 13 f) d) 15 (40 * f + M 13 f) v) 33 (40 * f + M 13 f) s0) 13 f (M 13 f + 1)) 16 (40 * f + M 13 f) w) 17 (40 * f + M 13 f) b
theorem putM_c {M : MS} {f d v w b s0 : Int} : ∀ k : Nat, k ≠ 0 → k < 26 → putM M f d v w b s0 k = upM (upM (upM (upM (upM M 14 (40 * f + M 13 f) d) 15 (40 * f + M 13 f) v) 16 (40 * f + M 13 f) w) 17 (40 * f + M 13 f) b) 13 f (M 13 f + 1) k := by
  intro k h0 h1
  unfold putM
  by_cases e17 : k = 17
  · subst e17; rfl
  · rw [upM_n e17]
    by_cases e16 : k = 16
    · subst e16; rfl
    · rw [upM_n e16]
      by_cases e13 : k = 13
      · subst e13; rfl
      · rw [upM_n e13, upM_n e13, upM_n (by omega), upM_n e17, upM_n e16]
theorem putM_NI {M : MS} (hI : RI M) (hN : NI M) {f d v w b s0 : Int} (hf : 0 ≤ f ∧ f < M 7 0) (hn : M 13 f < 40) (hs : (b = 0 ∧ w = v ∧ s0 = -1) ∨ (b = 1 ∧ s0 = w)) : NI (putM M f d v w b s0) := by
  refine ⟨fun g k h0 h1 h2 h3 => ?_, hN.z0, hN.z1, hN.z2, hN.hcp, hN.hfc, hN.hor, hN.hro, hN.hcn, hN.hmf, hN.hbe⟩
  have qf := hI.hrd f hf.1 hf.2
  have h1' : g < M 7 0 := h1
  have qg := hI.hrd g h0 h1'
  have e13 : putM M f d v w b s0 13 = upI (M 13) f (M 13 f + 1) := by
    unfold putM
    rw [upM_n (by decide), upM_n (by decide), upM_s, upM_n (by decide), upM_n (by decide), upM_n (by decide)]
  rw [e13] at h3
  show (upM _ 17 _ b 17 (40 * g + k) = 0 ∧ upM M 33 (40 * f + M 13 f) s0 33 (40 * g + k) = -1 ∧ upM M 16 (40 * f + M 13 f) w 16 (40 * g + k) = upM M 15 (40 * f + M 13 f) v 15 (40 * g + k)) ∨ (upM _ 17 _ b 17 (40 * g + k) = 1 ∧ upM M 33 (40 * f + M 13 f) s0 33 (40 * g + k) = upM M 16 (40 * f + M 13 f) w 16 (40 * g + k))
  by_cases hx : 40 * g + k = 40 * f + M 13 f
  · rw [hx, upM_ss, upM_ss, upM_ss, upM_ss]
    rcases hs with ⟨z1, z2, z3⟩ | ⟨z1, z2⟩
    · exact Or.inl ⟨z1, z3, z2⟩
    · exact Or.inr ⟨z1, z2⟩
  · rw [upM_sn hx, upM_sn hx, upM_sn hx, upM_sn hx]
    refine hN.hst g k h0 h1' h2 ?_
    by_cases hg : g = f
    · subst hg
      rw [upI_s] at h3
      omega
    · rw [upI_n hg] at h3
      exact h3
set_option maxRecDepth 100000 in
set_option maxHeartbeats 4000000 in
theorem c_S_addReading (l : Launch) (X : am_X) (h : am_H) (nx : Nat) (x : Nat) (A : Nat → Prop) (P : Tg → Nat) (M : MS) (f d v s0 : Int) (w b : Int) (ht : l.flags = pinnedFlags ++ [noTraceFlag]) (hC : RepC X x A P M h) (hI : RI M) (hN : NI M) (rf : -2147483648 ≤ f ∧ f < 2147483648) (rd : -2147483648 ≤ d ∧ d < 2147483648) (rv : -2147483648 ≤ v ∧ v < 2147483648) (rs0 : -2147483648 ≤ s0 ∧ s0 < 2147483648) (hs : (b = 0 ∧ w = v ∧ s0 = -1) ∨ (b = 1 ∧ s0 = w ∧ 0 ≤ w ∧ w ≤ 10000000)) : Cn l X y_S_addReading ({ frames := 8, cells := 4, slots := 24, locals := 134 }) [.ref (P (0, 0)), iV f, iV d, iV v, iV s0] h nx (wpost X x A iV (sp_put M f d v w b) h nx) := by
  refine cn_of (k := 1) (L0 := [some (.ref (P (0, 0))), some (iV f), some (iV d), some (iV v), some (iV s0), none]) rfl wx_369 (Nat.le_of_ble_eq_true rfl) rfl (fun p e s m args below meth c F => ?_)
  have q1 := hI.hfl
  have q7 := hI.hme
  refine v_aload_n (pc' := 1) (j := 0) F d_S_addReading_0 rfl rfl rfl ?_
  refine v_iload_n (pc' := 2) (j := 1) F d_S_addReading_1 rfl rfl rfl ?_
  refine v_callVR (pc' := 5) (C := zR_S) (T9 := zF_S) (N := 6) F d_S_addReading_2 rfl cal_S_meterAt wx_370 wx_372 wp_8 rfl (hC.t_top) (c_S_meterAt l X _ _ _ _ _ _ _ ht hC hI hN (by omega)) rfl ⟨by decide, by decide, by decide, by decide⟩ (Nat.le_of_ble_eq_true rfl) (fun n2 fs9 => ?_) (fun a2 => ?_)
  · exact v_out F (by decide) (by decide) (by rw [show sp_put M f d v w b = (1, 0, M) from if_neg (by omega)]; exact wpost.thr (k := 1) (by decide))
  refine v_astore_5 (pc' := 7) F d_S_addReading_5 rfl rfl (by decide) ?_
  refine v_iload_n (pc' := 8) (j := 2) F d_S_addReading_7 rfl rfl rfl ?_
  refine v_callSR (pc' := 11) F d_S_addReading_8 rfl cal_S_checkDay wx_321 wx_322 (c_S_checkDay l X _ _ _ ht (by omega)) rfl ⟨by decide, by decide, by decide, by decide⟩ (Nat.le_of_ble_eq_true rfl) (fun n8 fs9 => ?_) (fun a8 => ?_)
  · exact v_out F (by decide) (by decide) (by rw [show sp_put M f d v w b = (1, 0, M) from if_neg (by omega)]; exact wpost.thr (k := 1) (by decide))
  refine v_iload_n (pc' := 12) (j := 3) F d_S_addReading_11 rfl rfl rfl ?_
  refine v_iconst (pc' := 13) F d_S_addReading_12 rfl ?_
  refine v_ldc (pc' := 15) (z := 10000000) F d_S_addReading_13 rfl wx_375 (by decide) ?_
  refine v_callSR (pc' := 18) F d_S_addReading_15 rfl cal_S_checkBounds wx_86 wx_87 (c_S_checkBounds l X _ _ _ _ _ ht (by omega) (by omega) (by omega)) rfl ⟨by decide, by decide, by decide, by decide⟩ (Nat.le_of_ble_eq_true rfl) (fun n15 fs9 => ?_) (fun a15 => ?_)
  · exact v_out F (by decide) (by decide) (by rw [show sp_put M f d v w b = (1, 0, M) from if_neg (by omega)]; exact wpost.thr (k := 1) (by decide))
  refine v_aload (pc' := 20) F d_S_addReading_18 rfl rfl ?_
  refine v_iload_n (pc' := 21) (j := 2) F d_S_addReading_20 rfl rfl rfl ?_
  refine v_iload_n (pc' := 22) (j := 3) F d_S_addReading_21 rfl rfl rfl ?_
  refine v_callVP (pc' := 25) (C := zR_T) (T9 := zF_T) (N := 8) F d_S_addReading_22 rfl cal_T_mayEndWith wx_376 wx_377 wx_378 rfl (hC.t_mt (i := f) (show 0 ≤ f ∧ f < M 7 0 by omega)) (c_T_mayEndWith l X _ _ _ _ _ _ _ _ _ hC hI.hme hI.hrd hI.hda hI.hgo hN.hst (by omega) (by omega) (by omega)) rfl ⟨by decide, by decide, by decide, by decide⟩ (Nat.le_of_ble_eq_true rfl) rfl rfl ?_
  refine v_zif_ne (tgt := 38) (pc' := 28) F d_S_addReading_25 (by decide) rfl (fun c25 => ?_) (fun c25 => ?_)
  · refine v_aload (pc' := 40) F d_S_addReading_38 rfl rfl ?_
    have q4 := hI.hrd f (by omega) (by omega)
    refine v_getf (pc' := 43) (C := zR_T) (T := zF_T) (N := 8) (ref := "BillShares$Meter") F d_S_addReading_40 rfl zi_T rfl 4 (by decide) wx_338 (Or.inl rfl) (hC.t_mt (i := f) (show 0 ≤ f ∧ f < M 7 0 by omega)) rfl ?_
    refine v_bipush (pc' := 45) F d_S_addReading_43 rfl (by decide) ?_
    refine v_icmp_lt (tgt := 58) (pc' := 48) F d_S_addReading_45 (by decide) rfl (by omega) (by omega) (fun c45 => ?_) (fun c45 => ?_)
    · refine v_aload (pc' := 60) F d_S_addReading_58 rfl rfl ?_
      refine v_iload_n (pc' := 61) (j := 2) F d_S_addReading_60 rfl rfl rfl ?_
      refine v_iload_n (pc' := 62) (j := 3) F d_S_addReading_61 rfl rfl rfl ?_
      refine v_iload (pc' := 64) F d_S_addReading_62 rfl rfl ?_
      refine v_callV (pc' := 67) (C := zR_T) (T9 := zF_T) (N := 8) F d_S_addReading_64 rfl cal_T_append wx_386 wx_387 wx_388 rfl (hC.t_mt (i := f) (show 0 ≤ f ∧ f < M 7 0 by omega)) (c_T_append l X _ _ _ _ _ _ _ _ _ _ hC hI.hme hI.hrd (by omega) (by omega)) rfl ⟨by decide, by decide, by decide, by decide⟩ (Nat.le_of_ble_eq_true rfl) (fun _ _ _ q => by cases q.2.2.2) (fun r9 h' nx' q => ?_)
      obtain ⟨hC9, hF9, rfl, q9⟩ := q
      cases q9
      exact v_ireturn F rfl d_S_addReading_67 rfl rfl (by decide) (by decide) (by rw [show sp_put M f d v w b = (0, M 13 f + 1, upM (upM (upM (upM (upM M 14 (40 * f + M 13 f) d) 15 (40 * f + M 13 f) v) 16 (40 * f + M 13 f) w) 17 (40 * f + M 13 f) b) 13 f (M 13 f + 1)) from (if_pos (by omega)).trans (if_pos (by omega))]; exact Or.inl ⟨rfl, rfl, ((OF.rf).tr hF9), Nat.le_refl _, P, putM M f d v w b s0, (hC9.f16 (Or.inl rfl) _ w).f16 (Or.inr rfl) _ b, putM_NI hI hN (by omega) (by omega) (by omega), putM_c⟩)
    · refine v_newE (pc' := 57) (C := zR_IS) (T9 := zF_IS) (ci := 7) F ht am_exIS rfl wx_160 wx_161 wx_11 zi_IS wx_385 d_S_addReading_48 d_S_addReading_51 d_S_addReading_52 d_S_addReading_54 rfl (by decide) (by decide) (by decide) (Nat.le_of_ble_eq_true rfl) (fun fs9 => ?_)
      refine v_athrow F d_S_addReading_57 ?_
      exact v_out F (by decide) (by decide) (by rw [show sp_put M f d v w b = (2, 0, M) from (if_pos (by omega)).trans (if_neg (by omega))]; exact wpost.thr (k := 2) (by decide))
  · refine v_newE (pc' := 37) (C := zR_IA) (T9 := zF_IA) (ci := 6) F ht am_exIA rfl wx_89 wx_90 wx_10 zi_IA wx_384 d_S_addReading_28 d_S_addReading_31 d_S_addReading_32 d_S_addReading_34 rfl (by decide) (by decide) (by decide) (Nat.le_of_ble_eq_true rfl) (fun fs9 => ?_)
    refine v_athrow F d_S_addReading_37 ?_
    exact v_out F (by decide) (by decide) (by rw [show sp_put M f d v w b = (1, 0, M) from if_neg (by omega)]; exact wpost.thr (k := 1) (by decide))
set_option maxRecDepth 100000 in
set_option maxHeartbeats 4000000 in
theorem c_S_reading (l : Launch) (X : am_X) (h : am_H) (nx : Nat) (x : Nat) (A : Nat → Prop) (P : Tg → Nat) (M : MS) (f d v : Int) (ht : l.flags = pinnedFlags ++ [noTraceFlag]) (hC : RepC X x A P M h) (hI : RI M) (hN : NI M) (rf : -2147483648 ≤ f ∧ f < 2147483648) (rd : -2147483648 ≤ d ∧ d < 2147483648) (rv : -2147483648 ≤ v ∧ v < 2147483648) : Cn l X y_S_reading ({ frames := 9, cells := 4, slots := 24, locals := 159 }) [.ref (P (0, 0)), iV f, iV d, iV v] h nx (wpost X x A iV (sp_put M f d v v 0) h nx) := by
  refine cn_of (k := 0) (L0 := [some (.ref (P (0, 0))), some (iV f), some (iV d), some (iV v)]) rfl wx_365 (Nat.le_of_ble_eq_true rfl) rfl (fun p e s m args below meth c F => ?_)
  have q1 := hI.hfl
  have q7 := hI.hme
  refine v_aload_n (pc' := 1) (j := 0) F d_S_reading_0 rfl rfl rfl ?_
  refine v_iload_n (pc' := 2) (j := 1) F d_S_reading_1 rfl rfl rfl ?_
  refine v_iload_n (pc' := 3) (j := 2) F d_S_reading_2 rfl rfl rfl ?_
  refine v_iload_n (pc' := 4) (j := 3) F d_S_reading_3 rfl rfl rfl ?_
  refine v_iconst (pc' := 5) F d_S_reading_4 rfl ?_
  refine v_callV (pc' := 8) (C := zR_S) (T9 := zF_S) (N := 6) F d_S_reading_5 rfl cal_S_addReading wx_366 wx_368 wp_7 rfl (hC.t_top) (c_S_addReading l X _ _ _ _ _ _ _ _ _ _ v 0 ht hC hI hN (by omega) (by omega) (by omega) (by omega) (Or.inl ⟨rfl, rfl, rfl⟩)) rfl ⟨by decide, by decide, by decide, by decide⟩ (Nat.le_of_ble_eq_true rfl) (fun x9 h' nx' q => v_out F (by decide) (by decide) q) (fun r9 h' nx' q => ?_)
  rcases q with ⟨q0, q9, q2⟩ | ⟨_, fs9, q9, _⟩
  rotate_left
  · cases q9
  cases q9
  exact v_ireturn F rfl d_S_reading_8 rfl rfl (by decide) (by decide) (Or.inl ⟨q0, rfl, q2⟩)
set_option maxRecDepth 100000 in
set_option maxHeartbeats 4000000 in
theorem c_S_changed (l : Launch) (X : am_X) (h : am_H) (nx : Nat) (x : Nat) (A : Nat → Prop) (P : Tg → Nat) (M : MS) (f d v w : Int) (ht : l.flags = pinnedFlags ++ [noTraceFlag]) (hC : RepC X x A P M h) (hI : RI M) (hN : NI M) (rf : -2147483648 ≤ f ∧ f < 2147483648) (rd : -2147483648 ≤ d ∧ d < 2147483648) (rv : -2147483648 ≤ v ∧ v < 2147483648) (rww : -2147483648 ≤ w ∧ w < 2147483648) : Cn l X y_S_changed ({ frames := 9, cells := 5, slots := 30, locals := 159 }) [.ref (P (0, 0)), iV f, iV d, iV v, iV w] h nx (wpost X x A iV (sp_put M f d v w 1) h nx) := by
  refine cn_of (k := 0) (L0 := [some (.ref (P (0, 0))), some (iV f), some (iV d), some (iV v), some (iV w)]) rfl wx_396 (Nat.le_of_ble_eq_true rfl) rfl (fun p e s m args below meth c F => ?_)
  have q1 := hI.hfl
  have q7 := hI.hme
  refine v_iload (pc' := 2) F d_S_changed_0 rfl rfl ?_
  refine v_iconst (pc' := 3) F d_S_changed_2 rfl ?_
  refine v_ldc (pc' := 5) (z := 10000000) F d_S_changed_3 rfl wx_375 (by decide) ?_
  refine v_callSR (pc' := 8) F d_S_changed_5 rfl cal_S_checkBounds wx_86 wx_87 (c_S_checkBounds l X _ _ _ _ _ ht (by omega) (by omega) (by omega)) rfl ⟨by decide, by decide, by decide, by decide⟩ (Nat.le_of_ble_eq_true rfl) (fun n5 fs9 => ?_) (fun a5 => ?_)
  · exact v_out F (by decide) (by decide) (by rw [show sp_put M f d v w 1 = (1, 0, M) from if_neg (by omega)]; exact wpost.thr (k := 1) (by decide))
  refine v_aload_n (pc' := 9) (j := 0) F d_S_changed_8 rfl rfl rfl ?_
  refine v_iload_n (pc' := 10) (j := 1) F d_S_changed_9 rfl rfl rfl ?_
  refine v_iload_n (pc' := 11) (j := 2) F d_S_changed_10 rfl rfl rfl ?_
  refine v_iload_n (pc' := 12) (j := 3) F d_S_changed_11 rfl rfl rfl ?_
  refine v_iload (pc' := 14) F d_S_changed_12 rfl rfl ?_
  refine v_callV (pc' := 17) (C := zR_S) (T9 := zF_S) (N := 6) F d_S_changed_14 rfl cal_S_addReading wx_366 wx_368 wp_7 rfl (hC.t_top) (c_S_addReading l X _ _ _ _ _ _ _ _ _ _ w 1 ht hC hI hN (by omega) (by omega) (by omega) (by omega) (Or.inr ⟨rfl, rfl, by omega⟩)) rfl ⟨by decide, by decide, by decide, by decide⟩ (Nat.le_of_ble_eq_true rfl) (fun x9 h' nx' q => v_out F (by decide) (by decide) q) (fun r9 h' nx' q => ?_)
  rcases q with ⟨q0, q9, q2⟩ | ⟨_, fs9, q9, _⟩
  rotate_left
  · cases q9
  cases q9
  exact v_ireturn F rfl d_S_changed_17 rfl rfl (by decide) (by decide) (Or.inl ⟨q0, rfl, q2⟩)
theorem find_no {M : MS} {f d : Int} : ∀ n : Nat, (∀ j : Nat, j < n → M 14 (40 * f + (j : Int)) ≠ d) → sp_find M f d n = -1
  | 0, _ => rfl
  | n + 1, h => (if_neg (h n (by omega))).trans (find_no n (fun j hj => h j (by omega)))
theorem find_at {M : MS} {f d : Int} {k : Nat} (hk : M 14 (40 * f + (k : Int)) = d) : ∀ n : Nat, k < n → (∀ j : Nat, k < j → j < n → M 14 (40 * f + (j : Int)) ≠ d) → sp_find M f d n = 40 * f + (k : Int)
  | 0, h, _ => absurd h (by omega)
  | n + 1, h, hn => by
    by_cases e : k = n
    · subst e; exact if_pos hk
    · exact (if_neg (hn n (by omega) (by omega))).trans (find_at hk n (by omega) (fun j h1 h2 => hn j h1 (by omega)))
def sp_idx (M : MS) (f d : Int) : Int := if sp_find M f d (M 13 f).toNat = -1 then -1 else sp_find M f d (M 13 f).toNat - 40 * f
set_option maxRecDepth 100000 in
set_option maxHeartbeats 4000000 in
theorem lp_T_indexOfDay {p : Program} {l : Launch} {e : Env} {s : State} {m : MethodId} {args : Array Value} {below : List Frame} {meth : Method} {c : Code} {X : am_X} {h : am_H} {nx : Nat} {x : Nat} {A : Nat → Prop} {P : Tg → Nat} {M : MS}  {f d : Int} (F : am_Fx p s m args meth c y_T_indexOfDay b_T_indexOfDay 3 (some .int) [] X) (hC : RepC X x A P M h) (hI : RI M) (hf : 0 ≤ f ∧ f < M 7 0) (rd : -2147483648 ≤ d ∧ d < 2147483648) : ∀ (n k : Nat), (M 13 f).toNat < k + n → k ≤ (M 13 f).toNat → (∀ j : Nat, j < k → M 14 (40 * f + (j : Int)) ≠ d) → V p l e ({ frames := 0, cells := 0, slots := 0, locals := 0 }) s m args below meth c 3 X (am_Q X below s 0 0 (fun o h' nx' => o = .returned (some (iV (sp_idx M f d))) ∧ h' = h ∧ nx' = nx)) h nx 0 0 2 [some (.ref (P (12, f))), some (iV d), some (iV (k : Int))] [] := by
  intro n
  induction n with
  | zero =>
    intro k hk hk2
    exact absurd hk (by omega)
  | succ n ih =>
    intro k hk hk2 hno
    have q1 := hI.hrd f hf.1 hf.2
    have q7 := hI.hme
    refine v_iload_n (pc' := 3) (j := 2) F d_T_indexOfDay_2 rfl rfl rfl ?_
    refine v_aload_n (pc' := 4) (j := 0) F d_T_indexOfDay_3 rfl rfl rfl ?_
    refine v_getf (pc' := 7) (C := zR_T) (T := zF_T) (N := 8) (ref := "BillShares$Meter") F d_T_indexOfDay_4 rfl zi_T rfl 4 (by decide) wx_337 (Or.inl rfl) (hC.t_mt (i := f) hf) rfl ?_
    refine v_icmp_ge (tgt := 28) (pc' := 10) F d_T_indexOfDay_7 (by decide) rfl (by omega) (by omega) (fun c7 => ?_) (fun c7 => ?_)
    · obtain rfl : k = (M 13 f).toNat := by omega
      refine v_iconst (pc' := 29) F d_T_indexOfDay_28 rfl ?_
      exact v_ireturn F rfl d_T_indexOfDay_29 rfl rfl (Nat.le_refl _) (Nat.le_refl _) ⟨by unfold sp_idx; rw [find_no _ hno, if_pos rfl], rfl, rfl⟩
    · refine v_aload_n (pc' := 11) (j := 0) F d_T_indexOfDay_10 rfl rfl rfl ?_
      refine v_getf (pc' := 14) (C := zR_T) (T := zF_T) (N := 8) (ref := "BillShares$Meter") F d_T_indexOfDay_11 rfl zi_T rfl 5 (by decide) wx_339 (Or.inl rfl) (hC.t_mt (i := f) hf) rfl ?_
      refine v_iload_n (pc' := 15) (j := 2) F d_T_indexOfDay_14 rfl rfl rfl ?_
      refine cg_dy (pc' := 16) F hC (f := f) hf d_T_indexOfDay_15 rfl (by omega) (by omega) ?_
      have q2 := hI.hda (40 * f + (k : Int)) (by omega) (by omega)
      refine v_iload_n (pc' := 17) (j := 1) F d_T_indexOfDay_16 rfl rfl rfl ?_
      refine v_icmp_ne (tgt := 22) (pc' := 20) F d_T_indexOfDay_17 (by decide) rfl (by omega) (by omega) (fun c17 => ?_) (fun c17 => ?_)
      · refine v_iinc_2 (pc' := 25) F d_T_indexOfDay_22 rfl rfl (by decide) ?_
        refine v_goto (tgt := 2) F d_T_indexOfDay_25 (by decide) ?_
        refine ih (k + 1) (by omega) (by omega) (fun j hj => ?_)
        by_cases e9 : j = k
        · subst e9; exact c17
        · exact hno j (by omega)
      · refine v_iload_n (pc' := 21) (j := 2) F d_T_indexOfDay_20 rfl rfl rfl ?_
        exact v_ireturn F rfl d_T_indexOfDay_21 rfl rfl (Nat.le_refl _) (Nat.le_refl _) ⟨by unfold sp_idx; rw [find_at (k := k) (by omega) (M 13 f).toNat (by omega) (fun j h1 h2 => by have := mo_l hI.hmo hf (j := (k : Int)) (k := (j : Int)) (by omega) (by omega) (by omega); omega), if_neg (by omega), show 40 * f + (k : Int) - 40 * f = (k : Int) by omega], rfl, rfl⟩
set_option maxRecDepth 100000 in
set_option maxHeartbeats 4000000 in
theorem c_T_indexOfDay (l : Launch) (X : am_X) (h : am_H) (nx : Nat) (x : Nat) (A : Nat → Prop) (P : Tg → Nat) (M : MS) (f d : Int) (hC : RepC X x A P M h) (hI : RI M) (hf : 0 ≤ f ∧ f < M 7 0) (rd : -2147483648 ≤ d ∧ d < 2147483648) : CnP l X y_T_indexOfDay ({ frames := 0, cells := 0, slots := 0, locals := 0 }) [.ref (P (12, f)), iV d] h nx (iV (sp_idx M f d)) := by
  refine cn_of (k := 1) (L0 := [some (.ref (P (12, f))), some (iV d), none]) rfl wx_407 (Nat.le_of_ble_eq_true rfl) rfl (fun p e s m args below meth c F => ?_)
  have q1 := hI.hrd f hf.1 hf.2
  refine v_iconst (pc' := 1) F d_T_indexOfDay_0 rfl ?_
  refine v_istore_2 (pc' := 2) F d_T_indexOfDay_1 rfl rfl (by decide) ?_
  exact lp_T_indexOfDay F hC hI hf rd ((M 13 f).toNat + 1) 0 (by omega) (by omega) (fun j hj => absurd hj (by omega))
def corM (M : MS) (A0 v : Int) : MS := upM (upM M 15 A0 v) 16 A0 (if M 17 A0 = 0 then v else M 16 A0)
theorem corM_NI {M : MS} (hN : NI M) {A0 v : Int} : NI (corM M A0 v) := by
  refine ⟨fun g k h0 h1 h2 h3 => ?_, hN.z0, hN.z1, hN.z2, hN.hcp, hN.hfc, hN.hor, hN.hro, hN.hcn, hN.hmf, hN.hbe⟩
  have q := hN.hst g k h0 h1 h2 h3
  show (M 17 (40 * g + k) = 0 ∧ M 33 (40 * g + k) = -1 ∧ upM M 16 A0 (if M 17 A0 = 0 then v else M 16 A0) 16 (40 * g + k) = upM M 15 A0 v 15 (40 * g + k)) ∨ (M 17 (40 * g + k) = 1 ∧ M 33 (40 * g + k) = upM M 16 A0 (if M 17 A0 = 0 then v else M 16 A0) 16 (40 * g + k))
  by_cases hx : 40 * g + k = A0
  · subst hx
    rw [upM_ss, upM_ss]
    rcases q with ⟨z1, z2, z3⟩ | ⟨z1, z2⟩
    · exact Or.inl ⟨z1, z2, if_pos z1⟩
    · exact Or.inr ⟨z1, by rw [if_neg (by omega)]; exact z2⟩
  · rw [upM_sn hx, upM_sn hx]
    exact q
theorem sp_idx_r {M : MS} (hI : RI M) {f d : Int} (hf : 0 ≤ f ∧ f < M 7 0) : (sp_idx M f d = -1 ∧ sp_find M f d (M 13 f).toNat = -1) ∨ ((0 ≤ sp_idx M f d ∧ sp_idx M f d < M 13 f) ∧ sp_find M f d (M 13 f).toNat = 40 * f + sp_idx M f d ∧ M 14 (40 * f + sp_idx M f d) = d) := by
  have q := hI.hrd f hf.1 hf.2
  have z := sp_find_or M f d (M 13 f).toNat
  unfold sp_idx
  by_cases h : sp_find M f d (M 13 f).toNat = -1
  · exact Or.inl ⟨if_pos h, h⟩
  · rw [if_neg h]
    rcases z with z | ⟨z1, z2, z3⟩
    · exact absurd z h
    · exact Or.inr ⟨by omega, by omega, by rw [show 40 * f + (sp_find M f d (M 13 f).toNat - 40 * f) = sp_find M f d (M 13 f).toNat by omega]; exact z3⟩
set_option maxRecDepth 100000 in
set_option maxHeartbeats 4000000 in
theorem c_S_correct (l : Launch) (X : am_X) (h : am_H) (nx : Nat) (x : Nat) (A : Nat → Prop) (P : Tg → Nat) (M : MS) (f d v : Int) (ht : l.flags = pinnedFlags ++ [noTraceFlag]) (hC : RepC X x A P M h) (hI : RI M) (hN : NI M) (rf : -2147483648 ≤ f ∧ f < 2147483648) (rd : -2147483648 ≤ d ∧ d < 2147483648) (rv : -2147483648 ≤ v ∧ v < 2147483648) : Cn l X y_S_correct ({ frames := 8, cells := 4, slots := 24, locals := 134 }) [.ref (P (0, 0)), iV f, iV d, iV v] h nx (wpost X x A iV (sp_correct M f d v) h nx) := by
  refine cn_of (k := 2) (L0 := [some (.ref (P (0, 0))), some (iV f), some (iV d), some (iV v), none, none]) rfl wx_403 (Nat.le_of_ble_eq_true rfl) rfl (fun p e s m args below meth c F => ?_)
  have q1 := hI.hfl
  have q7 := hI.hme
  refine v_aload_n (pc' := 1) (j := 0) F d_S_correct_0 rfl rfl rfl ?_
  refine v_iload_n (pc' := 2) (j := 1) F d_S_correct_1 rfl rfl rfl ?_
  refine v_callVR (pc' := 5) (C := zR_S) (T9 := zF_S) (N := 6) F d_S_correct_2 rfl cal_S_meterAt wx_370 wx_372 wp_8 rfl (hC.t_top) (c_S_meterAt l X _ _ _ _ _ _ _ ht hC hI hN (by omega)) rfl ⟨by decide, by decide, by decide, by decide⟩ (Nat.le_of_ble_eq_true rfl) (fun n2 fs9 => ?_) (fun a2 => ?_)
  · exact v_out F (by decide) (by decide) (by rw [show sp_correct M f d v = (1, 0, M) from (by unfold sp_correct; rw [if_neg (by omega)]; exact if_neg (by omega))]; exact wpost.thr (k := 1) (by decide))
  refine v_astore_4 (pc' := 7) F d_S_correct_5 rfl rfl (by decide) ?_
  refine v_iload_n (pc' := 8) (j := 2) F d_S_correct_7 rfl rfl rfl ?_
  refine v_callSR (pc' := 11) F d_S_correct_8 rfl cal_S_checkDay wx_321 wx_322 (c_S_checkDay l X _ _ _ ht (by omega)) rfl ⟨by decide, by decide, by decide, by decide⟩ (Nat.le_of_ble_eq_true rfl) (fun n8 fs9 => ?_) (fun a8 => ?_)
  · have hz := sp_idx_r hI (f := f) (d := d) (by omega)
    have q4 := hI.hrd f (by omega) (by omega)
    exact v_out F (by decide) (by decide) (by rw [show sp_correct M f d v = (1, 0, M) from (by unfold sp_correct; rw [if_pos (by omega)]; refine if_neg (fun q => ?_); have hd := hI.hda (40 * f + sp_idx M f d) (by omega) (by omega); omega)]; exact wpost.thr (k := 1) (by decide))
  refine v_iload_n (pc' := 12) (j := 3) F d_S_correct_11 rfl rfl rfl ?_
  refine v_iconst (pc' := 13) F d_S_correct_12 rfl ?_
  refine v_ldc (pc' := 15) (z := 10000000) F d_S_correct_13 rfl wx_375 (by decide) ?_
  refine v_callSR (pc' := 18) F d_S_correct_15 rfl cal_S_checkBounds wx_86 wx_87 (c_S_checkBounds l X _ _ _ _ _ ht (by omega) (by omega) (by omega)) rfl ⟨by decide, by decide, by decide, by decide⟩ (Nat.le_of_ble_eq_true rfl) (fun n15 fs9 => ?_) (fun a15 => ?_)
  · exact v_out F (by decide) (by decide) (by rw [show sp_correct M f d v = (1, 0, M) from (by unfold sp_correct; rw [if_pos (by omega)]; exact if_neg (by omega))]; exact wpost.thr (k := 1) (by decide))
  have hz := sp_idx_r hI (f := f) (d := d) (by omega)
  have q4 := hI.hrd f (by omega) (by omega)
  refine v_aload (pc' := 20) F d_S_correct_18 rfl rfl ?_
  refine v_iload_n (pc' := 21) (j := 2) F d_S_correct_20 rfl rfl rfl ?_
  refine v_callVP (pc' := 24) (C := zR_T) (T9 := zF_T) (N := 8) F d_S_correct_21 rfl cal_T_indexOfDay wx_404 wx_405 wx_406 rfl (hC.t_mt (i := f) (show 0 ≤ f ∧ f < M 7 0 by omega)) (c_T_indexOfDay l X _ _ _ _ _ _ _ _ hC hI (by omega) (by omega)) rfl ⟨by decide, by decide, by decide, by decide⟩ (Nat.le_of_ble_eq_true rfl) rfl rfl ?_
  refine v_istore_5 (pc' := 26) F d_S_correct_24 rfl rfl (by decide) ?_
  refine v_iload (pc' := 28) F d_S_correct_26 rfl rfl ?_
  refine v_iconst (pc' := 29) F d_S_correct_28 rfl ?_
  refine v_icmp_eq (tgt := 43) (pc' := 32) F d_S_correct_29 (by decide) rfl (by omega) (by omega) (fun c29 => ?_) (fun c29 => ?_)
  · refine v_newE (pc' := 52) (C := zR_IA) (T9 := zF_IA) (ci := 6) F ht am_exIA rfl wx_89 wx_90 wx_10 zi_IA wx_412 d_S_correct_43 d_S_correct_46 d_S_correct_47 d_S_correct_49 rfl (by decide) (by decide) (by decide) (Nat.le_of_ble_eq_true rfl) (fun fs9 => ?_)
    refine v_athrow F d_S_correct_52 ?_
    exact v_out F (by decide) (by decide) (by rw [show sp_correct M f d v = (1, 0, M) from (by unfold sp_correct; rw [if_pos (by omega)]; refine if_neg (fun q => ?_); first | omega | (rw [show sp_find M f d (M 13 f).toNat = 40 * f + sp_idx M f d by omega] at q; omega))]; exact wpost.thr (k := 1) (by decide))
  · refine v_aload (pc' := 34) F d_S_correct_32 rfl rfl ?_
    refine v_iload (pc' := 36) F d_S_correct_34 rfl rfl ?_
    refine v_iload_n (pc' := 37) (j := 3) F d_S_correct_36 rfl rfl rfl ?_
    refine v_callVP (pc' := 40) (C := zR_T) (T9 := zF_T) (N := 8) F d_S_correct_37 rfl cal_T_fits wx_408 wx_409 wx_410 rfl (hC.t_mt (i := f) (show 0 ≤ f ∧ f < M 7 0 by omega)) (c_T_fits l X _ _ _ _ _ _ _ _ _ hC hI.hme hI.hrd hI.hva hI.hgo hN.hst (by omega) (by omega) (by omega)) rfl ⟨by decide, by decide, by decide, by decide⟩ (Nat.le_of_ble_eq_true rfl) rfl rfl ?_
    refine v_zif_ne (tgt := 53) (pc' := 43) F d_S_correct_40 (by decide) rfl (fun c40 => ?_) (fun c40 => ?_)
    · refine v_aload (pc' := 55) F d_S_correct_53 rfl rfl ?_
      refine v_iload (pc' := 57) F d_S_correct_55 rfl rfl ?_
      refine v_iload_n (pc' := 58) (j := 3) F d_S_correct_57 rfl rfl rfl ?_
      refine v_callV (pc' := 61) (C := zR_T) (T9 := zF_T) (N := 8) F d_S_correct_58 rfl cal_T_replaceValue wx_413 wx_414 wx_415 rfl (hC.t_mt (i := f) (show 0 ≤ f ∧ f < M 7 0 by omega)) (c_T_replaceValue l X _ _ _ _ _ _ _ _ _ hC hI.hme hI.hrd (by omega) (by omega)) rfl ⟨by decide, by decide, by decide, by decide⟩ (Nat.le_of_ble_eq_true rfl) (fun _ _ _ q => by cases q.2.2.2) (fun r9 h' nx' q => ?_)
      obtain ⟨hC9, hF9, rfl, q9⟩ := q
      cases q9
      exact v_ireturn F rfl d_S_correct_61 rfl rfl (by decide) (by decide) (by rw [show sp_correct M f d v = (0, M 15 (40 * f + sp_idx M f d), corM M (40 * f + sp_idx M f d) v) from (by unfold sp_correct; rw [if_pos (by omega), show sp_find M f d (M 13 f).toNat = 40 * f + sp_idx M f d by omega]; exact if_pos (by omega))]; exact Or.inl ⟨rfl, rfl, ((OF.rf).tr hF9), Nat.le_refl _, P, _, hC9.f16 (Or.inl rfl) _ _, corM_NI hN, fun _ _ _ => rfl⟩)
    · refine v_newE (pc' := 52) (C := zR_IA) (T9 := zF_IA) (ci := 6) F ht am_exIA rfl wx_89 wx_90 wx_10 zi_IA wx_412 d_S_correct_43 d_S_correct_46 d_S_correct_47 d_S_correct_49 rfl (by decide) (by decide) (by decide) (Nat.le_of_ble_eq_true rfl) (fun fs9 => ?_)
      refine v_athrow F d_S_correct_52 ?_
      exact v_out F (by decide) (by decide) (by rw [show sp_correct M f d v = (1, 0, M) from (by unfold sp_correct; rw [if_pos (by omega)]; refine if_neg (fun q => ?_); first | omega | (rw [show sp_find M f d (M 13 f).toNat = 40 * f + sp_idx M f d by omega] at q; omega))]; exact wpost.thr (k := 1) (by decide))
