/-! openBills and run of the class (written by wip/whole/cc13.py) -/
theorem kind_w {A B : MS} (h : ∀ j : Nat, j ≠ 28 → j ≠ 29 → j ≠ 30 → A j = B j) (k0 a : Int) : ∀ j : Nat, j ≠ 28 → j ≠ 29 → j ≠ 30 → sp_kind A k0 a j = sp_kind B k0 a j := fun j h1 h2 h3 => by
  by_cases c : j = 23 ∨ j = 24
  · exact kind_c (fun i _ z1 _ _ => h i (by omega) (by omega) (by omega)) k0 a j (by omega) (by omega) (by omega) (by omega)
  · rw [kind_x (by omega) (by omega), kind_x (by omega) (by omega)]
    exact h j h1 h2 h3
set_option maxRecDepth 100000 in
set_option maxHeartbeats 4000000 in
theorem lp_S_openBills {p : Program} {l : Launch} {e : Env} {s : State} {m : MethodId} {args : Array Value} {below : List Frame} {meth : Method} {c : Code} {X : am_X} {h : am_H} {nx : Nat} {x : Nat} {A : Nat → Prop} {M : MS} {a : Int} (F : am_Fx p s m args meth c y_S_openBills b_S_openBills 4 none [] X) (hI : RI M) (hN : NI M) (hA : ∀ q : Nat, nx ≤ q → A q) (ry : 0 ≤ a ∧ a ≤ 9) : ∀ (n k : Nat), (M 1 0).toNat < k + n → k ≤ (M 1 0).toNat → ∀ (h9 : am_H) (n9 : Nat) (P9 : Tg → Nat), RepC X x A P9 (opM M a k) h9 → OF A h h9 → nx ≤ n9 → V p l e ({ frames := 3, cells := 60, slots := 220, locals := 64 }) s m args below meth c 4 X (am_Q X below s 60 220 (fun o h' nx' => (∃ P' : Tg → Nat, RepC X x A P' (opM M a (M 1 0).toNat) h') ∧ OF A h h' ∧ nx ≤ nx' ∧ o = .returned none)) h9 n9 (3 * k) (11 * k) 2 [some (.ref x), some (iV a), some (iV (k : Int)), none] [] := by
  intro n
  induction n with
  | zero =>
    intro k hk hk2
    exact absurd hk (by omega)
  | succ n ih =>
    intro k hk hk2 h9 n9 P9 hC9 hF9 hn9
    obtain rfl := hC9.top
    have q1 := hI.hfl
    have qt := hI.ht1 a ry.1 ry.2
    by_cases hb : (k : Int) < M 21 a
    · refine v_iload_n (pc' := 3) (j := 2) F d_S_openBills_2 rfl rfl rfl ?_
      refine v_aload_n (pc' := 4) (j := 0) F d_S_openBills_3 rfl rfl rfl ?_
      refine v_getf (pc' := 7) (C := zR_S) (T := zF_S) (N := 6) (ref := "BillShares") F d_S_openBills_4 rfl zi_S rfl 0 (by decide) wx_57 (Or.inl rfl) (hC9.t_top) rfl ?_
      refine v_callVP (pc' := 10) (C := zR_A) (T9 := zF_A) (N := 3) F d_S_openBills_7 rfl cal_A_size wx_156 wx_157 wx_158 rfl (hC9.t_ls (i := 0) ⟨by decide, by decide⟩) (c_size l X _ _ _ _ 0 (M 1 0) hC9 ⟨by decide, by decide⟩ hN.z0) rfl ⟨by decide, by decide, by first | omega | (dsimp only; omega), by first | omega | (dsimp only; omega)⟩ (Nat.le_of_ble_eq_true rfl) rfl rfl ?_
      refine v_icmp_ge (tgt := 43) (pc' := 13) F d_S_openBills_10 (by decide) rfl (by omega) (by omega) (fun c10 => ?_) (fun c10 => ?_)
      · obtain rfl : k = (M 1 0).toNat := by omega
        exact v_return F d_S_openBills_43 rfl (by first | omega | (dsimp only; omega)) (by first | omega | (dsimp only; omega)) ⟨⟨P9, hC9⟩, hF9, hn9, rfl⟩
      · refine v_aload_n (pc' := 14) (j := 0) F d_S_openBills_13 rfl rfl rfl ?_
        refine v_getf (pc' := 17) (C := zR_S) (T := zF_S) (N := 6) (ref := "BillShares") F d_S_openBills_14 rfl zi_S rfl 0 (by decide) wx_57 (Or.inl rfl) (hC9.t_top) rfl ?_
        refine v_iload_n (pc' := 18) (j := 2) F d_S_openBills_17 rfl rfl rfl ?_
        refine v_callVP (pc' := 21) (C := zR_A) (T9 := zF_A) (N := 3) F d_S_openBills_18 rfl cal_A_get wx_283 wx_284 wx_285 rfl (hC9.t_ls (i := 0) ⟨by decide, by decide⟩) (c_get l X _ _ _ _ 0 (k : Int) hC9 ⟨by decide, by decide⟩ (hN.hcp 0 (by decide) (by decide)) (by show 0 ≤ (k : Int) ∧ (k : Int) < M 36 0; have := hN.z0; omega)) rfl ⟨by decide, by decide, by first | omega | (dsimp only; omega), by first | omega | (dsimp only; omega)⟩ (Nat.le_of_ble_eq_true rfl) rfl rfl ?_
        refine v_cast (pc' := 24) (C := zR_F) (T9 := zF_F) (N := 10) F d_S_openBills_21 rfl wx_176 wx_915 rfl (hC9.t_fl (i := (k : Int)) (show 0 ≤ (k : Int) ∧ (k : Int) < M 1 0 by omega)) ?_
        refine v_iload_n (pc' := 25) (j := 1) F d_S_openBills_24 rfl rfl rfl ?_
        refine v_callVP (pc' := 28) (C := zR_F) (T9 := zF_F) (N := 10) F d_S_openBills_25 rfl cal_F_billOf wx_486 wx_487 wx_488 rfl (hC9.t_fl (i := (k : Int)) (show 0 ≤ (k : Int) ∧ (k : Int) < M 1 0 by omega)) (c_F_billOfE l X _ _ _ _ _ _ (k : Int) a hC9 (show 0 ≤ (k : Int) ∧ (k : Int) < M 1 0 by omega) ry (by rw [opM_21, if_neg (by omega)]; omega)) rfl ⟨by decide, by decide, by first | omega | (dsimp only; omega), by first | omega | (dsimp only; omega)⟩ (Nat.le_of_ble_eq_true rfl) rfl rfl ?_
        refine v_astore_3 (pc' := 29) F d_S_openBills_28 rfl rfl (by decide) ?_
        refine v_aload_n (pc' := 30) (j := 3) F d_S_openBills_29 rfl rfl rfl ?_
        refine v_aload_n (pc' := 31) (j := 3) F d_S_openBills_30 rfl rfl rfl ?_
        refine v_callVP (pc' := 34) (C := zR_B) (T9 := zF_B) (N := 3) F d_S_openBills_31 rfl cal_B_total wx_508 wx_509 wx_510 rfl (hC9.t_bl (i := (20 * a + (k : Int))) (show (0 ≤ 20 * a + (k : Int) ∧ 20 * a + (k : Int) < 200) ∧ (20 * a + (k : Int)) % 20 < opM M a k 21 ((20 * a + (k : Int)) / 20) from bl_lv (by omega) ry (by rw [opM_21, if_neg (by omega)]; omega))) (c_B_total l X _ _ _ _ _ _ _ hC9 (show (0 ≤ 20 * a + (k : Int) ∧ 20 * a + (k : Int) < 200) ∧ (20 * a + (k : Int)) % 20 < opM M a k 21 ((20 * a + (k : Int)) / 20) from bl_lv (by omega) ry (by rw [opM_21, if_neg (by omega)]; omega))) rfl ⟨by decide, by decide, by first | omega | (dsimp only; omega), by first | omega | (dsimp only; omega)⟩ (Nat.le_of_ble_eq_true rfl) rfl rfl ?_
        refine v_topl (b := sp_share M (k : Int) a) (sp_tot_s _ _ _) ?_
        refine cp_be (pc' := 37) F hC9 (f := (20 * a + (k : Int))) (show (0 ≤ 20 * a + (k : Int) ∧ 20 * a + (k : Int) < 200) ∧ (20 * a + (k : Int)) % 20 < opM M a k 21 ((20 * a + (k : Int)) / 20) from bl_lv (by omega) ry (by rw [opM_21, if_neg (by omega)]; omega)) d_S_openBills_34 rfl wx_500 (fun h1 hC1 hF1 => ?_)
        refine v_iinc_2 (pc' := 40) F d_S_openBills_37 rfl rfl (by decide) ?_
        refine v_goto (tgt := 2) F d_S_openBills_40 (by decide) ?_
        exact v_widen (cells' := 3 * (k + 1)) (slots' := 11 * (k + 1)) (by first | omega | (dsimp only; omega)) (by first | omega | (dsimp only; omega)) (v_subL (by (repeat' (first | exact trivial | exact rfl | refine And.intro ?_ ?_)); done) (ih (k + 1) (by omega) (by omega) _ _ _ (by rw [← opM_e hb]; exact hC1) ((hF9).tr hF1) (by omega)))
    · refine v_iload_n (pc' := 3) (j := 2) F d_S_openBills_2 rfl rfl rfl ?_
      refine v_aload_n (pc' := 4) (j := 0) F d_S_openBills_3 rfl rfl rfl ?_
      refine v_getf (pc' := 7) (C := zR_S) (T := zF_S) (N := 6) (ref := "BillShares") F d_S_openBills_4 rfl zi_S rfl 0 (by decide) wx_57 (Or.inl rfl) (hC9.t_top) rfl ?_
      refine v_callVP (pc' := 10) (C := zR_A) (T9 := zF_A) (N := 3) F d_S_openBills_7 rfl cal_A_size wx_156 wx_157 wx_158 rfl (hC9.t_ls (i := 0) ⟨by decide, by decide⟩) (c_size l X _ _ _ _ 0 (M 1 0) hC9 ⟨by decide, by decide⟩ hN.z0) rfl ⟨by decide, by decide, by first | omega | (dsimp only; omega), by first | omega | (dsimp only; omega)⟩ (Nat.le_of_ble_eq_true rfl) rfl rfl ?_
      refine v_icmp_ge (tgt := 43) (pc' := 13) F d_S_openBills_10 (by decide) rfl (by omega) (by omega) (fun c10 => ?_) (fun c10 => ?_)
      · obtain rfl : k = (M 1 0).toNat := by omega
        exact v_return F d_S_openBills_43 rfl (by first | omega | (dsimp only; omega)) (by first | omega | (dsimp only; omega)) ⟨⟨P9, hC9⟩, hF9, hn9, rfl⟩
      · refine v_aload_n (pc' := 14) (j := 0) F d_S_openBills_13 rfl rfl rfl ?_
        refine v_getf (pc' := 17) (C := zR_S) (T := zF_S) (N := 6) (ref := "BillShares") F d_S_openBills_14 rfl zi_S rfl 0 (by decide) wx_57 (Or.inl rfl) (hC9.t_top) rfl ?_
        refine v_iload_n (pc' := 18) (j := 2) F d_S_openBills_17 rfl rfl rfl ?_
        refine v_callVP (pc' := 21) (C := zR_A) (T9 := zF_A) (N := 3) F d_S_openBills_18 rfl cal_A_get wx_283 wx_284 wx_285 rfl (hC9.t_ls (i := 0) ⟨by decide, by decide⟩) (c_get l X _ _ _ _ 0 (k : Int) hC9 ⟨by decide, by decide⟩ (hN.hcp 0 (by decide) (by decide)) (by show 0 ≤ (k : Int) ∧ (k : Int) < M 36 0; have := hN.z0; omega)) rfl ⟨by decide, by decide, by first | omega | (dsimp only; omega), by first | omega | (dsimp only; omega)⟩ (Nat.le_of_ble_eq_true rfl) rfl rfl ?_
        refine v_cast (pc' := 24) (C := zR_F) (T9 := zF_F) (N := 10) F d_S_openBills_21 rfl wx_176 wx_915 rfl (hC9.t_fl (i := (k : Int)) (show 0 ≤ (k : Int) ∧ (k : Int) < M 1 0 by omega)) ?_
        refine v_iload_n (pc' := 25) (j := 1) F d_S_openBills_24 rfl rfl rfl ?_
        refine v_callV (pc' := 28) (C := zR_F) (T9 := zF_F) (N := 10) F d_S_openBills_25 rfl cal_F_billOf wx_486 wx_487 wx_488 rfl (hC9.t_fl (i := (k : Int)) (show 0 ≤ (k : Int) ∧ (k : Int) < M 1 0 by omega)) (c_F_billOfN l X _ _ _ _ _ _ (k : Int) a hC9 (opM_RI hI ry (by omega)) (fun q hq => hA q (by omega)) (show 0 ≤ (k : Int) ∧ (k : Int) < M 1 0 by omega) ry (by rw [opM_21]; split <;> omega)) rfl ⟨by decide, by decide, by first | omega | (dsimp only; omega), by first | omega | (dsimp only; omega)⟩ (Nat.le_of_ble_eq_true rfl) (fun _ _ _ q => by cases q.1) (fun r9 h8 n8 q => ?_)
        obtain ⟨q9, rfl, hC8, hF8⟩ := q
        cases q9
        refine v_topv (b := .ref (pB P9 (20 * a + (k : Int)) n9 (16, 20 * a + (k : Int)))) (congrArg Value.ref pB_16.symm) ?_
        refine v_astore_3 (pc' := 29) F d_S_openBills_28 rfl rfl (by decide) ?_
        refine v_aload_n (pc' := 30) (j := 3) F d_S_openBills_29 rfl rfl rfl ?_
        refine v_aload_n (pc' := 31) (j := 3) F d_S_openBills_30 rfl rfl rfl ?_
        refine v_callVP (pc' := 34) (C := zR_B) (T9 := zF_B) (N := 3) F d_S_openBills_31 rfl cal_B_total wx_508 wx_509 wx_510 rfl (hC8.t_bl (i := (20 * a + (k : Int))) (show (0 ≤ 20 * a + (k : Int) ∧ 20 * a + (k : Int) < 200) ∧ (20 * a + (k : Int)) % 20 < newB (opM M a k) (k : Int) a 21 ((20 * a + (k : Int)) / 20) from bl_lv (by omega) ry (show (k : Int) < upM (opM M a k) 21 a ((k : Int) + 1) 21 a by rw [upM_ss]; omega))) (c_B_total l X _ _ _ _ _ _ _ hC8 (show (0 ≤ 20 * a + (k : Int) ∧ 20 * a + (k : Int) < 200) ∧ (20 * a + (k : Int)) % 20 < newB (opM M a k) (k : Int) a 21 ((20 * a + (k : Int)) / 20) from bl_lv (by omega) ry (show (k : Int) < upM (opM M a k) 21 a ((k : Int) + 1) 21 a by rw [upM_ss]; omega))) rfl ⟨by decide, by decide, by first | omega | (dsimp only; omega), by first | omega | (dsimp only; omega)⟩ (Nat.le_of_ble_eq_true rfl) rfl rfl ?_
        refine v_topl (b := sp_share M (k : Int) a) (sp_tot_s _ _ _) ?_
        refine cp_be (pc' := 37) F hC8 (f := (20 * a + (k : Int))) (show (0 ≤ 20 * a + (k : Int) ∧ 20 * a + (k : Int) < 200) ∧ (20 * a + (k : Int)) % 20 < newB (opM M a k) (k : Int) a 21 ((20 * a + (k : Int)) / 20) from bl_lv (by omega) ry (show (k : Int) < upM (opM M a k) 21 a ((k : Int) + 1) 21 a by rw [upM_ss]; omega)) d_S_openBills_34 rfl wx_500 (fun h1 hC1 hF1 => ?_)
        refine v_iinc_2 (pc' := 40) F d_S_openBills_37 rfl rfl (by decide) ?_
        refine v_goto (tgt := 2) F d_S_openBills_40 (by decide) ?_
        exact v_widen (cells' := 3 * (k + 1)) (slots' := 11 * (k + 1)) (by first | omega | (dsimp only; omega)) (by first | omega | (dsimp only; omega)) (v_subL (by (repeat' (first | exact trivial | exact rfl | refine And.intro ?_ ?_)); done) (ih (k + 1) (by omega) (by omega) _ _ _ (by rw [← opM_n (by omega)]; exact hC1) ((((hF9).tr hF8)).tr hF1) (by omega)))
set_option maxRecDepth 100000 in
set_option maxHeartbeats 4000000 in
theorem c_S_openBills (l : Launch) (X : am_X) (h : am_H) (nx : Nat) (x : Nat) (A : Nat → Prop) (P : Tg → Nat) (M : MS) (a : Int) (hC : RepC X x A P M h) (hI : RI M) (hN : NI M) (hA : ∀ q : Nat, nx ≤ q → A q) (ry : 0 ≤ a ∧ a ≤ 9) : Cn l X y_S_openBills ({ frames := 3, cells := 60, slots := 220, locals := 64 }) [.ref (P (0, 0)), iV a] h nx (fun o h' nx' => (∃ P' : Tg → Nat, RepC X x A P' (opM M a (M 1 0).toNat) h') ∧ OF A h h' ∧ nx ≤ nx' ∧ o = .returned none) := by
  refine cn_of (k := 2) (L0 := [some (.ref (P (0, 0))), some (iV a), none, none]) rfl wx_485 (Nat.le_of_ble_eq_true rfl) rfl (fun p e s m args below meth c F => ?_)
  refine v_iconst (pc' := 1) F d_S_openBills_0 rfl ?_
  refine v_istore_2 (pc' := 2) F d_S_openBills_1 rfl rfl (by decide) ?_
  obtain rfl := hC.top
  exact lp_S_openBills (h := h) F hI hN hA ry ((M 1 0).toNat + 1) 0 (by omega) (by omega) _ _ _ (by rw [opM_0 (hI.ht1 a ry.1 ry.2).2]; exact hC) OF.rf (Nat.le_refl _)
set_option maxRecDepth 100000 in
set_option maxHeartbeats 4000000 in
theorem c_S_run (l : Launch) (X : am_X) (h : am_H) (nx : Nat) (x : Nat) (A : Nat → Prop) (P : Tg → Nat) (M : MS) (a : Int) (ht : l.flags = pinnedFlags ++ [noTraceFlag]) (hC : RepC X x A P M h) (hI : RI M) (hN : NI M) (ra : -2147483648 ≤ a ∧ a < 2147483648) (hA : ∀ q : Nat, nx ≤ q → A q) : Cn l X y_S_run ({ frames := 8, cells := 63, slots := 240, locals := 153 }) [.ref (P (0, 0)), iV a] h nx (wpost X x A iV (sp_run M a) h nx) := by
  refine cn_of (k := 1) (L0 := [some (.ref (P (0, 0))), some (iV a), none]) rfl wx_476 (Nat.le_of_ble_eq_true rfl) rfl (fun p e s m args below meth c F => ?_)
  have q1 := hI.hfl
  have q7 := hI.hme
  refine v_iload_n (pc' := 1) (j := 1) F d_S_run_0 rfl rfl rfl ?_
  refine v_callSR (pc' := 4) F d_S_run_1 rfl cal_S_checkYear wx_431 wx_432 (c_S_checkYear l X _ _ _ ht (by omega)) rfl ⟨by decide, by decide, by decide, by decide⟩ (Nat.le_of_ble_eq_true rfl) (fun n1 fs9 => ?_) (fun a1 => ?_)
  · exact v_out F (by decide) (by decide) (by rw [show sp_run M a = (1, 0, M) from if_neg (by omega)]; exact wpost.thr (k := 1) (by decide))
  refine v_aload_n (pc' := 5) (j := 0) F d_S_run_4 rfl rfl rfl ?_
  refine v_getf (pc' := 8) (C := zR_S) (T := zF_S) (N := 6) (ref := "BillShares") F d_S_run_5 rfl zi_S rfl 0 (by decide) wx_57 (Or.inl rfl) (hC.t_top) rfl ?_
  refine v_callVP (pc' := 11) (C := zR_A) (T9 := zF_A) (N := 3) F d_S_run_8 rfl cal_A_isEmpty wx_477 wx_478 wx_479 rfl (hC.t_ls (i := 0) ⟨by decide, by decide⟩) (c_A_isEmpty l X _ _ _ _ _ _ (hC.t_ls (i := 0) ⟨by decide, by decide⟩) (by have := hN.z0; omega)) rfl ⟨by decide, by decide, by decide, by decide⟩ (Nat.le_of_ble_eq_true rfl) rfl rfl ?_
  refine v_zif_ne (tgt := 25) (pc' := 14) F d_S_run_11 (by decide) rfl (fun c11 => ?_) (fun c11 => ?_)
  · refine v_newE (pc' := 34) (C := zR_IS) (T9 := zF_IS) (ci := 7) F ht am_exIS rfl wx_160 wx_161 wx_11 zi_IS wx_481 d_S_run_25 d_S_run_28 d_S_run_29 d_S_run_31 rfl (by decide) (by decide) (by decide) (Nat.le_of_ble_eq_true rfl) (fun fs9 => ?_)
    refine v_athrow F d_S_run_34 ?_
    exact v_out F (by decide) (by decide) (by rw [show sp_run M a = (2, 0, M) from (if_pos (by omega)).trans (if_neg (by have := hN.z0; omega))]; exact wpost.thr (k := 2) (by decide))
  · have qz := hN.z0
    refine v_aload_n (pc' := 15) (j := 0) F d_S_run_14 rfl rfl rfl ?_
    refine v_getf (pc' := 18) (C := zR_S) (T := zF_S) (N := 6) (ref := "BillShares") F d_S_run_15 rfl zi_S rfl 5 (by decide) wx_62 (Or.inl rfl) (hC.t_top) rfl ?_
    refine v_iload_n (pc' := 19) (j := 1) F d_S_run_18 rfl rfl rfl ?_
    refine cg_eds (pc' := 20) F hC d_S_run_19 rfl (by omega) (by omega) ?_
    have qe := hI.hed a (by omega) (by omega)
    refine v_bipush (pc' := 22) F d_S_run_20 rfl (by decide) ?_
    refine v_icmp_lt (tgt := 35) (pc' := 25) F d_S_run_22 (by decide) rfl (by omega) (by omega) (fun c22 => ?_) (fun c22 => ?_)
    · refine v_aload_n (pc' := 36) (j := 0) F d_S_run_35 rfl rfl rfl ?_
      refine v_iload_n (pc' := 37) (j := 1) F d_S_run_36 rfl rfl rfl ?_
      refine v_callV (pc' := 40) (C := zR_S) (T9 := zF_S) (N := 6) F d_S_run_37 rfl cal_S_openBills wx_482 wx_484 wp_9 rfl (hC.t_top) (c_S_openBills l X _ _ _ _ _ _ a hC hI hN hA (by omega)) rfl ⟨by decide, by decide, by decide, by decide⟩ (Nat.le_of_ble_eq_true rfl) (fun _ _ _ q => by cases q.2.2.2) (fun r9 ho1 n1 q => ?_)
      obtain ⟨⟨P1, hCo⟩, hFo, hno1, q9⟩ := q
      cases q9
      have ry : 0 ≤ a ∧ a ≤ 9 := by omega
      have hS0 := hCo.note (M' := mo M a) (fun k _ _ _ _ z22 z25 _ _ => mo_x z22 z25)
      have hn : 0 < M 1 0 := by have := hN.z0; omega
      have hI0 := mo_RI hI ry
      have hN0 := mo_NI hI hN ry
      have h210 := mo_21 hI ry
      have hE0 : ∀ j : Nat, j ≠ 28 → j ≠ 29 → j ≠ 30 → mo M a j = mo M a j := fun _ _ _ _ => rfl
      have hn0 : 0 < mo M a 1 0 := by rw [mo_x (by decide) (by decide), opM_x (by decide) (by decide)]; exact hn
      have h210 : mo M a 21 a = mo M a 1 0 := h210.trans (congrFun ((mo_x (by decide) (by decide)).trans (opM_x (by decide) (by decide))).symm 0)
      rw [← hCo.top.trans hC.top.symm]
      refine v_iconst (pc' := 41) F d_S_run_40 rfl ?_
      refine v_istore_2 (pc' := 42) F d_S_run_41 rfl rfl (by decide) ?_
      refine v_iload_n (pc' := 43) (j := 2) F d_S_run_42 rfl rfl rfl ?_
      refine v_iconst (pc' := 44) F d_S_run_43 rfl ?_
      refine v_icmp_ge (tgt := 59) (pc' := 47) F d_S_run_44 (by decide) rfl (by omega) (by omega) (fun c44 => by exfalso; omega) (fun c44 => ?_)
      refine v_aload_n (pc' := 48) (j := 0) F d_S_run_47 rfl rfl rfl ?_
      refine v_iload_n (pc' := 49) (j := 2) F d_S_run_48 rfl rfl rfl ?_
      refine v_iload_n (pc' := 50) (j := 1) F d_S_run_49 rfl rfl rfl ?_
      refine v_callV (pc' := 53) (C := zR_S) (T9 := zF_S) (N := 6) F d_S_run_50 rfl cal_S_shareOut wx_512 wx_514 wp_10 rfl (hS0.t_top) (c_S_shareOut l X _ _ _ _ _ _ 0 a hS0 (hI0.w hE0) (hN0.w hE0) (by decide) ry ((congrFun (hE0 21 (by decide) (by decide) (by decide)) a).trans (h210.trans (congrFun (hE0 1 (by decide) (by decide) (by decide)) 0).symm)) (show 0 < (mo M a) 1 0 by rw [hE0 1 (by decide) (by decide) (by decide)]; exact hn0)) rfl ⟨by decide, by decide, by decide, by decide⟩ (Nat.le_of_ble_eq_true rfl) (fun _ _ _ q => by cases q.2.2.2) (fun r9 k1 n9 q => ?_)
      obtain ⟨⟨M1, hS1, e1⟩, hG1, rfl, q9⟩ := q
      cases q9
      have hI1 := hI0.kind (k0 := 0) ry (by decide) h210 hn0
      have hN1 : NI (sp_kind (mo M a) 0 a) := hN0.c (fun j hj => kind_x (by omega) (by omega))
      have h211 : (sp_kind (mo M a) 0 a) 21 a = (sp_kind (mo M a) 0 a) 1 0 := (congrFun (kind_x (by decide) (by decide)) a).trans (h210.trans (congrFun (kind_x (by decide) (by decide)) 0).symm)
      have hn1 : 0 < (sp_kind (mo M a) 0 a) 1 0 := by rw [kind_x (by decide) (by decide)]; exact hn0
      have hE1 : ∀ j : Nat, j ≠ 28 → j ≠ 29 → j ≠ 30 → M1 j = (sp_kind (mo M a) 0 a) j := fun j z1 z2 z3 => (e1 j z1 z2 z3).trans (kind_w hE0 0 a j z1 z2 z3)
      refine v_iinc_2 (pc' := 56) F d_S_run_53 rfl rfl (by decide) ?_
      refine v_goto (tgt := 42) F d_S_run_56 (by decide) ?_
      refine v_iload_n (pc' := 43) (j := 2) F d_S_run_42 rfl rfl rfl ?_
      refine v_iconst (pc' := 44) F d_S_run_43 rfl ?_
      refine v_icmp_ge (tgt := 59) (pc' := 47) F d_S_run_44 (by decide) rfl (by omega) (by omega) (fun c44 => by exfalso; omega) (fun c44 => ?_)
      refine v_aload_n (pc' := 48) (j := 0) F d_S_run_47 rfl rfl rfl ?_
      refine v_iload_n (pc' := 49) (j := 2) F d_S_run_48 rfl rfl rfl ?_
      refine v_iload_n (pc' := 50) (j := 1) F d_S_run_49 rfl rfl rfl ?_
      refine v_callV (pc' := 53) (C := zR_S) (T9 := zF_S) (N := 6) F d_S_run_50 rfl cal_S_shareOut wx_512 wx_514 wp_10 rfl (hS1.t_top) (c_S_shareOut l X _ _ _ _ _ _ 1 a hS1 (hI1.w hE1) (hN1.w hE1) (by decide) ry ((congrFun (hE1 21 (by decide) (by decide) (by decide)) a).trans (h211.trans (congrFun (hE1 1 (by decide) (by decide) (by decide)) 0).symm)) (show 0 < M1 1 0 by rw [hE1 1 (by decide) (by decide) (by decide)]; exact hn1)) rfl ⟨by decide, by decide, by decide, by decide⟩ (Nat.le_of_ble_eq_true rfl) (fun _ _ _ q => by cases q.2.2.2) (fun r9 k2 n9 q => ?_)
      obtain ⟨⟨M2, hS2, e2⟩, hG2, rfl, q9⟩ := q
      cases q9
      have hI2 := hI1.kind (k0 := 1) ry (by decide) h211 hn1
      have hN2 : NI (sp_kind (sp_kind (mo M a) 0 a) 1 a) := hN1.c (fun j hj => kind_x (by omega) (by omega))
      have h212 : (sp_kind (sp_kind (mo M a) 0 a) 1 a) 21 a = (sp_kind (sp_kind (mo M a) 0 a) 1 a) 1 0 := (congrFun (kind_x (by decide) (by decide)) a).trans (h211.trans (congrFun (kind_x (by decide) (by decide)) 0).symm)
      have hn2 : 0 < (sp_kind (sp_kind (mo M a) 0 a) 1 a) 1 0 := by rw [kind_x (by decide) (by decide)]; exact hn1
      have hE2 : ∀ j : Nat, j ≠ 28 → j ≠ 29 → j ≠ 30 → M2 j = (sp_kind (sp_kind (mo M a) 0 a) 1 a) j := fun j z1 z2 z3 => (e2 j z1 z2 z3).trans (kind_w hE1 1 a j z1 z2 z3)
      refine v_iinc_2 (pc' := 56) F d_S_run_53 rfl rfl (by decide) ?_
      refine v_goto (tgt := 42) F d_S_run_56 (by decide) ?_
      refine v_iload_n (pc' := 43) (j := 2) F d_S_run_42 rfl rfl rfl ?_
      refine v_iconst (pc' := 44) F d_S_run_43 rfl ?_
      refine v_icmp_ge (tgt := 59) (pc' := 47) F d_S_run_44 (by decide) rfl (by omega) (by omega) (fun c44 => by exfalso; omega) (fun c44 => ?_)
      refine v_aload_n (pc' := 48) (j := 0) F d_S_run_47 rfl rfl rfl ?_
      refine v_iload_n (pc' := 49) (j := 2) F d_S_run_48 rfl rfl rfl ?_
      refine v_iload_n (pc' := 50) (j := 1) F d_S_run_49 rfl rfl rfl ?_
      refine v_callV (pc' := 53) (C := zR_S) (T9 := zF_S) (N := 6) F d_S_run_50 rfl cal_S_shareOut wx_512 wx_514 wp_10 rfl (hS2.t_top) (c_S_shareOut l X _ _ _ _ _ _ 2 a hS2 (hI2.w hE2) (hN2.w hE2) (by decide) ry ((congrFun (hE2 21 (by decide) (by decide) (by decide)) a).trans (h212.trans (congrFun (hE2 1 (by decide) (by decide) (by decide)) 0).symm)) (show 0 < M2 1 0 by rw [hE2 1 (by decide) (by decide) (by decide)]; exact hn2)) rfl ⟨by decide, by decide, by decide, by decide⟩ (Nat.le_of_ble_eq_true rfl) (fun _ _ _ q => by cases q.2.2.2) (fun r9 k3 n9 q => ?_)
      obtain ⟨⟨M3, hS3, e3⟩, hG3, rfl, q9⟩ := q
      cases q9
      have hI3 := hI2.kind (k0 := 2) ry (by decide) h212 hn2
      have hN3 : NI (sp_kind (sp_kind (sp_kind (mo M a) 0 a) 1 a) 2 a) := hN2.c (fun j hj => kind_x (by omega) (by omega))
      have h213 : (sp_kind (sp_kind (sp_kind (mo M a) 0 a) 1 a) 2 a) 21 a = (sp_kind (sp_kind (sp_kind (mo M a) 0 a) 1 a) 2 a) 1 0 := (congrFun (kind_x (by decide) (by decide)) a).trans (h212.trans (congrFun (kind_x (by decide) (by decide)) 0).symm)
      have hn3 : 0 < (sp_kind (sp_kind (sp_kind (mo M a) 0 a) 1 a) 2 a) 1 0 := by rw [kind_x (by decide) (by decide)]; exact hn2
      have hE3 : ∀ j : Nat, j ≠ 28 → j ≠ 29 → j ≠ 30 → M3 j = (sp_kind (sp_kind (sp_kind (mo M a) 0 a) 1 a) 2 a) j := fun j z1 z2 z3 => (e3 j z1 z2 z3).trans (kind_w hE2 2 a j z1 z2 z3)
      refine v_iinc_2 (pc' := 56) F d_S_run_53 rfl rfl (by decide) ?_
      refine v_goto (tgt := 42) F d_S_run_56 (by decide) ?_
      refine v_iload_n (pc' := 43) (j := 2) F d_S_run_42 rfl rfl rfl ?_
      refine v_iconst (pc' := 44) F d_S_run_43 rfl ?_
      refine v_icmp_ge (tgt := 59) (pc' := 47) F d_S_run_44 (by decide) rfl (by omega) (by omega) (fun c44 => by exfalso; omega) (fun c44 => ?_)
      refine v_aload_n (pc' := 48) (j := 0) F d_S_run_47 rfl rfl rfl ?_
      refine v_iload_n (pc' := 49) (j := 2) F d_S_run_48 rfl rfl rfl ?_
      refine v_iload_n (pc' := 50) (j := 1) F d_S_run_49 rfl rfl rfl ?_
      refine v_callV (pc' := 53) (C := zR_S) (T9 := zF_S) (N := 6) F d_S_run_50 rfl cal_S_shareOut wx_512 wx_514 wp_10 rfl (hS3.t_top) (c_S_shareOut l X _ _ _ _ _ _ 3 a hS3 (hI3.w hE3) (hN3.w hE3) (by decide) ry ((congrFun (hE3 21 (by decide) (by decide) (by decide)) a).trans (h213.trans (congrFun (hE3 1 (by decide) (by decide) (by decide)) 0).symm)) (show 0 < M3 1 0 by rw [hE3 1 (by decide) (by decide) (by decide)]; exact hn3)) rfl ⟨by decide, by decide, by decide, by decide⟩ (Nat.le_of_ble_eq_true rfl) (fun _ _ _ q => by cases q.2.2.2) (fun r9 k4 n9 q => ?_)
      obtain ⟨⟨M4, hS4, e4⟩, hG4, rfl, q9⟩ := q
      cases q9
      have hI4 := hI3.kind (k0 := 3) ry (by decide) h213 hn3
      have hN4 : NI (sp_kind (sp_kind (sp_kind (sp_kind (mo M a) 0 a) 1 a) 2 a) 3 a) := hN3.c (fun j hj => kind_x (by omega) (by omega))
      have h214 : (sp_kind (sp_kind (sp_kind (sp_kind (mo M a) 0 a) 1 a) 2 a) 3 a) 21 a = (sp_kind (sp_kind (sp_kind (sp_kind (mo M a) 0 a) 1 a) 2 a) 3 a) 1 0 := (congrFun (kind_x (by decide) (by decide)) a).trans (h213.trans (congrFun (kind_x (by decide) (by decide)) 0).symm)
      have hn4 : 0 < (sp_kind (sp_kind (sp_kind (sp_kind (mo M a) 0 a) 1 a) 2 a) 3 a) 1 0 := by rw [kind_x (by decide) (by decide)]; exact hn3
      have hE4 : ∀ j : Nat, j ≠ 28 → j ≠ 29 → j ≠ 30 → M4 j = (sp_kind (sp_kind (sp_kind (sp_kind (mo M a) 0 a) 1 a) 2 a) 3 a) j := fun j z1 z2 z3 => (e4 j z1 z2 z3).trans (kind_w hE3 3 a j z1 z2 z3)
      refine v_iinc_2 (pc' := 56) F d_S_run_53 rfl rfl (by decide) ?_
      refine v_goto (tgt := 42) F d_S_run_56 (by decide) ?_
      refine v_iload_n (pc' := 43) (j := 2) F d_S_run_42 rfl rfl rfl ?_
      refine v_iconst (pc' := 44) F d_S_run_43 rfl ?_
      refine v_icmp_ge (tgt := 59) (pc' := 47) F d_S_run_44 (by decide) rfl (by omega) (by omega) (fun c44 => ?_) (fun c44 => by exfalso; omega)
      refine v_aload_n (pc' := 60) (j := 0) F d_S_run_59 rfl rfl rfl ?_
      refine v_getf (pc' := 63) (C := zR_S) (T := zF_S) (N := 6) (ref := "BillShares") F d_S_run_60 rfl zi_S rfl 5 (by decide) wx_62 (Or.inl rfl) (hS4.t_top) rfl ?_
      refine v_iload_n (pc' := 64) (j := 1) F d_S_run_63 rfl rfl rfl ?_
      refine v_dup2 (pc' := 65) F d_S_run_64 rfl rfl rfl ?_
      refine cg_eds (pc' := 66) F hS4 d_S_run_65 rfl (by omega) (by omega) ?_
      refine v_topi (b := M 20 a) (show M4 20 a = M 20 a by rw [hE4 20 (by decide) (by decide) (by decide), kind_x (by decide) (by decide), kind_x (by decide) (by decide), kind_x (by decide) (by decide), kind_x (by decide) (by decide), mo_x (by decide) (by decide), opM_x (by decide) (by decide)]) ?_
      refine v_iconst (pc' := 67) F d_S_run_66 rfl ?_
      refine v_iadd (pc' := 68) F d_S_run_67 rfl ?_
      refine cp_eds (pc' := 69) F hS4 d_S_run_68 rfl (by omega) (by omega) (fun h1 hC1 hF1 => ?_)
      refine v_aload_n (pc' := 70) (j := 0) F d_S_run_69 rfl rfl rfl ?_
      refine v_getf (pc' := 73) (C := zR_S) (T := zF_S) (N := 6) (ref := "BillShares") F d_S_run_70 rfl zi_S rfl 5 (by decide) wx_62 (Or.inl rfl) (hC1.t_top) rfl ?_
      refine v_iload_n (pc' := 74) (j := 1) F d_S_run_73 rfl rfl rfl ?_
      refine cg_eds (pc' := 75) F hC1 d_S_run_74 rfl (by omega) (by omega) ?_
      refine v_us ?_
      exact v_ireturn F rfl d_S_run_75 rfl rfl (by decide) (by decide) (by rw [show sp_run M a = (0, M 20 a + 1, sp_run4 (sp_run0 M a) a) from (if_pos (by omega)).trans (if_pos (by omega))]; exact Or.inl ⟨rfl, rfl, ((((((((((((OF.rf).tr hFo)).tr hG1)).tr hG2)).tr hG3)).tr hG4)).tr hF1), by omega, P1, _, hC1, (hN4.w hE4).c (fun j hj => upM_n (by omega)), run_fin hI ry hE4⟩)
    · refine v_newE (pc' := 34) (C := zR_IS) (T9 := zF_IS) (ci := 7) F ht am_exIS rfl wx_160 wx_161 wx_11 zi_IS wx_481 d_S_run_25 d_S_run_28 d_S_run_29 d_S_run_31 rfl (by decide) (by decide) (by decide) (Nat.le_of_ble_eq_true rfl) (fun fs9 => ?_)
      refine v_athrow F d_S_run_34 ?_
      exact v_out F (by decide) (by decide) (by rw [show sp_run M a = (2, 0, M) from (if_pos (by omega)).trans (if_neg (by have := hN.z0; omega))]; exact wpost.thr (k := 2) (by decide))
