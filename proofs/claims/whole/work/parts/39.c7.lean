/-! constructors of flats, meters and bills (written by wip/whole/cc7.py) -/
set_option maxRecDepth 100000 in
set_option maxHeartbeats 4000000 in
theorem c_B_init (l : Launch) (X : am_X) (h : am_H) (nx : Nat) (a : Nat) (hl : h a = some (.inr (3, [.null, .null, lV 0]))) (hn : a < nx) : Cn l X y_B_init ({ frames := 1, cells := 2, slots := 8, locals := 20 }) [.ref a] h nx (fun o h' nx' => o = .returned none ∧ nx' = nx + 2 ∧ (∀ q : Nat, q ≠ a → q < nx → h' q = h q) ∧ h' a = some (.inr (3, [.ref nx, .ref (nx + 1), lV 0])) ∧ h' nx = some (am_la 4 (fun _ => 0)) ∧ h' (nx + 1) = some (am_la 4 (fun _ => 0))) := by
  refine cn_of (k := 0) (L0 := [some (.ref a)]) rfl wx_493 (Nat.le_of_ble_eq_true rfl) rfl (fun p e s m args below meth c F => ?_)
  refine v_aload_n (pc' := 1) (j := 0) F d_B_init_0 rfl rfl rfl ?_
  refine v_obj (pc' := 4) F d_B_init_1 rfl wx_494 wx_26 wx_27 (by decide) (Nat.le_of_ble_eq_true rfl) ?_
  refine v_aload_n (pc' := 5) (j := 0) F d_B_init_4 rfl rfl rfl ?_
  refine v_iconst (pc' := 6) F d_B_init_5 rfl ?_
  refine v_newa (pc' := 8) (ai := 1) (ty := .long) F d_B_init_6 rfl rfl wx_223 (by decide) rfl (by omega) (by omega) (by decide) (by decide) ?_
  refine v_putf (pc' := 11) (C := zR_B) (T := zF_B) (N := 3) (ref := "BillShares$Bill") F d_B_init_8 rfl zi_B zt_B zk_B zn_B rfl 0 (by decide) wx_495 (Or.inl rfl) (Or.inr ⟨rfl, rfl, rfl⟩) (zk_B 0 (by decide)) rfl rfl (by repeat (first | exact am_up_s | exact hl | rw [am_up_n (by omega)])) (by show 0 < 3; decide) ?_
  refine v_aload_n (pc' := 12) (j := 0) F d_B_init_11 rfl rfl rfl ?_
  refine v_iconst (pc' := 13) F d_B_init_12 rfl ?_
  refine v_newa (pc' := 15) (ai := 1) (ty := .long) F d_B_init_13 rfl rfl wx_223 (by decide) rfl (by omega) (by omega) (by decide) (by decide) ?_
  refine v_putf (pc' := 18) (C := zR_B) (T := zF_B) (N := 3) (ref := "BillShares$Bill") F d_B_init_15 rfl zi_B zt_B zk_B zn_B rfl 1 (by decide) wx_497 (Or.inl rfl) (Or.inr ⟨rfl, rfl, rfl⟩) (zk_B 1 (by decide)) rfl rfl (by repeat (first | exact am_up_s | exact hl | rw [am_up_n (by omega)])) (by show 1 < 3; decide) ?_
  refine v_aload_n (pc' := 19) (j := 0) F d_B_init_18 rfl rfl rfl ?_
  refine v_lconst (pc' := 20) (z := 0) F d_B_init_19 rfl (by decide) ?_
  refine v_putf (pc' := 23) (C := zR_B) (T := zF_B) (N := 3) (ref := "BillShares$Bill") F d_B_init_20 rfl zi_B zt_B zk_B zn_B rfl 2 (by decide) wx_499 (Or.inl rfl) (Or.inl rfl) (zk_B 2 (by decide)) rfl rfl (by repeat (first | exact am_up_s | exact hl | rw [am_up_n (by omega)])) (by show 2 < 3; decide) ?_
  exact v_return F d_B_init_23 rfl (Nat.le_refl _) (Nat.le_refl _) ⟨rfl, rfl, (fun q h1 h2 => by repeat rw [am_up_n (by omega)]), (by repeat (first | exact am_up_s | rw [am_up_n (by omega)])), (by repeat (first | exact am_up_s | rw [am_up_n (by omega)])), (by repeat (first | exact am_up_s | rw [am_up_n (by omega)]))⟩
set_option maxRecDepth 100000 in
set_option maxHeartbeats 4000000 in
theorem c_T_init (l : Launch) (X : am_X) (h : am_H) (nx : Nat) (a : Nat) (k0 b0 c0 d0 : Int) (hl : h a = some (.inr (2, [iV 0, iV 0, iV 0, iV 0, iV 0, .null, .null, .null]))) (hn : a < nx) : Cn l X y_T_init ({ frames := 1, cells := 3, slots := 120, locals := 20 }) [.ref a, iV k0, iV b0, iV c0, iV d0] h nx (fun o h' nx' => o = .returned none ∧ nx' = nx + 3 ∧ (∀ q : Nat, q ≠ a → q < nx → h' q = h q) ∧ h' a = some (.inr (2, [iV k0, iV b0, iV c0, iV d0, iV 0, .ref nx, .ref (nx + 1), .ref (nx + 2)])) ∧ h' (nx + 0) = some (am_ia 40 (fun _ => 0)) ∧ h' (nx + 1) = some (am_ia 40 (fun _ => 0)) ∧ h' (nx + 2) = some (am_ia 40 (fun _ => 0))) := by
  refine cn_of (k := 0) (L0 := [some (.ref a), some (iV k0), some (iV b0), some (iV c0), some (iV d0)]) rfl wx_329 (Nat.le_of_ble_eq_true rfl) rfl (fun p e s m args below meth c F => ?_)
  refine v_aload_n (pc' := 1) (j := 0) F d_T_init_0 rfl rfl rfl ?_
  refine v_obj (pc' := 4) F d_T_init_1 rfl wx_330 wx_26 wx_27 (by decide) (Nat.le_of_ble_eq_true rfl) ?_
  refine v_aload_n (pc' := 5) (j := 0) F d_T_init_4 rfl rfl rfl ?_
  refine v_iconst (pc' := 6) F d_T_init_5 rfl ?_
  refine v_putf (pc' := 9) (C := zR_T) (T := zF_T) (N := 8) (ref := "BillShares$Meter") F d_T_init_6 rfl zi_T zt_T zk_T zn_T rfl 4 (by decide) wx_337 (Or.inl rfl) (Or.inl rfl) (zk_T 4 (by decide)) rfl rfl (by repeat (first | exact am_up_s | exact hl | rw [am_up_n (by omega)])) (by show 4 < 8; decide) ?_
  refine v_aload_n (pc' := 10) (j := 0) F d_T_init_9 rfl rfl rfl ?_
  refine v_bipush (pc' := 12) F d_T_init_10 rfl (by decide) ?_
  refine v_newa (pc' := 14) (ai := 0) (ty := .int) F d_T_init_12 rfl rfl wx_76 (by decide) rfl (by omega) (by omega) (by decide) (by decide) ?_
  refine v_putf (pc' := 17) (C := zR_T) (T := zF_T) (N := 8) (ref := "BillShares$Meter") F d_T_init_14 rfl zi_T zt_T zk_T zn_T rfl 5 (by decide) wx_339 (Or.inl rfl) (Or.inr ⟨rfl, rfl, rfl⟩) (zk_T 5 (by decide)) rfl rfl (by repeat (first | exact am_up_s | exact hl | rw [am_up_n (by omega)])) (by show 5 < 8; decide) ?_
  refine v_aload_n (pc' := 18) (j := 0) F d_T_init_17 rfl rfl rfl ?_
  refine v_bipush (pc' := 20) F d_T_init_18 rfl (by decide) ?_
  refine v_newa (pc' := 22) (ai := 0) (ty := .int) F d_T_init_20 rfl rfl wx_76 (by decide) rfl (by omega) (by omega) (by decide) (by decide) ?_
  refine v_putf (pc' := 25) (C := zR_T) (T := zF_T) (N := 8) (ref := "BillShares$Meter") F d_T_init_22 rfl zi_T zt_T zk_T zn_T rfl 6 (by decide) wx_340 (Or.inl rfl) (Or.inr ⟨rfl, rfl, rfl⟩) (zk_T 6 (by decide)) rfl rfl (by repeat (first | exact am_up_s | exact hl | rw [am_up_n (by omega)])) (by show 6 < 8; decide) ?_
  refine v_aload_n (pc' := 26) (j := 0) F d_T_init_25 rfl rfl rfl ?_
  refine v_bipush (pc' := 28) F d_T_init_26 rfl (by decide) ?_
  refine v_newa (pc' := 30) (ai := 0) (ty := .int) F d_T_init_28 rfl rfl wx_76 (by decide) rfl (by omega) (by omega) (by decide) (by decide) ?_
  refine v_putf (pc' := 33) (C := zR_T) (T := zF_T) (N := 8) (ref := "BillShares$Meter") F d_T_init_30 rfl zi_T zt_T zk_T zn_T rfl 7 (by decide) wx_341 (Or.inl rfl) (Or.inr ⟨rfl, rfl, rfl⟩) (zk_T 7 (by decide)) rfl rfl (by repeat (first | exact am_up_s | exact hl | rw [am_up_n (by omega)])) (by show 7 < 8; decide) ?_
  refine v_aload_n (pc' := 34) (j := 0) F d_T_init_33 rfl rfl rfl ?_
  refine v_iload_n (pc' := 35) (j := 1) F d_T_init_34 rfl rfl rfl ?_
  refine v_putf (pc' := 38) (C := zR_T) (T := zF_T) (N := 8) (ref := "BillShares$Meter") F d_T_init_35 rfl zi_T zt_T zk_T zn_T rfl 0 (by decide) wx_331 (Or.inl rfl) (Or.inr ⟨rfl, rfl, rfl⟩) (zk_T 0 (by decide)) rfl rfl (by repeat (first | exact am_up_s | exact hl | rw [am_up_n (by omega)])) (by show 0 < 8; decide) ?_
  refine v_aload_n (pc' := 39) (j := 0) F d_T_init_38 rfl rfl rfl ?_
  refine v_iload_n (pc' := 40) (j := 2) F d_T_init_39 rfl rfl rfl ?_
  refine v_putf (pc' := 43) (C := zR_T) (T := zF_T) (N := 8) (ref := "BillShares$Meter") F d_T_init_40 rfl zi_T zt_T zk_T zn_T rfl 1 (by decide) wx_333 (Or.inl rfl) (Or.inr ⟨rfl, rfl, rfl⟩) (zk_T 1 (by decide)) rfl rfl (by repeat (first | exact am_up_s | exact hl | rw [am_up_n (by omega)])) (by show 1 < 8; decide) ?_
  refine v_aload_n (pc' := 44) (j := 0) F d_T_init_43 rfl rfl rfl ?_
  refine v_iload_n (pc' := 45) (j := 3) F d_T_init_44 rfl rfl rfl ?_
  refine v_putf (pc' := 48) (C := zR_T) (T := zF_T) (N := 8) (ref := "BillShares$Meter") F d_T_init_45 rfl zi_T zt_T zk_T zn_T rfl 2 (by decide) wx_334 (Or.inl rfl) (Or.inr ⟨rfl, rfl, rfl⟩) (zk_T 2 (by decide)) rfl rfl (by repeat (first | exact am_up_s | exact hl | rw [am_up_n (by omega)])) (by show 2 < 8; decide) ?_
  refine v_aload_n (pc' := 49) (j := 0) F d_T_init_48 rfl rfl rfl ?_
  refine v_iload (pc' := 51) F d_T_init_49 rfl rfl ?_
  refine v_putf (pc' := 54) (C := zR_T) (T := zF_T) (N := 8) (ref := "BillShares$Meter") F d_T_init_51 rfl zi_T zt_T zk_T zn_T rfl 3 (by decide) wx_335 (Or.inl rfl) (Or.inl rfl) (zk_T 3 (by decide)) rfl rfl (by repeat (first | exact am_up_s | exact hl | rw [am_up_n (by omega)])) (by show 3 < 8; decide) ?_
  exact v_return F d_T_init_54 rfl (Nat.le_refl _) (Nat.le_refl _) ⟨rfl, rfl, (fun q h1 h2 => by repeat rw [am_up_n (by omega)]), (by repeat (first | exact am_up_s | rw [am_up_n (by omega)])), (by repeat (first | exact am_up_s | rw [am_up_n (by omega)])), (by repeat (first | exact am_up_s | rw [am_up_n (by omega)])), (by repeat (first | exact am_up_s | rw [am_up_n (by omega)]))⟩
set_option maxRecDepth 100000 in
set_option maxHeartbeats 4000000 in
theorem c_F_init (l : Launch) (X : am_X) (h : am_H) (nx : Nat) (a : Nat) (k0 b0 : Int) (hl : h a = some (.inr (1, [iV 0, iV 0, .null, .null, iV 0, .null, .null, iV 0, lV 0, lV 0]))) (hn : a < nx) : Cn l X y_F_init ({ frames := 4, cells := 4, slots := 35, locals := 80 }) [.ref a, iV k0, iV b0] h nx (fun o h' nx' => o = .returned none ∧ nx' = nx + 4 ∧ (∀ q : Nat, q ≠ a → q < nx → h' q = h q) ∧ h' a = some (.inr (1, [iV k0, iV b0, .ref nx, .ref (nx + 1), iV 1, .ref (nx + 2), .ref (nx + 3), iV 0, lV 0, lV 0])) ∧ h' nx = some (.inr (5, [.ref X.2.2.2, iV 0, iV 0])) ∧ h' (nx + 1) = some (am_ia 12 (fun _ => 0)) ∧ h' (nx + 2) = some (am_la 10 (fun _ => 0)) ∧ h' (nx + 3) = some (.inl (3, 10, fun _ => .null))) := by
  refine cn_of (k := 0) (L0 := [some (.ref a), some (iV k0), some (iV b0)]) rfl wx_180 (Nat.le_of_ble_eq_true rfl) rfl (fun p e s m args below meth c F => ?_)
  refine v_aload_n (pc' := 1) (j := 0) F d_F_init_0 rfl rfl rfl ?_
  refine v_obj (pc' := 4) F d_F_init_1 rfl wx_181 wx_26 wx_27 (by decide) (Nat.le_of_ble_eq_true rfl) ?_
  refine v_aload_n (pc' := 5) (j := 0) F d_F_init_4 rfl rfl rfl ?_
  refine v_new (pc' := 8) (ci := 5) (C := zR_A) (T := zF_A) (N := 3) (fs := [.null, iV 0, iV 0]) F d_F_init_5 rfl zi_A zt_A zk_A rfl wx_182 wx_29 wx_4 (by decide +kernel) (by decide) (by decide) ?_
  refine v_dup (pc' := 9) F d_F_init_8 rfl rfl ?_
  refine v_callI (pc' := 12) (av := []) F d_F_init_9 rfl wx_32 cal_A_init rfl wx_183 wx_31 (c_A_init l X _ _ _ am_up_s) rfl ⟨by decide, by decide, by decide, by decide⟩ (Nat.le_of_ble_eq_true rfl) (fun _ _ _ q => by cases q.1) (fun r9 h' nx' q => ?_)
  obtain ⟨q1, rfl, rfl⟩ := q
  cases q1
  refine v_putf (pc' := 15) (C := zR_F) (T := zF_F) (N := 10) (ref := "BillShares$Flat") F d_F_init_12 rfl zi_F zt_F zk_F zn_F rfl 2 (by decide) wx_190 (Or.inl rfl) (Or.inr ⟨rfl, rfl, rfl⟩) (zk_F 2 (by decide)) rfl rfl (by repeat (first | exact am_up_s | exact hl | rw [am_up_n (by omega)])) (by show 2 < 10; decide) ?_
  refine v_aload_n (pc' := 16) (j := 0) F d_F_init_15 rfl rfl rfl ?_
  refine v_bipush (pc' := 18) F d_F_init_16 rfl (by decide) ?_
  refine v_newa (pc' := 20) (ai := 0) (ty := .int) F d_F_init_18 rfl rfl wx_76 (by decide) rfl (by omega) (by omega) (by decide) (by decide) ?_
  refine v_putf (pc' := 23) (C := zR_F) (T := zF_F) (N := 10) (ref := "BillShares$Flat") F d_F_init_20 rfl zi_F zt_F zk_F zn_F rfl 3 (by decide) wx_192 (Or.inl rfl) (Or.inr ⟨rfl, rfl, rfl⟩) (zk_F 3 (by decide)) rfl rfl (by repeat (first | exact am_up_s | exact hl | rw [am_up_n (by omega)])) (by show 3 < 10; decide) ?_
  refine v_aload_n (pc' := 24) (j := 0) F d_F_init_23 rfl rfl rfl ?_
  refine v_iconst (pc' := 25) F d_F_init_24 rfl ?_
  refine v_putf (pc' := 28) (C := zR_F) (T := zF_F) (N := 10) (ref := "BillShares$Flat") F d_F_init_25 rfl zi_F zt_F zk_F zn_F rfl 4 (by decide) wx_193 (Or.inl rfl) (Or.inl rfl) (zk_F 4 (by decide)) rfl rfl (by repeat (first | exact am_up_s | exact hl | rw [am_up_n (by omega)])) (by show 4 < 10; decide) ?_
  refine v_aload_n (pc' := 29) (j := 0) F d_F_init_28 rfl rfl rfl ?_
  refine v_bipush (pc' := 31) F d_F_init_29 rfl (by decide) ?_
  refine v_newa (pc' := 33) (ai := 1) (ty := .long) F d_F_init_31 rfl rfl wx_223 (by decide) rfl (by omega) (by omega) (by decide) (by decide) ?_
  refine v_putf (pc' := 36) (C := zR_F) (T := zF_F) (N := 10) (ref := "BillShares$Flat") F d_F_init_33 rfl zi_F zt_F zk_F zn_F rfl 5 (by decide) wx_195 (Or.inl rfl) (Or.inr ⟨rfl, rfl, rfl⟩) (zk_F 5 (by decide)) rfl rfl (by repeat (first | exact am_up_s | exact hl | rw [am_up_n (by omega)])) (by show 5 < 10; decide) ?_
  refine v_aload_n (pc' := 37) (j := 0) F d_F_init_36 rfl rfl rfl ?_
  refine v_bipush (pc' := 39) F d_F_init_37 rfl (by decide) ?_
  refine v_anew (pc' := 42) (ai := 3) (E := "BillShares$Bill") F d_F_init_39 rfl (by decide) wx_184 wx_185 (by omega) (by omega) (by decide) (by decide) ?_
  refine v_putf (pc' := 45) (C := zR_F) (T := zF_F) (N := 10) (ref := "BillShares$Flat") F d_F_init_42 rfl zi_F zt_F zk_F zn_F rfl 6 (by decide) wx_197 (Or.inl rfl) (Or.inr ⟨rfl, rfl, rfl⟩) (zk_F 6 (by decide)) rfl rfl (by repeat (first | exact am_up_s | exact hl | rw [am_up_n (by omega)])) (by show 6 < 10; decide) ?_
  refine v_aload_n (pc' := 46) (j := 0) F d_F_init_45 rfl rfl rfl ?_
  refine v_iload_n (pc' := 47) (j := 1) F d_F_init_46 rfl rfl rfl ?_
  refine v_putf (pc' := 50) (C := zR_F) (T := zF_F) (N := 10) (ref := "BillShares$Flat") F d_F_init_47 rfl zi_F zt_F zk_F zn_F rfl 0 (by decide) wx_186 (Or.inl rfl) (Or.inr ⟨rfl, rfl, rfl⟩) (zk_F 0 (by decide)) rfl rfl (by repeat (first | exact am_up_s | exact hl | rw [am_up_n (by omega)])) (by show 0 < 10; decide) ?_
  refine v_aload_n (pc' := 51) (j := 0) F d_F_init_50 rfl rfl rfl ?_
  refine v_iload_n (pc' := 52) (j := 2) F d_F_init_51 rfl rfl rfl ?_
  refine v_putf (pc' := 55) (C := zR_F) (T := zF_F) (N := 10) (ref := "BillShares$Flat") F d_F_init_52 rfl zi_F zt_F zk_F zn_F rfl 1 (by decide) wx_188 (Or.inl rfl) (Or.inr ⟨rfl, rfl, rfl⟩) (zk_F 1 (by decide)) rfl rfl (by repeat (first | exact am_up_s | exact hl | rw [am_up_n (by omega)])) (by show 1 < 10; decide) ?_
  exact v_return F d_F_init_55 rfl (Nat.le_refl _) (Nat.le_refl _) ⟨rfl, rfl, (fun q h1 h2 => by repeat rw [am_up_n (by omega)]), (by repeat (first | exact am_up_s | rw [am_up_n (by omega)])), (by repeat (first | exact am_up_s | rw [am_up_n (by omega)])), (by repeat (first | exact am_up_s | rw [am_up_n (by omega)])), (by repeat (first | exact am_up_s | rw [am_up_n (by omega)])), (by repeat (first | exact am_up_s | rw [am_up_n (by omega)]))⟩
