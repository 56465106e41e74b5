/-! the reference's writers without loops, and what they owe (written by wip/whole/mm2.py) -/
def sp_tested (M : MS) (m d : Int) : Int × Int × MS := if 0 ≤ m ∧ m < M 7 0 ∧ 0 ≤ d ∧ d ≤ 3649 then (0, M 12 m, upM M 12 m d) else (1, 0, M)
set_option maxRecDepth 100000 in
set_option maxHeartbeats 4000000 in
theorem c_M_tested (l : Launch) (X : am_X) (h : am_H) (nx : Nat) (y : Nat) (M : MS) (f d : Int) (hM : RepM y M h) (hme : 0 ≤ M 7 0 ∧ M 7 0 ≤ 60) (rf : -2147483648 ≤ f ∧ f < 2147483648) (rd : -2147483648 ≤ d ∧ d < 2147483648) : Cn l X y_M_tested ({ frames := 1, cells := 0, slots := 0, locals := 22 }) [.ref y, iV f, iV d] h nx (mpost y h nx iV (sp_tested M f d)) := by
  refine cn_of (k := 1) (L0 := [some (.ref y), some (iV f), some (iV d), none]) rfl wx_797 (Nat.le_of_ble_eq_true rfl) rfl (fun p e s m args below meth c F => ?_)
  refine v_aload_n (pc' := 1) (j := 0) F d_M_tested_0 rfl rfl rfl ?_
  refine v_aload_n (pc' := 2) (j := 0) F d_M_tested_1 rfl rfl rfl ?_
  refine v_iload_n (pc' := 3) (j := 1) F d_M_tested_2 rfl rfl rfl ?_
  refine v_callVP (pc' := 6) (C := zR_M) (T9 := zF_M) (N := 28) F d_M_tested_3 rfl cal_M_isMeter wx_778 wx_780 wp_19 rfl hM.1 (c_M_isMeter l X _ _ _ _ _ hM hme (by omega)) rfl ⟨by decide, by decide, by decide, by decide⟩ (Nat.le_of_ble_eq_true rfl) rfl rfl ?_
  refine v_zif_eq (tgt := 24) (pc' := 9) F d_M_tested_6 (by decide) rfl (fun c6 => ?_) (fun c6 => ?_)
  · refine v_iconst (pc' := 25) F d_M_tested_24 rfl ?_
    refine v_iconst (pc' := 26) F d_M_tested_25 rfl ?_
    refine v_callVM (pc' := 29) (C := zR_M) (T9 := zF_M) (N := 28) F d_M_tested_26 rfl cal_M_allows wx_758 wx_760 wp_16 rfl hM.1 (c_allows_1 l X _ _ _ _ _ hM (by omega)) rfl ⟨by decide, by decide, by decide, by decide⟩ (Nat.le_of_ble_eq_true rfl) rfl rfl (fun h1 hM1 hF1 => ?_)
    refine v_if_ne (tgt := 34) (pc' := 32) F d_M_tested_29 (by decide) rfl (by omega) (fun c29 => by exfalso; omega) (fun c29 => ?_)
    refine v_iconst (pc' := 33) F d_M_tested_32 rfl ?_
    refine v_ireturn F rfl d_M_tested_33 rfl rfl (Nat.le_refl _) (Nat.le_refl _) ?_
    first | (rw [show sp_tested M f d = (1, 0, M) from if_neg (by omega)]; exact ⟨_, hM1, ((MF.rf).tr hF1), rfl, upM_ss, eqv.note (Or.inl rfl), 0, rfl, fun q => absurd (show (1 : Int) = 0 from q) (by decide)⟩) | (rw [show sp_tested M f d = _ from if_pos (by omega)]; exact ⟨_, hM1, ((MF.rf).tr hF1), rfl, (by rw [upM_n (by decide)]; exact upM_ss), (eqv.note (Or.inl rfl)).up 12 _ _, _, rfl, fun _ => rfl⟩)
  · refine v_iload_n (pc' := 10) (j := 2) F d_M_tested_9 rfl rfl rfl ?_
    refine v_iconst (pc' := 11) F d_M_tested_10 rfl ?_
    refine v_sipush (pc' := 14) F d_M_tested_11 rfl (by decide) ?_
    refine v_callSP (pc' := 17) F d_M_tested_14 rfl cal_M_isIn wx_755 wx_756 (c_M_isIn l X _ _ _ _ _ (by omega) (by omega) (by omega)) rfl ⟨by decide, by decide, by decide, by decide⟩ (Nat.le_of_ble_eq_true rfl) rfl rfl ?_
    refine v_zif_eq (tgt := 24) (pc' := 20) F d_M_tested_17 (by decide) rfl (fun c17 => ?_) (fun c17 => ?_)
    · refine v_iconst (pc' := 25) F d_M_tested_24 rfl ?_
      refine v_iconst (pc' := 26) F d_M_tested_25 rfl ?_
      refine v_callVM (pc' := 29) (C := zR_M) (T9 := zF_M) (N := 28) F d_M_tested_26 rfl cal_M_allows wx_758 wx_760 wp_16 rfl hM.1 (c_allows_1 l X _ _ _ _ _ hM (by omega)) rfl ⟨by decide, by decide, by decide, by decide⟩ (Nat.le_of_ble_eq_true rfl) rfl rfl (fun h2 hM2 hF2 => ?_)
      refine v_if_ne (tgt := 34) (pc' := 32) F d_M_tested_29 (by decide) rfl (by omega) (fun c29 => by exfalso; omega) (fun c29 => ?_)
      refine v_iconst (pc' := 33) F d_M_tested_32 rfl ?_
      refine v_ireturn F rfl d_M_tested_33 rfl rfl (Nat.le_refl _) (Nat.le_refl _) ?_
      first | (rw [show sp_tested M f d = (1, 0, M) from if_neg (by omega)]; exact ⟨_, hM2, ((MF.rf).tr hF2), rfl, upM_ss, eqv.note (Or.inl rfl), 0, rfl, fun q => absurd (show (1 : Int) = 0 from q) (by decide)⟩) | (rw [show sp_tested M f d = _ from if_pos (by omega)]; exact ⟨_, hM2, ((MF.rf).tr hF2), rfl, (by rw [upM_n (by decide)]; exact upM_ss), (eqv.note (Or.inl rfl)).up 12 _ _, _, rfl, fun _ => rfl⟩)
    · refine v_iconst (pc' := 21) F d_M_tested_20 rfl ?_
      refine v_goto (tgt := 25) F d_M_tested_21 (by decide) ?_
      refine v_iconst (pc' := 26) F d_M_tested_25 rfl ?_
      refine v_callVM (pc' := 29) (C := zR_M) (T9 := zF_M) (N := 28) F d_M_tested_26 rfl cal_M_allows wx_758 wx_760 wp_16 rfl hM.1 (c_allows_0 l X _ _ _ _ hM) rfl ⟨by decide, by decide, by decide, by decide⟩ (Nat.le_of_ble_eq_true rfl) rfl rfl (fun h3 hM3 hF3 => ?_)
      refine v_if_ne (tgt := 34) (pc' := 32) F d_M_tested_29 (by decide) rfl (by omega) (fun c29 => ?_) (fun c29 => by exfalso; omega)
      refine v_aload_n (pc' := 35) (j := 0) F d_M_tested_34 rfl rfl rfl ?_
      refine v_getf (pc' := 38) (C := zR_M) (T := zF_M) (N := 28) (ref := "BillSharesModel") F d_M_tested_35 rfl zi_M rfl 12 (by decide) wx_673 (Or.inl rfl) hM3.1 rfl ?_
      refine v_iload_n (pc' := 39) (j := 1) F d_M_tested_38 rfl rfl rfl ?_
      refine mg_12 (pc' := 40) F hM3 d_M_tested_39 rfl (by omega) (by omega) ?_
      refine v_un (by decide) ?_
      refine v_istore_3 (pc' := 41) F d_M_tested_40 rfl rfl (by decide) ?_
      refine v_aload_n (pc' := 42) (j := 0) F d_M_tested_41 rfl rfl rfl ?_
      refine v_getf (pc' := 45) (C := zR_M) (T := zF_M) (N := 28) (ref := "BillSharesModel") F d_M_tested_42 rfl zi_M rfl 12 (by decide) wx_673 (Or.inl rfl) hM3.1 rfl ?_
      refine v_iload_n (pc' := 46) (j := 1) F d_M_tested_45 rfl rfl rfl ?_
      refine v_iload_n (pc' := 47) (j := 2) F d_M_tested_46 rfl rfl rfl ?_
      refine mp_12 (pc' := 48) F hM3 d_M_tested_47 rfl (by omega) (by omega) (fun h4 hM4 hF4 => ?_)
      refine v_iload_n (pc' := 49) (j := 3) F d_M_tested_48 rfl rfl rfl ?_
      refine v_ireturn F rfl d_M_tested_49 rfl rfl (Nat.le_refl _) (Nat.le_refl _) ?_
      first | (rw [show sp_tested M f d = (1, 0, M) from if_neg (by omega)]; exact ⟨_, hM4, ((((MF.rf).tr hF3)).tr hF4), rfl, upM_ss, eqv.note (Or.inl rfl), 0, rfl, fun q => absurd (show (1 : Int) = 0 from q) (by decide)⟩) | (rw [show sp_tested M f d = _ from if_pos (by omega)]; exact ⟨_, hM4, ((((MF.rf).tr hF3)).tr hF4), rfl, (by rw [upM_n (by decide)]; exact upM_ss), (eqv.note (Or.inl rfl)).up 12 _ _, _, rfl, fun _ => rfl⟩)
def sp_cost (M : MS) (k y v : Int) : Int × Int × MS := if 0 ≤ k ∧ k ≤ 3 ∧ 0 ≤ y ∧ y ≤ 9 ∧ 0 ≤ v ∧ v ≤ 1000000000 then (0, M 18 (4 * y + k), upM M 18 (4 * y + k) v) else (1, 0, M)
set_option maxRecDepth 100000 in
set_option maxHeartbeats 4000000 in
theorem c_M_cost (l : Launch) (X : am_X) (h : am_H) (nx : Nat) (y : Nat) (M : MS) (k a v : Int) (hM : RepM y M h) (rk : -2147483648 ≤ k ∧ k < 2147483648) (ra : -2147483648 ≤ a ∧ a < 2147483648) (rv : -2147483648 ≤ v ∧ v < 2147483648) : Cn l X y_M_cost ({ frames := 1, cells := 0, slots := 0, locals := 22 }) [.ref y, iV k, iV a, iV v] h nx (mpost y h nx iV (sp_cost M k a v)) := by
  refine cn_of (k := 1) (L0 := [some (.ref y), some (iV k), some (iV a), some (iV v), none]) rfl wx_801 (Nat.le_of_ble_eq_true rfl) rfl (fun p e s m args below meth c F => ?_)
  refine v_aload_n (pc' := 1) (j := 0) F d_M_cost_0 rfl rfl rfl ?_
  refine v_iload_n (pc' := 2) (j := 1) F d_M_cost_1 rfl rfl rfl ?_
  refine v_iconst (pc' := 3) F d_M_cost_2 rfl ?_
  refine v_iconst (pc' := 4) F d_M_cost_3 rfl ?_
  refine v_callSP (pc' := 7) F d_M_cost_4 rfl cal_M_isIn wx_755 wx_756 (c_M_isIn l X _ _ _ _ _ (by omega) (by omega) (by omega)) rfl ⟨by decide, by decide, by decide, by decide⟩ (Nat.le_of_ble_eq_true rfl) rfl rfl ?_
  refine v_zif_eq (tgt := 34) (pc' := 10) F d_M_cost_7 (by decide) rfl (fun c7 => ?_) (fun c7 => ?_)
  · refine v_iconst (pc' := 35) F d_M_cost_34 rfl ?_
    refine v_iconst (pc' := 36) F d_M_cost_35 rfl ?_
    refine v_callVM (pc' := 39) (C := zR_M) (T9 := zF_M) (N := 28) F d_M_cost_36 rfl cal_M_allows wx_758 wx_760 wp_16 rfl hM.1 (c_allows_1 l X _ _ _ _ _ hM (by omega)) rfl ⟨by decide, by decide, by decide, by decide⟩ (Nat.le_of_ble_eq_true rfl) rfl rfl (fun h1 hM1 hF1 => ?_)
    refine v_if_ne (tgt := 44) (pc' := 42) F d_M_cost_39 (by decide) rfl (by omega) (fun c39 => by exfalso; omega) (fun c39 => ?_)
    refine v_iconst (pc' := 43) F d_M_cost_42 rfl ?_
    refine v_ireturn F rfl d_M_cost_43 rfl rfl (Nat.le_refl _) (Nat.le_refl _) ?_
    first | (rw [show sp_cost M k a v = (1, 0, M) from if_neg (by omega)]; exact ⟨_, hM1, ((MF.rf).tr hF1), rfl, upM_ss, eqv.note (Or.inl rfl), 0, rfl, fun q => absurd (show (1 : Int) = 0 from q) (by decide)⟩) | (rw [show sp_cost M k a v = _ from if_pos (by omega)]; exact ⟨_, hM1, ((MF.rf).tr hF1), rfl, (by rw [upM_n (by decide)]; exact upM_ss), (eqv.note (Or.inl rfl)).up 18 _ _, _, rfl, fun _ => rfl⟩)
  · refine v_iload_n (pc' := 11) (j := 2) F d_M_cost_10 rfl rfl rfl ?_
    refine v_iconst (pc' := 12) F d_M_cost_11 rfl ?_
    refine v_bipush (pc' := 14) F d_M_cost_12 rfl (by decide) ?_
    refine v_callSP (pc' := 17) F d_M_cost_14 rfl cal_M_isIn wx_755 wx_756 (c_M_isIn l X _ _ _ _ _ (by omega) (by omega) (by omega)) rfl ⟨by decide, by decide, by decide, by decide⟩ (Nat.le_of_ble_eq_true rfl) rfl rfl ?_
    refine v_zif_eq (tgt := 34) (pc' := 20) F d_M_cost_17 (by decide) rfl (fun c17 => ?_) (fun c17 => ?_)
    · refine v_iconst (pc' := 35) F d_M_cost_34 rfl ?_
      refine v_iconst (pc' := 36) F d_M_cost_35 rfl ?_
      refine v_callVM (pc' := 39) (C := zR_M) (T9 := zF_M) (N := 28) F d_M_cost_36 rfl cal_M_allows wx_758 wx_760 wp_16 rfl hM.1 (c_allows_1 l X _ _ _ _ _ hM (by omega)) rfl ⟨by decide, by decide, by decide, by decide⟩ (Nat.le_of_ble_eq_true rfl) rfl rfl (fun h2 hM2 hF2 => ?_)
      refine v_if_ne (tgt := 44) (pc' := 42) F d_M_cost_39 (by decide) rfl (by omega) (fun c39 => by exfalso; omega) (fun c39 => ?_)
      refine v_iconst (pc' := 43) F d_M_cost_42 rfl ?_
      refine v_ireturn F rfl d_M_cost_43 rfl rfl (Nat.le_refl _) (Nat.le_refl _) ?_
      first | (rw [show sp_cost M k a v = (1, 0, M) from if_neg (by omega)]; exact ⟨_, hM2, ((MF.rf).tr hF2), rfl, upM_ss, eqv.note (Or.inl rfl), 0, rfl, fun q => absurd (show (1 : Int) = 0 from q) (by decide)⟩) | (rw [show sp_cost M k a v = _ from if_pos (by omega)]; exact ⟨_, hM2, ((MF.rf).tr hF2), rfl, (by rw [upM_n (by decide)]; exact upM_ss), (eqv.note (Or.inl rfl)).up 18 _ _, _, rfl, fun _ => rfl⟩)
    · refine v_iload_n (pc' := 21) (j := 3) F d_M_cost_20 rfl rfl rfl ?_
      refine v_iconst (pc' := 22) F d_M_cost_21 rfl ?_
      refine v_ldc (pc' := 24) (z := 1000000000) F d_M_cost_22 rfl wx_802 (by decide) ?_
      refine v_callSP (pc' := 27) F d_M_cost_24 rfl cal_M_isIn wx_755 wx_756 (c_M_isIn l X _ _ _ _ _ (by omega) (by omega) (by omega)) rfl ⟨by decide, by decide, by decide, by decide⟩ (Nat.le_of_ble_eq_true rfl) rfl rfl ?_
      refine v_zif_eq (tgt := 34) (pc' := 30) F d_M_cost_27 (by decide) rfl (fun c27 => ?_) (fun c27 => ?_)
      · refine v_iconst (pc' := 35) F d_M_cost_34 rfl ?_
        refine v_iconst (pc' := 36) F d_M_cost_35 rfl ?_
        refine v_callVM (pc' := 39) (C := zR_M) (T9 := zF_M) (N := 28) F d_M_cost_36 rfl cal_M_allows wx_758 wx_760 wp_16 rfl hM.1 (c_allows_1 l X _ _ _ _ _ hM (by omega)) rfl ⟨by decide, by decide, by decide, by decide⟩ (Nat.le_of_ble_eq_true rfl) rfl rfl (fun h3 hM3 hF3 => ?_)
        refine v_if_ne (tgt := 44) (pc' := 42) F d_M_cost_39 (by decide) rfl (by omega) (fun c39 => by exfalso; omega) (fun c39 => ?_)
        refine v_iconst (pc' := 43) F d_M_cost_42 rfl ?_
        refine v_ireturn F rfl d_M_cost_43 rfl rfl (Nat.le_refl _) (Nat.le_refl _) ?_
        first | (rw [show sp_cost M k a v = (1, 0, M) from if_neg (by omega)]; exact ⟨_, hM3, ((MF.rf).tr hF3), rfl, upM_ss, eqv.note (Or.inl rfl), 0, rfl, fun q => absurd (show (1 : Int) = 0 from q) (by decide)⟩) | (rw [show sp_cost M k a v = _ from if_pos (by omega)]; exact ⟨_, hM3, ((MF.rf).tr hF3), rfl, (by rw [upM_n (by decide)]; exact upM_ss), (eqv.note (Or.inl rfl)).up 18 _ _, _, rfl, fun _ => rfl⟩)
      · refine v_iconst (pc' := 31) F d_M_cost_30 rfl ?_
        refine v_goto (tgt := 35) F d_M_cost_31 (by decide) ?_
        refine v_iconst (pc' := 36) F d_M_cost_35 rfl ?_
        refine v_callVM (pc' := 39) (C := zR_M) (T9 := zF_M) (N := 28) F d_M_cost_36 rfl cal_M_allows wx_758 wx_760 wp_16 rfl hM.1 (c_allows_0 l X _ _ _ _ hM) rfl ⟨by decide, by decide, by decide, by decide⟩ (Nat.le_of_ble_eq_true rfl) rfl rfl (fun h4 hM4 hF4 => ?_)
        refine v_if_ne (tgt := 44) (pc' := 42) F d_M_cost_39 (by decide) rfl (by omega) (fun c39 => ?_) (fun c39 => by exfalso; omega)
        refine v_aload_n (pc' := 45) (j := 0) F d_M_cost_44 rfl rfl rfl ?_
        refine v_getf (pc' := 48) (C := zR_M) (T := zF_M) (N := 28) (ref := "BillSharesModel") F d_M_cost_45 rfl zi_M rfl 18 (by decide) wx_679 (Or.inl rfl) hM4.1 rfl ?_
        refine v_iconst (pc' := 49) F d_M_cost_48 rfl ?_
        refine v_iload_n (pc' := 50) (j := 2) F d_M_cost_49 rfl rfl rfl ?_
        refine v_imul (pc' := 51) F d_M_cost_50 rfl ?_
        refine v_iload_n (pc' := 52) (j := 1) F d_M_cost_51 rfl rfl rfl ?_
        refine v_iadd (pc' := 53) F d_M_cost_52 rfl ?_
        refine mg_18 (pc' := 54) F hM4 d_M_cost_53 rfl (by omega) (by omega) ?_
        refine v_un (by decide) ?_
        refine v_istore_4 (pc' := 56) F d_M_cost_54 rfl rfl (by decide) ?_
        refine v_aload_n (pc' := 57) (j := 0) F d_M_cost_56 rfl rfl rfl ?_
        refine v_getf (pc' := 60) (C := zR_M) (T := zF_M) (N := 28) (ref := "BillSharesModel") F d_M_cost_57 rfl zi_M rfl 18 (by decide) wx_679 (Or.inl rfl) hM4.1 rfl ?_
        refine v_iconst (pc' := 61) F d_M_cost_60 rfl ?_
        refine v_iload_n (pc' := 62) (j := 2) F d_M_cost_61 rfl rfl rfl ?_
        refine v_imul (pc' := 63) F d_M_cost_62 rfl ?_
        refine v_iload_n (pc' := 64) (j := 1) F d_M_cost_63 rfl rfl rfl ?_
        refine v_iadd (pc' := 65) F d_M_cost_64 rfl ?_
        refine v_iload_n (pc' := 66) (j := 3) F d_M_cost_65 rfl rfl rfl ?_
        refine mp_18 (pc' := 67) F hM4 d_M_cost_66 rfl (by omega) (by omega) (fun h5 hM5 hF5 => ?_)
        refine v_iload (pc' := 69) F d_M_cost_67 rfl rfl ?_
        refine v_ireturn F rfl d_M_cost_69 rfl rfl (Nat.le_refl _) (Nat.le_refl _) ?_
        first | (rw [show sp_cost M k a v = (1, 0, M) from if_neg (by omega)]; exact ⟨_, hM5, ((((MF.rf).tr hF4)).tr hF5), rfl, upM_ss, eqv.note (Or.inl rfl), 0, rfl, fun q => absurd (show (1 : Int) = 0 from q) (by decide)⟩) | (rw [show sp_cost M k a v = _ from if_pos (by omega)]; exact ⟨_, hM5, ((((MF.rf).tr hF4)).tr hF5), rfl, (by rw [upM_n (by decide)]; exact upM_ss), (eqv.note (Or.inl rfl)).up 18 _ _, _, rfl, fun _ => rfl⟩)
def sp_base (M : MS) (k v : Int) : Int × Int × MS := if 0 ≤ k ∧ k ≤ 3 ∧ 0 ≤ v ∧ v ≤ 100 then (0, M 19 k, upM M 19 k v) else (1, 0, M)
set_option maxRecDepth 100000 in
set_option maxHeartbeats 4000000 in
theorem c_M_base (l : Launch) (X : am_X) (h : am_H) (nx : Nat) (y : Nat) (M : MS) (k v : Int) (hM : RepM y M h) (rk : -2147483648 ≤ k ∧ k < 2147483648) (rv : -2147483648 ≤ v ∧ v < 2147483648) : Cn l X y_M_base ({ frames := 1, cells := 0, slots := 0, locals := 22 }) [.ref y, iV k, iV v] h nx (mpost y h nx iV (sp_base M k v)) := by
  refine cn_of (k := 1) (L0 := [some (.ref y), some (iV k), some (iV v), none]) rfl wx_806 (Nat.le_of_ble_eq_true rfl) rfl (fun p e s m args below meth c F => ?_)
  refine v_aload_n (pc' := 1) (j := 0) F d_M_base_0 rfl rfl rfl ?_
  refine v_iload_n (pc' := 2) (j := 1) F d_M_base_1 rfl rfl rfl ?_
  refine v_iconst (pc' := 3) F d_M_base_2 rfl ?_
  refine v_iconst (pc' := 4) F d_M_base_3 rfl ?_
  refine v_callSP (pc' := 7) F d_M_base_4 rfl cal_M_isIn wx_755 wx_756 (c_M_isIn l X _ _ _ _ _ (by omega) (by omega) (by omega)) rfl ⟨by decide, by decide, by decide, by decide⟩ (Nat.le_of_ble_eq_true rfl) rfl rfl ?_
  refine v_zif_eq (tgt := 24) (pc' := 10) F d_M_base_7 (by decide) rfl (fun c7 => ?_) (fun c7 => ?_)
  · refine v_iconst (pc' := 25) F d_M_base_24 rfl ?_
    refine v_iconst (pc' := 26) F d_M_base_25 rfl ?_
    refine v_callVM (pc' := 29) (C := zR_M) (T9 := zF_M) (N := 28) F d_M_base_26 rfl cal_M_allows wx_758 wx_760 wp_16 rfl hM.1 (c_allows_1 l X _ _ _ _ _ hM (by omega)) rfl ⟨by decide, by decide, by decide, by decide⟩ (Nat.le_of_ble_eq_true rfl) rfl rfl (fun h1 hM1 hF1 => ?_)
    refine v_if_ne (tgt := 34) (pc' := 32) F d_M_base_29 (by decide) rfl (by omega) (fun c29 => by exfalso; omega) (fun c29 => ?_)
    refine v_iconst (pc' := 33) F d_M_base_32 rfl ?_
    refine v_ireturn F rfl d_M_base_33 rfl rfl (Nat.le_refl _) (Nat.le_refl _) ?_
    first | (rw [show sp_base M k v = (1, 0, M) from if_neg (by omega)]; exact ⟨_, hM1, ((MF.rf).tr hF1), rfl, upM_ss, eqv.note (Or.inl rfl), 0, rfl, fun q => absurd (show (1 : Int) = 0 from q) (by decide)⟩) | (rw [show sp_base M k v = _ from if_pos (by omega)]; exact ⟨_, hM1, ((MF.rf).tr hF1), rfl, (by rw [upM_n (by decide)]; exact upM_ss), (eqv.note (Or.inl rfl)).up 19 _ _, _, rfl, fun _ => rfl⟩)
  · refine v_iload_n (pc' := 11) (j := 2) F d_M_base_10 rfl rfl rfl ?_
    refine v_iconst (pc' := 12) F d_M_base_11 rfl ?_
    refine v_bipush (pc' := 14) F d_M_base_12 rfl (by decide) ?_
    refine v_callSP (pc' := 17) F d_M_base_14 rfl cal_M_isIn wx_755 wx_756 (c_M_isIn l X _ _ _ _ _ (by omega) (by omega) (by omega)) rfl ⟨by decide, by decide, by decide, by decide⟩ (Nat.le_of_ble_eq_true rfl) rfl rfl ?_
    refine v_zif_eq (tgt := 24) (pc' := 20) F d_M_base_17 (by decide) rfl (fun c17 => ?_) (fun c17 => ?_)
    · refine v_iconst (pc' := 25) F d_M_base_24 rfl ?_
      refine v_iconst (pc' := 26) F d_M_base_25 rfl ?_
      refine v_callVM (pc' := 29) (C := zR_M) (T9 := zF_M) (N := 28) F d_M_base_26 rfl cal_M_allows wx_758 wx_760 wp_16 rfl hM.1 (c_allows_1 l X _ _ _ _ _ hM (by omega)) rfl ⟨by decide, by decide, by decide, by decide⟩ (Nat.le_of_ble_eq_true rfl) rfl rfl (fun h2 hM2 hF2 => ?_)
      refine v_if_ne (tgt := 34) (pc' := 32) F d_M_base_29 (by decide) rfl (by omega) (fun c29 => by exfalso; omega) (fun c29 => ?_)
      refine v_iconst (pc' := 33) F d_M_base_32 rfl ?_
      refine v_ireturn F rfl d_M_base_33 rfl rfl (Nat.le_refl _) (Nat.le_refl _) ?_
      first | (rw [show sp_base M k v = (1, 0, M) from if_neg (by omega)]; exact ⟨_, hM2, ((MF.rf).tr hF2), rfl, upM_ss, eqv.note (Or.inl rfl), 0, rfl, fun q => absurd (show (1 : Int) = 0 from q) (by decide)⟩) | (rw [show sp_base M k v = _ from if_pos (by omega)]; exact ⟨_, hM2, ((MF.rf).tr hF2), rfl, (by rw [upM_n (by decide)]; exact upM_ss), (eqv.note (Or.inl rfl)).up 19 _ _, _, rfl, fun _ => rfl⟩)
    · refine v_iconst (pc' := 21) F d_M_base_20 rfl ?_
      refine v_goto (tgt := 25) F d_M_base_21 (by decide) ?_
      refine v_iconst (pc' := 26) F d_M_base_25 rfl ?_
      refine v_callVM (pc' := 29) (C := zR_M) (T9 := zF_M) (N := 28) F d_M_base_26 rfl cal_M_allows wx_758 wx_760 wp_16 rfl hM.1 (c_allows_0 l X _ _ _ _ hM) rfl ⟨by decide, by decide, by decide, by decide⟩ (Nat.le_of_ble_eq_true rfl) rfl rfl (fun h3 hM3 hF3 => ?_)
      refine v_if_ne (tgt := 34) (pc' := 32) F d_M_base_29 (by decide) rfl (by omega) (fun c29 => ?_) (fun c29 => by exfalso; omega)
      refine v_aload_n (pc' := 35) (j := 0) F d_M_base_34 rfl rfl rfl ?_
      refine v_getf (pc' := 38) (C := zR_M) (T := zF_M) (N := 28) (ref := "BillSharesModel") F d_M_base_35 rfl zi_M rfl 19 (by decide) wx_680 (Or.inl rfl) hM3.1 rfl ?_
      refine v_iload_n (pc' := 39) (j := 1) F d_M_base_38 rfl rfl rfl ?_
      refine mg_19 (pc' := 40) F hM3 d_M_base_39 rfl (by omega) (by omega) ?_
      refine v_un (by decide) ?_
      refine v_istore_3 (pc' := 41) F d_M_base_40 rfl rfl (by decide) ?_
      refine v_aload_n (pc' := 42) (j := 0) F d_M_base_41 rfl rfl rfl ?_
      refine v_getf (pc' := 45) (C := zR_M) (T := zF_M) (N := 28) (ref := "BillSharesModel") F d_M_base_42 rfl zi_M rfl 19 (by decide) wx_680 (Or.inl rfl) hM3.1 rfl ?_
      refine v_iload_n (pc' := 46) (j := 1) F d_M_base_45 rfl rfl rfl ?_
      refine v_iload_n (pc' := 47) (j := 2) F d_M_base_46 rfl rfl rfl ?_
      refine mp_19 (pc' := 48) F hM3 d_M_base_47 rfl (by omega) (by omega) (fun h4 hM4 hF4 => ?_)
      refine v_iload_n (pc' := 49) (j := 3) F d_M_base_48 rfl rfl rfl ?_
      refine v_ireturn F rfl d_M_base_49 rfl rfl (Nat.le_refl _) (Nat.le_refl _) ?_
      first | (rw [show sp_base M k v = (1, 0, M) from if_neg (by omega)]; exact ⟨_, hM4, ((((MF.rf).tr hF3)).tr hF4), rfl, upM_ss, eqv.note (Or.inl rfl), 0, rfl, fun q => absurd (show (1 : Int) = 0 from q) (by decide)⟩) | (rw [show sp_base M k v = _ from if_pos (by omega)]; exact ⟨_, hM4, ((((MF.rf).tr hF3)).tr hF4), rfl, (by rw [upM_n (by decide)]; exact upM_ss), (eqv.note (Or.inl rfl)).up 19 _ _, _, rfl, fun _ => rfl⟩)
def sp_edition (M : MS) (a : Int) : Int × Int × MS := if 0 ≤ a ∧ a ≤ 9 then (0, M 20 a, M) else (1, 0, M)
set_option maxRecDepth 100000 in
set_option maxHeartbeats 4000000 in
theorem c_M_edition (l : Launch) (X : am_X) (h : am_H) (nx : Nat) (y : Nat) (M : MS) (a : Int) (hM : RepM y M h) (ra : -2147483648 ≤ a ∧ a < 2147483648) : Cn l X y_M_edition ({ frames := 1, cells := 0, slots := 0, locals := 22 }) [.ref y, iV a] h nx (mpost y h nx iV (sp_edition M a)) := by
  refine cn_of (k := 0) (L0 := [some (.ref y), some (iV a)]) rfl wx_913 (Nat.le_of_ble_eq_true rfl) rfl (fun p e s m args below meth c F => ?_)
  refine v_aload_n (pc' := 1) (j := 0) F d_M_edition_0 rfl rfl rfl ?_
  refine v_iload_n (pc' := 2) (j := 1) F d_M_edition_1 rfl rfl rfl ?_
  refine v_iconst (pc' := 3) F d_M_edition_2 rfl ?_
  refine v_bipush (pc' := 5) F d_M_edition_3 rfl (by decide) ?_
  refine v_callSP (pc' := 8) F d_M_edition_5 rfl cal_M_isIn wx_755 wx_756 (c_M_isIn l X _ _ _ _ _ (by omega) (by omega) (by omega)) rfl ⟨by decide, by decide, by decide, by decide⟩ (Nat.le_of_ble_eq_true rfl) rfl rfl ?_
  refine v_iconst (pc' := 9) F d_M_edition_8 rfl ?_
  refine v_callVM (pc' := 12) (C := zR_M) (T9 := zF_M) (N := 28) F d_M_edition_9 rfl cal_M_allows wx_758 wx_760 wp_16 rfl hM.1 (c_allows_q l X _ _ _ _ _ hM) rfl ⟨by decide, by decide, by decide, by decide⟩ (Nat.le_of_ble_eq_true rfl) rfl rfl (fun h1 hM1 hF1 => ?_)
  refine v_zif_eq (tgt := 24) (pc' := 15) F d_M_edition_12 (by decide) rfl (fun c12 => ?_) (fun c12 => ?_)
  · refine v_iconst (pc' := 25) F d_M_edition_24 rfl ?_
    refine v_ireturn F rfl d_M_edition_25 rfl rfl (Nat.le_refl _) (Nat.le_refl _) ?_
    first | (rw [show sp_edition M a = (1, 0, M) from if_neg (by omega)]; exact ⟨_, hM1, ((MF.rf).tr hF1), rfl, upM_ss.trans (by rw [bI_f (by omega)]; rfl), eqv.note (Or.inl rfl), 0, rfl, fun q => absurd (show (1 : Int) = 0 from q) (by decide)⟩) | (rw [show sp_edition M a = _ from if_pos (by omega)]; exact ⟨_, hM1, ((MF.rf).tr hF1), rfl, upM_ss.trans (by rw [bI_t (by omega)]; rfl), eqv.note (Or.inl rfl), _, rfl, fun _ => rfl⟩)
  · refine v_aload_n (pc' := 16) (j := 0) F d_M_edition_15 rfl rfl rfl ?_
    refine v_getf (pc' := 19) (C := zR_M) (T := zF_M) (N := 28) (ref := "BillSharesModel") F d_M_edition_16 rfl zi_M rfl 20 (by decide) wx_681 (Or.inl rfl) hM1.1 rfl ?_
    refine v_iload_n (pc' := 20) (j := 1) F d_M_edition_19 rfl rfl rfl ?_
    refine mg_20 (pc' := 21) F hM1 d_M_edition_20 rfl (by omega) (by omega) ?_
    refine v_un (by decide) ?_
    refine v_goto (tgt := 25) F d_M_edition_21 (by decide) ?_
    refine v_ireturn F rfl d_M_edition_25 rfl rfl (Nat.le_refl _) (Nat.le_refl _) ?_
    first | (rw [show sp_edition M a = (1, 0, M) from if_neg (by omega)]; exact ⟨_, hM1, ((MF.rf).tr hF1), rfl, upM_ss.trans (by rw [bI_f (by omega)]; rfl), eqv.note (Or.inl rfl), 0, rfl, fun q => absurd (show (1 : Int) = 0 from q) (by decide)⟩) | (rw [show sp_edition M a = _ from if_pos (by omega)]; exact ⟨_, hM1, ((MF.rf).tr hF1), rfl, upM_ss.trans (by rw [bI_t (by omega)]; rfl), eqv.note (Or.inl rfl), _, rfl, fun _ => rfl⟩)
def sp_prepaid (M : MS) (f a v : Int) : Int × Int × MS := if 0 ≤ f ∧ f < M 1 0 ∧ 0 ≤ a ∧ a ≤ 9 ∧ 1 ≤ v ∧ v ≤ 1000000000 then (0, M 6 (10 * f + a) + v, upM M 6 (10 * f + a) (M 6 (10 * f + a) + v)) else (1, 0, M)
set_option maxRecDepth 100000 in
set_option maxHeartbeats 4000000 in
theorem c_M_prepaid (l : Launch) (X : am_X) (h : am_H) (nx : Nat) (y : Nat) (M : MS) (f a v : Int) (hM : RepM y M h) (hfl : 0 ≤ M 1 0 ∧ M 1 0 ≤ 20) (rf : -2147483648 ≤ f ∧ f < 2147483648) (ra : -2147483648 ≤ a ∧ a < 2147483648) (rv : -2147483648 ≤ v ∧ v < 2147483648) : Cn l X y_M_prepaid ({ frames := 1, cells := 0, slots := 0, locals := 22 }) [.ref y, iV f, iV a, iV v] h nx (mpost y h nx lV (sp_prepaid M f a v)) := by
  refine cn_of (k := 0) (L0 := [some (.ref y), some (iV f), some (iV a), some (iV v)]) rfl wx_814 (Nat.le_of_ble_eq_true rfl) rfl (fun p e s m args below meth c F => ?_)
  refine v_aload_n (pc' := 1) (j := 0) F d_M_prepaid_0 rfl rfl rfl ?_
  refine v_aload_n (pc' := 2) (j := 0) F d_M_prepaid_1 rfl rfl rfl ?_
  refine v_iload_n (pc' := 3) (j := 1) F d_M_prepaid_2 rfl rfl rfl ?_
  refine v_callVP (pc' := 6) (C := zR_M) (T9 := zF_M) (N := 28) F d_M_prepaid_3 rfl cal_M_isFlat wx_766 wx_768 wp_17 rfl hM.1 (c_M_isFlat l X _ _ _ _ _ hM hfl (by omega)) rfl ⟨by decide, by decide, by decide, by decide⟩ (Nat.le_of_ble_eq_true rfl) rfl rfl ?_
  refine v_zif_eq (tgt := 33) (pc' := 9) F d_M_prepaid_6 (by decide) rfl (fun c6 => ?_) (fun c6 => ?_)
  · refine v_iconst (pc' := 34) F d_M_prepaid_33 rfl ?_
    refine v_iconst (pc' := 35) F d_M_prepaid_34 rfl ?_
    refine v_callVM (pc' := 38) (C := zR_M) (T9 := zF_M) (N := 28) F d_M_prepaid_35 rfl cal_M_allows wx_758 wx_760 wp_16 rfl hM.1 (c_allows_1 l X _ _ _ _ _ hM (by omega)) rfl ⟨by decide, by decide, by decide, by decide⟩ (Nat.le_of_ble_eq_true rfl) rfl rfl (fun h1 hM1 hF1 => ?_)
    refine v_if_ne (tgt := 43) (pc' := 41) F d_M_prepaid_38 (by decide) rfl (by omega) (fun c38 => by exfalso; omega) (fun c38 => ?_)
    refine v_lconst (pc' := 42) (z := 0) F d_M_prepaid_41 rfl (by decide) ?_
    refine v_lreturn F d_M_prepaid_42 rfl (Nat.le_refl _) (Nat.le_refl _) ?_
    first | (rw [show sp_prepaid M f a v = (1, 0, M) from if_neg (by omega)]; exact ⟨_, hM1, ((MF.rf).tr hF1), rfl, upM_ss, eqv.note (Or.inl rfl), 0, rfl, fun q => absurd (show (1 : Int) = 0 from q) (by decide)⟩) | (rw [show sp_prepaid M f a v = _ from if_pos (by omega)]; exact ⟨_, hM1, ((MF.rf).tr hF1), rfl, (by rw [upM_n (by decide)]; exact upM_ss), (eqv.note (Or.inl rfl)).up 6 _ _, _, rfl, fun _ => rfl⟩)
  · refine v_iload_n (pc' := 10) (j := 2) F d_M_prepaid_9 rfl rfl rfl ?_
    refine v_iconst (pc' := 11) F d_M_prepaid_10 rfl ?_
    refine v_bipush (pc' := 13) F d_M_prepaid_11 rfl (by decide) ?_
    refine v_callSP (pc' := 16) F d_M_prepaid_13 rfl cal_M_isIn wx_755 wx_756 (c_M_isIn l X _ _ _ _ _ (by omega) (by omega) (by omega)) rfl ⟨by decide, by decide, by decide, by decide⟩ (Nat.le_of_ble_eq_true rfl) rfl rfl ?_
    refine v_zif_eq (tgt := 33) (pc' := 19) F d_M_prepaid_16 (by decide) rfl (fun c16 => ?_) (fun c16 => ?_)
    · refine v_iconst (pc' := 34) F d_M_prepaid_33 rfl ?_
      refine v_iconst (pc' := 35) F d_M_prepaid_34 rfl ?_
      refine v_callVM (pc' := 38) (C := zR_M) (T9 := zF_M) (N := 28) F d_M_prepaid_35 rfl cal_M_allows wx_758 wx_760 wp_16 rfl hM.1 (c_allows_1 l X _ _ _ _ _ hM (by omega)) rfl ⟨by decide, by decide, by decide, by decide⟩ (Nat.le_of_ble_eq_true rfl) rfl rfl (fun h2 hM2 hF2 => ?_)
      refine v_if_ne (tgt := 43) (pc' := 41) F d_M_prepaid_38 (by decide) rfl (by omega) (fun c38 => by exfalso; omega) (fun c38 => ?_)
      refine v_lconst (pc' := 42) (z := 0) F d_M_prepaid_41 rfl (by decide) ?_
      refine v_lreturn F d_M_prepaid_42 rfl (Nat.le_refl _) (Nat.le_refl _) ?_
      first | (rw [show sp_prepaid M f a v = (1, 0, M) from if_neg (by omega)]; exact ⟨_, hM2, ((MF.rf).tr hF2), rfl, upM_ss, eqv.note (Or.inl rfl), 0, rfl, fun q => absurd (show (1 : Int) = 0 from q) (by decide)⟩) | (rw [show sp_prepaid M f a v = _ from if_pos (by omega)]; exact ⟨_, hM2, ((MF.rf).tr hF2), rfl, (by rw [upM_n (by decide)]; exact upM_ss), (eqv.note (Or.inl rfl)).up 6 _ _, _, rfl, fun _ => rfl⟩)
    · refine v_iload_n (pc' := 20) (j := 3) F d_M_prepaid_19 rfl rfl rfl ?_
      refine v_iconst (pc' := 21) F d_M_prepaid_20 rfl ?_
      refine v_ldc (pc' := 23) (z := 1000000000) F d_M_prepaid_21 rfl wx_802 (by decide) ?_
      refine v_callSP (pc' := 26) F d_M_prepaid_23 rfl cal_M_isIn wx_755 wx_756 (c_M_isIn l X _ _ _ _ _ (by omega) (by omega) (by omega)) rfl ⟨by decide, by decide, by decide, by decide⟩ (Nat.le_of_ble_eq_true rfl) rfl rfl ?_
      refine v_zif_eq (tgt := 33) (pc' := 29) F d_M_prepaid_26 (by decide) rfl (fun c26 => ?_) (fun c26 => ?_)
      · refine v_iconst (pc' := 34) F d_M_prepaid_33 rfl ?_
        refine v_iconst (pc' := 35) F d_M_prepaid_34 rfl ?_
        refine v_callVM (pc' := 38) (C := zR_M) (T9 := zF_M) (N := 28) F d_M_prepaid_35 rfl cal_M_allows wx_758 wx_760 wp_16 rfl hM.1 (c_allows_1 l X _ _ _ _ _ hM (by omega)) rfl ⟨by decide, by decide, by decide, by decide⟩ (Nat.le_of_ble_eq_true rfl) rfl rfl (fun h3 hM3 hF3 => ?_)
        refine v_if_ne (tgt := 43) (pc' := 41) F d_M_prepaid_38 (by decide) rfl (by omega) (fun c38 => by exfalso; omega) (fun c38 => ?_)
        refine v_lconst (pc' := 42) (z := 0) F d_M_prepaid_41 rfl (by decide) ?_
        refine v_lreturn F d_M_prepaid_42 rfl (Nat.le_refl _) (Nat.le_refl _) ?_
        first | (rw [show sp_prepaid M f a v = (1, 0, M) from if_neg (by omega)]; exact ⟨_, hM3, ((MF.rf).tr hF3), rfl, upM_ss, eqv.note (Or.inl rfl), 0, rfl, fun q => absurd (show (1 : Int) = 0 from q) (by decide)⟩) | (rw [show sp_prepaid M f a v = _ from if_pos (by omega)]; exact ⟨_, hM3, ((MF.rf).tr hF3), rfl, (by rw [upM_n (by decide)]; exact upM_ss), (eqv.note (Or.inl rfl)).up 6 _ _, _, rfl, fun _ => rfl⟩)
      · refine v_iconst (pc' := 30) F d_M_prepaid_29 rfl ?_
        refine v_goto (tgt := 34) F d_M_prepaid_30 (by decide) ?_
        refine v_iconst (pc' := 35) F d_M_prepaid_34 rfl ?_
        refine v_callVM (pc' := 38) (C := zR_M) (T9 := zF_M) (N := 28) F d_M_prepaid_35 rfl cal_M_allows wx_758 wx_760 wp_16 rfl hM.1 (c_allows_0 l X _ _ _ _ hM) rfl ⟨by decide, by decide, by decide, by decide⟩ (Nat.le_of_ble_eq_true rfl) rfl rfl (fun h4 hM4 hF4 => ?_)
        refine v_if_ne (tgt := 43) (pc' := 41) F d_M_prepaid_38 (by decide) rfl (by omega) (fun c38 => ?_) (fun c38 => by exfalso; omega)
        refine v_aload_n (pc' := 44) (j := 0) F d_M_prepaid_43 rfl rfl rfl ?_
        refine v_getf (pc' := 47) (C := zR_M) (T := zF_M) (N := 28) (ref := "BillSharesModel") F d_M_prepaid_44 rfl zi_M rfl 6 (by decide) wx_667 (Or.inl rfl) hM4.1 rfl ?_
        refine v_bipush (pc' := 49) F d_M_prepaid_47 rfl (by decide) ?_
        refine v_iload_n (pc' := 50) (j := 1) F d_M_prepaid_49 rfl rfl rfl ?_
        refine v_imul (pc' := 51) F d_M_prepaid_50 rfl ?_
        refine v_iload_n (pc' := 52) (j := 2) F d_M_prepaid_51 rfl rfl rfl ?_
        refine v_iadd (pc' := 53) F d_M_prepaid_52 rfl ?_
        refine v_dup2 (pc' := 54) F d_M_prepaid_53 rfl rfl rfl ?_
        refine mg_6 (pc' := 55) F hM4 d_M_prepaid_54 rfl (by omega) (by omega) ?_
        refine v_unl (by decide) ?_
        refine v_iload_n (pc' := 56) (j := 3) F d_M_prepaid_55 rfl rfl rfl ?_
        refine v_i2l (pc' := 57) F d_M_prepaid_56 rfl (by omega) ?_
        refine v_ladd (pc' := 58) F d_M_prepaid_57 rfl ?_
        refine mp_6 (pc' := 59) F hM4 d_M_prepaid_58 rfl (by omega) (by omega) (fun h5 hM5 hF5 => ?_)
        refine v_aload_n (pc' := 60) (j := 0) F d_M_prepaid_59 rfl rfl rfl ?_
        refine v_getf (pc' := 63) (C := zR_M) (T := zF_M) (N := 28) (ref := "BillSharesModel") F d_M_prepaid_60 rfl zi_M rfl 6 (by decide) wx_667 (Or.inl rfl) hM5.1 rfl ?_
        refine v_bipush (pc' := 65) F d_M_prepaid_63 rfl (by decide) ?_
        refine v_iload_n (pc' := 66) (j := 1) F d_M_prepaid_65 rfl rfl rfl ?_
        refine v_imul (pc' := 67) F d_M_prepaid_66 rfl ?_
        refine v_iload_n (pc' := 68) (j := 2) F d_M_prepaid_67 rfl rfl rfl ?_
        refine v_iadd (pc' := 69) F d_M_prepaid_68 rfl ?_
        refine mg_6 (pc' := 70) F hM5 d_M_prepaid_69 rfl (by omega) (by omega) ?_
        refine v_usl ?_
        refine v_lreturn F d_M_prepaid_70 rfl (Nat.le_refl _) (Nat.le_refl _) ?_
        first | (rw [show sp_prepaid M f a v = (1, 0, M) from if_neg (by omega)]; exact ⟨_, hM5, ((((MF.rf).tr hF4)).tr hF5), rfl, upM_ss, eqv.note (Or.inl rfl), 0, rfl, fun q => absurd (show (1 : Int) = 0 from q) (by decide)⟩) | (rw [show sp_prepaid M f a v = _ from if_pos (by omega)]; exact ⟨_, hM5, ((((MF.rf).tr hF4)).tr hF5), rfl, (by rw [upM_n (by decide)]; exact upM_ss), (eqv.note (Or.inl rfl)).up 6 _ _, _, rfl, fun _ => rfl⟩)
