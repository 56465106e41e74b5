/-! difference, line, begin, end, days of the reference (written by wip/whole/mm6.py) -/
def sp_diff (M : MS) (f a : Int) : Int × Int × MS := if sp_has M 1 f a = 0 then (0, if M 20 a = 1 then 0 else sp_share M f a - (if f < M 22 a then M 25 (20 * a + f) else 0), M) else (sp_has M 1 f a, 0, M)
set_option maxRecDepth 100000 in
set_option maxHeartbeats 4000000 in
theorem c_M_difference (l : Launch) (X : am_X) (h : am_H) (nx : Nat) (y : Nat) (M : MS) (f a : Int) (hM : RepM y M h) (hfl : 0 ≤ M 1 0 ∧ M 1 0 ≤ 20) (hed : ∀ i : Int, 0 ≤ i → i < 10 → 0 ≤ M 20 i ∧ M 20 i ≤ 50) (hth : ∀ i : Int, 0 ≤ i → i < 10 → 0 ≤ M 21 i ∧ M 21 i ≤ 20) (htb : ∀ i : Int, 0 ≤ i → i < 10 → 0 ≤ M 22 i ∧ M 22 i ≤ 20) (rf : -2147483648 ≤ f ∧ f < 2147483648) (ra : -2147483648 ≤ a ∧ a < 2147483648) : Cn l X y_M_difference ({ frames := 2, cells := 0, slots := 0, locals := 46 }) [.ref y, iV f, iV a] h nx (mpost y h nx lV (sp_diff M f a)) := by
  refine cn_of (k := 0) (L0 := [some (.ref y), some (iV f), some (iV a)]) rfl wx_909 (Nat.le_of_ble_eq_true rfl) rfl (fun p e s m args below meth c F => ?_)
  refine v_aload_n (pc' := 1) (j := 0) F d_M_difference_0 rfl rfl rfl ?_
  refine v_iconst (pc' := 2) F d_M_difference_1 rfl ?_
  refine v_iload_n (pc' := 3) (j := 1) F d_M_difference_2 rfl rfl rfl ?_
  refine v_iload_n (pc' := 4) (j := 2) F d_M_difference_3 rfl rfl rfl ?_
  refine v_callVM (pc' := 7) (C := zR_M) (T9 := zF_M) (N := 28) F d_M_difference_4 rfl cal_M_has wx_873 wx_875 wp_29 rfl hM.1 (c_M_has l X _ _ _ _ _ _ _ hM hfl hed hth (by omega) (by omega) (by omega)) rfl ⟨by decide, by decide, by decide, by decide⟩ (Nat.le_of_ble_eq_true rfl) rfl rfl (fun h1 hM1 hF1 => ?_)
  refine v_zif_eq (tgt := 20) (pc' := 10) F d_M_difference_7 (by decide) rfl (fun c7 => ?_) (fun c7 => ?_)
  · refine v_lconst (pc' := 21) (z := 0) F d_M_difference_20 rfl (by decide) ?_
    refine v_lreturn F d_M_difference_21 rfl (Nat.le_refl _) (Nat.le_refl _) ?_
    first | (rw [show sp_diff M f a = (0, 0, M) from (if_pos (by omega)).trans (by rw [if_pos (by omega)])]; exact ⟨_, hM1, ((MF.rf).tr hF1), rfl, upM_ss.trans (by omega), eqv.note (Or.inl rfl), _, rfl, fun _ => rfl⟩) | (rw [show sp_diff M f a = (0, sp_share M f a - M 25 (20 * a + f), M) from (if_pos (by omega)).trans (by rw [if_neg (by omega), if_pos (by omega)])]; exact ⟨_, hM1, ((MF.rf).tr hF1), rfl, upM_ss.trans (by omega), eqv.note (Or.inl rfl), _, rfl, fun _ => rfl⟩) | (rw [show sp_diff M f a = (0, sp_share M f a - 0, M) from (if_pos (by omega)).trans (by rw [if_neg (by omega), if_neg (by omega)])]; exact ⟨_, hM1, ((MF.rf).tr hF1), rfl, upM_ss.trans (by omega), eqv.note (Or.inl rfl), _, rfl, fun _ => rfl⟩) | (rw [show sp_diff M f a = (sp_has M 1 f a, 0, M) from if_neg (by omega)]; exact ⟨_, hM1, ((MF.rf).tr hF1), rfl, upM_ss, eqv.note (Or.inl rfl), 0, rfl, fun q => absurd (show sp_has M 1 f a = 0 from q) (by omega)⟩)
  · have q8 : (0 ≤ f ∧ f < M 1 0) ∧ 0 ≤ a ∧ a ≤ 9 := by unfold sp_has at c7; split at c7 <;> omega
    refine v_aload_n (pc' := 11) (j := 0) F d_M_difference_10 rfl rfl rfl ?_
    refine v_getf (pc' := 14) (C := zR_M) (T := zF_M) (N := 28) (ref := "BillSharesModel") F d_M_difference_11 rfl zi_M rfl 20 (by decide) wx_681 (Or.inl rfl) hM1.1 rfl ?_
    refine v_iload_n (pc' := 15) (j := 2) F d_M_difference_14 rfl rfl rfl ?_
    refine mg_20 (pc' := 16) F hM1 d_M_difference_15 rfl (by omega) (by omega) ?_
    refine v_un (by decide) ?_
    refine v_iconst (pc' := 17) F d_M_difference_16 rfl ?_
    have q1 := hed a (by omega) (by omega)
    refine v_icmp_ne (tgt := 22) (pc' := 20) F d_M_difference_17 (by decide) rfl (by omega) (by omega) (fun c17 => ?_) (fun c17 => ?_)
    · refine v_aload_n (pc' := 23) (j := 0) F d_M_difference_22 rfl rfl rfl ?_
      refine v_iload_n (pc' := 24) (j := 1) F d_M_difference_23 rfl rfl rfl ?_
      refine v_iload_n (pc' := 25) (j := 2) F d_M_difference_24 rfl rfl rfl ?_
      refine v_callVP (pc' := 28) (C := zR_M) (T9 := zF_M) (N := 28) F d_M_difference_25 rfl cal_M_shareOf wx_819 wx_821 wp_20 rfl hM1.1 (c_M_shareOf l X _ _ _ _ _ _ hM1 (by omega) (by omega)) rfl ⟨by decide, by decide, by decide, by decide⟩ (Nat.le_of_ble_eq_true rfl) rfl rfl ?_
      refine v_iload_n (pc' := 29) (j := 1) F d_M_difference_28 rfl rfl rfl ?_
      refine v_aload_n (pc' := 30) (j := 0) F d_M_difference_29 rfl rfl rfl ?_
      refine v_getf (pc' := 33) (C := zR_M) (T := zF_M) (N := 28) (ref := "BillSharesModel") F d_M_difference_30 rfl zi_M rfl 22 (by decide) wx_683 (Or.inl rfl) hM1.1 rfl ?_
      refine v_iload_n (pc' := 34) (j := 2) F d_M_difference_33 rfl rfl rfl ?_
      refine mg_22 (pc' := 35) F hM1 d_M_difference_34 rfl (by omega) (by omega) ?_
      refine v_un (by decide) ?_
      have q2 := htb a (by omega) (by omega)
      refine v_icmp_ge (tgt := 52) (pc' := 38) F d_M_difference_35 (by decide) rfl (by omega) (by omega) (fun c35 => ?_) (fun c35 => ?_)
      · refine v_lconst (pc' := 53) (z := 0) F d_M_difference_52 rfl (by decide) ?_
        refine v_lsub (pc' := 54) F d_M_difference_53 rfl ?_
        refine v_lreturn F d_M_difference_54 rfl (Nat.le_refl _) (Nat.le_refl _) ?_
        first | (rw [show sp_diff M f a = (0, 0, M) from (if_pos (by omega)).trans (by rw [if_pos (by omega)])]; exact ⟨_, hM1, ((MF.rf).tr hF1), rfl, upM_ss.trans (by omega), eqv.note (Or.inl rfl), _, rfl, fun _ => rfl⟩) | (rw [show sp_diff M f a = (0, sp_share M f a - M 25 (20 * a + f), M) from (if_pos (by omega)).trans (by rw [if_neg (by omega), if_pos (by omega)])]; exact ⟨_, hM1, ((MF.rf).tr hF1), rfl, upM_ss.trans (by omega), eqv.note (Or.inl rfl), _, rfl, fun _ => rfl⟩) | (rw [show sp_diff M f a = (0, sp_share M f a - 0, M) from (if_pos (by omega)).trans (by rw [if_neg (by omega), if_neg (by omega)])]; exact ⟨_, hM1, ((MF.rf).tr hF1), rfl, upM_ss.trans (by omega), eqv.note (Or.inl rfl), _, rfl, fun _ => rfl⟩) | (rw [show sp_diff M f a = (sp_has M 1 f a, 0, M) from if_neg (by omega)]; exact ⟨_, hM1, ((MF.rf).tr hF1), rfl, upM_ss, eqv.note (Or.inl rfl), 0, rfl, fun q => absurd (show sp_has M 1 f a = 0 from q) (by omega)⟩)
      · refine v_aload_n (pc' := 39) (j := 0) F d_M_difference_38 rfl rfl rfl ?_
        refine v_getf (pc' := 42) (C := zR_M) (T := zF_M) (N := 28) (ref := "BillSharesModel") F d_M_difference_39 rfl zi_M rfl 25 (by decide) wx_686 (Or.inl rfl) hM1.1 rfl ?_
        refine v_bipush (pc' := 44) F d_M_difference_42 rfl (by decide) ?_
        refine v_iload_n (pc' := 45) (j := 2) F d_M_difference_44 rfl rfl rfl ?_
        refine v_imul (pc' := 46) F d_M_difference_45 rfl ?_
        refine v_iload_n (pc' := 47) (j := 1) F d_M_difference_46 rfl rfl rfl ?_
        refine v_iadd (pc' := 48) F d_M_difference_47 rfl ?_
        refine mg_25 (pc' := 49) F hM1 d_M_difference_48 rfl (by omega) (by omega) ?_
        refine v_unl (by decide) ?_
        refine v_goto (tgt := 53) F d_M_difference_49 (by decide) ?_
        refine v_lsub (pc' := 54) F d_M_difference_53 rfl ?_
        refine v_lreturn F d_M_difference_54 rfl (Nat.le_refl _) (Nat.le_refl _) ?_
        first | (rw [show sp_diff M f a = (0, 0, M) from (if_pos (by omega)).trans (by rw [if_pos (by omega)])]; exact ⟨_, hM1, ((MF.rf).tr hF1), rfl, upM_ss.trans (by omega), eqv.note (Or.inl rfl), _, rfl, fun _ => rfl⟩) | (rw [show sp_diff M f a = (0, sp_share M f a - M 25 (20 * a + f), M) from (if_pos (by omega)).trans (by rw [if_neg (by omega), if_pos (by omega)])]; exact ⟨_, hM1, ((MF.rf).tr hF1), rfl, upM_ss.trans (by omega), eqv.note (Or.inl rfl), _, rfl, fun _ => rfl⟩) | (rw [show sp_diff M f a = (0, sp_share M f a - 0, M) from (if_pos (by omega)).trans (by rw [if_neg (by omega), if_neg (by omega)])]; exact ⟨_, hM1, ((MF.rf).tr hF1), rfl, upM_ss.trans (by omega), eqv.note (Or.inl rfl), _, rfl, fun _ => rfl⟩) | (rw [show sp_diff M f a = (sp_has M 1 f a, 0, M) from if_neg (by omega)]; exact ⟨_, hM1, ((MF.rf).tr hF1), rfl, upM_ss, eqv.note (Or.inl rfl), 0, rfl, fun q => absurd (show sp_has M 1 f a = 0 from q) (by omega)⟩)
    · refine v_lconst (pc' := 21) (z := 0) F d_M_difference_20 rfl (by decide) ?_
      refine v_lreturn F d_M_difference_21 rfl (Nat.le_refl _) (Nat.le_refl _) ?_
      first | (rw [show sp_diff M f a = (0, 0, M) from (if_pos (by omega)).trans (by rw [if_pos (by omega)])]; exact ⟨_, hM1, ((MF.rf).tr hF1), rfl, upM_ss.trans (by omega), eqv.note (Or.inl rfl), _, rfl, fun _ => rfl⟩) | (rw [show sp_diff M f a = (0, sp_share M f a - M 25 (20 * a + f), M) from (if_pos (by omega)).trans (by rw [if_neg (by omega), if_pos (by omega)])]; exact ⟨_, hM1, ((MF.rf).tr hF1), rfl, upM_ss.trans (by omega), eqv.note (Or.inl rfl), _, rfl, fun _ => rfl⟩) | (rw [show sp_diff M f a = (0, sp_share M f a - 0, M) from (if_pos (by omega)).trans (by rw [if_neg (by omega), if_neg (by omega)])]; exact ⟨_, hM1, ((MF.rf).tr hF1), rfl, upM_ss.trans (by omega), eqv.note (Or.inl rfl), _, rfl, fun _ => rfl⟩) | (rw [show sp_diff M f a = (sp_has M 1 f a, 0, M) from if_neg (by omega)]; exact ⟨_, hM1, ((MF.rf).tr hF1), rfl, upM_ss, eqv.note (Or.inl rfl), 0, rfl, fun q => absurd (show sp_has M 1 f a = 0 from q) (by omega)⟩)
def sp_lineR (M : MS) (f k a w : Int) : Int × Int × MS := if (0 ≤ k ∧ k ≤ 3 ∧ 0 ≤ w ∧ w ≤ 1) ∧ sp_has M 1 f a = 0 then (0, M 23 (80 * a + 4 * f + k) + (if w = 0 then M 24 (80 * a + 4 * f + k) else 0), M) else (if 0 ≤ k ∧ k ≤ 3 ∧ 0 ≤ w ∧ w ≤ 1 then sp_has M 1 f a else 1, 0, M)
theorem sp_has_0 (M : MS) (f a : Int) : sp_has M 0 f a = 1 := if_neg (by omega)
theorem c_has_0 (l : Launch) (X : am_X) (h : am_H) (nx : Nat) (y : Nat) (M : MS) (f a : Int) (hM : RepM y M h) (hfl : 0 ≤ M 1 0 ∧ M 1 0 ≤ 20) (hed : ∀ i : Int, 0 ≤ i → i < 10 → 0 ≤ M 20 i ∧ M 20 i ≤ 50) (hth : ∀ i : Int, 0 ≤ i → i < 10 → 0 ≤ M 21 i ∧ M 21 i ≤ 20) (rf : -2147483648 ≤ f ∧ f < 2147483648) (ra : -2147483648 ≤ a ∧ a < 2147483648) : CnM l X y_M_has ({ frames := 1, cells := 0, slots := 0, locals := 22 }) [.ref y, iV 0, iV f, iV a] h nx y (upM M 0 0 1) (iV 0) :=
  (c_M_has l X h nx y M 0 f a hM hfl hed hth (by omega) rf ra).mono fun o h' nx' q => by rw [sp_has_0] at q; rw [bI_f (by decide)] at q; exact q
set_option maxRecDepth 100000 in
set_option maxHeartbeats 4000000 in
theorem c_M_line (l : Launch) (X : am_X) (h : am_H) (nx : Nat) (y : Nat) (M : MS) (f k a w : Int) (hM : RepM y M h) (hfl : 0 ≤ M 1 0 ∧ M 1 0 ≤ 20) (hed : ∀ i : Int, 0 ≤ i → i < 10 → 0 ≤ M 20 i ∧ M 20 i ≤ 50) (hth : ∀ i : Int, 0 ≤ i → i < 10 → 0 ≤ M 21 i ∧ M 21 i ≤ 20) (rf : -2147483648 ≤ f ∧ f < 2147483648) (rk : -2147483648 ≤ k ∧ k < 2147483648) (ra : -2147483648 ≤ a ∧ a < 2147483648) (rw : -2147483648 ≤ w ∧ w < 2147483648) : Cn l X y_M_line ({ frames := 2, cells := 0, slots := 0, locals := 46 }) [.ref y, iV f, iV k, iV a, iV w] h nx (mpost y h nx lV (sp_lineR M f k a w)) := by
  refine cn_of (k := 1) (L0 := [some (.ref y), some (iV f), some (iV k), some (iV a), some (iV w), none]) rfl wx_872 (Nat.le_of_ble_eq_true rfl) rfl (fun p e s m args below meth c F => ?_)
  refine v_aload_n (pc' := 1) (j := 0) F d_M_line_0 rfl rfl rfl ?_
  refine v_iload_n (pc' := 2) (j := 2) F d_M_line_1 rfl rfl rfl ?_
  refine v_iconst (pc' := 3) F d_M_line_2 rfl ?_
  refine v_iconst (pc' := 4) F d_M_line_3 rfl ?_
  refine v_callSP (pc' := 7) F d_M_line_4 rfl cal_M_isIn wx_755 wx_756 (c_M_isIn l X _ _ _ _ _ (by omega) (by omega) (by omega)) rfl ⟨by decide, by decide, by decide, by decide⟩ (Nat.le_of_ble_eq_true rfl) rfl rfl ?_
  refine v_zif_eq (tgt := 24) (pc' := 10) F d_M_line_7 (by decide) rfl (fun c7 => ?_) (fun c7 => ?_)
  · refine v_iconst (pc' := 25) F d_M_line_24 rfl ?_
    refine v_iload_n (pc' := 26) (j := 1) F d_M_line_25 rfl rfl rfl ?_
    refine v_iload_n (pc' := 27) (j := 3) F d_M_line_26 rfl rfl rfl ?_
    refine v_callVM (pc' := 30) (C := zR_M) (T9 := zF_M) (N := 28) F d_M_line_27 rfl cal_M_has wx_873 wx_875 wp_29 rfl hM.1 (c_has_0 l X _ _ _ _ _ _ hM hfl hed hth (by omega) (by omega)) rfl ⟨by decide, by decide, by decide, by decide⟩ (Nat.le_of_ble_eq_true rfl) rfl rfl (fun h1 hM1 hF1 => ?_)
    refine v_if_ne (tgt := 35) (pc' := 33) F d_M_line_30 (by decide) rfl (by omega) (fun c30 => by exfalso; omega) (fun c30 => ?_)
    refine v_lconst (pc' := 34) (z := 0) F d_M_line_33 rfl (by decide) ?_
    refine v_lreturn F d_M_line_34 rfl (Nat.le_refl _) (Nat.le_refl _) ?_
    first | (rw [show sp_lineR M f k a w = (0, M 23 (80 * a + 4 * f + k) + M 24 (80 * a + 4 * f + k), M) from (if_pos (by omega)).trans (by rw [if_pos (by omega)])]; exact ⟨_, hM1, ((MF.rf).tr hF1), rfl, upM_ss.trans (by omega), eqv.note (Or.inl rfl), _, rfl, fun _ => rfl⟩) | (rw [show sp_lineR M f k a w = (0, M 23 (80 * a + 4 * f + k) + 0, M) from (if_pos (by omega)).trans (by rw [if_neg (by omega)])]; exact ⟨_, hM1, ((MF.rf).tr hF1), rfl, upM_ss.trans (by omega), eqv.note (Or.inl rfl), _, rfl, fun _ => rfl⟩) | (rw [show sp_lineR M f k a w = (sp_has M 1 f a, 0, M) from (if_neg (by omega)).trans (by rw [if_pos (by omega)])]; exact ⟨_, hM1, ((MF.rf).tr hF1), rfl, upM_ss, eqv.note (Or.inl rfl), 0, rfl, fun q => absurd (show sp_has M 1 f a = 0 from q) (by omega)⟩) | (rw [show sp_lineR M f k a w = (1, 0, M) from (if_neg (by omega)).trans (by rw [if_neg (by omega)])]; exact ⟨_, hM1, ((MF.rf).tr hF1), rfl, upM_ss, eqv.note (Or.inl rfl), 0, rfl, fun q => absurd (show (1 : Int) = 0 from q) (by decide)⟩)
  · refine v_iload (pc' := 12) F d_M_line_10 rfl rfl ?_
    refine v_iconst (pc' := 13) F d_M_line_12 rfl ?_
    refine v_iconst (pc' := 14) F d_M_line_13 rfl ?_
    refine v_callSP (pc' := 17) F d_M_line_14 rfl cal_M_isIn wx_755 wx_756 (c_M_isIn l X _ _ _ _ _ (by omega) (by omega) (by omega)) rfl ⟨by decide, by decide, by decide, by decide⟩ (Nat.le_of_ble_eq_true rfl) rfl rfl ?_
    refine v_zif_eq (tgt := 24) (pc' := 20) F d_M_line_17 (by decide) rfl (fun c17 => ?_) (fun c17 => ?_)
    · refine v_iconst (pc' := 25) F d_M_line_24 rfl ?_
      refine v_iload_n (pc' := 26) (j := 1) F d_M_line_25 rfl rfl rfl ?_
      refine v_iload_n (pc' := 27) (j := 3) F d_M_line_26 rfl rfl rfl ?_
      refine v_callVM (pc' := 30) (C := zR_M) (T9 := zF_M) (N := 28) F d_M_line_27 rfl cal_M_has wx_873 wx_875 wp_29 rfl hM.1 (c_has_0 l X _ _ _ _ _ _ hM hfl hed hth (by omega) (by omega)) rfl ⟨by decide, by decide, by decide, by decide⟩ (Nat.le_of_ble_eq_true rfl) rfl rfl (fun h2 hM2 hF2 => ?_)
      refine v_if_ne (tgt := 35) (pc' := 33) F d_M_line_30 (by decide) rfl (by omega) (fun c30 => by exfalso; omega) (fun c30 => ?_)
      refine v_lconst (pc' := 34) (z := 0) F d_M_line_33 rfl (by decide) ?_
      refine v_lreturn F d_M_line_34 rfl (Nat.le_refl _) (Nat.le_refl _) ?_
      first | (rw [show sp_lineR M f k a w = (0, M 23 (80 * a + 4 * f + k) + M 24 (80 * a + 4 * f + k), M) from (if_pos (by omega)).trans (by rw [if_pos (by omega)])]; exact ⟨_, hM2, ((MF.rf).tr hF2), rfl, upM_ss.trans (by omega), eqv.note (Or.inl rfl), _, rfl, fun _ => rfl⟩) | (rw [show sp_lineR M f k a w = (0, M 23 (80 * a + 4 * f + k) + 0, M) from (if_pos (by omega)).trans (by rw [if_neg (by omega)])]; exact ⟨_, hM2, ((MF.rf).tr hF2), rfl, upM_ss.trans (by omega), eqv.note (Or.inl rfl), _, rfl, fun _ => rfl⟩) | (rw [show sp_lineR M f k a w = (sp_has M 1 f a, 0, M) from (if_neg (by omega)).trans (by rw [if_pos (by omega)])]; exact ⟨_, hM2, ((MF.rf).tr hF2), rfl, upM_ss, eqv.note (Or.inl rfl), 0, rfl, fun q => absurd (show sp_has M 1 f a = 0 from q) (by omega)⟩) | (rw [show sp_lineR M f k a w = (1, 0, M) from (if_neg (by omega)).trans (by rw [if_neg (by omega)])]; exact ⟨_, hM2, ((MF.rf).tr hF2), rfl, upM_ss, eqv.note (Or.inl rfl), 0, rfl, fun q => absurd (show (1 : Int) = 0 from q) (by decide)⟩)
    · refine v_iconst (pc' := 21) F d_M_line_20 rfl ?_
      refine v_goto (tgt := 25) F d_M_line_21 (by decide) ?_
      refine v_iload_n (pc' := 26) (j := 1) F d_M_line_25 rfl rfl rfl ?_
      refine v_iload_n (pc' := 27) (j := 3) F d_M_line_26 rfl rfl rfl ?_
      refine v_callVM (pc' := 30) (C := zR_M) (T9 := zF_M) (N := 28) F d_M_line_27 rfl cal_M_has wx_873 wx_875 wp_29 rfl hM.1 (c_M_has l X _ _ _ _ _ _ _ hM hfl hed hth (by omega) (by omega) (by omega)) rfl ⟨by decide, by decide, by decide, by decide⟩ (Nat.le_of_ble_eq_true rfl) rfl rfl (fun h3 hM3 hF3 => ?_)
      refine v_zif_ne (tgt := 35) (pc' := 33) F d_M_line_30 (by decide) rfl (fun c30 => ?_) (fun c30 => ?_)
      · have q8 : (0 ≤ f ∧ f < M 1 0) ∧ 0 ≤ a ∧ a ≤ 9 := by unfold sp_has at c30; split at c30 <;> omega
        refine v_bipush (pc' := 37) F d_M_line_35 rfl (by decide) ?_
        refine v_iload_n (pc' := 38) (j := 3) F d_M_line_37 rfl rfl rfl ?_
        refine v_imul (pc' := 39) F d_M_line_38 rfl ?_
        refine v_iconst (pc' := 40) F d_M_line_39 rfl ?_
        refine v_iload_n (pc' := 41) (j := 1) F d_M_line_40 rfl rfl rfl ?_
        refine v_imul (pc' := 42) F d_M_line_41 rfl ?_
        refine v_iadd (pc' := 43) F d_M_line_42 rfl ?_
        refine v_iload_n (pc' := 44) (j := 2) F d_M_line_43 rfl rfl rfl ?_
        refine v_iadd (pc' := 45) F d_M_line_44 rfl ?_
        refine v_istore_5 (pc' := 47) F d_M_line_45 rfl rfl (by decide) ?_
        refine v_aload_n (pc' := 48) (j := 0) F d_M_line_47 rfl rfl rfl ?_
        refine v_getf (pc' := 51) (C := zR_M) (T := zF_M) (N := 28) (ref := "BillSharesModel") F d_M_line_48 rfl zi_M rfl 23 (by decide) wx_684 (Or.inl rfl) hM3.1 rfl ?_
        refine v_iload (pc' := 53) F d_M_line_51 rfl rfl ?_
        refine mg_23 (pc' := 54) F hM3 d_M_line_53 rfl (by omega) (by omega) ?_
        refine v_unl (by decide) ?_
        refine v_iload (pc' := 56) F d_M_line_54 rfl rfl ?_
        refine v_if_ne (tgt := 69) (pc' := 59) F d_M_line_56 (by decide) rfl (by omega) (fun c56 => ?_) (fun c56 => ?_)
        · refine v_lconst (pc' := 70) (z := 0) F d_M_line_69 rfl (by decide) ?_
          refine v_ladd (pc' := 71) F d_M_line_70 rfl ?_
          refine v_lreturn F d_M_line_71 rfl (Nat.le_refl _) (Nat.le_refl _) ?_
          first | (rw [show sp_lineR M f k a w = (0, M 23 (80 * a + 4 * f + k) + M 24 (80 * a + 4 * f + k), M) from (if_pos (by omega)).trans (by rw [if_pos (by omega)])]; exact ⟨_, hM3, ((MF.rf).tr hF3), rfl, upM_ss.trans (by omega), eqv.note (Or.inl rfl), _, rfl, fun _ => rfl⟩) | (rw [show sp_lineR M f k a w = (0, M 23 (80 * a + 4 * f + k) + 0, M) from (if_pos (by omega)).trans (by rw [if_neg (by omega)])]; exact ⟨_, hM3, ((MF.rf).tr hF3), rfl, upM_ss.trans (by omega), eqv.note (Or.inl rfl), _, rfl, fun _ => rfl⟩) | (rw [show sp_lineR M f k a w = (sp_has M 1 f a, 0, M) from (if_neg (by omega)).trans (by rw [if_pos (by omega)])]; exact ⟨_, hM3, ((MF.rf).tr hF3), rfl, upM_ss, eqv.note (Or.inl rfl), 0, rfl, fun q => absurd (show sp_has M 1 f a = 0 from q) (by omega)⟩) | (rw [show sp_lineR M f k a w = (1, 0, M) from (if_neg (by omega)).trans (by rw [if_neg (by omega)])]; exact ⟨_, hM3, ((MF.rf).tr hF3), rfl, upM_ss, eqv.note (Or.inl rfl), 0, rfl, fun q => absurd (show (1 : Int) = 0 from q) (by decide)⟩)
        · refine v_aload_n (pc' := 60) (j := 0) F d_M_line_59 rfl rfl rfl ?_
          refine v_getf (pc' := 63) (C := zR_M) (T := zF_M) (N := 28) (ref := "BillSharesModel") F d_M_line_60 rfl zi_M rfl 24 (by decide) wx_685 (Or.inl rfl) hM3.1 rfl ?_
          refine v_iload (pc' := 65) F d_M_line_63 rfl rfl ?_
          refine mg_24 (pc' := 66) F hM3 d_M_line_65 rfl (by omega) (by omega) ?_
          refine v_unl (by decide) ?_
          refine v_goto (tgt := 70) F d_M_line_66 (by decide) ?_
          refine v_ladd (pc' := 71) F d_M_line_70 rfl ?_
          refine v_lreturn F d_M_line_71 rfl (Nat.le_refl _) (Nat.le_refl _) ?_
          first | (rw [show sp_lineR M f k a w = (0, M 23 (80 * a + 4 * f + k) + M 24 (80 * a + 4 * f + k), M) from (if_pos (by omega)).trans (by rw [if_pos (by omega)])]; exact ⟨_, hM3, ((MF.rf).tr hF3), rfl, upM_ss.trans (by omega), eqv.note (Or.inl rfl), _, rfl, fun _ => rfl⟩) | (rw [show sp_lineR M f k a w = (0, M 23 (80 * a + 4 * f + k) + 0, M) from (if_pos (by omega)).trans (by rw [if_neg (by omega)])]; exact ⟨_, hM3, ((MF.rf).tr hF3), rfl, upM_ss.trans (by omega), eqv.note (Or.inl rfl), _, rfl, fun _ => rfl⟩) | (rw [show sp_lineR M f k a w = (sp_has M 1 f a, 0, M) from (if_neg (by omega)).trans (by rw [if_pos (by omega)])]; exact ⟨_, hM3, ((MF.rf).tr hF3), rfl, upM_ss, eqv.note (Or.inl rfl), 0, rfl, fun q => absurd (show sp_has M 1 f a = 0 from q) (by omega)⟩) | (rw [show sp_lineR M f k a w = (1, 0, M) from (if_neg (by omega)).trans (by rw [if_neg (by omega)])]; exact ⟨_, hM3, ((MF.rf).tr hF3), rfl, upM_ss, eqv.note (Or.inl rfl), 0, rfl, fun q => absurd (show (1 : Int) = 0 from q) (by decide)⟩)
      · refine v_lconst (pc' := 34) (z := 0) F d_M_line_33 rfl (by decide) ?_
        refine v_lreturn F d_M_line_34 rfl (Nat.le_refl _) (Nat.le_refl _) ?_
        first | (rw [show sp_lineR M f k a w = (0, M 23 (80 * a + 4 * f + k) + M 24 (80 * a + 4 * f + k), M) from (if_pos (by omega)).trans (by rw [if_pos (by omega)])]; exact ⟨_, hM3, ((MF.rf).tr hF3), rfl, upM_ss.trans (by omega), eqv.note (Or.inl rfl), _, rfl, fun _ => rfl⟩) | (rw [show sp_lineR M f k a w = (0, M 23 (80 * a + 4 * f + k) + 0, M) from (if_pos (by omega)).trans (by rw [if_neg (by omega)])]; exact ⟨_, hM3, ((MF.rf).tr hF3), rfl, upM_ss.trans (by omega), eqv.note (Or.inl rfl), _, rfl, fun _ => rfl⟩) | (rw [show sp_lineR M f k a w = (sp_has M 1 f a, 0, M) from (if_neg (by omega)).trans (by rw [if_pos (by omega)])]; exact ⟨_, hM3, ((MF.rf).tr hF3), rfl, upM_ss, eqv.note (Or.inl rfl), 0, rfl, fun q => absurd (show sp_has M 1 f a = 0 from q) (by omega)⟩) | (rw [show sp_lineR M f k a w = (1, 0, M) from (if_neg (by omega)).trans (by rw [if_neg (by omega)])]; exact ⟨_, hM3, ((MF.rf).tr hF3), rfl, upM_ss, eqv.note (Or.inl rfl), 0, rfl, fun q => absurd (show (1 : Int) = 0 from q) (by decide)⟩)
def sp_begin (M : MS) (f w a : Int) : Int := if 365 * a < M 5 (12 * f + w) then M 5 (12 * f + w) else 365 * a
def sp_till (M : MS) (f w a : Int) : Int := if w + 1 < M 4 f then M 5 (12 * f + w + 1) else 365 * a + 365
def sp_end (M : MS) (f w a : Int) : Int := if sp_till M f w a < 365 * a + 365 then sp_till M f w a else 365 * a + 365
def sp_days (M : MS) (f w a : Int) : Int := if sp_end M f w a - sp_begin M f w a < 0 then 0 else sp_end M f w a - sp_begin M f w a
set_option maxRecDepth 100000 in
set_option maxHeartbeats 4000000 in
theorem c_M_begin (l : Launch) (X : am_X) (h : am_H) (nx : Nat) (y : Nat) (M : MS) (f w a : Int) (hM : RepM y M h) (hfl : 0 ≤ M 1 0 ∧ M 1 0 ≤ 20) (hlv : ∀ f : Int, 0 ≤ f → f < M 1 0 → 1 ≤ M 4 f ∧ M 4 f ≤ 12) (hsi : ∀ i : Int, 0 ≤ i → i < 240 → 0 ≤ M 5 i ∧ M 5 i ≤ 3649) (hf : 0 ≤ f ∧ f < M 1 0) (hw : 0 ≤ w ∧ w < 12) (ry : 0 ≤ a ∧ a ≤ 9) : CnP l X y_M_begin ({ frames := 0, cells := 0, slots := 0, locals := 0 }) [.ref y, iV f, iV w, iV a] h nx (iV (sp_begin M f w a)) := by
  refine cn_of (k := 1) (L0 := [some (.ref y), some (iV f), some (iV w), some (iV a), none]) rfl wx_896 (Nat.le_of_ble_eq_true rfl) rfl (fun p e s m args below meth c F => ?_)
  have q1 := hsi (12 * f + w) (by omega) (by omega)
  refine v_aload_n (pc' := 1) (j := 0) F d_M_begin_0 rfl rfl rfl ?_
  refine v_getf (pc' := 4) (C := zR_M) (T := zF_M) (N := 28) (ref := "BillSharesModel") F d_M_begin_1 rfl zi_M rfl 5 (by decide) wx_666 (Or.inl rfl) hM.1 rfl ?_
  refine v_bipush (pc' := 6) F d_M_begin_4 rfl (by decide) ?_
  refine v_iload_n (pc' := 7) (j := 1) F d_M_begin_6 rfl rfl rfl ?_
  refine v_imul (pc' := 8) F d_M_begin_7 rfl ?_
  refine v_iload_n (pc' := 9) (j := 2) F d_M_begin_8 rfl rfl rfl ?_
  refine v_iadd (pc' := 10) F d_M_begin_9 rfl ?_
  refine mg_5 (pc' := 11) F hM d_M_begin_10 rfl (by omega) (by omega) ?_
  refine v_istore_4 (pc' := 13) F d_M_begin_11 rfl rfl (by decide) ?_
  refine v_iload (pc' := 15) F d_M_begin_13 rfl rfl ?_
  refine v_sipush (pc' := 18) F d_M_begin_15 rfl (by decide) ?_
  refine v_iload_n (pc' := 19) (j := 3) F d_M_begin_18 rfl rfl rfl ?_
  refine v_imul (pc' := 20) F d_M_begin_19 rfl ?_
  refine v_icmp_le (tgt := 28) (pc' := 23) F d_M_begin_20 (by decide) rfl (by omega) (by omega) (fun c20 => ?_) (fun c20 => ?_)
  · refine v_sipush (pc' := 31) F d_M_begin_28 rfl (by decide) ?_
    refine v_iload_n (pc' := 32) (j := 3) F d_M_begin_31 rfl rfl rfl ?_
    refine v_imul (pc' := 33) F d_M_begin_32 rfl ?_
    exact v_ireturn F rfl d_M_begin_33 rfl rfl (Nat.le_refl _) (Nat.le_refl _) ⟨by unfold sp_begin; first | rw [if_pos (by omega)] | rw [if_neg (by omega)], rfl, rfl⟩
  · refine v_iload (pc' := 25) F d_M_begin_23 rfl rfl ?_
    refine v_goto (tgt := 33) F d_M_begin_25 (by decide) ?_
    exact v_ireturn F rfl d_M_begin_33 rfl rfl (Nat.le_refl _) (Nat.le_refl _) ⟨by unfold sp_begin; first | rw [if_pos (by omega)] | rw [if_neg (by omega)], rfl, rfl⟩
set_option maxRecDepth 100000 in
set_option maxHeartbeats 4000000 in
theorem c_M_end (l : Launch) (X : am_X) (h : am_H) (nx : Nat) (y : Nat) (M : MS) (f w a : Int) (hM : RepM y M h) (hfl : 0 ≤ M 1 0 ∧ M 1 0 ≤ 20) (hlv : ∀ f : Int, 0 ≤ f → f < M 1 0 → 1 ≤ M 4 f ∧ M 4 f ≤ 12) (hsi : ∀ i : Int, 0 ≤ i → i < 240 → 0 ≤ M 5 i ∧ M 5 i ≤ 3649) (hf : 0 ≤ f ∧ f < M 1 0) (hw : 0 ≤ w ∧ w < 12) (ry : 0 ≤ a ∧ a ≤ 9) : CnP l X y_M_end ({ frames := 0, cells := 0, slots := 0, locals := 0 }) [.ref y, iV f, iV w, iV a] h nx (iV (sp_end M f w a)) := by
  refine cn_of (k := 1) (L0 := [some (.ref y), some (iV f), some (iV w), some (iV a), none]) rfl wx_892 (Nat.le_of_ble_eq_true rfl) rfl (fun p e s m args below meth c F => ?_)
  have q1 := hlv f hf.1 hf.2
  refine v_iload_n (pc' := 1) (j := 2) F d_M_end_0 rfl rfl rfl ?_
  refine v_iconst (pc' := 2) F d_M_end_1 rfl ?_
  refine v_iadd (pc' := 3) F d_M_end_2 rfl ?_
  refine v_aload_n (pc' := 4) (j := 0) F d_M_end_3 rfl rfl rfl ?_
  refine v_getf (pc' := 7) (C := zR_M) (T := zF_M) (N := 28) (ref := "BillSharesModel") F d_M_end_4 rfl zi_M rfl 4 (by decide) wx_665 (Or.inl rfl) hM.1 rfl ?_
  refine v_iload_n (pc' := 8) (j := 1) F d_M_end_7 rfl rfl rfl ?_
  refine mg_4 (pc' := 9) F hM d_M_end_8 rfl (by omega) (by omega) ?_
  refine v_icmp_ge (tgt := 28) (pc' := 12) F d_M_end_9 (by decide) rfl (by omega) (by omega) (fun c9 => ?_) (fun c9 => ?_)
  · refine v_sipush (pc' := 31) F d_M_end_28 rfl (by decide) ?_
    refine v_iload_n (pc' := 32) (j := 3) F d_M_end_31 rfl rfl rfl ?_
    refine v_imul (pc' := 33) F d_M_end_32 rfl ?_
    refine v_sipush (pc' := 36) F d_M_end_33 rfl (by decide) ?_
    refine v_iadd (pc' := 37) F d_M_end_36 rfl ?_
    first | have q2 := hsi (12 * f + w + 1) (by omega) (by omega) | skip
    refine v_istore_4 (pc' := 39) F d_M_end_37 rfl rfl (by decide) ?_
    refine v_iload (pc' := 41) F d_M_end_39 rfl rfl ?_
    refine v_sipush (pc' := 44) F d_M_end_41 rfl (by decide) ?_
    refine v_iload_n (pc' := 45) (j := 3) F d_M_end_44 rfl rfl rfl ?_
    refine v_imul (pc' := 46) F d_M_end_45 rfl ?_
    refine v_sipush (pc' := 49) F d_M_end_46 rfl (by decide) ?_
    refine v_iadd (pc' := 50) F d_M_end_49 rfl ?_
    refine v_icmp_ge (tgt := 58) (pc' := 53) F d_M_end_50 (by decide) rfl (by omega) (by omega) (fun c50 => ?_) (fun c50 => ?_)
    · refine v_sipush (pc' := 61) F d_M_end_58 rfl (by decide) ?_
      refine v_iload_n (pc' := 62) (j := 3) F d_M_end_61 rfl rfl rfl ?_
      refine v_imul (pc' := 63) F d_M_end_62 rfl ?_
      refine v_sipush (pc' := 66) F d_M_end_63 rfl (by decide) ?_
      refine v_iadd (pc' := 67) F d_M_end_66 rfl ?_
      exact v_ireturn F rfl d_M_end_67 rfl rfl (Nat.le_refl _) (Nat.le_refl _) ⟨by unfold sp_end sp_till; first | (exfalso; omega) | rw [if_pos (by omega : w + 1 < M 4 f), if_pos (by omega)] | rw [if_pos (by omega : w + 1 < M 4 f), if_neg (by omega)] | rw [if_neg (by omega : ¬ w + 1 < M 4 f), if_pos (by omega)] | rw [if_neg (by omega : ¬ w + 1 < M 4 f), if_neg (by omega)], rfl, rfl⟩
    · refine v_iload (pc' := 55) F d_M_end_53 rfl rfl ?_
      refine v_goto (tgt := 67) F d_M_end_55 (by decide) ?_
      exact v_ireturn F rfl d_M_end_67 rfl rfl (Nat.le_refl _) (Nat.le_refl _) ⟨by unfold sp_end sp_till; first | (exfalso; omega) | rw [if_pos (by omega : w + 1 < M 4 f), if_pos (by omega)] | rw [if_pos (by omega : w + 1 < M 4 f), if_neg (by omega)] | rw [if_neg (by omega : ¬ w + 1 < M 4 f), if_pos (by omega)] | rw [if_neg (by omega : ¬ w + 1 < M 4 f), if_neg (by omega)], rfl, rfl⟩
  · refine v_aload_n (pc' := 13) (j := 0) F d_M_end_12 rfl rfl rfl ?_
    refine v_getf (pc' := 16) (C := zR_M) (T := zF_M) (N := 28) (ref := "BillSharesModel") F d_M_end_13 rfl zi_M rfl 5 (by decide) wx_666 (Or.inl rfl) hM.1 rfl ?_
    refine v_bipush (pc' := 18) F d_M_end_16 rfl (by decide) ?_
    refine v_iload_n (pc' := 19) (j := 1) F d_M_end_18 rfl rfl rfl ?_
    refine v_imul (pc' := 20) F d_M_end_19 rfl ?_
    refine v_iload_n (pc' := 21) (j := 2) F d_M_end_20 rfl rfl rfl ?_
    refine v_iadd (pc' := 22) F d_M_end_21 rfl ?_
    refine v_iconst (pc' := 23) F d_M_end_22 rfl ?_
    refine v_iadd (pc' := 24) F d_M_end_23 rfl ?_
    refine mg_5 (pc' := 25) F hM d_M_end_24 rfl (by omega) (by omega) ?_
    refine v_goto (tgt := 37) F d_M_end_25 (by decide) ?_
    first | have q2 := hsi (12 * f + w + 1) (by omega) (by omega) | skip
    refine v_istore_4 (pc' := 39) F d_M_end_37 rfl rfl (by decide) ?_
    refine v_iload (pc' := 41) F d_M_end_39 rfl rfl ?_
    refine v_sipush (pc' := 44) F d_M_end_41 rfl (by decide) ?_
    refine v_iload_n (pc' := 45) (j := 3) F d_M_end_44 rfl rfl rfl ?_
    refine v_imul (pc' := 46) F d_M_end_45 rfl ?_
    refine v_sipush (pc' := 49) F d_M_end_46 rfl (by decide) ?_
    refine v_iadd (pc' := 50) F d_M_end_49 rfl ?_
    refine v_icmp_ge (tgt := 58) (pc' := 53) F d_M_end_50 (by decide) rfl (by omega) (by omega) (fun c50 => ?_) (fun c50 => ?_)
    · refine v_sipush (pc' := 61) F d_M_end_58 rfl (by decide) ?_
      refine v_iload_n (pc' := 62) (j := 3) F d_M_end_61 rfl rfl rfl ?_
      refine v_imul (pc' := 63) F d_M_end_62 rfl ?_
      refine v_sipush (pc' := 66) F d_M_end_63 rfl (by decide) ?_
      refine v_iadd (pc' := 67) F d_M_end_66 rfl ?_
      exact v_ireturn F rfl d_M_end_67 rfl rfl (Nat.le_refl _) (Nat.le_refl _) ⟨by unfold sp_end sp_till; first | (exfalso; omega) | rw [if_pos (by omega : w + 1 < M 4 f), if_pos (by omega)] | rw [if_pos (by omega : w + 1 < M 4 f), if_neg (by omega)] | rw [if_neg (by omega : ¬ w + 1 < M 4 f), if_pos (by omega)] | rw [if_neg (by omega : ¬ w + 1 < M 4 f), if_neg (by omega)], rfl, rfl⟩
    · refine v_iload (pc' := 55) F d_M_end_53 rfl rfl ?_
      refine v_goto (tgt := 67) F d_M_end_55 (by decide) ?_
      exact v_ireturn F rfl d_M_end_67 rfl rfl (Nat.le_refl _) (Nat.le_refl _) ⟨by unfold sp_end sp_till; first | (exfalso; omega) | rw [if_pos (by omega : w + 1 < M 4 f), if_pos (by omega)] | rw [if_pos (by omega : w + 1 < M 4 f), if_neg (by omega)] | rw [if_neg (by omega : ¬ w + 1 < M 4 f), if_pos (by omega)] | rw [if_neg (by omega : ¬ w + 1 < M 4 f), if_neg (by omega)], rfl, rfl⟩
theorem sp_begin_r {M : MS} {f w a : Int} (hsi : ∀ i : Int, 0 ≤ i → i < 240 → 0 ≤ M 5 i ∧ M 5 i ≤ 3649) (hf : 0 ≤ f ∧ f < 20) (hw : 0 ≤ w ∧ w < 12) (ry : 0 ≤ a ∧ a ≤ 9) : 365 * a ≤ sp_begin M f w a ∧ 0 ≤ sp_begin M f w a ∧ sp_begin M f w a ≤ 3649 := by
  have q1 := hsi (12 * f + w) (by omega) (by omega)
  unfold sp_begin
  split <;> omega
theorem sp_end_r {M : MS} {f w a : Int} (hfl : 0 ≤ M 1 0 ∧ M 1 0 ≤ 20) (hlv : ∀ f : Int, 0 ≤ f → f < M 1 0 → 1 ≤ M 4 f ∧ M 4 f ≤ 12) (hsi : ∀ i : Int, 0 ≤ i → i < 240 → 0 ≤ M 5 i ∧ M 5 i ≤ 3649) (hf : 0 ≤ f ∧ f < M 1 0) (hw : 0 ≤ w ∧ w < 12) (ry : 0 ≤ a ∧ a ≤ 9) : 0 ≤ sp_end M f w a ∧ sp_end M f w a ≤ 365 * a + 365 := by
  have q0 := hlv f hf.1 hf.2
  unfold sp_end sp_till
  by_cases h : w + 1 < M 4 f
  · have q1 := hsi (12 * f + w + 1) (by omega) (by omega)
    rw [if_pos h]
    split <;> omega
  · rw [if_neg h]
    split <;> omega
set_option maxRecDepth 100000 in
set_option maxHeartbeats 4000000 in
theorem c_M_days (l : Launch) (X : am_X) (h : am_H) (nx : Nat) (y : Nat) (M : MS) (f w a : Int) (hM : RepM y M h) (hfl : 0 ≤ M 1 0 ∧ M 1 0 ≤ 20) (hlv : ∀ f : Int, 0 ≤ f → f < M 1 0 → 1 ≤ M 4 f ∧ M 4 f ≤ 12) (hsi : ∀ i : Int, 0 ≤ i → i < 240 → 0 ≤ M 5 i ∧ M 5 i ≤ 3649) (hf : 0 ≤ f ∧ f < M 1 0) (hw : 0 ≤ w ∧ w < 12) (ry : 0 ≤ a ∧ a ≤ 9) : CnP l X y_M_days ({ frames := 1, cells := 0, slots := 0, locals := 24 }) [.ref y, iV f, iV w, iV a] h nx (iV (sp_days M f w a)) := by
  refine cn_of (k := 1) (L0 := [some (.ref y), some (iV f), some (iV w), some (iV a), none]) rfl wx_888 (Nat.le_of_ble_eq_true rfl) rfl (fun p e s m args below meth c F => ?_)
  have q1 := sp_begin_r (f := f) hsi (by omega) hw ry
  have q2 := sp_end_r hfl hlv hsi hf hw ry
  refine v_aload_n (pc' := 1) (j := 0) F d_M_days_0 rfl rfl rfl ?_
  refine v_iload_n (pc' := 2) (j := 1) F d_M_days_1 rfl rfl rfl ?_
  refine v_iload_n (pc' := 3) (j := 2) F d_M_days_2 rfl rfl rfl ?_
  refine v_iload_n (pc' := 4) (j := 3) F d_M_days_3 rfl rfl rfl ?_
  refine v_callVP (pc' := 7) (C := zR_M) (T9 := zF_M) (N := 28) F d_M_days_4 rfl cal_M_end wx_889 wx_891 wp_31 rfl hM.1 (c_M_end l X _ _ _ _ _ _ _ hM hfl hlv hsi hf hw ry) rfl ⟨by decide, by decide, by decide, by decide⟩ (Nat.le_of_ble_eq_true rfl) rfl rfl ?_
  refine v_aload_n (pc' := 8) (j := 0) F d_M_days_7 rfl rfl rfl ?_
  refine v_iload_n (pc' := 9) (j := 1) F d_M_days_8 rfl rfl rfl ?_
  refine v_iload_n (pc' := 10) (j := 2) F d_M_days_9 rfl rfl rfl ?_
  refine v_iload_n (pc' := 11) (j := 3) F d_M_days_10 rfl rfl rfl ?_
  refine v_callVP (pc' := 14) (C := zR_M) (T9 := zF_M) (N := 28) F d_M_days_11 rfl cal_M_begin wx_893 wx_895 wp_32 rfl hM.1 (c_M_begin l X _ _ _ _ _ _ _ hM hfl hlv hsi hf hw ry) rfl ⟨by decide, by decide, by decide, by decide⟩ (Nat.le_of_ble_eq_true rfl) rfl rfl ?_
  refine v_isub (pc' := 15) F d_M_days_14 rfl ?_
  refine v_istore_4 (pc' := 17) F d_M_days_15 rfl rfl (by decide) ?_
  refine v_iload (pc' := 19) F d_M_days_17 rfl rfl ?_
  refine v_if_ge (tgt := 26) (pc' := 22) F d_M_days_19 (by decide) rfl (by omega) (fun c19 => ?_) (fun c19 => ?_)
  · refine v_iload (pc' := 28) F d_M_days_26 rfl rfl ?_
    exact v_ireturn F rfl d_M_days_28 rfl rfl (Nat.le_refl _) (Nat.le_refl _) ⟨by unfold sp_days; first | rw [if_pos (by omega)] | rw [if_neg (by omega)], rfl, rfl⟩
  · refine v_iconst (pc' := 23) F d_M_days_22 rfl ?_
    refine v_goto (tgt := 28) F d_M_days_23 (by decide) ?_
    exact v_ireturn F rfl d_M_days_28 rfl rfl (Nat.le_refl _) (Nat.le_refl _) ⟨by unfold sp_days; first | rw [if_pos (by omega)] | rw [if_neg (by omega)], rfl, rfl⟩
