/-! flat, meter, moves of the reference (written by wip/whole/mm3.py) -/
def sp_flat (M : MS) (a r : Int) : Int × Int × MS := if 1 ≤ a ∧ a ≤ 1000 ∧ 0 ≤ r ∧ r ≤ 99 then (if M 1 0 < 20 then (0, M 1 0, upM (upM (upM (upM M 2 (M 1 0) a) 3 (M 1 0) r) 4 (M 1 0) 1) 1 0 (M 1 0 + 1)) else (2, 0, M)) else (1, 0, M)
set_option maxRecDepth 100000 in
set_option maxHeartbeats 4000000 in
theorem c_M_flat (l : Launch) (X : am_X) (h : am_H) (nx : Nat) (y : Nat) (M : MS) (a r : Int) (hM : RepM y M h) (hfl : 0 ≤ M 1 0 ∧ M 1 0 ≤ 20) (ra : -2147483648 ≤ a ∧ a < 2147483648) (rr : -2147483648 ≤ r ∧ r < 2147483648) : Cn l X y_M_flat ({ frames := 1, cells := 0, slots := 0, locals := 22 }) [.ref y, iV a, iV r] h nx (mpost y h nx iV (sp_flat M a r)) := by
  refine cn_of (k := 0) (L0 := [some (.ref y), some (iV a), some (iV r)]) rfl wx_754 (Nat.le_of_ble_eq_true rfl) rfl (fun p e s m args below meth c F => ?_)
  refine v_aload_n (pc' := 1) (j := 0) F d_M_flat_0 rfl rfl rfl ?_
  refine v_iload_n (pc' := 2) (j := 1) F d_M_flat_1 rfl rfl rfl ?_
  refine v_iconst (pc' := 3) F d_M_flat_2 rfl ?_
  refine v_sipush (pc' := 6) F d_M_flat_3 rfl (by decide) ?_
  refine v_callSP (pc' := 9) F d_M_flat_6 rfl cal_M_isIn wx_755 wx_756 (c_M_isIn l X _ _ _ _ _ (by omega) (by omega) (by omega)) rfl ⟨by decide, by decide, by decide, by decide⟩ (Nat.le_of_ble_eq_true rfl) rfl rfl ?_
  refine v_zif_eq (tgt := 26) (pc' := 12) F d_M_flat_9 (by decide) rfl (fun c9 => ?_) (fun c9 => ?_)
  · refine v_iconst (pc' := 27) F d_M_flat_26 rfl ?_
    refine v_aload_n (pc' := 28) (j := 0) F d_M_flat_27 rfl rfl rfl ?_
    refine v_getf (pc' := 31) (C := zR_M) (T := zF_M) (N := 28) (ref := "BillSharesModel") F d_M_flat_28 rfl zi_M rfl 1 (by decide) wx_662 (Or.inl rfl) hM.1 rfl ?_
    refine v_bipush (pc' := 33) F d_M_flat_31 rfl (by decide) ?_
    refine v_icmp_ge (tgt := 40) (pc' := 36) F d_M_flat_33 (by decide) rfl (by omega) (by omega) (fun c33 => ?_) (fun c33 => ?_)
    · refine v_iconst (pc' := 41) F d_M_flat_40 rfl ?_
      refine v_callVM (pc' := 44) (C := zR_M) (T9 := zF_M) (N := 28) F d_M_flat_41 rfl cal_M_allows wx_758 wx_760 wp_16 rfl hM.1 (c_allows_1 l X _ _ _ _ _ hM (by omega)) rfl ⟨by decide, by decide, by decide, by decide⟩ (Nat.le_of_ble_eq_true rfl) rfl rfl (fun h1 hM1 hF1 => ?_)
      refine v_if_ne (tgt := 49) (pc' := 47) F d_M_flat_44 (by decide) rfl (by omega) (fun c44 => by exfalso; omega) (fun c44 => ?_)
      refine v_iconst (pc' := 48) F d_M_flat_47 rfl ?_
      refine v_ireturn F rfl d_M_flat_48 rfl rfl (Nat.le_refl _) (Nat.le_refl _) ?_
      first | (rw [show sp_flat M a r = (1, 0, M) from if_neg (by omega)]; exact ⟨_, hM1, ((MF.rf).tr hF1), rfl, upM_ss, eqv.note (Or.inl rfl), 0, rfl, fun q => absurd (show (1 : Int) = 0 from q) (by decide)⟩) | (rw [show sp_flat M a r = (2, 0, M) from (if_pos (by omega)).trans (if_neg (by omega))]; exact ⟨_, hM1, ((MF.rf).tr hF1), rfl, upM_ss, eqv.note (Or.inl rfl), 0, rfl, fun q => absurd (show (2 : Int) = 0 from q) (by decide)⟩) | (rw [show sp_flat M a r = _ from (if_pos (by omega)).trans (if_pos (by omega))]; exact ⟨_, hM1, ((MF.rf).tr hF1), rfl, (by rw [upM_n (by decide)]; rw [upM_n (by decide)]; rw [upM_n (by decide)]; rw [upM_n (by decide)]; exact upM_ss), ((((eqv.note (Or.inl rfl)).up 2 _ _).up 3 _ _).up 4 _ _).up 1 _ _, _, rfl, fun _ => (by show M 1 0 + 1 - 1 = M 1 0; omega)⟩)
    · refine v_iconst (pc' := 37) F d_M_flat_36 rfl ?_
      refine v_goto (tgt := 41) F d_M_flat_37 (by decide) ?_
      refine v_callVM (pc' := 44) (C := zR_M) (T9 := zF_M) (N := 28) F d_M_flat_41 rfl cal_M_allows wx_758 wx_760 wp_16 rfl hM.1 (c_allows_1 l X _ _ _ _ _ hM (by omega)) rfl ⟨by decide, by decide, by decide, by decide⟩ (Nat.le_of_ble_eq_true rfl) rfl rfl (fun h2 hM2 hF2 => ?_)
      refine v_if_ne (tgt := 49) (pc' := 47) F d_M_flat_44 (by decide) rfl (by omega) (fun c44 => by exfalso; omega) (fun c44 => ?_)
      refine v_iconst (pc' := 48) F d_M_flat_47 rfl ?_
      refine v_ireturn F rfl d_M_flat_48 rfl rfl (Nat.le_refl _) (Nat.le_refl _) ?_
      first | (rw [show sp_flat M a r = (1, 0, M) from if_neg (by omega)]; exact ⟨_, hM2, ((MF.rf).tr hF2), rfl, upM_ss, eqv.note (Or.inl rfl), 0, rfl, fun q => absurd (show (1 : Int) = 0 from q) (by decide)⟩) | (rw [show sp_flat M a r = (2, 0, M) from (if_pos (by omega)).trans (if_neg (by omega))]; exact ⟨_, hM2, ((MF.rf).tr hF2), rfl, upM_ss, eqv.note (Or.inl rfl), 0, rfl, fun q => absurd (show (2 : Int) = 0 from q) (by decide)⟩) | (rw [show sp_flat M a r = _ from (if_pos (by omega)).trans (if_pos (by omega))]; exact ⟨_, hM2, ((MF.rf).tr hF2), rfl, (by rw [upM_n (by decide)]; rw [upM_n (by decide)]; rw [upM_n (by decide)]; rw [upM_n (by decide)]; exact upM_ss), ((((eqv.note (Or.inl rfl)).up 2 _ _).up 3 _ _).up 4 _ _).up 1 _ _, _, rfl, fun _ => (by show M 1 0 + 1 - 1 = M 1 0; omega)⟩)
  · refine v_iload_n (pc' := 13) (j := 2) F d_M_flat_12 rfl rfl rfl ?_
    refine v_iconst (pc' := 14) F d_M_flat_13 rfl ?_
    refine v_bipush (pc' := 16) F d_M_flat_14 rfl (by decide) ?_
    refine v_callSP (pc' := 19) F d_M_flat_16 rfl cal_M_isIn wx_755 wx_756 (c_M_isIn l X _ _ _ _ _ (by omega) (by omega) (by omega)) rfl ⟨by decide, by decide, by decide, by decide⟩ (Nat.le_of_ble_eq_true rfl) rfl rfl ?_
    refine v_zif_eq (tgt := 26) (pc' := 22) F d_M_flat_19 (by decide) rfl (fun c19 => ?_) (fun c19 => ?_)
    · refine v_iconst (pc' := 27) F d_M_flat_26 rfl ?_
      refine v_aload_n (pc' := 28) (j := 0) F d_M_flat_27 rfl rfl rfl ?_
      refine v_getf (pc' := 31) (C := zR_M) (T := zF_M) (N := 28) (ref := "BillSharesModel") F d_M_flat_28 rfl zi_M rfl 1 (by decide) wx_662 (Or.inl rfl) hM.1 rfl ?_
      refine v_bipush (pc' := 33) F d_M_flat_31 rfl (by decide) ?_
      refine v_icmp_ge (tgt := 40) (pc' := 36) F d_M_flat_33 (by decide) rfl (by omega) (by omega) (fun c33 => ?_) (fun c33 => ?_)
      · refine v_iconst (pc' := 41) F d_M_flat_40 rfl ?_
        refine v_callVM (pc' := 44) (C := zR_M) (T9 := zF_M) (N := 28) F d_M_flat_41 rfl cal_M_allows wx_758 wx_760 wp_16 rfl hM.1 (c_allows_1 l X _ _ _ _ _ hM (by omega)) rfl ⟨by decide, by decide, by decide, by decide⟩ (Nat.le_of_ble_eq_true rfl) rfl rfl (fun h3 hM3 hF3 => ?_)
        refine v_if_ne (tgt := 49) (pc' := 47) F d_M_flat_44 (by decide) rfl (by omega) (fun c44 => by exfalso; omega) (fun c44 => ?_)
        refine v_iconst (pc' := 48) F d_M_flat_47 rfl ?_
        refine v_ireturn F rfl d_M_flat_48 rfl rfl (Nat.le_refl _) (Nat.le_refl _) ?_
        first | (rw [show sp_flat M a r = (1, 0, M) from if_neg (by omega)]; exact ⟨_, hM3, ((MF.rf).tr hF3), rfl, upM_ss, eqv.note (Or.inl rfl), 0, rfl, fun q => absurd (show (1 : Int) = 0 from q) (by decide)⟩) | (rw [show sp_flat M a r = (2, 0, M) from (if_pos (by omega)).trans (if_neg (by omega))]; exact ⟨_, hM3, ((MF.rf).tr hF3), rfl, upM_ss, eqv.note (Or.inl rfl), 0, rfl, fun q => absurd (show (2 : Int) = 0 from q) (by decide)⟩) | (rw [show sp_flat M a r = _ from (if_pos (by omega)).trans (if_pos (by omega))]; exact ⟨_, hM3, ((MF.rf).tr hF3), rfl, (by rw [upM_n (by decide)]; rw [upM_n (by decide)]; rw [upM_n (by decide)]; rw [upM_n (by decide)]; exact upM_ss), ((((eqv.note (Or.inl rfl)).up 2 _ _).up 3 _ _).up 4 _ _).up 1 _ _, _, rfl, fun _ => (by show M 1 0 + 1 - 1 = M 1 0; omega)⟩)
      · refine v_iconst (pc' := 37) F d_M_flat_36 rfl ?_
        refine v_goto (tgt := 41) F d_M_flat_37 (by decide) ?_
        refine v_callVM (pc' := 44) (C := zR_M) (T9 := zF_M) (N := 28) F d_M_flat_41 rfl cal_M_allows wx_758 wx_760 wp_16 rfl hM.1 (c_allows_1 l X _ _ _ _ _ hM (by omega)) rfl ⟨by decide, by decide, by decide, by decide⟩ (Nat.le_of_ble_eq_true rfl) rfl rfl (fun h4 hM4 hF4 => ?_)
        refine v_if_ne (tgt := 49) (pc' := 47) F d_M_flat_44 (by decide) rfl (by omega) (fun c44 => by exfalso; omega) (fun c44 => ?_)
        refine v_iconst (pc' := 48) F d_M_flat_47 rfl ?_
        refine v_ireturn F rfl d_M_flat_48 rfl rfl (Nat.le_refl _) (Nat.le_refl _) ?_
        first | (rw [show sp_flat M a r = (1, 0, M) from if_neg (by omega)]; exact ⟨_, hM4, ((MF.rf).tr hF4), rfl, upM_ss, eqv.note (Or.inl rfl), 0, rfl, fun q => absurd (show (1 : Int) = 0 from q) (by decide)⟩) | (rw [show sp_flat M a r = (2, 0, M) from (if_pos (by omega)).trans (if_neg (by omega))]; exact ⟨_, hM4, ((MF.rf).tr hF4), rfl, upM_ss, eqv.note (Or.inl rfl), 0, rfl, fun q => absurd (show (2 : Int) = 0 from q) (by decide)⟩) | (rw [show sp_flat M a r = _ from (if_pos (by omega)).trans (if_pos (by omega))]; exact ⟨_, hM4, ((MF.rf).tr hF4), rfl, (by rw [upM_n (by decide)]; rw [upM_n (by decide)]; rw [upM_n (by decide)]; rw [upM_n (by decide)]; exact upM_ss), ((((eqv.note (Or.inl rfl)).up 2 _ _).up 3 _ _).up 4 _ _).up 1 _ _, _, rfl, fun _ => (by show M 1 0 + 1 - 1 = M 1 0; omega)⟩)
    · refine v_iconst (pc' := 23) F d_M_flat_22 rfl ?_
      refine v_goto (tgt := 27) F d_M_flat_23 (by decide) ?_
      refine v_aload_n (pc' := 28) (j := 0) F d_M_flat_27 rfl rfl rfl ?_
      refine v_getf (pc' := 31) (C := zR_M) (T := zF_M) (N := 28) (ref := "BillSharesModel") F d_M_flat_28 rfl zi_M rfl 1 (by decide) wx_662 (Or.inl rfl) hM.1 rfl ?_
      refine v_bipush (pc' := 33) F d_M_flat_31 rfl (by decide) ?_
      refine v_icmp_ge (tgt := 40) (pc' := 36) F d_M_flat_33 (by decide) rfl (by omega) (by omega) (fun c33 => ?_) (fun c33 => ?_)
      · refine v_iconst (pc' := 41) F d_M_flat_40 rfl ?_
        refine v_callVM (pc' := 44) (C := zR_M) (T9 := zF_M) (N := 28) F d_M_flat_41 rfl cal_M_allows wx_758 wx_760 wp_16 rfl hM.1 (c_allows_2 l X _ _ _ _ hM) rfl ⟨by decide, by decide, by decide, by decide⟩ (Nat.le_of_ble_eq_true rfl) rfl rfl (fun h5 hM5 hF5 => ?_)
        refine v_if_ne (tgt := 49) (pc' := 47) F d_M_flat_44 (by decide) rfl (by omega) (fun c44 => by exfalso; omega) (fun c44 => ?_)
        refine v_iconst (pc' := 48) F d_M_flat_47 rfl ?_
        refine v_ireturn F rfl d_M_flat_48 rfl rfl (Nat.le_refl _) (Nat.le_refl _) ?_
        first | (rw [show sp_flat M a r = (1, 0, M) from if_neg (by omega)]; exact ⟨_, hM5, ((MF.rf).tr hF5), rfl, upM_ss, eqv.note (Or.inl rfl), 0, rfl, fun q => absurd (show (1 : Int) = 0 from q) (by decide)⟩) | (rw [show sp_flat M a r = (2, 0, M) from (if_pos (by omega)).trans (if_neg (by omega))]; exact ⟨_, hM5, ((MF.rf).tr hF5), rfl, upM_ss, eqv.note (Or.inl rfl), 0, rfl, fun q => absurd (show (2 : Int) = 0 from q) (by decide)⟩) | (rw [show sp_flat M a r = _ from (if_pos (by omega)).trans (if_pos (by omega))]; exact ⟨_, hM5, ((MF.rf).tr hF5), rfl, (by rw [upM_n (by decide)]; rw [upM_n (by decide)]; rw [upM_n (by decide)]; rw [upM_n (by decide)]; exact upM_ss), ((((eqv.note (Or.inl rfl)).up 2 _ _).up 3 _ _).up 4 _ _).up 1 _ _, _, rfl, fun _ => (by show M 1 0 + 1 - 1 = M 1 0; omega)⟩)
      · refine v_iconst (pc' := 37) F d_M_flat_36 rfl ?_
        refine v_goto (tgt := 41) F d_M_flat_37 (by decide) ?_
        refine v_callVM (pc' := 44) (C := zR_M) (T9 := zF_M) (N := 28) F d_M_flat_41 rfl cal_M_allows wx_758 wx_760 wp_16 rfl hM.1 (c_allows_0 l X _ _ _ _ hM) rfl ⟨by decide, by decide, by decide, by decide⟩ (Nat.le_of_ble_eq_true rfl) rfl rfl (fun h6 hM6 hF6 => ?_)
        refine v_if_ne (tgt := 49) (pc' := 47) F d_M_flat_44 (by decide) rfl (by omega) (fun c44 => ?_) (fun c44 => by exfalso; omega)
        refine v_aload_n (pc' := 50) (j := 0) F d_M_flat_49 rfl rfl rfl ?_
        refine v_getf (pc' := 53) (C := zR_M) (T := zF_M) (N := 28) (ref := "BillSharesModel") F d_M_flat_50 rfl zi_M rfl 2 (by decide) wx_663 (Or.inl rfl) hM6.1 rfl ?_
        refine v_aload_n (pc' := 54) (j := 0) F d_M_flat_53 rfl rfl rfl ?_
        refine v_getf (pc' := 57) (C := zR_M) (T := zF_M) (N := 28) (ref := "BillSharesModel") F d_M_flat_54 rfl zi_M rfl 1 (by decide) wx_662 (Or.inl rfl) hM6.1 rfl ?_
        refine v_un (by decide) ?_
        refine v_iload_n (pc' := 58) (j := 1) F d_M_flat_57 rfl rfl rfl ?_
        refine mp_2 (pc' := 59) F hM6 d_M_flat_58 rfl (by omega) (by omega) (fun h7 hM7 hF7 => ?_)
        refine v_aload_n (pc' := 60) (j := 0) F d_M_flat_59 rfl rfl rfl ?_
        refine v_getf (pc' := 63) (C := zR_M) (T := zF_M) (N := 28) (ref := "BillSharesModel") F d_M_flat_60 rfl zi_M rfl 3 (by decide) wx_664 (Or.inl rfl) hM7.1 rfl ?_
        refine v_aload_n (pc' := 64) (j := 0) F d_M_flat_63 rfl rfl rfl ?_
        refine v_getf (pc' := 67) (C := zR_M) (T := zF_M) (N := 28) (ref := "BillSharesModel") F d_M_flat_64 rfl zi_M rfl 1 (by decide) wx_662 (Or.inl rfl) hM7.1 rfl ?_
        refine v_un (by decide) ?_
        refine v_un (by decide) ?_
        refine v_iload_n (pc' := 68) (j := 2) F d_M_flat_67 rfl rfl rfl ?_
        refine mp_3 (pc' := 69) F hM7 d_M_flat_68 rfl (by omega) (by omega) (fun h8 hM8 hF8 => ?_)
        refine v_aload_n (pc' := 70) (j := 0) F d_M_flat_69 rfl rfl rfl ?_
        refine v_getf (pc' := 73) (C := zR_M) (T := zF_M) (N := 28) (ref := "BillSharesModel") F d_M_flat_70 rfl zi_M rfl 4 (by decide) wx_665 (Or.inl rfl) hM8.1 rfl ?_
        refine v_aload_n (pc' := 74) (j := 0) F d_M_flat_73 rfl rfl rfl ?_
        refine v_getf (pc' := 77) (C := zR_M) (T := zF_M) (N := 28) (ref := "BillSharesModel") F d_M_flat_74 rfl zi_M rfl 1 (by decide) wx_662 (Or.inl rfl) hM8.1 rfl ?_
        refine v_un (by decide) ?_
        refine v_un (by decide) ?_
        refine v_un (by decide) ?_
        refine v_iconst (pc' := 78) F d_M_flat_77 rfl ?_
        refine mp_4 (pc' := 79) F hM8 d_M_flat_78 rfl (by omega) (by omega) (fun h9 hM9 hF9 => ?_)
        refine v_aload_n (pc' := 80) (j := 0) F d_M_flat_79 rfl rfl rfl ?_
        refine v_dup (pc' := 81) F d_M_flat_80 rfl rfl ?_
        refine v_getf (pc' := 84) (C := zR_M) (T := zF_M) (N := 28) (ref := "BillSharesModel") F d_M_flat_81 rfl zi_M rfl 1 (by decide) wx_662 (Or.inl rfl) hM9.1 rfl ?_
        refine v_un (by decide) ?_
        refine v_un (by decide) ?_
        refine v_un (by decide) ?_
        refine v_un (by decide) ?_
        refine v_iconst (pc' := 85) F d_M_flat_84 rfl ?_
        refine v_iadd (pc' := 86) F d_M_flat_85 rfl ?_
        refine mp_1 (pc' := 89) F hM9 d_M_flat_86 rfl wx_662 (fun h10 hM10 hF10 => ?_)
        refine v_aload_n (pc' := 90) (j := 0) F d_M_flat_89 rfl rfl rfl ?_
        refine v_getf (pc' := 93) (C := zR_M) (T := zF_M) (N := 28) (ref := "BillSharesModel") F d_M_flat_90 rfl zi_M rfl 1 (by decide) wx_662 (Or.inl rfl) hM10.1 rfl ?_
        refine v_us ?_
        refine v_iconst (pc' := 94) F d_M_flat_93 rfl ?_
        refine v_isub (pc' := 95) F d_M_flat_94 rfl ?_
        refine v_ireturn F rfl d_M_flat_95 rfl rfl (Nat.le_refl _) (Nat.le_refl _) ?_
        first | (rw [show sp_flat M a r = (1, 0, M) from if_neg (by omega)]; exact ⟨_, hM10, ((((((((((MF.rf).tr hF6)).tr hF7)).tr hF8)).tr hF9)).tr hF10), rfl, upM_ss, eqv.note (Or.inl rfl), 0, rfl, fun q => absurd (show (1 : Int) = 0 from q) (by decide)⟩) | (rw [show sp_flat M a r = (2, 0, M) from (if_pos (by omega)).trans (if_neg (by omega))]; exact ⟨_, hM10, ((((((((((MF.rf).tr hF6)).tr hF7)).tr hF8)).tr hF9)).tr hF10), rfl, upM_ss, eqv.note (Or.inl rfl), 0, rfl, fun q => absurd (show (2 : Int) = 0 from q) (by decide)⟩) | (rw [show sp_flat M a r = _ from (if_pos (by omega)).trans (if_pos (by omega))]; exact ⟨_, hM10, ((((((((((MF.rf).tr hF6)).tr hF7)).tr hF8)).tr hF9)).tr hF10), rfl, (by rw [upM_n (by decide)]; rw [upM_n (by decide)]; rw [upM_n (by decide)]; rw [upM_n (by decide)]; exact upM_ss), ((((eqv.note (Or.inl rfl)).up 2 _ _).up 3 _ _).up 4 _ _).up 1 _ _, _, rfl, fun _ => (by show M 1 0 + 1 - 1 = M 1 0; omega)⟩)
def sp_meter (M : MS) (f k a b t : Int) : Int × Int × MS := if 0 ≤ f ∧ f < M 1 0 ∧ 0 ≤ k ∧ k ≤ 3 ∧ 1 ≤ a ∧ a ≤ 1000 ∧ 1 ≤ b ∧ b ≤ 1000 ∧ 0 ≤ t ∧ t ≤ 3649 then (if M 7 0 < 60 then (0, M 7 0, upM (upM (upM (upM (upM (upM M 8 (M 7 0) f) 9 (M 7 0) k) 10 (M 7 0) a) 11 (M 7 0) b) 12 (M 7 0) t) 7 0 (M 7 0 + 1)) else (2, 0, M)) else (1, 0, M)
set_option maxRecDepth 100000 in
set_option maxHeartbeats 4000000 in
theorem c_M_meter (l : Launch) (X : am_X) (h : am_H) (nx : Nat) (y : Nat) (M : MS) (f k a b t : Int) (hM : RepM y M h) (hfl : 0 ≤ M 1 0 ∧ M 1 0 ≤ 20) (hme : 0 ≤ M 7 0 ∧ M 7 0 ≤ 60) (rf : -2147483648 ≤ f ∧ f < 2147483648) (rk : -2147483648 ≤ k ∧ k < 2147483648) (ra : -2147483648 ≤ a ∧ a < 2147483648) (rb : -2147483648 ≤ b ∧ b < 2147483648) (rt : -2147483648 ≤ t ∧ t < 2147483648) : Cn l X y_M_meter ({ frames := 1, cells := 0, slots := 0, locals := 22 }) [.ref y, iV f, iV k, iV a, iV b, iV t] h nx (mpost y h nx iV (sp_meter M f k a b t)) := by
  refine cn_of (k := 1) (L0 := [some (.ref y), some (iV f), some (iV k), some (iV a), some (iV b), some (iV t), none]) rfl wx_765 (Nat.le_of_ble_eq_true rfl) rfl (fun p e s m args below meth c F => ?_)
  refine v_aload_n (pc' := 1) (j := 0) F d_M_meter_0 rfl rfl rfl ?_
  refine v_iload_n (pc' := 2) (j := 1) F d_M_meter_1 rfl rfl rfl ?_
  refine v_callVP (pc' := 5) (C := zR_M) (T9 := zF_M) (N := 28) F d_M_meter_2 rfl cal_M_isFlat wx_766 wx_768 wp_17 rfl hM.1 (c_M_isFlat l X _ _ _ _ _ hM hfl (by omega)) rfl ⟨by decide, by decide, by decide, by decide⟩ (Nat.le_of_ble_eq_true rfl) rfl rfl ?_
  refine v_zif_eq (tgt := 56) (pc' := 8) F d_M_meter_5 (by decide) rfl (fun c5 => ?_) (fun c5 => ?_)
  · refine v_iconst (pc' := 57) F d_M_meter_56 rfl ?_
    refine v_istore_6 (pc' := 59) F d_M_meter_57 rfl rfl (by decide) ?_
    refine v_aload_n (pc' := 60) (j := 0) F d_M_meter_59 rfl rfl rfl ?_
    refine v_iload (pc' := 62) F d_M_meter_60 rfl rfl ?_
    refine v_aload_n (pc' := 63) (j := 0) F d_M_meter_62 rfl rfl rfl ?_
    refine v_getf (pc' := 66) (C := zR_M) (T := zF_M) (N := 28) (ref := "BillSharesModel") F d_M_meter_63 rfl zi_M rfl 7 (by decide) wx_668 (Or.inl rfl) hM.1 rfl ?_
    refine v_bipush (pc' := 68) F d_M_meter_66 rfl (by decide) ?_
    refine v_icmp_ge (tgt := 75) (pc' := 71) F d_M_meter_68 (by decide) rfl (by omega) (by omega) (fun c68 => ?_) (fun c68 => ?_)
    · refine v_iconst (pc' := 76) F d_M_meter_75 rfl ?_
      refine v_callVM (pc' := 79) (C := zR_M) (T9 := zF_M) (N := 28) F d_M_meter_76 rfl cal_M_allows wx_758 wx_760 wp_16 rfl hM.1 (c_allows_1 l X _ _ _ _ _ hM (by omega)) rfl ⟨by decide, by decide, by decide, by decide⟩ (Nat.le_of_ble_eq_true rfl) rfl rfl (fun h1 hM1 hF1 => ?_)
      refine v_if_ne (tgt := 84) (pc' := 82) F d_M_meter_79 (by decide) rfl (by omega) (fun c79 => by exfalso; omega) (fun c79 => ?_)
      refine v_iconst (pc' := 83) F d_M_meter_82 rfl ?_
      refine v_ireturn F rfl d_M_meter_83 rfl rfl (Nat.le_refl _) (Nat.le_refl _) ?_
      first | (rw [show sp_meter M f k a b t = (1, 0, M) from if_neg (by omega)]; exact ⟨_, hM1, ((MF.rf).tr hF1), rfl, upM_ss, eqv.note (Or.inl rfl), 0, rfl, fun q => absurd (show (1 : Int) = 0 from q) (by decide)⟩) | (rw [show sp_meter M f k a b t = (2, 0, M) from (if_pos (by omega)).trans (if_neg (by omega))]; exact ⟨_, hM1, ((MF.rf).tr hF1), rfl, upM_ss, eqv.note (Or.inl rfl), 0, rfl, fun q => absurd (show (2 : Int) = 0 from q) (by decide)⟩) | (rw [show sp_meter M f k a b t = _ from (if_pos (by omega)).trans (if_pos (by omega))]; exact ⟨_, hM1, ((MF.rf).tr hF1), rfl, (by rw [upM_n (by decide)]; rw [upM_n (by decide)]; rw [upM_n (by decide)]; rw [upM_n (by decide)]; rw [upM_n (by decide)]; rw [upM_n (by decide)]; exact upM_ss), ((((((eqv.note (Or.inl rfl)).up 8 _ _).up 9 _ _).up 10 _ _).up 11 _ _).up 12 _ _).up 7 _ _, _, rfl, fun _ => (by show M 7 0 + 1 - 1 = M 7 0; omega)⟩)
    · refine v_iconst (pc' := 72) F d_M_meter_71 rfl ?_
      refine v_goto (tgt := 76) F d_M_meter_72 (by decide) ?_
      refine v_callVM (pc' := 79) (C := zR_M) (T9 := zF_M) (N := 28) F d_M_meter_76 rfl cal_M_allows wx_758 wx_760 wp_16 rfl hM.1 (c_allows_1 l X _ _ _ _ _ hM (by omega)) rfl ⟨by decide, by decide, by decide, by decide⟩ (Nat.le_of_ble_eq_true rfl) rfl rfl (fun h2 hM2 hF2 => ?_)
      refine v_if_ne (tgt := 84) (pc' := 82) F d_M_meter_79 (by decide) rfl (by omega) (fun c79 => by exfalso; omega) (fun c79 => ?_)
      refine v_iconst (pc' := 83) F d_M_meter_82 rfl ?_
      refine v_ireturn F rfl d_M_meter_83 rfl rfl (Nat.le_refl _) (Nat.le_refl _) ?_
      first | (rw [show sp_meter M f k a b t = (1, 0, M) from if_neg (by omega)]; exact ⟨_, hM2, ((MF.rf).tr hF2), rfl, upM_ss, eqv.note (Or.inl rfl), 0, rfl, fun q => absurd (show (1 : Int) = 0 from q) (by decide)⟩) | (rw [show sp_meter M f k a b t = (2, 0, M) from (if_pos (by omega)).trans (if_neg (by omega))]; exact ⟨_, hM2, ((MF.rf).tr hF2), rfl, upM_ss, eqv.note (Or.inl rfl), 0, rfl, fun q => absurd (show (2 : Int) = 0 from q) (by decide)⟩) | (rw [show sp_meter M f k a b t = _ from (if_pos (by omega)).trans (if_pos (by omega))]; exact ⟨_, hM2, ((MF.rf).tr hF2), rfl, (by rw [upM_n (by decide)]; rw [upM_n (by decide)]; rw [upM_n (by decide)]; rw [upM_n (by decide)]; rw [upM_n (by decide)]; rw [upM_n (by decide)]; exact upM_ss), ((((((eqv.note (Or.inl rfl)).up 8 _ _).up 9 _ _).up 10 _ _).up 11 _ _).up 12 _ _).up 7 _ _, _, rfl, fun _ => (by show M 7 0 + 1 - 1 = M 7 0; omega)⟩)
  · refine v_iload_n (pc' := 9) (j := 2) F d_M_meter_8 rfl rfl rfl ?_
    refine v_iconst (pc' := 10) F d_M_meter_9 rfl ?_
    refine v_iconst (pc' := 11) F d_M_meter_10 rfl ?_
    refine v_callSP (pc' := 14) F d_M_meter_11 rfl cal_M_isIn wx_755 wx_756 (c_M_isIn l X _ _ _ _ _ (by omega) (by omega) (by omega)) rfl ⟨by decide, by decide, by decide, by decide⟩ (Nat.le_of_ble_eq_true rfl) rfl rfl ?_
    refine v_zif_eq (tgt := 56) (pc' := 17) F d_M_meter_14 (by decide) rfl (fun c14 => ?_) (fun c14 => ?_)
    · refine v_iconst (pc' := 57) F d_M_meter_56 rfl ?_
      refine v_istore_6 (pc' := 59) F d_M_meter_57 rfl rfl (by decide) ?_
      refine v_aload_n (pc' := 60) (j := 0) F d_M_meter_59 rfl rfl rfl ?_
      refine v_iload (pc' := 62) F d_M_meter_60 rfl rfl ?_
      refine v_aload_n (pc' := 63) (j := 0) F d_M_meter_62 rfl rfl rfl ?_
      refine v_getf (pc' := 66) (C := zR_M) (T := zF_M) (N := 28) (ref := "BillSharesModel") F d_M_meter_63 rfl zi_M rfl 7 (by decide) wx_668 (Or.inl rfl) hM.1 rfl ?_
      refine v_bipush (pc' := 68) F d_M_meter_66 rfl (by decide) ?_
      refine v_icmp_ge (tgt := 75) (pc' := 71) F d_M_meter_68 (by decide) rfl (by omega) (by omega) (fun c68 => ?_) (fun c68 => ?_)
      · refine v_iconst (pc' := 76) F d_M_meter_75 rfl ?_
        refine v_callVM (pc' := 79) (C := zR_M) (T9 := zF_M) (N := 28) F d_M_meter_76 rfl cal_M_allows wx_758 wx_760 wp_16 rfl hM.1 (c_allows_1 l X _ _ _ _ _ hM (by omega)) rfl ⟨by decide, by decide, by decide, by decide⟩ (Nat.le_of_ble_eq_true rfl) rfl rfl (fun h3 hM3 hF3 => ?_)
        refine v_if_ne (tgt := 84) (pc' := 82) F d_M_meter_79 (by decide) rfl (by omega) (fun c79 => by exfalso; omega) (fun c79 => ?_)
        refine v_iconst (pc' := 83) F d_M_meter_82 rfl ?_
        refine v_ireturn F rfl d_M_meter_83 rfl rfl (Nat.le_refl _) (Nat.le_refl _) ?_
        first | (rw [show sp_meter M f k a b t = (1, 0, M) from if_neg (by omega)]; exact ⟨_, hM3, ((MF.rf).tr hF3), rfl, upM_ss, eqv.note (Or.inl rfl), 0, rfl, fun q => absurd (show (1 : Int) = 0 from q) (by decide)⟩) | (rw [show sp_meter M f k a b t = (2, 0, M) from (if_pos (by omega)).trans (if_neg (by omega))]; exact ⟨_, hM3, ((MF.rf).tr hF3), rfl, upM_ss, eqv.note (Or.inl rfl), 0, rfl, fun q => absurd (show (2 : Int) = 0 from q) (by decide)⟩) | (rw [show sp_meter M f k a b t = _ from (if_pos (by omega)).trans (if_pos (by omega))]; exact ⟨_, hM3, ((MF.rf).tr hF3), rfl, (by rw [upM_n (by decide)]; rw [upM_n (by decide)]; rw [upM_n (by decide)]; rw [upM_n (by decide)]; rw [upM_n (by decide)]; rw [upM_n (by decide)]; exact upM_ss), ((((((eqv.note (Or.inl rfl)).up 8 _ _).up 9 _ _).up 10 _ _).up 11 _ _).up 12 _ _).up 7 _ _, _, rfl, fun _ => (by show M 7 0 + 1 - 1 = M 7 0; omega)⟩)
      · refine v_iconst (pc' := 72) F d_M_meter_71 rfl ?_
        refine v_goto (tgt := 76) F d_M_meter_72 (by decide) ?_
        refine v_callVM (pc' := 79) (C := zR_M) (T9 := zF_M) (N := 28) F d_M_meter_76 rfl cal_M_allows wx_758 wx_760 wp_16 rfl hM.1 (c_allows_1 l X _ _ _ _ _ hM (by omega)) rfl ⟨by decide, by decide, by decide, by decide⟩ (Nat.le_of_ble_eq_true rfl) rfl rfl (fun h4 hM4 hF4 => ?_)
        refine v_if_ne (tgt := 84) (pc' := 82) F d_M_meter_79 (by decide) rfl (by omega) (fun c79 => by exfalso; omega) (fun c79 => ?_)
        refine v_iconst (pc' := 83) F d_M_meter_82 rfl ?_
        refine v_ireturn F rfl d_M_meter_83 rfl rfl (Nat.le_refl _) (Nat.le_refl _) ?_
        first | (rw [show sp_meter M f k a b t = (1, 0, M) from if_neg (by omega)]; exact ⟨_, hM4, ((MF.rf).tr hF4), rfl, upM_ss, eqv.note (Or.inl rfl), 0, rfl, fun q => absurd (show (1 : Int) = 0 from q) (by decide)⟩) | (rw [show sp_meter M f k a b t = (2, 0, M) from (if_pos (by omega)).trans (if_neg (by omega))]; exact ⟨_, hM4, ((MF.rf).tr hF4), rfl, upM_ss, eqv.note (Or.inl rfl), 0, rfl, fun q => absurd (show (2 : Int) = 0 from q) (by decide)⟩) | (rw [show sp_meter M f k a b t = _ from (if_pos (by omega)).trans (if_pos (by omega))]; exact ⟨_, hM4, ((MF.rf).tr hF4), rfl, (by rw [upM_n (by decide)]; rw [upM_n (by decide)]; rw [upM_n (by decide)]; rw [upM_n (by decide)]; rw [upM_n (by decide)]; rw [upM_n (by decide)]; exact upM_ss), ((((((eqv.note (Or.inl rfl)).up 8 _ _).up 9 _ _).up 10 _ _).up 11 _ _).up 12 _ _).up 7 _ _, _, rfl, fun _ => (by show M 7 0 + 1 - 1 = M 7 0; omega)⟩)
    · refine v_iload_n (pc' := 18) (j := 3) F d_M_meter_17 rfl rfl rfl ?_
      refine v_iconst (pc' := 19) F d_M_meter_18 rfl ?_
      refine v_sipush (pc' := 22) F d_M_meter_19 rfl (by decide) ?_
      refine v_callSP (pc' := 25) F d_M_meter_22 rfl cal_M_isIn wx_755 wx_756 (c_M_isIn l X _ _ _ _ _ (by omega) (by omega) (by omega)) rfl ⟨by decide, by decide, by decide, by decide⟩ (Nat.le_of_ble_eq_true rfl) rfl rfl ?_
      refine v_zif_eq (tgt := 56) (pc' := 28) F d_M_meter_25 (by decide) rfl (fun c25 => ?_) (fun c25 => ?_)
      · refine v_iconst (pc' := 57) F d_M_meter_56 rfl ?_
        refine v_istore_6 (pc' := 59) F d_M_meter_57 rfl rfl (by decide) ?_
        refine v_aload_n (pc' := 60) (j := 0) F d_M_meter_59 rfl rfl rfl ?_
        refine v_iload (pc' := 62) F d_M_meter_60 rfl rfl ?_
        refine v_aload_n (pc' := 63) (j := 0) F d_M_meter_62 rfl rfl rfl ?_
        refine v_getf (pc' := 66) (C := zR_M) (T := zF_M) (N := 28) (ref := "BillSharesModel") F d_M_meter_63 rfl zi_M rfl 7 (by decide) wx_668 (Or.inl rfl) hM.1 rfl ?_
        refine v_bipush (pc' := 68) F d_M_meter_66 rfl (by decide) ?_
        refine v_icmp_ge (tgt := 75) (pc' := 71) F d_M_meter_68 (by decide) rfl (by omega) (by omega) (fun c68 => ?_) (fun c68 => ?_)
        · refine v_iconst (pc' := 76) F d_M_meter_75 rfl ?_
          refine v_callVM (pc' := 79) (C := zR_M) (T9 := zF_M) (N := 28) F d_M_meter_76 rfl cal_M_allows wx_758 wx_760 wp_16 rfl hM.1 (c_allows_1 l X _ _ _ _ _ hM (by omega)) rfl ⟨by decide, by decide, by decide, by decide⟩ (Nat.le_of_ble_eq_true rfl) rfl rfl (fun h5 hM5 hF5 => ?_)
          refine v_if_ne (tgt := 84) (pc' := 82) F d_M_meter_79 (by decide) rfl (by omega) (fun c79 => by exfalso; omega) (fun c79 => ?_)
          refine v_iconst (pc' := 83) F d_M_meter_82 rfl ?_
          refine v_ireturn F rfl d_M_meter_83 rfl rfl (Nat.le_refl _) (Nat.le_refl _) ?_
          first | (rw [show sp_meter M f k a b t = (1, 0, M) from if_neg (by omega)]; exact ⟨_, hM5, ((MF.rf).tr hF5), rfl, upM_ss, eqv.note (Or.inl rfl), 0, rfl, fun q => absurd (show (1 : Int) = 0 from q) (by decide)⟩) | (rw [show sp_meter M f k a b t = (2, 0, M) from (if_pos (by omega)).trans (if_neg (by omega))]; exact ⟨_, hM5, ((MF.rf).tr hF5), rfl, upM_ss, eqv.note (Or.inl rfl), 0, rfl, fun q => absurd (show (2 : Int) = 0 from q) (by decide)⟩) | (rw [show sp_meter M f k a b t = _ from (if_pos (by omega)).trans (if_pos (by omega))]; exact ⟨_, hM5, ((MF.rf).tr hF5), rfl, (by rw [upM_n (by decide)]; rw [upM_n (by decide)]; rw [upM_n (by decide)]; rw [upM_n (by decide)]; rw [upM_n (by decide)]; rw [upM_n (by decide)]; exact upM_ss), ((((((eqv.note (Or.inl rfl)).up 8 _ _).up 9 _ _).up 10 _ _).up 11 _ _).up 12 _ _).up 7 _ _, _, rfl, fun _ => (by show M 7 0 + 1 - 1 = M 7 0; omega)⟩)
        · refine v_iconst (pc' := 72) F d_M_meter_71 rfl ?_
          refine v_goto (tgt := 76) F d_M_meter_72 (by decide) ?_
          refine v_callVM (pc' := 79) (C := zR_M) (T9 := zF_M) (N := 28) F d_M_meter_76 rfl cal_M_allows wx_758 wx_760 wp_16 rfl hM.1 (c_allows_1 l X _ _ _ _ _ hM (by omega)) rfl ⟨by decide, by decide, by decide, by decide⟩ (Nat.le_of_ble_eq_true rfl) rfl rfl (fun h6 hM6 hF6 => ?_)
          refine v_if_ne (tgt := 84) (pc' := 82) F d_M_meter_79 (by decide) rfl (by omega) (fun c79 => by exfalso; omega) (fun c79 => ?_)
          refine v_iconst (pc' := 83) F d_M_meter_82 rfl ?_
          refine v_ireturn F rfl d_M_meter_83 rfl rfl (Nat.le_refl _) (Nat.le_refl _) ?_
          first | (rw [show sp_meter M f k a b t = (1, 0, M) from if_neg (by omega)]; exact ⟨_, hM6, ((MF.rf).tr hF6), rfl, upM_ss, eqv.note (Or.inl rfl), 0, rfl, fun q => absurd (show (1 : Int) = 0 from q) (by decide)⟩) | (rw [show sp_meter M f k a b t = (2, 0, M) from (if_pos (by omega)).trans (if_neg (by omega))]; exact ⟨_, hM6, ((MF.rf).tr hF6), rfl, upM_ss, eqv.note (Or.inl rfl), 0, rfl, fun q => absurd (show (2 : Int) = 0 from q) (by decide)⟩) | (rw [show sp_meter M f k a b t = _ from (if_pos (by omega)).trans (if_pos (by omega))]; exact ⟨_, hM6, ((MF.rf).tr hF6), rfl, (by rw [upM_n (by decide)]; rw [upM_n (by decide)]; rw [upM_n (by decide)]; rw [upM_n (by decide)]; rw [upM_n (by decide)]; rw [upM_n (by decide)]; exact upM_ss), ((((((eqv.note (Or.inl rfl)).up 8 _ _).up 9 _ _).up 10 _ _).up 11 _ _).up 12 _ _).up 7 _ _, _, rfl, fun _ => (by show M 7 0 + 1 - 1 = M 7 0; omega)⟩)
      · refine v_iload (pc' := 30) F d_M_meter_28 rfl rfl ?_
        refine v_iconst (pc' := 31) F d_M_meter_30 rfl ?_
        refine v_sipush (pc' := 34) F d_M_meter_31 rfl (by decide) ?_
        refine v_callSP (pc' := 37) F d_M_meter_34 rfl cal_M_isIn wx_755 wx_756 (c_M_isIn l X _ _ _ _ _ (by omega) (by omega) (by omega)) rfl ⟨by decide, by decide, by decide, by decide⟩ (Nat.le_of_ble_eq_true rfl) rfl rfl ?_
        refine v_zif_eq (tgt := 56) (pc' := 40) F d_M_meter_37 (by decide) rfl (fun c37 => ?_) (fun c37 => ?_)
        · refine v_iconst (pc' := 57) F d_M_meter_56 rfl ?_
          refine v_istore_6 (pc' := 59) F d_M_meter_57 rfl rfl (by decide) ?_
          refine v_aload_n (pc' := 60) (j := 0) F d_M_meter_59 rfl rfl rfl ?_
          refine v_iload (pc' := 62) F d_M_meter_60 rfl rfl ?_
          refine v_aload_n (pc' := 63) (j := 0) F d_M_meter_62 rfl rfl rfl ?_
          refine v_getf (pc' := 66) (C := zR_M) (T := zF_M) (N := 28) (ref := "BillSharesModel") F d_M_meter_63 rfl zi_M rfl 7 (by decide) wx_668 (Or.inl rfl) hM.1 rfl ?_
          refine v_bipush (pc' := 68) F d_M_meter_66 rfl (by decide) ?_
          refine v_icmp_ge (tgt := 75) (pc' := 71) F d_M_meter_68 (by decide) rfl (by omega) (by omega) (fun c68 => ?_) (fun c68 => ?_)
          · refine v_iconst (pc' := 76) F d_M_meter_75 rfl ?_
            refine v_callVM (pc' := 79) (C := zR_M) (T9 := zF_M) (N := 28) F d_M_meter_76 rfl cal_M_allows wx_758 wx_760 wp_16 rfl hM.1 (c_allows_1 l X _ _ _ _ _ hM (by omega)) rfl ⟨by decide, by decide, by decide, by decide⟩ (Nat.le_of_ble_eq_true rfl) rfl rfl (fun h7 hM7 hF7 => ?_)
            refine v_if_ne (tgt := 84) (pc' := 82) F d_M_meter_79 (by decide) rfl (by omega) (fun c79 => by exfalso; omega) (fun c79 => ?_)
            refine v_iconst (pc' := 83) F d_M_meter_82 rfl ?_
            refine v_ireturn F rfl d_M_meter_83 rfl rfl (Nat.le_refl _) (Nat.le_refl _) ?_
            first | (rw [show sp_meter M f k a b t = (1, 0, M) from if_neg (by omega)]; exact ⟨_, hM7, ((MF.rf).tr hF7), rfl, upM_ss, eqv.note (Or.inl rfl), 0, rfl, fun q => absurd (show (1 : Int) = 0 from q) (by decide)⟩) | (rw [show sp_meter M f k a b t = (2, 0, M) from (if_pos (by omega)).trans (if_neg (by omega))]; exact ⟨_, hM7, ((MF.rf).tr hF7), rfl, upM_ss, eqv.note (Or.inl rfl), 0, rfl, fun q => absurd (show (2 : Int) = 0 from q) (by decide)⟩) | (rw [show sp_meter M f k a b t = _ from (if_pos (by omega)).trans (if_pos (by omega))]; exact ⟨_, hM7, ((MF.rf).tr hF7), rfl, (by rw [upM_n (by decide)]; rw [upM_n (by decide)]; rw [upM_n (by decide)]; rw [upM_n (by decide)]; rw [upM_n (by decide)]; rw [upM_n (by decide)]; exact upM_ss), ((((((eqv.note (Or.inl rfl)).up 8 _ _).up 9 _ _).up 10 _ _).up 11 _ _).up 12 _ _).up 7 _ _, _, rfl, fun _ => (by show M 7 0 + 1 - 1 = M 7 0; omega)⟩)
          · refine v_iconst (pc' := 72) F d_M_meter_71 rfl ?_
            refine v_goto (tgt := 76) F d_M_meter_72 (by decide) ?_
            refine v_callVM (pc' := 79) (C := zR_M) (T9 := zF_M) (N := 28) F d_M_meter_76 rfl cal_M_allows wx_758 wx_760 wp_16 rfl hM.1 (c_allows_1 l X _ _ _ _ _ hM (by omega)) rfl ⟨by decide, by decide, by decide, by decide⟩ (Nat.le_of_ble_eq_true rfl) rfl rfl (fun h8 hM8 hF8 => ?_)
            refine v_if_ne (tgt := 84) (pc' := 82) F d_M_meter_79 (by decide) rfl (by omega) (fun c79 => by exfalso; omega) (fun c79 => ?_)
            refine v_iconst (pc' := 83) F d_M_meter_82 rfl ?_
            refine v_ireturn F rfl d_M_meter_83 rfl rfl (Nat.le_refl _) (Nat.le_refl _) ?_
            first | (rw [show sp_meter M f k a b t = (1, 0, M) from if_neg (by omega)]; exact ⟨_, hM8, ((MF.rf).tr hF8), rfl, upM_ss, eqv.note (Or.inl rfl), 0, rfl, fun q => absurd (show (1 : Int) = 0 from q) (by decide)⟩) | (rw [show sp_meter M f k a b t = (2, 0, M) from (if_pos (by omega)).trans (if_neg (by omega))]; exact ⟨_, hM8, ((MF.rf).tr hF8), rfl, upM_ss, eqv.note (Or.inl rfl), 0, rfl, fun q => absurd (show (2 : Int) = 0 from q) (by decide)⟩) | (rw [show sp_meter M f k a b t = _ from (if_pos (by omega)).trans (if_pos (by omega))]; exact ⟨_, hM8, ((MF.rf).tr hF8), rfl, (by rw [upM_n (by decide)]; rw [upM_n (by decide)]; rw [upM_n (by decide)]; rw [upM_n (by decide)]; rw [upM_n (by decide)]; rw [upM_n (by decide)]; exact upM_ss), ((((((eqv.note (Or.inl rfl)).up 8 _ _).up 9 _ _).up 10 _ _).up 11 _ _).up 12 _ _).up 7 _ _, _, rfl, fun _ => (by show M 7 0 + 1 - 1 = M 7 0; omega)⟩)
        · refine v_iload (pc' := 42) F d_M_meter_40 rfl rfl ?_
          refine v_iconst (pc' := 43) F d_M_meter_42 rfl ?_
          refine v_sipush (pc' := 46) F d_M_meter_43 rfl (by decide) ?_
          refine v_callSP (pc' := 49) F d_M_meter_46 rfl cal_M_isIn wx_755 wx_756 (c_M_isIn l X _ _ _ _ _ (by omega) (by omega) (by omega)) rfl ⟨by decide, by decide, by decide, by decide⟩ (Nat.le_of_ble_eq_true rfl) rfl rfl ?_
          refine v_zif_eq (tgt := 56) (pc' := 52) F d_M_meter_49 (by decide) rfl (fun c49 => ?_) (fun c49 => ?_)
          · refine v_iconst (pc' := 57) F d_M_meter_56 rfl ?_
            refine v_istore_6 (pc' := 59) F d_M_meter_57 rfl rfl (by decide) ?_
            refine v_aload_n (pc' := 60) (j := 0) F d_M_meter_59 rfl rfl rfl ?_
            refine v_iload (pc' := 62) F d_M_meter_60 rfl rfl ?_
            refine v_aload_n (pc' := 63) (j := 0) F d_M_meter_62 rfl rfl rfl ?_
            refine v_getf (pc' := 66) (C := zR_M) (T := zF_M) (N := 28) (ref := "BillSharesModel") F d_M_meter_63 rfl zi_M rfl 7 (by decide) wx_668 (Or.inl rfl) hM.1 rfl ?_
            refine v_bipush (pc' := 68) F d_M_meter_66 rfl (by decide) ?_
            refine v_icmp_ge (tgt := 75) (pc' := 71) F d_M_meter_68 (by decide) rfl (by omega) (by omega) (fun c68 => ?_) (fun c68 => ?_)
            · refine v_iconst (pc' := 76) F d_M_meter_75 rfl ?_
              refine v_callVM (pc' := 79) (C := zR_M) (T9 := zF_M) (N := 28) F d_M_meter_76 rfl cal_M_allows wx_758 wx_760 wp_16 rfl hM.1 (c_allows_1 l X _ _ _ _ _ hM (by omega)) rfl ⟨by decide, by decide, by decide, by decide⟩ (Nat.le_of_ble_eq_true rfl) rfl rfl (fun h9 hM9 hF9 => ?_)
              refine v_if_ne (tgt := 84) (pc' := 82) F d_M_meter_79 (by decide) rfl (by omega) (fun c79 => by exfalso; omega) (fun c79 => ?_)
              refine v_iconst (pc' := 83) F d_M_meter_82 rfl ?_
              refine v_ireturn F rfl d_M_meter_83 rfl rfl (Nat.le_refl _) (Nat.le_refl _) ?_
              first | (rw [show sp_meter M f k a b t = (1, 0, M) from if_neg (by omega)]; exact ⟨_, hM9, ((MF.rf).tr hF9), rfl, upM_ss, eqv.note (Or.inl rfl), 0, rfl, fun q => absurd (show (1 : Int) = 0 from q) (by decide)⟩) | (rw [show sp_meter M f k a b t = (2, 0, M) from (if_pos (by omega)).trans (if_neg (by omega))]; exact ⟨_, hM9, ((MF.rf).tr hF9), rfl, upM_ss, eqv.note (Or.inl rfl), 0, rfl, fun q => absurd (show (2 : Int) = 0 from q) (by decide)⟩) | (rw [show sp_meter M f k a b t = _ from (if_pos (by omega)).trans (if_pos (by omega))]; exact ⟨_, hM9, ((MF.rf).tr hF9), rfl, (by rw [upM_n (by decide)]; rw [upM_n (by decide)]; rw [upM_n (by decide)]; rw [upM_n (by decide)]; rw [upM_n (by decide)]; rw [upM_n (by decide)]; exact upM_ss), ((((((eqv.note (Or.inl rfl)).up 8 _ _).up 9 _ _).up 10 _ _).up 11 _ _).up 12 _ _).up 7 _ _, _, rfl, fun _ => (by show M 7 0 + 1 - 1 = M 7 0; omega)⟩)
            · refine v_iconst (pc' := 72) F d_M_meter_71 rfl ?_
              refine v_goto (tgt := 76) F d_M_meter_72 (by decide) ?_
              refine v_callVM (pc' := 79) (C := zR_M) (T9 := zF_M) (N := 28) F d_M_meter_76 rfl cal_M_allows wx_758 wx_760 wp_16 rfl hM.1 (c_allows_1 l X _ _ _ _ _ hM (by omega)) rfl ⟨by decide, by decide, by decide, by decide⟩ (Nat.le_of_ble_eq_true rfl) rfl rfl (fun h10 hM10 hF10 => ?_)
              refine v_if_ne (tgt := 84) (pc' := 82) F d_M_meter_79 (by decide) rfl (by omega) (fun c79 => by exfalso; omega) (fun c79 => ?_)
              refine v_iconst (pc' := 83) F d_M_meter_82 rfl ?_
              refine v_ireturn F rfl d_M_meter_83 rfl rfl (Nat.le_refl _) (Nat.le_refl _) ?_
              first | (rw [show sp_meter M f k a b t = (1, 0, M) from if_neg (by omega)]; exact ⟨_, hM10, ((MF.rf).tr hF10), rfl, upM_ss, eqv.note (Or.inl rfl), 0, rfl, fun q => absurd (show (1 : Int) = 0 from q) (by decide)⟩) | (rw [show sp_meter M f k a b t = (2, 0, M) from (if_pos (by omega)).trans (if_neg (by omega))]; exact ⟨_, hM10, ((MF.rf).tr hF10), rfl, upM_ss, eqv.note (Or.inl rfl), 0, rfl, fun q => absurd (show (2 : Int) = 0 from q) (by decide)⟩) | (rw [show sp_meter M f k a b t = _ from (if_pos (by omega)).trans (if_pos (by omega))]; exact ⟨_, hM10, ((MF.rf).tr hF10), rfl, (by rw [upM_n (by decide)]; rw [upM_n (by decide)]; rw [upM_n (by decide)]; rw [upM_n (by decide)]; rw [upM_n (by decide)]; rw [upM_n (by decide)]; exact upM_ss), ((((((eqv.note (Or.inl rfl)).up 8 _ _).up 9 _ _).up 10 _ _).up 11 _ _).up 12 _ _).up 7 _ _, _, rfl, fun _ => (by show M 7 0 + 1 - 1 = M 7 0; omega)⟩)
          · refine v_iconst (pc' := 53) F d_M_meter_52 rfl ?_
            refine v_goto (tgt := 57) F d_M_meter_53 (by decide) ?_
            refine v_istore_6 (pc' := 59) F d_M_meter_57 rfl rfl (by decide) ?_
            refine v_aload_n (pc' := 60) (j := 0) F d_M_meter_59 rfl rfl rfl ?_
            refine v_iload (pc' := 62) F d_M_meter_60 rfl rfl ?_
            refine v_aload_n (pc' := 63) (j := 0) F d_M_meter_62 rfl rfl rfl ?_
            refine v_getf (pc' := 66) (C := zR_M) (T := zF_M) (N := 28) (ref := "BillSharesModel") F d_M_meter_63 rfl zi_M rfl 7 (by decide) wx_668 (Or.inl rfl) hM.1 rfl ?_
            refine v_bipush (pc' := 68) F d_M_meter_66 rfl (by decide) ?_
            refine v_icmp_ge (tgt := 75) (pc' := 71) F d_M_meter_68 (by decide) rfl (by omega) (by omega) (fun c68 => ?_) (fun c68 => ?_)
            · refine v_iconst (pc' := 76) F d_M_meter_75 rfl ?_
              refine v_callVM (pc' := 79) (C := zR_M) (T9 := zF_M) (N := 28) F d_M_meter_76 rfl cal_M_allows wx_758 wx_760 wp_16 rfl hM.1 (c_allows_2 l X _ _ _ _ hM) rfl ⟨by decide, by decide, by decide, by decide⟩ (Nat.le_of_ble_eq_true rfl) rfl rfl (fun h11 hM11 hF11 => ?_)
              refine v_if_ne (tgt := 84) (pc' := 82) F d_M_meter_79 (by decide) rfl (by omega) (fun c79 => by exfalso; omega) (fun c79 => ?_)
              refine v_iconst (pc' := 83) F d_M_meter_82 rfl ?_
              refine v_ireturn F rfl d_M_meter_83 rfl rfl (Nat.le_refl _) (Nat.le_refl _) ?_
              first | (rw [show sp_meter M f k a b t = (1, 0, M) from if_neg (by omega)]; exact ⟨_, hM11, ((MF.rf).tr hF11), rfl, upM_ss, eqv.note (Or.inl rfl), 0, rfl, fun q => absurd (show (1 : Int) = 0 from q) (by decide)⟩) | (rw [show sp_meter M f k a b t = (2, 0, M) from (if_pos (by omega)).trans (if_neg (by omega))]; exact ⟨_, hM11, ((MF.rf).tr hF11), rfl, upM_ss, eqv.note (Or.inl rfl), 0, rfl, fun q => absurd (show (2 : Int) = 0 from q) (by decide)⟩) | (rw [show sp_meter M f k a b t = _ from (if_pos (by omega)).trans (if_pos (by omega))]; exact ⟨_, hM11, ((MF.rf).tr hF11), rfl, (by rw [upM_n (by decide)]; rw [upM_n (by decide)]; rw [upM_n (by decide)]; rw [upM_n (by decide)]; rw [upM_n (by decide)]; rw [upM_n (by decide)]; exact upM_ss), ((((((eqv.note (Or.inl rfl)).up 8 _ _).up 9 _ _).up 10 _ _).up 11 _ _).up 12 _ _).up 7 _ _, _, rfl, fun _ => (by show M 7 0 + 1 - 1 = M 7 0; omega)⟩)
            · refine v_iconst (pc' := 72) F d_M_meter_71 rfl ?_
              refine v_goto (tgt := 76) F d_M_meter_72 (by decide) ?_
              refine v_callVM (pc' := 79) (C := zR_M) (T9 := zF_M) (N := 28) F d_M_meter_76 rfl cal_M_allows wx_758 wx_760 wp_16 rfl hM.1 (c_allows_0 l X _ _ _ _ hM) rfl ⟨by decide, by decide, by decide, by decide⟩ (Nat.le_of_ble_eq_true rfl) rfl rfl (fun h12 hM12 hF12 => ?_)
              refine v_if_ne (tgt := 84) (pc' := 82) F d_M_meter_79 (by decide) rfl (by omega) (fun c79 => ?_) (fun c79 => by exfalso; omega)
              refine v_aload_n (pc' := 85) (j := 0) F d_M_meter_84 rfl rfl rfl ?_
              refine v_getf (pc' := 88) (C := zR_M) (T := zF_M) (N := 28) (ref := "BillSharesModel") F d_M_meter_85 rfl zi_M rfl 8 (by decide) wx_669 (Or.inl rfl) hM12.1 rfl ?_
              refine v_aload_n (pc' := 89) (j := 0) F d_M_meter_88 rfl rfl rfl ?_
              refine v_getf (pc' := 92) (C := zR_M) (T := zF_M) (N := 28) (ref := "BillSharesModel") F d_M_meter_89 rfl zi_M rfl 7 (by decide) wx_668 (Or.inl rfl) hM12.1 rfl ?_
              refine v_un (by decide) ?_
              refine v_iload_n (pc' := 93) (j := 1) F d_M_meter_92 rfl rfl rfl ?_
              refine mp_8 (pc' := 94) F hM12 d_M_meter_93 rfl (by omega) (by omega) (fun h13 hM13 hF13 => ?_)
              refine v_aload_n (pc' := 95) (j := 0) F d_M_meter_94 rfl rfl rfl ?_
              refine v_getf (pc' := 98) (C := zR_M) (T := zF_M) (N := 28) (ref := "BillSharesModel") F d_M_meter_95 rfl zi_M rfl 9 (by decide) wx_670 (Or.inl rfl) hM13.1 rfl ?_
              refine v_aload_n (pc' := 99) (j := 0) F d_M_meter_98 rfl rfl rfl ?_
              refine v_getf (pc' := 102) (C := zR_M) (T := zF_M) (N := 28) (ref := "BillSharesModel") F d_M_meter_99 rfl zi_M rfl 7 (by decide) wx_668 (Or.inl rfl) hM13.1 rfl ?_
              refine v_un (by decide) ?_
              refine v_un (by decide) ?_
              refine v_iload_n (pc' := 103) (j := 2) F d_M_meter_102 rfl rfl rfl ?_
              refine mp_9 (pc' := 104) F hM13 d_M_meter_103 rfl (by omega) (by omega) (fun h14 hM14 hF14 => ?_)
              refine v_aload_n (pc' := 105) (j := 0) F d_M_meter_104 rfl rfl rfl ?_
              refine v_getf (pc' := 108) (C := zR_M) (T := zF_M) (N := 28) (ref := "BillSharesModel") F d_M_meter_105 rfl zi_M rfl 10 (by decide) wx_671 (Or.inl rfl) hM14.1 rfl ?_
              refine v_aload_n (pc' := 109) (j := 0) F d_M_meter_108 rfl rfl rfl ?_
              refine v_getf (pc' := 112) (C := zR_M) (T := zF_M) (N := 28) (ref := "BillSharesModel") F d_M_meter_109 rfl zi_M rfl 7 (by decide) wx_668 (Or.inl rfl) hM14.1 rfl ?_
              refine v_un (by decide) ?_
              refine v_un (by decide) ?_
              refine v_un (by decide) ?_
              refine v_iload_n (pc' := 113) (j := 3) F d_M_meter_112 rfl rfl rfl ?_
              refine mp_10 (pc' := 114) F hM14 d_M_meter_113 rfl (by omega) (by omega) (fun h15 hM15 hF15 => ?_)
              refine v_aload_n (pc' := 115) (j := 0) F d_M_meter_114 rfl rfl rfl ?_
              refine v_getf (pc' := 118) (C := zR_M) (T := zF_M) (N := 28) (ref := "BillSharesModel") F d_M_meter_115 rfl zi_M rfl 11 (by decide) wx_672 (Or.inl rfl) hM15.1 rfl ?_
              refine v_aload_n (pc' := 119) (j := 0) F d_M_meter_118 rfl rfl rfl ?_
              refine v_getf (pc' := 122) (C := zR_M) (T := zF_M) (N := 28) (ref := "BillSharesModel") F d_M_meter_119 rfl zi_M rfl 7 (by decide) wx_668 (Or.inl rfl) hM15.1 rfl ?_
              refine v_un (by decide) ?_
              refine v_un (by decide) ?_
              refine v_un (by decide) ?_
              refine v_un (by decide) ?_
              refine v_iload (pc' := 124) F d_M_meter_122 rfl rfl ?_
              refine mp_11 (pc' := 125) F hM15 d_M_meter_124 rfl (by omega) (by omega) (fun h16 hM16 hF16 => ?_)
              refine v_aload_n (pc' := 126) (j := 0) F d_M_meter_125 rfl rfl rfl ?_
              refine v_getf (pc' := 129) (C := zR_M) (T := zF_M) (N := 28) (ref := "BillSharesModel") F d_M_meter_126 rfl zi_M rfl 12 (by decide) wx_673 (Or.inl rfl) hM16.1 rfl ?_
              refine v_aload_n (pc' := 130) (j := 0) F d_M_meter_129 rfl rfl rfl ?_
              refine v_getf (pc' := 133) (C := zR_M) (T := zF_M) (N := 28) (ref := "BillSharesModel") F d_M_meter_130 rfl zi_M rfl 7 (by decide) wx_668 (Or.inl rfl) hM16.1 rfl ?_
              refine v_un (by decide) ?_
              refine v_un (by decide) ?_
              refine v_un (by decide) ?_
              refine v_un (by decide) ?_
              refine v_un (by decide) ?_
              refine v_iload (pc' := 135) F d_M_meter_133 rfl rfl ?_
              refine mp_12 (pc' := 136) F hM16 d_M_meter_135 rfl (by omega) (by omega) (fun h17 hM17 hF17 => ?_)
              refine v_aload_n (pc' := 137) (j := 0) F d_M_meter_136 rfl rfl rfl ?_
              refine v_dup (pc' := 138) F d_M_meter_137 rfl rfl ?_
              refine v_getf (pc' := 141) (C := zR_M) (T := zF_M) (N := 28) (ref := "BillSharesModel") F d_M_meter_138 rfl zi_M rfl 7 (by decide) wx_668 (Or.inl rfl) hM17.1 rfl ?_
              refine v_un (by decide) ?_
              refine v_un (by decide) ?_
              refine v_un (by decide) ?_
              refine v_un (by decide) ?_
              refine v_un (by decide) ?_
              refine v_un (by decide) ?_
              refine v_iconst (pc' := 142) F d_M_meter_141 rfl ?_
              refine v_iadd (pc' := 143) F d_M_meter_142 rfl ?_
              refine mp_7 (pc' := 146) F hM17 d_M_meter_143 rfl wx_668 (fun h18 hM18 hF18 => ?_)
              refine v_aload_n (pc' := 147) (j := 0) F d_M_meter_146 rfl rfl rfl ?_
              refine v_getf (pc' := 150) (C := zR_M) (T := zF_M) (N := 28) (ref := "BillSharesModel") F d_M_meter_147 rfl zi_M rfl 7 (by decide) wx_668 (Or.inl rfl) hM18.1 rfl ?_
              refine v_us ?_
              refine v_iconst (pc' := 151) F d_M_meter_150 rfl ?_
              refine v_isub (pc' := 152) F d_M_meter_151 rfl ?_
              refine v_ireturn F rfl d_M_meter_152 rfl rfl (Nat.le_refl _) (Nat.le_refl _) ?_
              first | (rw [show sp_meter M f k a b t = (1, 0, M) from if_neg (by omega)]; exact ⟨_, hM18, ((((((((((((((MF.rf).tr hF12)).tr hF13)).tr hF14)).tr hF15)).tr hF16)).tr hF17)).tr hF18), rfl, upM_ss, eqv.note (Or.inl rfl), 0, rfl, fun q => absurd (show (1 : Int) = 0 from q) (by decide)⟩) | (rw [show sp_meter M f k a b t = (2, 0, M) from (if_pos (by omega)).trans (if_neg (by omega))]; exact ⟨_, hM18, ((((((((((((((MF.rf).tr hF12)).tr hF13)).tr hF14)).tr hF15)).tr hF16)).tr hF17)).tr hF18), rfl, upM_ss, eqv.note (Or.inl rfl), 0, rfl, fun q => absurd (show (2 : Int) = 0 from q) (by decide)⟩) | (rw [show sp_meter M f k a b t = _ from (if_pos (by omega)).trans (if_pos (by omega))]; exact ⟨_, hM18, ((((((((((((((MF.rf).tr hF12)).tr hF13)).tr hF14)).tr hF15)).tr hF16)).tr hF17)).tr hF18), rfl, (by rw [upM_n (by decide)]; rw [upM_n (by decide)]; rw [upM_n (by decide)]; rw [upM_n (by decide)]; rw [upM_n (by decide)]; rw [upM_n (by decide)]; exact upM_ss), ((((((eqv.note (Or.inl rfl)).up 8 _ _).up 9 _ _).up 10 _ _).up 11 _ _).up 12 _ _).up 7 _ _, _, rfl, fun _ => (by show M 7 0 + 1 - 1 = M 7 0; omega)⟩)
def sp_moves (M : MS) (f d : Int) : Int × Int × MS := if (0 ≤ f ∧ f < M 1 0) ∧ 0 ≤ d ∧ d ≤ 3649 ∧ M 5 (12 * f + M 4 f - 1) < d then (if M 4 f < 12 then (0, M 4 f, upM (upM M 5 (12 * f + M 4 f) d) 4 f (M 4 f + 1)) else (2, 0, M)) else (1, 0, M)
set_option maxRecDepth 100000 in
set_option maxHeartbeats 4000000 in
theorem c_M_moves (l : Launch) (X : am_X) (h : am_H) (nx : Nat) (y : Nat) (M : MS) (f d : Int) (hM : RepM y M h) (hfl : 0 ≤ M 1 0 ∧ M 1 0 ≤ 20) (hlv : ∀ f : Int, 0 ≤ f → f < M 1 0 → 1 ≤ M 4 f ∧ M 4 f ≤ 12) (hsi : ∀ i : Int, 0 ≤ i → i < 240 → 0 ≤ M 5 i ∧ M 5 i ≤ 3649) (rf : -2147483648 ≤ f ∧ f < 2147483648) (rd : -2147483648 ≤ d ∧ d < 2147483648) : Cn l X y_M_moves ({ frames := 1, cells := 0, slots := 0, locals := 22 }) [.ref y, iV f, iV d] h nx (mpost y h nx iV (sp_moves M f d)) := by
  refine cn_of (k := 1) (L0 := [some (.ref y), some (iV f), some (iV d), none]) rfl wx_810 (Nat.le_of_ble_eq_true rfl) rfl (fun p e s m args below meth c F => ?_)
  refine v_aload_n (pc' := 1) (j := 0) F d_M_moves_0 rfl rfl rfl ?_
  refine v_iload_n (pc' := 2) (j := 1) F d_M_moves_1 rfl rfl rfl ?_
  refine v_callVP (pc' := 5) (C := zR_M) (T9 := zF_M) (N := 28) F d_M_moves_2 rfl cal_M_isFlat wx_766 wx_768 wp_17 rfl hM.1 (c_M_isFlat l X _ _ _ _ _ hM hfl (by omega)) rfl ⟨by decide, by decide, by decide, by decide⟩ (Nat.le_of_ble_eq_true rfl) rfl rfl ?_
  refine v_zif_eq (tgt := 45) (pc' := 8) F d_M_moves_5 (by decide) rfl (fun c5 => ?_) (fun c5 => ?_)
  · refine v_iconst (pc' := 46) F d_M_moves_45 rfl ?_
    refine v_istore_3 (pc' := 47) F d_M_moves_46 rfl rfl (by decide) ?_
    refine v_aload_n (pc' := 48) (j := 0) F d_M_moves_47 rfl rfl rfl ?_
    refine v_iload_n (pc' := 49) (j := 3) F d_M_moves_48 rfl rfl rfl ?_
    refine v_iload_n (pc' := 50) (j := 3) F d_M_moves_49 rfl rfl rfl ?_
    refine v_if_eq (tgt := 68) (pc' := 53) F d_M_moves_50 (by decide) rfl (by omega) (fun c50 => ?_) (fun c50 => by exfalso; omega)
    refine v_iconst (pc' := 69) F d_M_moves_68 rfl ?_
    refine v_callVM (pc' := 72) (C := zR_M) (T9 := zF_M) (N := 28) F d_M_moves_69 rfl cal_M_allows wx_758 wx_760 wp_16 rfl hM.1 (c_allows_1 l X _ _ _ _ _ hM (by omega)) rfl ⟨by decide, by decide, by decide, by decide⟩ (Nat.le_of_ble_eq_true rfl) rfl rfl (fun h1 hM1 hF1 => ?_)
    refine v_if_ne (tgt := 77) (pc' := 75) F d_M_moves_72 (by decide) rfl (by omega) (fun c72 => by exfalso; omega) (fun c72 => ?_)
    refine v_iconst (pc' := 76) F d_M_moves_75 rfl ?_
    refine v_ireturn F rfl d_M_moves_76 rfl rfl (Nat.le_refl _) (Nat.le_refl _) ?_
    first | (rw [show sp_moves M f d = (1, 0, M) from if_neg (by omega)]; exact ⟨_, hM1, ((MF.rf).tr hF1), rfl, upM_ss, eqv.note (Or.inl rfl), 0, rfl, fun q => absurd (show (1 : Int) = 0 from q) (by decide)⟩) | (rw [show sp_moves M f d = (2, 0, M) from (if_pos (by omega)).trans (if_neg (by omega))]; exact ⟨_, hM1, ((MF.rf).tr hF1), rfl, upM_ss, eqv.note (Or.inl rfl), 0, rfl, fun q => absurd (show (2 : Int) = 0 from q) (by decide)⟩) | (rw [show sp_moves M f d = _ from (if_pos (by omega)).trans (if_pos (by omega))]; exact ⟨_, hM1, ((MF.rf).tr hF1), rfl, (by rw [upM_n (by decide)]; rw [upM_n (by decide)]; exact upM_ss), ((eqv.note (Or.inl rfl)).up 5 _ _).up 4 _ _, _, rfl, fun _ => (by show M 4 f + 1 - 1 = M 4 f; omega)⟩)
  · refine v_iload_n (pc' := 9) (j := 2) F d_M_moves_8 rfl rfl rfl ?_
    refine v_iconst (pc' := 10) F d_M_moves_9 rfl ?_
    refine v_sipush (pc' := 13) F d_M_moves_10 rfl (by decide) ?_
    refine v_callSP (pc' := 16) F d_M_moves_13 rfl cal_M_isIn wx_755 wx_756 (c_M_isIn l X _ _ _ _ _ (by omega) (by omega) (by omega)) rfl ⟨by decide, by decide, by decide, by decide⟩ (Nat.le_of_ble_eq_true rfl) rfl rfl ?_
    refine v_zif_eq (tgt := 45) (pc' := 19) F d_M_moves_16 (by decide) rfl (fun c16 => ?_) (fun c16 => ?_)
    · refine v_iconst (pc' := 46) F d_M_moves_45 rfl ?_
      refine v_istore_3 (pc' := 47) F d_M_moves_46 rfl rfl (by decide) ?_
      refine v_aload_n (pc' := 48) (j := 0) F d_M_moves_47 rfl rfl rfl ?_
      refine v_iload_n (pc' := 49) (j := 3) F d_M_moves_48 rfl rfl rfl ?_
      refine v_iload_n (pc' := 50) (j := 3) F d_M_moves_49 rfl rfl rfl ?_
      refine v_if_eq (tgt := 68) (pc' := 53) F d_M_moves_50 (by decide) rfl (by omega) (fun c50 => ?_) (fun c50 => by exfalso; omega)
      refine v_iconst (pc' := 69) F d_M_moves_68 rfl ?_
      refine v_callVM (pc' := 72) (C := zR_M) (T9 := zF_M) (N := 28) F d_M_moves_69 rfl cal_M_allows wx_758 wx_760 wp_16 rfl hM.1 (c_allows_1 l X _ _ _ _ _ hM (by omega)) rfl ⟨by decide, by decide, by decide, by decide⟩ (Nat.le_of_ble_eq_true rfl) rfl rfl (fun h2 hM2 hF2 => ?_)
      refine v_if_ne (tgt := 77) (pc' := 75) F d_M_moves_72 (by decide) rfl (by omega) (fun c72 => by exfalso; omega) (fun c72 => ?_)
      refine v_iconst (pc' := 76) F d_M_moves_75 rfl ?_
      refine v_ireturn F rfl d_M_moves_76 rfl rfl (Nat.le_refl _) (Nat.le_refl _) ?_
      first | (rw [show sp_moves M f d = (1, 0, M) from if_neg (by omega)]; exact ⟨_, hM2, ((MF.rf).tr hF2), rfl, upM_ss, eqv.note (Or.inl rfl), 0, rfl, fun q => absurd (show (1 : Int) = 0 from q) (by decide)⟩) | (rw [show sp_moves M f d = (2, 0, M) from (if_pos (by omega)).trans (if_neg (by omega))]; exact ⟨_, hM2, ((MF.rf).tr hF2), rfl, upM_ss, eqv.note (Or.inl rfl), 0, rfl, fun q => absurd (show (2 : Int) = 0 from q) (by decide)⟩) | (rw [show sp_moves M f d = _ from (if_pos (by omega)).trans (if_pos (by omega))]; exact ⟨_, hM2, ((MF.rf).tr hF2), rfl, (by rw [upM_n (by decide)]; rw [upM_n (by decide)]; exact upM_ss), ((eqv.note (Or.inl rfl)).up 5 _ _).up 4 _ _, _, rfl, fun _ => (by show M 4 f + 1 - 1 = M 4 f; omega)⟩)
    · refine v_iload_n (pc' := 20) (j := 2) F d_M_moves_19 rfl rfl rfl ?_
      refine v_aload_n (pc' := 21) (j := 0) F d_M_moves_20 rfl rfl rfl ?_
      refine v_getf (pc' := 24) (C := zR_M) (T := zF_M) (N := 28) (ref := "BillSharesModel") F d_M_moves_21 rfl zi_M rfl 5 (by decide) wx_666 (Or.inl rfl) hM.1 rfl ?_
      refine v_bipush (pc' := 26) F d_M_moves_24 rfl (by decide) ?_
      refine v_iload_n (pc' := 27) (j := 1) F d_M_moves_26 rfl rfl rfl ?_
      refine v_imul (pc' := 28) F d_M_moves_27 rfl ?_
      refine v_aload_n (pc' := 29) (j := 0) F d_M_moves_28 rfl rfl rfl ?_
      refine v_getf (pc' := 32) (C := zR_M) (T := zF_M) (N := 28) (ref := "BillSharesModel") F d_M_moves_29 rfl zi_M rfl 4 (by decide) wx_665 (Or.inl rfl) hM.1 rfl ?_
      refine v_iload_n (pc' := 33) (j := 1) F d_M_moves_32 rfl rfl rfl ?_
      have q1 := hlv f (by omega) (by omega)
      refine mg_4 (pc' := 34) F hM d_M_moves_33 rfl (by omega) (by omega) ?_
      refine v_iadd (pc' := 35) F d_M_moves_34 rfl ?_
      refine v_iconst (pc' := 36) F d_M_moves_35 rfl ?_
      refine v_isub (pc' := 37) F d_M_moves_36 rfl ?_
      refine mg_5 (pc' := 38) F hM d_M_moves_37 rfl (by omega) (by omega) ?_
      have q2 := hsi (12 * f + M 4 f - 1) (by omega) (by omega)
      refine v_icmp_le (tgt := 45) (pc' := 41) F d_M_moves_38 (by decide) rfl (by omega) (by omega) (fun c38 => ?_) (fun c38 => ?_)
      · refine v_iconst (pc' := 46) F d_M_moves_45 rfl ?_
        refine v_istore_3 (pc' := 47) F d_M_moves_46 rfl rfl (by decide) ?_
        refine v_aload_n (pc' := 48) (j := 0) F d_M_moves_47 rfl rfl rfl ?_
        refine v_iload_n (pc' := 49) (j := 3) F d_M_moves_48 rfl rfl rfl ?_
        refine v_iload_n (pc' := 50) (j := 3) F d_M_moves_49 rfl rfl rfl ?_
        refine v_if_eq (tgt := 68) (pc' := 53) F d_M_moves_50 (by decide) rfl (by omega) (fun c50 => ?_) (fun c50 => by exfalso; omega)
        refine v_iconst (pc' := 69) F d_M_moves_68 rfl ?_
        refine v_callVM (pc' := 72) (C := zR_M) (T9 := zF_M) (N := 28) F d_M_moves_69 rfl cal_M_allows wx_758 wx_760 wp_16 rfl hM.1 (c_allows_1 l X _ _ _ _ _ hM (by omega)) rfl ⟨by decide, by decide, by decide, by decide⟩ (Nat.le_of_ble_eq_true rfl) rfl rfl (fun h3 hM3 hF3 => ?_)
        refine v_if_ne (tgt := 77) (pc' := 75) F d_M_moves_72 (by decide) rfl (by omega) (fun c72 => by exfalso; omega) (fun c72 => ?_)
        refine v_iconst (pc' := 76) F d_M_moves_75 rfl ?_
        refine v_ireturn F rfl d_M_moves_76 rfl rfl (Nat.le_refl _) (Nat.le_refl _) ?_
        first | (rw [show sp_moves M f d = (1, 0, M) from if_neg (by omega)]; exact ⟨_, hM3, ((MF.rf).tr hF3), rfl, upM_ss, eqv.note (Or.inl rfl), 0, rfl, fun q => absurd (show (1 : Int) = 0 from q) (by decide)⟩) | (rw [show sp_moves M f d = (2, 0, M) from (if_pos (by omega)).trans (if_neg (by omega))]; exact ⟨_, hM3, ((MF.rf).tr hF3), rfl, upM_ss, eqv.note (Or.inl rfl), 0, rfl, fun q => absurd (show (2 : Int) = 0 from q) (by decide)⟩) | (rw [show sp_moves M f d = _ from (if_pos (by omega)).trans (if_pos (by omega))]; exact ⟨_, hM3, ((MF.rf).tr hF3), rfl, (by rw [upM_n (by decide)]; rw [upM_n (by decide)]; exact upM_ss), ((eqv.note (Or.inl rfl)).up 5 _ _).up 4 _ _, _, rfl, fun _ => (by show M 4 f + 1 - 1 = M 4 f; omega)⟩)
      · refine v_iconst (pc' := 42) F d_M_moves_41 rfl ?_
        refine v_goto (tgt := 46) F d_M_moves_42 (by decide) ?_
        refine v_istore_3 (pc' := 47) F d_M_moves_46 rfl rfl (by decide) ?_
        refine v_aload_n (pc' := 48) (j := 0) F d_M_moves_47 rfl rfl rfl ?_
        refine v_iload_n (pc' := 49) (j := 3) F d_M_moves_48 rfl rfl rfl ?_
        refine v_iload_n (pc' := 50) (j := 3) F d_M_moves_49 rfl rfl rfl ?_
        refine v_if_eq (tgt := 68) (pc' := 53) F d_M_moves_50 (by decide) rfl (by omega) (fun c50 => by exfalso; omega) (fun c50 => ?_)
        refine v_aload_n (pc' := 54) (j := 0) F d_M_moves_53 rfl rfl rfl ?_
        refine v_getf (pc' := 57) (C := zR_M) (T := zF_M) (N := 28) (ref := "BillSharesModel") F d_M_moves_54 rfl zi_M rfl 4 (by decide) wx_665 (Or.inl rfl) hM.1 rfl ?_
        refine v_iload_n (pc' := 58) (j := 1) F d_M_moves_57 rfl rfl rfl ?_
        refine mg_4 (pc' := 59) F hM d_M_moves_58 rfl (by omega) (by omega) ?_
        refine v_bipush (pc' := 61) F d_M_moves_59 rfl (by decide) ?_
        refine v_icmp_ge (tgt := 68) (pc' := 64) F d_M_moves_61 (by decide) rfl (by omega) (by omega) (fun c61 => ?_) (fun c61 => ?_)
        · refine v_iconst (pc' := 69) F d_M_moves_68 rfl ?_
          refine v_callVM (pc' := 72) (C := zR_M) (T9 := zF_M) (N := 28) F d_M_moves_69 rfl cal_M_allows wx_758 wx_760 wp_16 rfl hM.1 (c_allows_2 l X _ _ _ _ hM) rfl ⟨by decide, by decide, by decide, by decide⟩ (Nat.le_of_ble_eq_true rfl) rfl rfl (fun h4 hM4 hF4 => ?_)
          refine v_if_ne (tgt := 77) (pc' := 75) F d_M_moves_72 (by decide) rfl (by omega) (fun c72 => by exfalso; omega) (fun c72 => ?_)
          refine v_iconst (pc' := 76) F d_M_moves_75 rfl ?_
          refine v_ireturn F rfl d_M_moves_76 rfl rfl (Nat.le_refl _) (Nat.le_refl _) ?_
          first | (rw [show sp_moves M f d = (1, 0, M) from if_neg (by omega)]; exact ⟨_, hM4, ((MF.rf).tr hF4), rfl, upM_ss, eqv.note (Or.inl rfl), 0, rfl, fun q => absurd (show (1 : Int) = 0 from q) (by decide)⟩) | (rw [show sp_moves M f d = (2, 0, M) from (if_pos (by omega)).trans (if_neg (by omega))]; exact ⟨_, hM4, ((MF.rf).tr hF4), rfl, upM_ss, eqv.note (Or.inl rfl), 0, rfl, fun q => absurd (show (2 : Int) = 0 from q) (by decide)⟩) | (rw [show sp_moves M f d = _ from (if_pos (by omega)).trans (if_pos (by omega))]; exact ⟨_, hM4, ((MF.rf).tr hF4), rfl, (by rw [upM_n (by decide)]; rw [upM_n (by decide)]; exact upM_ss), ((eqv.note (Or.inl rfl)).up 5 _ _).up 4 _ _, _, rfl, fun _ => (by show M 4 f + 1 - 1 = M 4 f; omega)⟩)
        · refine v_iconst (pc' := 65) F d_M_moves_64 rfl ?_
          refine v_goto (tgt := 69) F d_M_moves_65 (by decide) ?_
          refine v_callVM (pc' := 72) (C := zR_M) (T9 := zF_M) (N := 28) F d_M_moves_69 rfl cal_M_allows wx_758 wx_760 wp_16 rfl hM.1 (c_allows_0 l X _ _ _ _ hM) rfl ⟨by decide, by decide, by decide, by decide⟩ (Nat.le_of_ble_eq_true rfl) rfl rfl (fun h5 hM5 hF5 => ?_)
          refine v_if_ne (tgt := 77) (pc' := 75) F d_M_moves_72 (by decide) rfl (by omega) (fun c72 => ?_) (fun c72 => by exfalso; omega)
          refine v_aload_n (pc' := 78) (j := 0) F d_M_moves_77 rfl rfl rfl ?_
          refine v_getf (pc' := 81) (C := zR_M) (T := zF_M) (N := 28) (ref := "BillSharesModel") F d_M_moves_78 rfl zi_M rfl 5 (by decide) wx_666 (Or.inl rfl) hM5.1 rfl ?_
          refine v_bipush (pc' := 83) F d_M_moves_81 rfl (by decide) ?_
          refine v_iload_n (pc' := 84) (j := 1) F d_M_moves_83 rfl rfl rfl ?_
          refine v_imul (pc' := 85) F d_M_moves_84 rfl ?_
          refine v_aload_n (pc' := 86) (j := 0) F d_M_moves_85 rfl rfl rfl ?_
          refine v_getf (pc' := 89) (C := zR_M) (T := zF_M) (N := 28) (ref := "BillSharesModel") F d_M_moves_86 rfl zi_M rfl 4 (by decide) wx_665 (Or.inl rfl) hM5.1 rfl ?_
          refine v_iload_n (pc' := 90) (j := 1) F d_M_moves_89 rfl rfl rfl ?_
          refine mg_4 (pc' := 91) F hM5 d_M_moves_90 rfl (by omega) (by omega) ?_
          refine v_un (by decide) ?_
          refine v_iadd (pc' := 92) F d_M_moves_91 rfl ?_
          refine v_iload_n (pc' := 93) (j := 2) F d_M_moves_92 rfl rfl rfl ?_
          refine mp_5 (pc' := 94) F hM5 d_M_moves_93 rfl (by omega) (by omega) (fun h6 hM6 hF6 => ?_)
          refine v_aload_n (pc' := 95) (j := 0) F d_M_moves_94 rfl rfl rfl ?_
          refine v_getf (pc' := 98) (C := zR_M) (T := zF_M) (N := 28) (ref := "BillSharesModel") F d_M_moves_95 rfl zi_M rfl 4 (by decide) wx_665 (Or.inl rfl) hM6.1 rfl ?_
          refine v_iload_n (pc' := 99) (j := 1) F d_M_moves_98 rfl rfl rfl ?_
          refine v_dup2 (pc' := 100) F d_M_moves_99 rfl rfl rfl ?_
          refine mg_4 (pc' := 101) F hM6 d_M_moves_100 rfl (by omega) (by omega) ?_
          refine v_un (by decide) ?_
          refine v_un (by decide) ?_
          refine v_iconst (pc' := 102) F d_M_moves_101 rfl ?_
          refine v_iadd (pc' := 103) F d_M_moves_102 rfl ?_
          refine mp_4 (pc' := 104) F hM6 d_M_moves_103 rfl (by omega) (by omega) (fun h7 hM7 hF7 => ?_)
          refine v_aload_n (pc' := 105) (j := 0) F d_M_moves_104 rfl rfl rfl ?_
          refine v_getf (pc' := 108) (C := zR_M) (T := zF_M) (N := 28) (ref := "BillSharesModel") F d_M_moves_105 rfl zi_M rfl 4 (by decide) wx_665 (Or.inl rfl) hM7.1 rfl ?_
          refine v_iload_n (pc' := 109) (j := 1) F d_M_moves_108 rfl rfl rfl ?_
          refine mg_4 (pc' := 110) F hM7 d_M_moves_109 rfl (by omega) (by omega) ?_
          refine v_us ?_
          refine v_iconst (pc' := 111) F d_M_moves_110 rfl ?_
          refine v_isub (pc' := 112) F d_M_moves_111 rfl ?_
          refine v_ireturn F rfl d_M_moves_112 rfl rfl (Nat.le_refl _) (Nat.le_refl _) ?_
          first | (rw [show sp_moves M f d = (1, 0, M) from if_neg (by omega)]; exact ⟨_, hM7, ((((((MF.rf).tr hF5)).tr hF6)).tr hF7), rfl, upM_ss, eqv.note (Or.inl rfl), 0, rfl, fun q => absurd (show (1 : Int) = 0 from q) (by decide)⟩) | (rw [show sp_moves M f d = (2, 0, M) from (if_pos (by omega)).trans (if_neg (by omega))]; exact ⟨_, hM7, ((((((MF.rf).tr hF5)).tr hF6)).tr hF7), rfl, upM_ss, eqv.note (Or.inl rfl), 0, rfl, fun q => absurd (show (2 : Int) = 0 from q) (by decide)⟩) | (rw [show sp_moves M f d = _ from (if_pos (by omega)).trans (if_pos (by omega))]; exact ⟨_, hM7, ((((((MF.rf).tr hF5)).tr hF6)).tr hF7), rfl, (by rw [upM_n (by decide)]; rw [upM_n (by decide)]; exact upM_ss), ((eqv.note (Or.inl rfl)).up 5 _ _).up 4 _ _, _, rfl, fun _ => (by show M 4 f + 1 - 1 = M 4 f; omega)⟩)
