/-! put, reading, changed, correct of the reference (written by wip/whole/mm4.py) -/
def sp_put (M : MS) (f d v w b : Int) : Int × Int × MS := if (0 ≤ f ∧ f < M 7 0) ∧ (0 ≤ d ∧ d ≤ 3649) ∧ (0 ≤ v ∧ v ≤ 10000000) ∧ (0 ≤ w ∧ w ≤ 10000000) ∧ (M 13 f = 0 ∨ M 14 (40 * f + M 13 f - 1) < d ∧ M 16 (40 * f + M 13 f - 1) ≤ v) then (if M 13 f < 40 then (0, M 13 f + 1, upM (upM (upM (upM (upM M 14 (40 * f + M 13 f) d) 15 (40 * f + M 13 f) v) 16 (40 * f + M 13 f) w) 17 (40 * f + M 13 f) b) 13 f (M 13 f + 1)) else (2, 0, M)) else (1, 0, M)
set_option maxRecDepth 100000 in
set_option maxHeartbeats 4000000 in
theorem c_M_put (l : Launch) (X : am_X) (h : am_H) (nx : Nat) (y : Nat) (M : MS) (f d v w b : Int) (hM : RepM y M h) (hme : 0 ≤ M 7 0 ∧ M 7 0 ≤ 60) (hrd : ∀ f : Int, 0 ≤ f → f < M 7 0 → 0 ≤ M 13 f ∧ M 13 f ≤ 40) (hda : ∀ i : Int, 0 ≤ i → i < 2400 → 0 ≤ M 14 i ∧ M 14 i ≤ 3649) (hgo : ∀ i : Int, 0 ≤ i → i < 2400 → 0 ≤ M 16 i ∧ M 16 i ≤ 10000000) (rf : -2147483648 ≤ f ∧ f < 2147483648) (rd : -2147483648 ≤ d ∧ d < 2147483648) (rv : -2147483648 ≤ v ∧ v < 2147483648) (rw : -2147483648 ≤ w ∧ w < 2147483648) (hb : b = 0 ∨ b = 1) : Cn l X y_M_put ({ frames := 2, cells := 0, slots := 0, locals := 42 }) [.ref y, iV f, iV d, iV v, iV w, iV b] h nx (mpost y h nx iV (sp_put M f d v w b)) := by
  refine cn_of (k := 2) (L0 := [some (.ref y), some (iV f), some (iV d), some (iV v), some (iV w), some (iV b), none, none]) rfl wx_777 (Nat.le_of_ble_eq_true rfl) rfl (fun p e s m args below meth c F => ?_)
  refine v_aload_n (pc' := 1) (j := 0) F d_M_put_0 rfl rfl rfl ?_
  refine v_iload_n (pc' := 2) (j := 1) F d_M_put_1 rfl rfl rfl ?_
  refine v_callVP (pc' := 5) (C := zR_M) (T9 := zF_M) (N := 28) F d_M_put_2 rfl cal_M_isMeter wx_778 wx_780 wp_19 rfl hM.1 (c_M_isMeter l X _ _ _ _ _ hM hme (by omega)) rfl ⟨by decide, by decide, by decide, by decide⟩ (Nat.le_of_ble_eq_true rfl) rfl rfl ?_
  refine v_zif_eq (tgt := 24) (pc' := 8) F d_M_put_5 (by decide) rfl (fun c5 => ?_) (fun c5 => ?_)
  · refine v_iconst (pc' := 25) F d_M_put_24 rfl ?_
    refine v_istore_6 (pc' := 27) F d_M_put_25 rfl rfl (by decide) ?_
    refine v_aload_n (pc' := 28) (j := 0) F d_M_put_27 rfl rfl rfl ?_
    refine v_iload_n (pc' := 29) (j := 1) F d_M_put_28 rfl rfl rfl ?_
    refine v_callVP (pc' := 32) (C := zR_M) (T9 := zF_M) (N := 28) F d_M_put_29 rfl cal_M_isMeter wx_778 wx_780 wp_19 rfl hM.1 (c_M_isMeter l X _ _ _ _ _ hM hme (by omega)) rfl ⟨by decide, by decide, by decide, by decide⟩ (Nat.le_of_ble_eq_true rfl) rfl rfl ?_
    refine v_zif_eq (tgt := 65) (pc' := 35) F d_M_put_32 (by decide) rfl (fun c32 => ?_) (fun c32 => ?_)
    · refine v_iconst (pc' := 66) F d_M_put_65 rfl ?_
      refine v_istore_7 (pc' := 68) F d_M_put_66 rfl rfl (by decide) ?_
      refine v_iload (pc' := 70) F d_M_put_68 rfl rfl ?_
      refine v_if_eq (tgt := 108) (pc' := 73) F d_M_put_70 (by decide) rfl (by omega) (fun c70 => ?_) (fun c70 => by exfalso; omega)
      refine v_iconst (pc' := 109) F d_M_put_108 rfl ?_
      refine v_istore_7 (pc' := 111) F d_M_put_109 rfl rfl (by decide) ?_
      refine v_aload_n (pc' := 112) (j := 0) F d_M_put_111 rfl rfl rfl ?_
      refine v_iload (pc' := 114) F d_M_put_112 rfl rfl ?_
      refine v_iload (pc' := 116) F d_M_put_114 rfl rfl ?_
      refine v_if_eq (tgt := 134) (pc' := 119) F d_M_put_116 (by decide) rfl (by omega) (fun c116 => ?_) (fun c116 => by exfalso; omega)
      refine v_iconst (pc' := 135) F d_M_put_134 rfl ?_
      refine v_callVM (pc' := 138) (C := zR_M) (T9 := zF_M) (N := 28) F d_M_put_135 rfl cal_M_allows wx_758 wx_760 wp_16 rfl hM.1 (c_allows_1 l X _ _ _ _ _ hM (by omega)) rfl ⟨by decide, by decide, by decide, by decide⟩ (Nat.le_of_ble_eq_true rfl) rfl rfl (fun h1 hM1 hF1 => ?_)
      refine v_if_ne (tgt := 143) (pc' := 141) F d_M_put_138 (by decide) rfl (by omega) (fun c138 => by exfalso; omega) (fun c138 => ?_)
      refine v_iconst (pc' := 142) F d_M_put_141 rfl ?_
      refine v_ireturn F rfl d_M_put_142 rfl rfl (Nat.le_refl _) (Nat.le_refl _) ?_
      first | (exfalso; omega) | (rw [show sp_put M f d v w b = (1, 0, M) from if_neg (by omega)]; exact ⟨_, hM1, ((MF.rf).tr hF1), rfl, upM_ss, eqv.note (Or.inl rfl), 0, rfl, fun q => absurd (show (1 : Int) = 0 from q) (by decide)⟩) | (rw [show sp_put M f d v w b = (2, 0, M) from (if_pos (by omega)).trans (if_neg (by omega))]; exact ⟨_, hM1, ((MF.rf).tr hF1), rfl, upM_ss, eqv.note (Or.inl rfl), 0, rfl, fun q => absurd (show (2 : Int) = 0 from q) (by decide)⟩) | (rw [show sp_put M f d v w b = _ from (if_pos (by omega)).trans (if_pos (by omega))]; exact ⟨_, hM1, ((MF.rf).tr hF1), rfl, (by rw [upM_n (by decide)]; rw [upM_n (by decide)]; rw [upM_n (by decide)]; rw [upM_n (by decide)]; rw [upM_n (by decide)]; exact upM_ss), (((((eqv.note (Or.inl rfl)).up 14 _ _).up 15 _ _).up 16 _ _).up 17 _ _).up 13 _ _, _, rfl, fun _ => rfl⟩)
    · refine v_iload_n (pc' := 36) (j := 2) F d_M_put_35 rfl rfl rfl ?_
      refine v_iconst (pc' := 37) F d_M_put_36 rfl ?_
      refine v_sipush (pc' := 40) F d_M_put_37 rfl (by decide) ?_
      refine v_callSP (pc' := 43) F d_M_put_40 rfl cal_M_isIn wx_755 wx_756 (c_M_isIn l X _ _ _ _ _ (by omega) (by omega) (by omega)) rfl ⟨by decide, by decide, by decide, by decide⟩ (Nat.le_of_ble_eq_true rfl) rfl rfl ?_
      refine v_zif_eq (tgt := 65) (pc' := 46) F d_M_put_43 (by decide) rfl (fun c43 => ?_) (fun c43 => ?_)
      · refine v_iconst (pc' := 66) F d_M_put_65 rfl ?_
        refine v_istore_7 (pc' := 68) F d_M_put_66 rfl rfl (by decide) ?_
        refine v_iload (pc' := 70) F d_M_put_68 rfl rfl ?_
        refine v_if_eq (tgt := 108) (pc' := 73) F d_M_put_70 (by decide) rfl (by omega) (fun c70 => ?_) (fun c70 => by exfalso; omega)
        refine v_iconst (pc' := 109) F d_M_put_108 rfl ?_
        refine v_istore_7 (pc' := 111) F d_M_put_109 rfl rfl (by decide) ?_
        refine v_aload_n (pc' := 112) (j := 0) F d_M_put_111 rfl rfl rfl ?_
        refine v_iload (pc' := 114) F d_M_put_112 rfl rfl ?_
        refine v_iload (pc' := 116) F d_M_put_114 rfl rfl ?_
        refine v_if_eq (tgt := 134) (pc' := 119) F d_M_put_116 (by decide) rfl (by omega) (fun c116 => ?_) (fun c116 => by exfalso; omega)
        refine v_iconst (pc' := 135) F d_M_put_134 rfl ?_
        refine v_callVM (pc' := 138) (C := zR_M) (T9 := zF_M) (N := 28) F d_M_put_135 rfl cal_M_allows wx_758 wx_760 wp_16 rfl hM.1 (c_allows_1 l X _ _ _ _ _ hM (by omega)) rfl ⟨by decide, by decide, by decide, by decide⟩ (Nat.le_of_ble_eq_true rfl) rfl rfl (fun h2 hM2 hF2 => ?_)
        refine v_if_ne (tgt := 143) (pc' := 141) F d_M_put_138 (by decide) rfl (by omega) (fun c138 => by exfalso; omega) (fun c138 => ?_)
        refine v_iconst (pc' := 142) F d_M_put_141 rfl ?_
        refine v_ireturn F rfl d_M_put_142 rfl rfl (Nat.le_refl _) (Nat.le_refl _) ?_
        first | (exfalso; omega) | (rw [show sp_put M f d v w b = (1, 0, M) from if_neg (by omega)]; exact ⟨_, hM2, ((MF.rf).tr hF2), rfl, upM_ss, eqv.note (Or.inl rfl), 0, rfl, fun q => absurd (show (1 : Int) = 0 from q) (by decide)⟩) | (rw [show sp_put M f d v w b = (2, 0, M) from (if_pos (by omega)).trans (if_neg (by omega))]; exact ⟨_, hM2, ((MF.rf).tr hF2), rfl, upM_ss, eqv.note (Or.inl rfl), 0, rfl, fun q => absurd (show (2 : Int) = 0 from q) (by decide)⟩) | (rw [show sp_put M f d v w b = _ from (if_pos (by omega)).trans (if_pos (by omega))]; exact ⟨_, hM2, ((MF.rf).tr hF2), rfl, (by rw [upM_n (by decide)]; rw [upM_n (by decide)]; rw [upM_n (by decide)]; rw [upM_n (by decide)]; rw [upM_n (by decide)]; exact upM_ss), (((((eqv.note (Or.inl rfl)).up 14 _ _).up 15 _ _).up 16 _ _).up 17 _ _).up 13 _ _, _, rfl, fun _ => rfl⟩)
      · refine v_iload_n (pc' := 47) (j := 3) F d_M_put_46 rfl rfl rfl ?_
        refine v_callSP (pc' := 50) F d_M_put_47 rfl cal_M_isValue wx_782 wx_783 (c_M_isValue l X _ _ _ (by omega)) rfl ⟨by decide, by decide, by decide, by decide⟩ (Nat.le_of_ble_eq_true rfl) rfl rfl ?_
        refine v_zif_eq (tgt := 65) (pc' := 53) F d_M_put_50 (by decide) rfl (fun c50 => ?_) (fun c50 => ?_)
        · refine v_iconst (pc' := 66) F d_M_put_65 rfl ?_
          refine v_istore_7 (pc' := 68) F d_M_put_66 rfl rfl (by decide) ?_
          refine v_iload (pc' := 70) F d_M_put_68 rfl rfl ?_
          refine v_if_eq (tgt := 108) (pc' := 73) F d_M_put_70 (by decide) rfl (by omega) (fun c70 => ?_) (fun c70 => by exfalso; omega)
          refine v_iconst (pc' := 109) F d_M_put_108 rfl ?_
          refine v_istore_7 (pc' := 111) F d_M_put_109 rfl rfl (by decide) ?_
          refine v_aload_n (pc' := 112) (j := 0) F d_M_put_111 rfl rfl rfl ?_
          refine v_iload (pc' := 114) F d_M_put_112 rfl rfl ?_
          refine v_iload (pc' := 116) F d_M_put_114 rfl rfl ?_
          refine v_if_eq (tgt := 134) (pc' := 119) F d_M_put_116 (by decide) rfl (by omega) (fun c116 => ?_) (fun c116 => by exfalso; omega)
          refine v_iconst (pc' := 135) F d_M_put_134 rfl ?_
          refine v_callVM (pc' := 138) (C := zR_M) (T9 := zF_M) (N := 28) F d_M_put_135 rfl cal_M_allows wx_758 wx_760 wp_16 rfl hM.1 (c_allows_1 l X _ _ _ _ _ hM (by omega)) rfl ⟨by decide, by decide, by decide, by decide⟩ (Nat.le_of_ble_eq_true rfl) rfl rfl (fun h3 hM3 hF3 => ?_)
          refine v_if_ne (tgt := 143) (pc' := 141) F d_M_put_138 (by decide) rfl (by omega) (fun c138 => by exfalso; omega) (fun c138 => ?_)
          refine v_iconst (pc' := 142) F d_M_put_141 rfl ?_
          refine v_ireturn F rfl d_M_put_142 rfl rfl (Nat.le_refl _) (Nat.le_refl _) ?_
          first | (exfalso; omega) | (rw [show sp_put M f d v w b = (1, 0, M) from if_neg (by omega)]; exact ⟨_, hM3, ((MF.rf).tr hF3), rfl, upM_ss, eqv.note (Or.inl rfl), 0, rfl, fun q => absurd (show (1 : Int) = 0 from q) (by decide)⟩) | (rw [show sp_put M f d v w b = (2, 0, M) from (if_pos (by omega)).trans (if_neg (by omega))]; exact ⟨_, hM3, ((MF.rf).tr hF3), rfl, upM_ss, eqv.note (Or.inl rfl), 0, rfl, fun q => absurd (show (2 : Int) = 0 from q) (by decide)⟩) | (rw [show sp_put M f d v w b = _ from (if_pos (by omega)).trans (if_pos (by omega))]; exact ⟨_, hM3, ((MF.rf).tr hF3), rfl, (by rw [upM_n (by decide)]; rw [upM_n (by decide)]; rw [upM_n (by decide)]; rw [upM_n (by decide)]; rw [upM_n (by decide)]; exact upM_ss), (((((eqv.note (Or.inl rfl)).up 14 _ _).up 15 _ _).up 16 _ _).up 17 _ _).up 13 _ _, _, rfl, fun _ => rfl⟩)
        · refine v_iload (pc' := 55) F d_M_put_53 rfl rfl ?_
          refine v_callSP (pc' := 58) F d_M_put_55 rfl cal_M_isValue wx_782 wx_783 (c_M_isValue l X _ _ _ (by omega)) rfl ⟨by decide, by decide, by decide, by decide⟩ (Nat.le_of_ble_eq_true rfl) rfl rfl ?_
          refine v_zif_eq (tgt := 65) (pc' := 61) F d_M_put_58 (by decide) rfl (fun c58 => ?_) (fun c58 => ?_)
          · refine v_iconst (pc' := 66) F d_M_put_65 rfl ?_
            refine v_istore_7 (pc' := 68) F d_M_put_66 rfl rfl (by decide) ?_
            refine v_iload (pc' := 70) F d_M_put_68 rfl rfl ?_
            refine v_if_eq (tgt := 108) (pc' := 73) F d_M_put_70 (by decide) rfl (by omega) (fun c70 => ?_) (fun c70 => by exfalso; omega)
            refine v_iconst (pc' := 109) F d_M_put_108 rfl ?_
            refine v_istore_7 (pc' := 111) F d_M_put_109 rfl rfl (by decide) ?_
            refine v_aload_n (pc' := 112) (j := 0) F d_M_put_111 rfl rfl rfl ?_
            refine v_iload (pc' := 114) F d_M_put_112 rfl rfl ?_
            refine v_iload (pc' := 116) F d_M_put_114 rfl rfl ?_
            refine v_if_eq (tgt := 134) (pc' := 119) F d_M_put_116 (by decide) rfl (by omega) (fun c116 => ?_) (fun c116 => by exfalso; omega)
            refine v_iconst (pc' := 135) F d_M_put_134 rfl ?_
            refine v_callVM (pc' := 138) (C := zR_M) (T9 := zF_M) (N := 28) F d_M_put_135 rfl cal_M_allows wx_758 wx_760 wp_16 rfl hM.1 (c_allows_1 l X _ _ _ _ _ hM (by omega)) rfl ⟨by decide, by decide, by decide, by decide⟩ (Nat.le_of_ble_eq_true rfl) rfl rfl (fun h4 hM4 hF4 => ?_)
            refine v_if_ne (tgt := 143) (pc' := 141) F d_M_put_138 (by decide) rfl (by omega) (fun c138 => by exfalso; omega) (fun c138 => ?_)
            refine v_iconst (pc' := 142) F d_M_put_141 rfl ?_
            refine v_ireturn F rfl d_M_put_142 rfl rfl (Nat.le_refl _) (Nat.le_refl _) ?_
            first | (exfalso; omega) | (rw [show sp_put M f d v w b = (1, 0, M) from if_neg (by omega)]; exact ⟨_, hM4, ((MF.rf).tr hF4), rfl, upM_ss, eqv.note (Or.inl rfl), 0, rfl, fun q => absurd (show (1 : Int) = 0 from q) (by decide)⟩) | (rw [show sp_put M f d v w b = (2, 0, M) from (if_pos (by omega)).trans (if_neg (by omega))]; exact ⟨_, hM4, ((MF.rf).tr hF4), rfl, upM_ss, eqv.note (Or.inl rfl), 0, rfl, fun q => absurd (show (2 : Int) = 0 from q) (by decide)⟩) | (rw [show sp_put M f d v w b = _ from (if_pos (by omega)).trans (if_pos (by omega))]; exact ⟨_, hM4, ((MF.rf).tr hF4), rfl, (by rw [upM_n (by decide)]; rw [upM_n (by decide)]; rw [upM_n (by decide)]; rw [upM_n (by decide)]; rw [upM_n (by decide)]; exact upM_ss), (((((eqv.note (Or.inl rfl)).up 14 _ _).up 15 _ _).up 16 _ _).up 17 _ _).up 13 _ _, _, rfl, fun _ => rfl⟩)
          · refine v_iconst (pc' := 62) F d_M_put_61 rfl ?_
            refine v_goto (tgt := 66) F d_M_put_62 (by decide) ?_
            refine v_istore_7 (pc' := 68) F d_M_put_66 rfl rfl (by decide) ?_
            refine v_iload (pc' := 70) F d_M_put_68 rfl rfl ?_
            refine v_if_eq (tgt := 108) (pc' := 73) F d_M_put_70 (by decide) rfl (by omega) (fun c70 => by exfalso; omega) (fun c70 => ?_)
            refine v_aload_n (pc' := 74) (j := 0) F d_M_put_73 rfl rfl rfl ?_
            refine v_getf (pc' := 77) (C := zR_M) (T := zF_M) (N := 28) (ref := "BillSharesModel") F d_M_put_74 rfl zi_M rfl 13 (by decide) wx_674 (Or.inl rfl) hM.1 rfl ?_
            refine v_iload_n (pc' := 78) (j := 1) F d_M_put_77 rfl rfl rfl ?_
            have q1 := hrd f (by omega) (by omega)
            refine mg_13 (pc' := 79) F hM d_M_put_78 rfl (by omega) (by omega) ?_
            refine v_if_eq (tgt := 104) (pc' := 82) F d_M_put_79 (by decide) rfl (by omega) (fun c79 => ?_) (fun c79 => ?_)
            · refine v_iconst (pc' := 105) F d_M_put_104 rfl ?_
              refine v_goto (tgt := 109) F d_M_put_105 (by decide) ?_
              refine v_istore_7 (pc' := 111) F d_M_put_109 rfl rfl (by decide) ?_
              refine v_aload_n (pc' := 112) (j := 0) F d_M_put_111 rfl rfl rfl ?_
              refine v_iload (pc' := 114) F d_M_put_112 rfl rfl ?_
              refine v_iload (pc' := 116) F d_M_put_114 rfl rfl ?_
              refine v_if_eq (tgt := 134) (pc' := 119) F d_M_put_116 (by decide) rfl (by omega) (fun c116 => by exfalso; omega) (fun c116 => ?_)
              refine v_aload_n (pc' := 120) (j := 0) F d_M_put_119 rfl rfl rfl ?_
              refine v_getf (pc' := 123) (C := zR_M) (T := zF_M) (N := 28) (ref := "BillSharesModel") F d_M_put_120 rfl zi_M rfl 13 (by decide) wx_674 (Or.inl rfl) hM.1 rfl ?_
              refine v_iload_n (pc' := 124) (j := 1) F d_M_put_123 rfl rfl rfl ?_
              refine mg_13 (pc' := 125) F hM d_M_put_124 rfl (by omega) (by omega) ?_
              refine v_bipush (pc' := 127) F d_M_put_125 rfl (by decide) ?_
              refine v_icmp_ge (tgt := 134) (pc' := 130) F d_M_put_127 (by decide) rfl (by omega) (by omega) (fun c127 => ?_) (fun c127 => ?_)
              · refine v_iconst (pc' := 135) F d_M_put_134 rfl ?_
                refine v_callVM (pc' := 138) (C := zR_M) (T9 := zF_M) (N := 28) F d_M_put_135 rfl cal_M_allows wx_758 wx_760 wp_16 rfl hM.1 (c_allows_2 l X _ _ _ _ hM) rfl ⟨by decide, by decide, by decide, by decide⟩ (Nat.le_of_ble_eq_true rfl) rfl rfl (fun h5 hM5 hF5 => ?_)
                refine v_if_ne (tgt := 143) (pc' := 141) F d_M_put_138 (by decide) rfl (by omega) (fun c138 => by exfalso; omega) (fun c138 => ?_)
                refine v_iconst (pc' := 142) F d_M_put_141 rfl ?_
                refine v_ireturn F rfl d_M_put_142 rfl rfl (Nat.le_refl _) (Nat.le_refl _) ?_
                first | (exfalso; omega) | (rw [show sp_put M f d v w b = (1, 0, M) from if_neg (by omega)]; exact ⟨_, hM5, ((MF.rf).tr hF5), rfl, upM_ss, eqv.note (Or.inl rfl), 0, rfl, fun q => absurd (show (1 : Int) = 0 from q) (by decide)⟩) | (rw [show sp_put M f d v w b = (2, 0, M) from (if_pos (by omega)).trans (if_neg (by omega))]; exact ⟨_, hM5, ((MF.rf).tr hF5), rfl, upM_ss, eqv.note (Or.inl rfl), 0, rfl, fun q => absurd (show (2 : Int) = 0 from q) (by decide)⟩) | (rw [show sp_put M f d v w b = _ from (if_pos (by omega)).trans (if_pos (by omega))]; exact ⟨_, hM5, ((MF.rf).tr hF5), rfl, (by rw [upM_n (by decide)]; rw [upM_n (by decide)]; rw [upM_n (by decide)]; rw [upM_n (by decide)]; rw [upM_n (by decide)]; exact upM_ss), (((((eqv.note (Or.inl rfl)).up 14 _ _).up 15 _ _).up 16 _ _).up 17 _ _).up 13 _ _, _, rfl, fun _ => rfl⟩)
              · refine v_iconst (pc' := 131) F d_M_put_130 rfl ?_
                refine v_goto (tgt := 135) F d_M_put_131 (by decide) ?_
                refine v_callVM (pc' := 138) (C := zR_M) (T9 := zF_M) (N := 28) F d_M_put_135 rfl cal_M_allows wx_758 wx_760 wp_16 rfl hM.1 (c_allows_0 l X _ _ _ _ hM) rfl ⟨by decide, by decide, by decide, by decide⟩ (Nat.le_of_ble_eq_true rfl) rfl rfl (fun h6 hM6 hF6 => ?_)
                refine v_if_ne (tgt := 143) (pc' := 141) F d_M_put_138 (by decide) rfl (by omega) (fun c138 => ?_) (fun c138 => by exfalso; omega)
                refine v_aload_n (pc' := 144) (j := 0) F d_M_put_143 rfl rfl rfl ?_
                refine v_getf (pc' := 147) (C := zR_M) (T := zF_M) (N := 28) (ref := "BillSharesModel") F d_M_put_144 rfl zi_M rfl 14 (by decide) wx_675 (Or.inl rfl) hM6.1 rfl ?_
                refine v_iload (pc' := 149) F d_M_put_147 rfl rfl ?_
                refine v_iconst (pc' := 150) F d_M_put_149 rfl ?_
                refine v_iadd (pc' := 151) F d_M_put_150 rfl ?_
                refine v_topi (b := 40 * f + M 13 f) (by omega) ?_
                refine v_iload_n (pc' := 152) (j := 2) F d_M_put_151 rfl rfl rfl ?_
                refine mp_14 (pc' := 153) F hM6 d_M_put_152 rfl (by omega) (by omega) (fun h7 hM7 hF7 => ?_)
                refine v_aload_n (pc' := 154) (j := 0) F d_M_put_153 rfl rfl rfl ?_
                refine v_getf (pc' := 157) (C := zR_M) (T := zF_M) (N := 28) (ref := "BillSharesModel") F d_M_put_154 rfl zi_M rfl 15 (by decide) wx_676 (Or.inl rfl) hM7.1 rfl ?_
                refine v_iload (pc' := 159) F d_M_put_157 rfl rfl ?_
                refine v_iconst (pc' := 160) F d_M_put_159 rfl ?_
                refine v_iadd (pc' := 161) F d_M_put_160 rfl ?_
                refine v_topi (b := 40 * f + M 13 f) (by omega) ?_
                refine v_iload_n (pc' := 162) (j := 3) F d_M_put_161 rfl rfl rfl ?_
                refine mp_15 (pc' := 163) F hM7 d_M_put_162 rfl (by omega) (by omega) (fun h8 hM8 hF8 => ?_)
                refine v_aload_n (pc' := 164) (j := 0) F d_M_put_163 rfl rfl rfl ?_
                refine v_getf (pc' := 167) (C := zR_M) (T := zF_M) (N := 28) (ref := "BillSharesModel") F d_M_put_164 rfl zi_M rfl 16 (by decide) wx_677 (Or.inl rfl) hM8.1 rfl ?_
                refine v_iload (pc' := 169) F d_M_put_167 rfl rfl ?_
                refine v_iconst (pc' := 170) F d_M_put_169 rfl ?_
                refine v_iadd (pc' := 171) F d_M_put_170 rfl ?_
                refine v_topi (b := 40 * f + M 13 f) (by omega) ?_
                refine v_iload (pc' := 173) F d_M_put_171 rfl rfl ?_
                refine mp_16 (pc' := 174) F hM8 d_M_put_173 rfl (by omega) (by omega) (fun h9 hM9 hF9 => ?_)
                refine v_aload_n (pc' := 175) (j := 0) F d_M_put_174 rfl rfl rfl ?_
                refine v_getf (pc' := 178) (C := zR_M) (T := zF_M) (N := 28) (ref := "BillSharesModel") F d_M_put_175 rfl zi_M rfl 17 (by decide) wx_678 (Or.inl rfl) hM9.1 rfl ?_
                refine v_iload (pc' := 180) F d_M_put_178 rfl rfl ?_
                refine v_iconst (pc' := 181) F d_M_put_180 rfl ?_
                refine v_iadd (pc' := 182) F d_M_put_181 rfl ?_
                refine v_topi (b := 40 * f + M 13 f) (by omega) ?_
                refine v_iload (pc' := 184) F d_M_put_182 rfl rfl ?_
                refine mp_17 (pc' := 185) F hM9 d_M_put_184 rfl (by omega) (by omega) hb (fun h10 hM10 hF10 => ?_)
                refine v_aload_n (pc' := 186) (j := 0) F d_M_put_185 rfl rfl rfl ?_
                refine v_getf (pc' := 189) (C := zR_M) (T := zF_M) (N := 28) (ref := "BillSharesModel") F d_M_put_186 rfl zi_M rfl 13 (by decide) wx_674 (Or.inl rfl) hM10.1 rfl ?_
                refine v_iload_n (pc' := 190) (j := 1) F d_M_put_189 rfl rfl rfl ?_
                refine v_dup2 (pc' := 191) F d_M_put_190 rfl rfl rfl ?_
                refine mg_13 (pc' := 192) F hM10 d_M_put_191 rfl (by omega) (by omega) ?_
                refine v_un (by decide) ?_
                refine v_un (by decide) ?_
                refine v_un (by decide) ?_
                refine v_un (by decide) ?_
                refine v_un (by decide) ?_
                refine v_iconst (pc' := 193) F d_M_put_192 rfl ?_
                refine v_iadd (pc' := 194) F d_M_put_193 rfl ?_
                refine mp_13 (pc' := 195) F hM10 d_M_put_194 rfl (by omega) (by omega) (fun h11 hM11 hF11 => ?_)
                refine v_aload_n (pc' := 196) (j := 0) F d_M_put_195 rfl rfl rfl ?_
                refine v_getf (pc' := 199) (C := zR_M) (T := zF_M) (N := 28) (ref := "BillSharesModel") F d_M_put_196 rfl zi_M rfl 13 (by decide) wx_674 (Or.inl rfl) hM11.1 rfl ?_
                refine v_iload_n (pc' := 200) (j := 1) F d_M_put_199 rfl rfl rfl ?_
                refine mg_13 (pc' := 201) F hM11 d_M_put_200 rfl (by omega) (by omega) ?_
                refine v_us ?_
                refine v_ireturn F rfl d_M_put_201 rfl rfl (Nat.le_refl _) (Nat.le_refl _) ?_
                first | (exfalso; omega) | (rw [show sp_put M f d v w b = (1, 0, M) from if_neg (by omega)]; exact ⟨_, hM11, ((((((((((((MF.rf).tr hF6)).tr hF7)).tr hF8)).tr hF9)).tr hF10)).tr hF11), rfl, upM_ss, eqv.note (Or.inl rfl), 0, rfl, fun q => absurd (show (1 : Int) = 0 from q) (by decide)⟩) | (rw [show sp_put M f d v w b = (2, 0, M) from (if_pos (by omega)).trans (if_neg (by omega))]; exact ⟨_, hM11, ((((((((((((MF.rf).tr hF6)).tr hF7)).tr hF8)).tr hF9)).tr hF10)).tr hF11), rfl, upM_ss, eqv.note (Or.inl rfl), 0, rfl, fun q => absurd (show (2 : Int) = 0 from q) (by decide)⟩) | (rw [show sp_put M f d v w b = _ from (if_pos (by omega)).trans (if_pos (by omega))]; exact ⟨_, hM11, ((((((((((((MF.rf).tr hF6)).tr hF7)).tr hF8)).tr hF9)).tr hF10)).tr hF11), rfl, (by rw [upM_n (by decide)]; rw [upM_n (by decide)]; rw [upM_n (by decide)]; rw [upM_n (by decide)]; rw [upM_n (by decide)]; exact upM_ss), (((((eqv.note (Or.inl rfl)).up 14 _ _).up 15 _ _).up 16 _ _).up 17 _ _).up 13 _ _, _, rfl, fun _ => rfl⟩)
            · refine v_aload_n (pc' := 83) (j := 0) F d_M_put_82 rfl rfl rfl ?_
              refine v_getf (pc' := 86) (C := zR_M) (T := zF_M) (N := 28) (ref := "BillSharesModel") F d_M_put_83 rfl zi_M rfl 14 (by decide) wx_675 (Or.inl rfl) hM.1 rfl ?_
              refine v_iload (pc' := 88) F d_M_put_86 rfl rfl ?_
              have q2 := hda (40 * f + M 13 f - 1) (by omega) (by omega)
              refine mg_14 (pc' := 89) F hM d_M_put_88 rfl (by omega) (by omega) ?_
              refine v_iload_n (pc' := 90) (j := 2) F d_M_put_89 rfl rfl rfl ?_
              refine v_icmp_ge (tgt := 108) (pc' := 93) F d_M_put_90 (by decide) rfl (by omega) (by omega) (fun c90 => ?_) (fun c90 => ?_)
              · refine v_iconst (pc' := 109) F d_M_put_108 rfl ?_
                refine v_istore_7 (pc' := 111) F d_M_put_109 rfl rfl (by decide) ?_
                refine v_aload_n (pc' := 112) (j := 0) F d_M_put_111 rfl rfl rfl ?_
                refine v_iload (pc' := 114) F d_M_put_112 rfl rfl ?_
                refine v_iload (pc' := 116) F d_M_put_114 rfl rfl ?_
                refine v_if_eq (tgt := 134) (pc' := 119) F d_M_put_116 (by decide) rfl (by omega) (fun c116 => ?_) (fun c116 => by exfalso; omega)
                refine v_iconst (pc' := 135) F d_M_put_134 rfl ?_
                refine v_callVM (pc' := 138) (C := zR_M) (T9 := zF_M) (N := 28) F d_M_put_135 rfl cal_M_allows wx_758 wx_760 wp_16 rfl hM.1 (c_allows_1 l X _ _ _ _ _ hM (by omega)) rfl ⟨by decide, by decide, by decide, by decide⟩ (Nat.le_of_ble_eq_true rfl) rfl rfl (fun h12 hM12 hF12 => ?_)
                refine v_if_ne (tgt := 143) (pc' := 141) F d_M_put_138 (by decide) rfl (by omega) (fun c138 => by exfalso; omega) (fun c138 => ?_)
                refine v_iconst (pc' := 142) F d_M_put_141 rfl ?_
                refine v_ireturn F rfl d_M_put_142 rfl rfl (Nat.le_refl _) (Nat.le_refl _) ?_
                first | (exfalso; omega) | (rw [show sp_put M f d v w b = (1, 0, M) from if_neg (by omega)]; exact ⟨_, hM12, ((MF.rf).tr hF12), rfl, upM_ss, eqv.note (Or.inl rfl), 0, rfl, fun q => absurd (show (1 : Int) = 0 from q) (by decide)⟩) | (rw [show sp_put M f d v w b = (2, 0, M) from (if_pos (by omega)).trans (if_neg (by omega))]; exact ⟨_, hM12, ((MF.rf).tr hF12), rfl, upM_ss, eqv.note (Or.inl rfl), 0, rfl, fun q => absurd (show (2 : Int) = 0 from q) (by decide)⟩) | (rw [show sp_put M f d v w b = _ from (if_pos (by omega)).trans (if_pos (by omega))]; exact ⟨_, hM12, ((MF.rf).tr hF12), rfl, (by rw [upM_n (by decide)]; rw [upM_n (by decide)]; rw [upM_n (by decide)]; rw [upM_n (by decide)]; rw [upM_n (by decide)]; exact upM_ss), (((((eqv.note (Or.inl rfl)).up 14 _ _).up 15 _ _).up 16 _ _).up 17 _ _).up 13 _ _, _, rfl, fun _ => rfl⟩)
              · refine v_aload_n (pc' := 94) (j := 0) F d_M_put_93 rfl rfl rfl ?_
                refine v_getf (pc' := 97) (C := zR_M) (T := zF_M) (N := 28) (ref := "BillSharesModel") F d_M_put_94 rfl zi_M rfl 16 (by decide) wx_677 (Or.inl rfl) hM.1 rfl ?_
                refine v_iload (pc' := 99) F d_M_put_97 rfl rfl ?_
                have q3 := hgo (40 * f + M 13 f - 1) (by omega) (by omega)
                refine mg_16 (pc' := 100) F hM d_M_put_99 rfl (by omega) (by omega) ?_
                refine v_iload_n (pc' := 101) (j := 3) F d_M_put_100 rfl rfl rfl ?_
                refine v_icmp_gt (tgt := 108) (pc' := 104) F d_M_put_101 (by decide) rfl (by omega) (by omega) (fun c101 => ?_) (fun c101 => ?_)
                · refine v_iconst (pc' := 109) F d_M_put_108 rfl ?_
                  refine v_istore_7 (pc' := 111) F d_M_put_109 rfl rfl (by decide) ?_
                  refine v_aload_n (pc' := 112) (j := 0) F d_M_put_111 rfl rfl rfl ?_
                  refine v_iload (pc' := 114) F d_M_put_112 rfl rfl ?_
                  refine v_iload (pc' := 116) F d_M_put_114 rfl rfl ?_
                  refine v_if_eq (tgt := 134) (pc' := 119) F d_M_put_116 (by decide) rfl (by omega) (fun c116 => ?_) (fun c116 => by exfalso; omega)
                  refine v_iconst (pc' := 135) F d_M_put_134 rfl ?_
                  refine v_callVM (pc' := 138) (C := zR_M) (T9 := zF_M) (N := 28) F d_M_put_135 rfl cal_M_allows wx_758 wx_760 wp_16 rfl hM.1 (c_allows_1 l X _ _ _ _ _ hM (by omega)) rfl ⟨by decide, by decide, by decide, by decide⟩ (Nat.le_of_ble_eq_true rfl) rfl rfl (fun h13 hM13 hF13 => ?_)
                  refine v_if_ne (tgt := 143) (pc' := 141) F d_M_put_138 (by decide) rfl (by omega) (fun c138 => by exfalso; omega) (fun c138 => ?_)
                  refine v_iconst (pc' := 142) F d_M_put_141 rfl ?_
                  refine v_ireturn F rfl d_M_put_142 rfl rfl (Nat.le_refl _) (Nat.le_refl _) ?_
                  first | (exfalso; omega) | (rw [show sp_put M f d v w b = (1, 0, M) from if_neg (by omega)]; exact ⟨_, hM13, ((MF.rf).tr hF13), rfl, upM_ss, eqv.note (Or.inl rfl), 0, rfl, fun q => absurd (show (1 : Int) = 0 from q) (by decide)⟩) | (rw [show sp_put M f d v w b = (2, 0, M) from (if_pos (by omega)).trans (if_neg (by omega))]; exact ⟨_, hM13, ((MF.rf).tr hF13), rfl, upM_ss, eqv.note (Or.inl rfl), 0, rfl, fun q => absurd (show (2 : Int) = 0 from q) (by decide)⟩) | (rw [show sp_put M f d v w b = _ from (if_pos (by omega)).trans (if_pos (by omega))]; exact ⟨_, hM13, ((MF.rf).tr hF13), rfl, (by rw [upM_n (by decide)]; rw [upM_n (by decide)]; rw [upM_n (by decide)]; rw [upM_n (by decide)]; rw [upM_n (by decide)]; exact upM_ss), (((((eqv.note (Or.inl rfl)).up 14 _ _).up 15 _ _).up 16 _ _).up 17 _ _).up 13 _ _, _, rfl, fun _ => rfl⟩)
                · refine v_iconst (pc' := 105) F d_M_put_104 rfl ?_
                  refine v_goto (tgt := 109) F d_M_put_105 (by decide) ?_
                  refine v_istore_7 (pc' := 111) F d_M_put_109 rfl rfl (by decide) ?_
                  refine v_aload_n (pc' := 112) (j := 0) F d_M_put_111 rfl rfl rfl ?_
                  refine v_iload (pc' := 114) F d_M_put_112 rfl rfl ?_
                  refine v_iload (pc' := 116) F d_M_put_114 rfl rfl ?_
                  refine v_if_eq (tgt := 134) (pc' := 119) F d_M_put_116 (by decide) rfl (by omega) (fun c116 => by exfalso; omega) (fun c116 => ?_)
                  refine v_aload_n (pc' := 120) (j := 0) F d_M_put_119 rfl rfl rfl ?_
                  refine v_getf (pc' := 123) (C := zR_M) (T := zF_M) (N := 28) (ref := "BillSharesModel") F d_M_put_120 rfl zi_M rfl 13 (by decide) wx_674 (Or.inl rfl) hM.1 rfl ?_
                  refine v_iload_n (pc' := 124) (j := 1) F d_M_put_123 rfl rfl rfl ?_
                  refine mg_13 (pc' := 125) F hM d_M_put_124 rfl (by omega) (by omega) ?_
                  refine v_bipush (pc' := 127) F d_M_put_125 rfl (by decide) ?_
                  refine v_icmp_ge (tgt := 134) (pc' := 130) F d_M_put_127 (by decide) rfl (by omega) (by omega) (fun c127 => ?_) (fun c127 => ?_)
                  · refine v_iconst (pc' := 135) F d_M_put_134 rfl ?_
                    refine v_callVM (pc' := 138) (C := zR_M) (T9 := zF_M) (N := 28) F d_M_put_135 rfl cal_M_allows wx_758 wx_760 wp_16 rfl hM.1 (c_allows_2 l X _ _ _ _ hM) rfl ⟨by decide, by decide, by decide, by decide⟩ (Nat.le_of_ble_eq_true rfl) rfl rfl (fun h14 hM14 hF14 => ?_)
                    refine v_if_ne (tgt := 143) (pc' := 141) F d_M_put_138 (by decide) rfl (by omega) (fun c138 => by exfalso; omega) (fun c138 => ?_)
                    refine v_iconst (pc' := 142) F d_M_put_141 rfl ?_
                    refine v_ireturn F rfl d_M_put_142 rfl rfl (Nat.le_refl _) (Nat.le_refl _) ?_
                    first | (exfalso; omega) | (rw [show sp_put M f d v w b = (1, 0, M) from if_neg (by omega)]; exact ⟨_, hM14, ((MF.rf).tr hF14), rfl, upM_ss, eqv.note (Or.inl rfl), 0, rfl, fun q => absurd (show (1 : Int) = 0 from q) (by decide)⟩) | (rw [show sp_put M f d v w b = (2, 0, M) from (if_pos (by omega)).trans (if_neg (by omega))]; exact ⟨_, hM14, ((MF.rf).tr hF14), rfl, upM_ss, eqv.note (Or.inl rfl), 0, rfl, fun q => absurd (show (2 : Int) = 0 from q) (by decide)⟩) | (rw [show sp_put M f d v w b = _ from (if_pos (by omega)).trans (if_pos (by omega))]; exact ⟨_, hM14, ((MF.rf).tr hF14), rfl, (by rw [upM_n (by decide)]; rw [upM_n (by decide)]; rw [upM_n (by decide)]; rw [upM_n (by decide)]; rw [upM_n (by decide)]; exact upM_ss), (((((eqv.note (Or.inl rfl)).up 14 _ _).up 15 _ _).up 16 _ _).up 17 _ _).up 13 _ _, _, rfl, fun _ => rfl⟩)
                  · refine v_iconst (pc' := 131) F d_M_put_130 rfl ?_
                    refine v_goto (tgt := 135) F d_M_put_131 (by decide) ?_
                    refine v_callVM (pc' := 138) (C := zR_M) (T9 := zF_M) (N := 28) F d_M_put_135 rfl cal_M_allows wx_758 wx_760 wp_16 rfl hM.1 (c_allows_0 l X _ _ _ _ hM) rfl ⟨by decide, by decide, by decide, by decide⟩ (Nat.le_of_ble_eq_true rfl) rfl rfl (fun h15 hM15 hF15 => ?_)
                    refine v_if_ne (tgt := 143) (pc' := 141) F d_M_put_138 (by decide) rfl (by omega) (fun c138 => ?_) (fun c138 => by exfalso; omega)
                    refine v_aload_n (pc' := 144) (j := 0) F d_M_put_143 rfl rfl rfl ?_
                    refine v_getf (pc' := 147) (C := zR_M) (T := zF_M) (N := 28) (ref := "BillSharesModel") F d_M_put_144 rfl zi_M rfl 14 (by decide) wx_675 (Or.inl rfl) hM15.1 rfl ?_
                    refine v_iload (pc' := 149) F d_M_put_147 rfl rfl ?_
                    refine v_iconst (pc' := 150) F d_M_put_149 rfl ?_
                    refine v_iadd (pc' := 151) F d_M_put_150 rfl ?_
                    refine v_topi (b := 40 * f + M 13 f) (by omega) ?_
                    refine v_iload_n (pc' := 152) (j := 2) F d_M_put_151 rfl rfl rfl ?_
                    refine mp_14 (pc' := 153) F hM15 d_M_put_152 rfl (by omega) (by omega) (fun h16 hM16 hF16 => ?_)
                    refine v_aload_n (pc' := 154) (j := 0) F d_M_put_153 rfl rfl rfl ?_
                    refine v_getf (pc' := 157) (C := zR_M) (T := zF_M) (N := 28) (ref := "BillSharesModel") F d_M_put_154 rfl zi_M rfl 15 (by decide) wx_676 (Or.inl rfl) hM16.1 rfl ?_
                    refine v_iload (pc' := 159) F d_M_put_157 rfl rfl ?_
                    refine v_iconst (pc' := 160) F d_M_put_159 rfl ?_
                    refine v_iadd (pc' := 161) F d_M_put_160 rfl ?_
                    refine v_topi (b := 40 * f + M 13 f) (by omega) ?_
                    refine v_iload_n (pc' := 162) (j := 3) F d_M_put_161 rfl rfl rfl ?_
                    refine mp_15 (pc' := 163) F hM16 d_M_put_162 rfl (by omega) (by omega) (fun h17 hM17 hF17 => ?_)
                    refine v_aload_n (pc' := 164) (j := 0) F d_M_put_163 rfl rfl rfl ?_
                    refine v_getf (pc' := 167) (C := zR_M) (T := zF_M) (N := 28) (ref := "BillSharesModel") F d_M_put_164 rfl zi_M rfl 16 (by decide) wx_677 (Or.inl rfl) hM17.1 rfl ?_
                    refine v_iload (pc' := 169) F d_M_put_167 rfl rfl ?_
                    refine v_iconst (pc' := 170) F d_M_put_169 rfl ?_
                    refine v_iadd (pc' := 171) F d_M_put_170 rfl ?_
                    refine v_topi (b := 40 * f + M 13 f) (by omega) ?_
                    refine v_iload (pc' := 173) F d_M_put_171 rfl rfl ?_
                    refine mp_16 (pc' := 174) F hM17 d_M_put_173 rfl (by omega) (by omega) (fun h18 hM18 hF18 => ?_)
                    refine v_aload_n (pc' := 175) (j := 0) F d_M_put_174 rfl rfl rfl ?_
                    refine v_getf (pc' := 178) (C := zR_M) (T := zF_M) (N := 28) (ref := "BillSharesModel") F d_M_put_175 rfl zi_M rfl 17 (by decide) wx_678 (Or.inl rfl) hM18.1 rfl ?_
                    refine v_iload (pc' := 180) F d_M_put_178 rfl rfl ?_
                    refine v_iconst (pc' := 181) F d_M_put_180 rfl ?_
                    refine v_iadd (pc' := 182) F d_M_put_181 rfl ?_
                    refine v_topi (b := 40 * f + M 13 f) (by omega) ?_
                    refine v_iload (pc' := 184) F d_M_put_182 rfl rfl ?_
                    refine mp_17 (pc' := 185) F hM18 d_M_put_184 rfl (by omega) (by omega) hb (fun h19 hM19 hF19 => ?_)
                    refine v_aload_n (pc' := 186) (j := 0) F d_M_put_185 rfl rfl rfl ?_
                    refine v_getf (pc' := 189) (C := zR_M) (T := zF_M) (N := 28) (ref := "BillSharesModel") F d_M_put_186 rfl zi_M rfl 13 (by decide) wx_674 (Or.inl rfl) hM19.1 rfl ?_
                    refine v_iload_n (pc' := 190) (j := 1) F d_M_put_189 rfl rfl rfl ?_
                    refine v_dup2 (pc' := 191) F d_M_put_190 rfl rfl rfl ?_
                    refine mg_13 (pc' := 192) F hM19 d_M_put_191 rfl (by omega) (by omega) ?_
                    refine v_un (by decide) ?_
                    refine v_un (by decide) ?_
                    refine v_un (by decide) ?_
                    refine v_un (by decide) ?_
                    refine v_un (by decide) ?_
                    refine v_iconst (pc' := 193) F d_M_put_192 rfl ?_
                    refine v_iadd (pc' := 194) F d_M_put_193 rfl ?_
                    refine mp_13 (pc' := 195) F hM19 d_M_put_194 rfl (by omega) (by omega) (fun h20 hM20 hF20 => ?_)
                    refine v_aload_n (pc' := 196) (j := 0) F d_M_put_195 rfl rfl rfl ?_
                    refine v_getf (pc' := 199) (C := zR_M) (T := zF_M) (N := 28) (ref := "BillSharesModel") F d_M_put_196 rfl zi_M rfl 13 (by decide) wx_674 (Or.inl rfl) hM20.1 rfl ?_
                    refine v_iload_n (pc' := 200) (j := 1) F d_M_put_199 rfl rfl rfl ?_
                    refine mg_13 (pc' := 201) F hM20 d_M_put_200 rfl (by omega) (by omega) ?_
                    refine v_us ?_
                    refine v_ireturn F rfl d_M_put_201 rfl rfl (Nat.le_refl _) (Nat.le_refl _) ?_
                    first | (exfalso; omega) | (rw [show sp_put M f d v w b = (1, 0, M) from if_neg (by omega)]; exact ⟨_, hM20, ((((((((((((MF.rf).tr hF15)).tr hF16)).tr hF17)).tr hF18)).tr hF19)).tr hF20), rfl, upM_ss, eqv.note (Or.inl rfl), 0, rfl, fun q => absurd (show (1 : Int) = 0 from q) (by decide)⟩) | (rw [show sp_put M f d v w b = (2, 0, M) from (if_pos (by omega)).trans (if_neg (by omega))]; exact ⟨_, hM20, ((((((((((((MF.rf).tr hF15)).tr hF16)).tr hF17)).tr hF18)).tr hF19)).tr hF20), rfl, upM_ss, eqv.note (Or.inl rfl), 0, rfl, fun q => absurd (show (2 : Int) = 0 from q) (by decide)⟩) | (rw [show sp_put M f d v w b = _ from (if_pos (by omega)).trans (if_pos (by omega))]; exact ⟨_, hM20, ((((((((((((MF.rf).tr hF15)).tr hF16)).tr hF17)).tr hF18)).tr hF19)).tr hF20), rfl, (by rw [upM_n (by decide)]; rw [upM_n (by decide)]; rw [upM_n (by decide)]; rw [upM_n (by decide)]; rw [upM_n (by decide)]; exact upM_ss), (((((eqv.note (Or.inl rfl)).up 14 _ _).up 15 _ _).up 16 _ _).up 17 _ _).up 13 _ _, _, rfl, fun _ => rfl⟩)
  · refine v_bipush (pc' := 10) F d_M_put_8 rfl (by decide) ?_
    refine v_iload_n (pc' := 11) (j := 1) F d_M_put_10 rfl rfl rfl ?_
    refine v_imul (pc' := 12) F d_M_put_11 rfl ?_
    refine v_aload_n (pc' := 13) (j := 0) F d_M_put_12 rfl rfl rfl ?_
    refine v_getf (pc' := 16) (C := zR_M) (T := zF_M) (N := 28) (ref := "BillSharesModel") F d_M_put_13 rfl zi_M rfl 13 (by decide) wx_674 (Or.inl rfl) hM.1 rfl ?_
    refine v_iload_n (pc' := 17) (j := 1) F d_M_put_16 rfl rfl rfl ?_
    have q1 := hrd f (by omega) (by omega)
    refine mg_13 (pc' := 18) F hM d_M_put_17 rfl (by omega) (by omega) ?_
    refine v_iadd (pc' := 19) F d_M_put_18 rfl ?_
    refine v_iconst (pc' := 20) F d_M_put_19 rfl ?_
    refine v_isub (pc' := 21) F d_M_put_20 rfl ?_
    refine v_goto (tgt := 25) F d_M_put_21 (by decide) ?_
    refine v_istore_6 (pc' := 27) F d_M_put_25 rfl rfl (by decide) ?_
    refine v_aload_n (pc' := 28) (j := 0) F d_M_put_27 rfl rfl rfl ?_
    refine v_iload_n (pc' := 29) (j := 1) F d_M_put_28 rfl rfl rfl ?_
    refine v_callVP (pc' := 32) (C := zR_M) (T9 := zF_M) (N := 28) F d_M_put_29 rfl cal_M_isMeter wx_778 wx_780 wp_19 rfl hM.1 (c_M_isMeter l X _ _ _ _ _ hM hme (by omega)) rfl ⟨by decide, by decide, by decide, by decide⟩ (Nat.le_of_ble_eq_true rfl) rfl rfl ?_
    refine v_zif_eq (tgt := 65) (pc' := 35) F d_M_put_32 (by decide) rfl (fun c32 => ?_) (fun c32 => ?_)
    · refine v_iconst (pc' := 66) F d_M_put_65 rfl ?_
      refine v_istore_7 (pc' := 68) F d_M_put_66 rfl rfl (by decide) ?_
      refine v_iload (pc' := 70) F d_M_put_68 rfl rfl ?_
      refine v_if_eq (tgt := 108) (pc' := 73) F d_M_put_70 (by decide) rfl (by omega) (fun c70 => ?_) (fun c70 => by exfalso; omega)
      refine v_iconst (pc' := 109) F d_M_put_108 rfl ?_
      refine v_istore_7 (pc' := 111) F d_M_put_109 rfl rfl (by decide) ?_
      refine v_aload_n (pc' := 112) (j := 0) F d_M_put_111 rfl rfl rfl ?_
      refine v_iload (pc' := 114) F d_M_put_112 rfl rfl ?_
      refine v_iload (pc' := 116) F d_M_put_114 rfl rfl ?_
      refine v_if_eq (tgt := 134) (pc' := 119) F d_M_put_116 (by decide) rfl (by omega) (fun c116 => ?_) (fun c116 => by exfalso; omega)
      refine v_iconst (pc' := 135) F d_M_put_134 rfl ?_
      refine v_callVM (pc' := 138) (C := zR_M) (T9 := zF_M) (N := 28) F d_M_put_135 rfl cal_M_allows wx_758 wx_760 wp_16 rfl hM.1 (c_allows_1 l X _ _ _ _ _ hM (by omega)) rfl ⟨by decide, by decide, by decide, by decide⟩ (Nat.le_of_ble_eq_true rfl) rfl rfl (fun h21 hM21 hF21 => ?_)
      refine v_if_ne (tgt := 143) (pc' := 141) F d_M_put_138 (by decide) rfl (by omega) (fun c138 => by exfalso; omega) (fun c138 => ?_)
      refine v_iconst (pc' := 142) F d_M_put_141 rfl ?_
      refine v_ireturn F rfl d_M_put_142 rfl rfl (Nat.le_refl _) (Nat.le_refl _) ?_
      first | (exfalso; omega) | (rw [show sp_put M f d v w b = (1, 0, M) from if_neg (by omega)]; exact ⟨_, hM21, ((MF.rf).tr hF21), rfl, upM_ss, eqv.note (Or.inl rfl), 0, rfl, fun q => absurd (show (1 : Int) = 0 from q) (by decide)⟩) | (rw [show sp_put M f d v w b = (2, 0, M) from (if_pos (by omega)).trans (if_neg (by omega))]; exact ⟨_, hM21, ((MF.rf).tr hF21), rfl, upM_ss, eqv.note (Or.inl rfl), 0, rfl, fun q => absurd (show (2 : Int) = 0 from q) (by decide)⟩) | (rw [show sp_put M f d v w b = _ from (if_pos (by omega)).trans (if_pos (by omega))]; exact ⟨_, hM21, ((MF.rf).tr hF21), rfl, (by rw [upM_n (by decide)]; rw [upM_n (by decide)]; rw [upM_n (by decide)]; rw [upM_n (by decide)]; rw [upM_n (by decide)]; exact upM_ss), (((((eqv.note (Or.inl rfl)).up 14 _ _).up 15 _ _).up 16 _ _).up 17 _ _).up 13 _ _, _, rfl, fun _ => rfl⟩)
    · refine v_iload_n (pc' := 36) (j := 2) F d_M_put_35 rfl rfl rfl ?_
      refine v_iconst (pc' := 37) F d_M_put_36 rfl ?_
      refine v_sipush (pc' := 40) F d_M_put_37 rfl (by decide) ?_
      refine v_callSP (pc' := 43) F d_M_put_40 rfl cal_M_isIn wx_755 wx_756 (c_M_isIn l X _ _ _ _ _ (by omega) (by omega) (by omega)) rfl ⟨by decide, by decide, by decide, by decide⟩ (Nat.le_of_ble_eq_true rfl) rfl rfl ?_
      refine v_zif_eq (tgt := 65) (pc' := 46) F d_M_put_43 (by decide) rfl (fun c43 => ?_) (fun c43 => ?_)
      · refine v_iconst (pc' := 66) F d_M_put_65 rfl ?_
        refine v_istore_7 (pc' := 68) F d_M_put_66 rfl rfl (by decide) ?_
        refine v_iload (pc' := 70) F d_M_put_68 rfl rfl ?_
        refine v_if_eq (tgt := 108) (pc' := 73) F d_M_put_70 (by decide) rfl (by omega) (fun c70 => ?_) (fun c70 => by exfalso; omega)
        refine v_iconst (pc' := 109) F d_M_put_108 rfl ?_
        refine v_istore_7 (pc' := 111) F d_M_put_109 rfl rfl (by decide) ?_
        refine v_aload_n (pc' := 112) (j := 0) F d_M_put_111 rfl rfl rfl ?_
        refine v_iload (pc' := 114) F d_M_put_112 rfl rfl ?_
        refine v_iload (pc' := 116) F d_M_put_114 rfl rfl ?_
        refine v_if_eq (tgt := 134) (pc' := 119) F d_M_put_116 (by decide) rfl (by omega) (fun c116 => ?_) (fun c116 => by exfalso; omega)
        refine v_iconst (pc' := 135) F d_M_put_134 rfl ?_
        refine v_callVM (pc' := 138) (C := zR_M) (T9 := zF_M) (N := 28) F d_M_put_135 rfl cal_M_allows wx_758 wx_760 wp_16 rfl hM.1 (c_allows_1 l X _ _ _ _ _ hM (by omega)) rfl ⟨by decide, by decide, by decide, by decide⟩ (Nat.le_of_ble_eq_true rfl) rfl rfl (fun h22 hM22 hF22 => ?_)
        refine v_if_ne (tgt := 143) (pc' := 141) F d_M_put_138 (by decide) rfl (by omega) (fun c138 => by exfalso; omega) (fun c138 => ?_)
        refine v_iconst (pc' := 142) F d_M_put_141 rfl ?_
        refine v_ireturn F rfl d_M_put_142 rfl rfl (Nat.le_refl _) (Nat.le_refl _) ?_
        first | (exfalso; omega) | (rw [show sp_put M f d v w b = (1, 0, M) from if_neg (by omega)]; exact ⟨_, hM22, ((MF.rf).tr hF22), rfl, upM_ss, eqv.note (Or.inl rfl), 0, rfl, fun q => absurd (show (1 : Int) = 0 from q) (by decide)⟩) | (rw [show sp_put M f d v w b = (2, 0, M) from (if_pos (by omega)).trans (if_neg (by omega))]; exact ⟨_, hM22, ((MF.rf).tr hF22), rfl, upM_ss, eqv.note (Or.inl rfl), 0, rfl, fun q => absurd (show (2 : Int) = 0 from q) (by decide)⟩) | (rw [show sp_put M f d v w b = _ from (if_pos (by omega)).trans (if_pos (by omega))]; exact ⟨_, hM22, ((MF.rf).tr hF22), rfl, (by rw [upM_n (by decide)]; rw [upM_n (by decide)]; rw [upM_n (by decide)]; rw [upM_n (by decide)]; rw [upM_n (by decide)]; exact upM_ss), (((((eqv.note (Or.inl rfl)).up 14 _ _).up 15 _ _).up 16 _ _).up 17 _ _).up 13 _ _, _, rfl, fun _ => rfl⟩)
      · refine v_iload_n (pc' := 47) (j := 3) F d_M_put_46 rfl rfl rfl ?_
        refine v_callSP (pc' := 50) F d_M_put_47 rfl cal_M_isValue wx_782 wx_783 (c_M_isValue l X _ _ _ (by omega)) rfl ⟨by decide, by decide, by decide, by decide⟩ (Nat.le_of_ble_eq_true rfl) rfl rfl ?_
        refine v_zif_eq (tgt := 65) (pc' := 53) F d_M_put_50 (by decide) rfl (fun c50 => ?_) (fun c50 => ?_)
        · refine v_iconst (pc' := 66) F d_M_put_65 rfl ?_
          refine v_istore_7 (pc' := 68) F d_M_put_66 rfl rfl (by decide) ?_
          refine v_iload (pc' := 70) F d_M_put_68 rfl rfl ?_
          refine v_if_eq (tgt := 108) (pc' := 73) F d_M_put_70 (by decide) rfl (by omega) (fun c70 => ?_) (fun c70 => by exfalso; omega)
          refine v_iconst (pc' := 109) F d_M_put_108 rfl ?_
          refine v_istore_7 (pc' := 111) F d_M_put_109 rfl rfl (by decide) ?_
          refine v_aload_n (pc' := 112) (j := 0) F d_M_put_111 rfl rfl rfl ?_
          refine v_iload (pc' := 114) F d_M_put_112 rfl rfl ?_
          refine v_iload (pc' := 116) F d_M_put_114 rfl rfl ?_
          refine v_if_eq (tgt := 134) (pc' := 119) F d_M_put_116 (by decide) rfl (by omega) (fun c116 => ?_) (fun c116 => by exfalso; omega)
          refine v_iconst (pc' := 135) F d_M_put_134 rfl ?_
          refine v_callVM (pc' := 138) (C := zR_M) (T9 := zF_M) (N := 28) F d_M_put_135 rfl cal_M_allows wx_758 wx_760 wp_16 rfl hM.1 (c_allows_1 l X _ _ _ _ _ hM (by omega)) rfl ⟨by decide, by decide, by decide, by decide⟩ (Nat.le_of_ble_eq_true rfl) rfl rfl (fun h23 hM23 hF23 => ?_)
          refine v_if_ne (tgt := 143) (pc' := 141) F d_M_put_138 (by decide) rfl (by omega) (fun c138 => by exfalso; omega) (fun c138 => ?_)
          refine v_iconst (pc' := 142) F d_M_put_141 rfl ?_
          refine v_ireturn F rfl d_M_put_142 rfl rfl (Nat.le_refl _) (Nat.le_refl _) ?_
          first | (exfalso; omega) | (rw [show sp_put M f d v w b = (1, 0, M) from if_neg (by omega)]; exact ⟨_, hM23, ((MF.rf).tr hF23), rfl, upM_ss, eqv.note (Or.inl rfl), 0, rfl, fun q => absurd (show (1 : Int) = 0 from q) (by decide)⟩) | (rw [show sp_put M f d v w b = (2, 0, M) from (if_pos (by omega)).trans (if_neg (by omega))]; exact ⟨_, hM23, ((MF.rf).tr hF23), rfl, upM_ss, eqv.note (Or.inl rfl), 0, rfl, fun q => absurd (show (2 : Int) = 0 from q) (by decide)⟩) | (rw [show sp_put M f d v w b = _ from (if_pos (by omega)).trans (if_pos (by omega))]; exact ⟨_, hM23, ((MF.rf).tr hF23), rfl, (by rw [upM_n (by decide)]; rw [upM_n (by decide)]; rw [upM_n (by decide)]; rw [upM_n (by decide)]; rw [upM_n (by decide)]; exact upM_ss), (((((eqv.note (Or.inl rfl)).up 14 _ _).up 15 _ _).up 16 _ _).up 17 _ _).up 13 _ _, _, rfl, fun _ => rfl⟩)
        · refine v_iload (pc' := 55) F d_M_put_53 rfl rfl ?_
          refine v_callSP (pc' := 58) F d_M_put_55 rfl cal_M_isValue wx_782 wx_783 (c_M_isValue l X _ _ _ (by omega)) rfl ⟨by decide, by decide, by decide, by decide⟩ (Nat.le_of_ble_eq_true rfl) rfl rfl ?_
          refine v_zif_eq (tgt := 65) (pc' := 61) F d_M_put_58 (by decide) rfl (fun c58 => ?_) (fun c58 => ?_)
          · refine v_iconst (pc' := 66) F d_M_put_65 rfl ?_
            refine v_istore_7 (pc' := 68) F d_M_put_66 rfl rfl (by decide) ?_
            refine v_iload (pc' := 70) F d_M_put_68 rfl rfl ?_
            refine v_if_eq (tgt := 108) (pc' := 73) F d_M_put_70 (by decide) rfl (by omega) (fun c70 => ?_) (fun c70 => by exfalso; omega)
            refine v_iconst (pc' := 109) F d_M_put_108 rfl ?_
            refine v_istore_7 (pc' := 111) F d_M_put_109 rfl rfl (by decide) ?_
            refine v_aload_n (pc' := 112) (j := 0) F d_M_put_111 rfl rfl rfl ?_
            refine v_iload (pc' := 114) F d_M_put_112 rfl rfl ?_
            refine v_iload (pc' := 116) F d_M_put_114 rfl rfl ?_
            refine v_if_eq (tgt := 134) (pc' := 119) F d_M_put_116 (by decide) rfl (by omega) (fun c116 => ?_) (fun c116 => by exfalso; omega)
            refine v_iconst (pc' := 135) F d_M_put_134 rfl ?_
            refine v_callVM (pc' := 138) (C := zR_M) (T9 := zF_M) (N := 28) F d_M_put_135 rfl cal_M_allows wx_758 wx_760 wp_16 rfl hM.1 (c_allows_1 l X _ _ _ _ _ hM (by omega)) rfl ⟨by decide, by decide, by decide, by decide⟩ (Nat.le_of_ble_eq_true rfl) rfl rfl (fun h24 hM24 hF24 => ?_)
            refine v_if_ne (tgt := 143) (pc' := 141) F d_M_put_138 (by decide) rfl (by omega) (fun c138 => by exfalso; omega) (fun c138 => ?_)
            refine v_iconst (pc' := 142) F d_M_put_141 rfl ?_
            refine v_ireturn F rfl d_M_put_142 rfl rfl (Nat.le_refl _) (Nat.le_refl _) ?_
            first | (exfalso; omega) | (rw [show sp_put M f d v w b = (1, 0, M) from if_neg (by omega)]; exact ⟨_, hM24, ((MF.rf).tr hF24), rfl, upM_ss, eqv.note (Or.inl rfl), 0, rfl, fun q => absurd (show (1 : Int) = 0 from q) (by decide)⟩) | (rw [show sp_put M f d v w b = (2, 0, M) from (if_pos (by omega)).trans (if_neg (by omega))]; exact ⟨_, hM24, ((MF.rf).tr hF24), rfl, upM_ss, eqv.note (Or.inl rfl), 0, rfl, fun q => absurd (show (2 : Int) = 0 from q) (by decide)⟩) | (rw [show sp_put M f d v w b = _ from (if_pos (by omega)).trans (if_pos (by omega))]; exact ⟨_, hM24, ((MF.rf).tr hF24), rfl, (by rw [upM_n (by decide)]; rw [upM_n (by decide)]; rw [upM_n (by decide)]; rw [upM_n (by decide)]; rw [upM_n (by decide)]; exact upM_ss), (((((eqv.note (Or.inl rfl)).up 14 _ _).up 15 _ _).up 16 _ _).up 17 _ _).up 13 _ _, _, rfl, fun _ => rfl⟩)
          · refine v_iconst (pc' := 62) F d_M_put_61 rfl ?_
            refine v_goto (tgt := 66) F d_M_put_62 (by decide) ?_
            refine v_istore_7 (pc' := 68) F d_M_put_66 rfl rfl (by decide) ?_
            refine v_iload (pc' := 70) F d_M_put_68 rfl rfl ?_
            refine v_if_eq (tgt := 108) (pc' := 73) F d_M_put_70 (by decide) rfl (by omega) (fun c70 => by exfalso; omega) (fun c70 => ?_)
            refine v_aload_n (pc' := 74) (j := 0) F d_M_put_73 rfl rfl rfl ?_
            refine v_getf (pc' := 77) (C := zR_M) (T := zF_M) (N := 28) (ref := "BillSharesModel") F d_M_put_74 rfl zi_M rfl 13 (by decide) wx_674 (Or.inl rfl) hM.1 rfl ?_
            refine v_iload_n (pc' := 78) (j := 1) F d_M_put_77 rfl rfl rfl ?_
            have q1 := hrd f (by omega) (by omega)
            refine mg_13 (pc' := 79) F hM d_M_put_78 rfl (by omega) (by omega) ?_
            refine v_if_eq (tgt := 104) (pc' := 82) F d_M_put_79 (by decide) rfl (by omega) (fun c79 => ?_) (fun c79 => ?_)
            · refine v_iconst (pc' := 105) F d_M_put_104 rfl ?_
              refine v_goto (tgt := 109) F d_M_put_105 (by decide) ?_
              refine v_istore_7 (pc' := 111) F d_M_put_109 rfl rfl (by decide) ?_
              refine v_aload_n (pc' := 112) (j := 0) F d_M_put_111 rfl rfl rfl ?_
              refine v_iload (pc' := 114) F d_M_put_112 rfl rfl ?_
              refine v_iload (pc' := 116) F d_M_put_114 rfl rfl ?_
              refine v_if_eq (tgt := 134) (pc' := 119) F d_M_put_116 (by decide) rfl (by omega) (fun c116 => by exfalso; omega) (fun c116 => ?_)
              refine v_aload_n (pc' := 120) (j := 0) F d_M_put_119 rfl rfl rfl ?_
              refine v_getf (pc' := 123) (C := zR_M) (T := zF_M) (N := 28) (ref := "BillSharesModel") F d_M_put_120 rfl zi_M rfl 13 (by decide) wx_674 (Or.inl rfl) hM.1 rfl ?_
              refine v_iload_n (pc' := 124) (j := 1) F d_M_put_123 rfl rfl rfl ?_
              refine mg_13 (pc' := 125) F hM d_M_put_124 rfl (by omega) (by omega) ?_
              refine v_bipush (pc' := 127) F d_M_put_125 rfl (by decide) ?_
              refine v_icmp_ge (tgt := 134) (pc' := 130) F d_M_put_127 (by decide) rfl (by omega) (by omega) (fun c127 => ?_) (fun c127 => ?_)
              · refine v_iconst (pc' := 135) F d_M_put_134 rfl ?_
                refine v_callVM (pc' := 138) (C := zR_M) (T9 := zF_M) (N := 28) F d_M_put_135 rfl cal_M_allows wx_758 wx_760 wp_16 rfl hM.1 (c_allows_2 l X _ _ _ _ hM) rfl ⟨by decide, by decide, by decide, by decide⟩ (Nat.le_of_ble_eq_true rfl) rfl rfl (fun h25 hM25 hF25 => ?_)
                refine v_if_ne (tgt := 143) (pc' := 141) F d_M_put_138 (by decide) rfl (by omega) (fun c138 => by exfalso; omega) (fun c138 => ?_)
                refine v_iconst (pc' := 142) F d_M_put_141 rfl ?_
                refine v_ireturn F rfl d_M_put_142 rfl rfl (Nat.le_refl _) (Nat.le_refl _) ?_
                first | (exfalso; omega) | (rw [show sp_put M f d v w b = (1, 0, M) from if_neg (by omega)]; exact ⟨_, hM25, ((MF.rf).tr hF25), rfl, upM_ss, eqv.note (Or.inl rfl), 0, rfl, fun q => absurd (show (1 : Int) = 0 from q) (by decide)⟩) | (rw [show sp_put M f d v w b = (2, 0, M) from (if_pos (by omega)).trans (if_neg (by omega))]; exact ⟨_, hM25, ((MF.rf).tr hF25), rfl, upM_ss, eqv.note (Or.inl rfl), 0, rfl, fun q => absurd (show (2 : Int) = 0 from q) (by decide)⟩) | (rw [show sp_put M f d v w b = _ from (if_pos (by omega)).trans (if_pos (by omega))]; exact ⟨_, hM25, ((MF.rf).tr hF25), rfl, (by rw [upM_n (by decide)]; rw [upM_n (by decide)]; rw [upM_n (by decide)]; rw [upM_n (by decide)]; rw [upM_n (by decide)]; exact upM_ss), (((((eqv.note (Or.inl rfl)).up 14 _ _).up 15 _ _).up 16 _ _).up 17 _ _).up 13 _ _, _, rfl, fun _ => rfl⟩)
              · refine v_iconst (pc' := 131) F d_M_put_130 rfl ?_
                refine v_goto (tgt := 135) F d_M_put_131 (by decide) ?_
                refine v_callVM (pc' := 138) (C := zR_M) (T9 := zF_M) (N := 28) F d_M_put_135 rfl cal_M_allows wx_758 wx_760 wp_16 rfl hM.1 (c_allows_0 l X _ _ _ _ hM) rfl ⟨by decide, by decide, by decide, by decide⟩ (Nat.le_of_ble_eq_true rfl) rfl rfl (fun h26 hM26 hF26 => ?_)
                refine v_if_ne (tgt := 143) (pc' := 141) F d_M_put_138 (by decide) rfl (by omega) (fun c138 => ?_) (fun c138 => by exfalso; omega)
                refine v_aload_n (pc' := 144) (j := 0) F d_M_put_143 rfl rfl rfl ?_
                refine v_getf (pc' := 147) (C := zR_M) (T := zF_M) (N := 28) (ref := "BillSharesModel") F d_M_put_144 rfl zi_M rfl 14 (by decide) wx_675 (Or.inl rfl) hM26.1 rfl ?_
                refine v_iload (pc' := 149) F d_M_put_147 rfl rfl ?_
                refine v_iconst (pc' := 150) F d_M_put_149 rfl ?_
                refine v_iadd (pc' := 151) F d_M_put_150 rfl ?_
                refine v_topi (b := 40 * f + M 13 f) (by omega) ?_
                refine v_iload_n (pc' := 152) (j := 2) F d_M_put_151 rfl rfl rfl ?_
                refine mp_14 (pc' := 153) F hM26 d_M_put_152 rfl (by omega) (by omega) (fun h27 hM27 hF27 => ?_)
                refine v_aload_n (pc' := 154) (j := 0) F d_M_put_153 rfl rfl rfl ?_
                refine v_getf (pc' := 157) (C := zR_M) (T := zF_M) (N := 28) (ref := "BillSharesModel") F d_M_put_154 rfl zi_M rfl 15 (by decide) wx_676 (Or.inl rfl) hM27.1 rfl ?_
                refine v_iload (pc' := 159) F d_M_put_157 rfl rfl ?_
                refine v_iconst (pc' := 160) F d_M_put_159 rfl ?_
                refine v_iadd (pc' := 161) F d_M_put_160 rfl ?_
                refine v_topi (b := 40 * f + M 13 f) (by omega) ?_
                refine v_iload_n (pc' := 162) (j := 3) F d_M_put_161 rfl rfl rfl ?_
                refine mp_15 (pc' := 163) F hM27 d_M_put_162 rfl (by omega) (by omega) (fun h28 hM28 hF28 => ?_)
                refine v_aload_n (pc' := 164) (j := 0) F d_M_put_163 rfl rfl rfl ?_
                refine v_getf (pc' := 167) (C := zR_M) (T := zF_M) (N := 28) (ref := "BillSharesModel") F d_M_put_164 rfl zi_M rfl 16 (by decide) wx_677 (Or.inl rfl) hM28.1 rfl ?_
                refine v_iload (pc' := 169) F d_M_put_167 rfl rfl ?_
                refine v_iconst (pc' := 170) F d_M_put_169 rfl ?_
                refine v_iadd (pc' := 171) F d_M_put_170 rfl ?_
                refine v_topi (b := 40 * f + M 13 f) (by omega) ?_
                refine v_iload (pc' := 173) F d_M_put_171 rfl rfl ?_
                refine mp_16 (pc' := 174) F hM28 d_M_put_173 rfl (by omega) (by omega) (fun h29 hM29 hF29 => ?_)
                refine v_aload_n (pc' := 175) (j := 0) F d_M_put_174 rfl rfl rfl ?_
                refine v_getf (pc' := 178) (C := zR_M) (T := zF_M) (N := 28) (ref := "BillSharesModel") F d_M_put_175 rfl zi_M rfl 17 (by decide) wx_678 (Or.inl rfl) hM29.1 rfl ?_
                refine v_iload (pc' := 180) F d_M_put_178 rfl rfl ?_
                refine v_iconst (pc' := 181) F d_M_put_180 rfl ?_
                refine v_iadd (pc' := 182) F d_M_put_181 rfl ?_
                refine v_topi (b := 40 * f + M 13 f) (by omega) ?_
                refine v_iload (pc' := 184) F d_M_put_182 rfl rfl ?_
                refine mp_17 (pc' := 185) F hM29 d_M_put_184 rfl (by omega) (by omega) hb (fun h30 hM30 hF30 => ?_)
                refine v_aload_n (pc' := 186) (j := 0) F d_M_put_185 rfl rfl rfl ?_
                refine v_getf (pc' := 189) (C := zR_M) (T := zF_M) (N := 28) (ref := "BillSharesModel") F d_M_put_186 rfl zi_M rfl 13 (by decide) wx_674 (Or.inl rfl) hM30.1 rfl ?_
                refine v_iload_n (pc' := 190) (j := 1) F d_M_put_189 rfl rfl rfl ?_
                refine v_dup2 (pc' := 191) F d_M_put_190 rfl rfl rfl ?_
                refine mg_13 (pc' := 192) F hM30 d_M_put_191 rfl (by omega) (by omega) ?_
                refine v_un (by decide) ?_
                refine v_un (by decide) ?_
                refine v_un (by decide) ?_
                refine v_un (by decide) ?_
                refine v_un (by decide) ?_
                refine v_iconst (pc' := 193) F d_M_put_192 rfl ?_
                refine v_iadd (pc' := 194) F d_M_put_193 rfl ?_
                refine mp_13 (pc' := 195) F hM30 d_M_put_194 rfl (by omega) (by omega) (fun h31 hM31 hF31 => ?_)
                refine v_aload_n (pc' := 196) (j := 0) F d_M_put_195 rfl rfl rfl ?_
                refine v_getf (pc' := 199) (C := zR_M) (T := zF_M) (N := 28) (ref := "BillSharesModel") F d_M_put_196 rfl zi_M rfl 13 (by decide) wx_674 (Or.inl rfl) hM31.1 rfl ?_
                refine v_iload_n (pc' := 200) (j := 1) F d_M_put_199 rfl rfl rfl ?_
                refine mg_13 (pc' := 201) F hM31 d_M_put_200 rfl (by omega) (by omega) ?_
                refine v_us ?_
                refine v_ireturn F rfl d_M_put_201 rfl rfl (Nat.le_refl _) (Nat.le_refl _) ?_
                first | (exfalso; omega) | (rw [show sp_put M f d v w b = (1, 0, M) from if_neg (by omega)]; exact ⟨_, hM31, ((((((((((((MF.rf).tr hF26)).tr hF27)).tr hF28)).tr hF29)).tr hF30)).tr hF31), rfl, upM_ss, eqv.note (Or.inl rfl), 0, rfl, fun q => absurd (show (1 : Int) = 0 from q) (by decide)⟩) | (rw [show sp_put M f d v w b = (2, 0, M) from (if_pos (by omega)).trans (if_neg (by omega))]; exact ⟨_, hM31, ((((((((((((MF.rf).tr hF26)).tr hF27)).tr hF28)).tr hF29)).tr hF30)).tr hF31), rfl, upM_ss, eqv.note (Or.inl rfl), 0, rfl, fun q => absurd (show (2 : Int) = 0 from q) (by decide)⟩) | (rw [show sp_put M f d v w b = _ from (if_pos (by omega)).trans (if_pos (by omega))]; exact ⟨_, hM31, ((((((((((((MF.rf).tr hF26)).tr hF27)).tr hF28)).tr hF29)).tr hF30)).tr hF31), rfl, (by rw [upM_n (by decide)]; rw [upM_n (by decide)]; rw [upM_n (by decide)]; rw [upM_n (by decide)]; rw [upM_n (by decide)]; exact upM_ss), (((((eqv.note (Or.inl rfl)).up 14 _ _).up 15 _ _).up 16 _ _).up 17 _ _).up 13 _ _, _, rfl, fun _ => rfl⟩)
            · refine v_aload_n (pc' := 83) (j := 0) F d_M_put_82 rfl rfl rfl ?_
              refine v_getf (pc' := 86) (C := zR_M) (T := zF_M) (N := 28) (ref := "BillSharesModel") F d_M_put_83 rfl zi_M rfl 14 (by decide) wx_675 (Or.inl rfl) hM.1 rfl ?_
              refine v_iload (pc' := 88) F d_M_put_86 rfl rfl ?_
              have q2 := hda (40 * f + M 13 f - 1) (by omega) (by omega)
              refine mg_14 (pc' := 89) F hM d_M_put_88 rfl (by omega) (by omega) ?_
              refine v_iload_n (pc' := 90) (j := 2) F d_M_put_89 rfl rfl rfl ?_
              refine v_icmp_ge (tgt := 108) (pc' := 93) F d_M_put_90 (by decide) rfl (by omega) (by omega) (fun c90 => ?_) (fun c90 => ?_)
              · refine v_iconst (pc' := 109) F d_M_put_108 rfl ?_
                refine v_istore_7 (pc' := 111) F d_M_put_109 rfl rfl (by decide) ?_
                refine v_aload_n (pc' := 112) (j := 0) F d_M_put_111 rfl rfl rfl ?_
                refine v_iload (pc' := 114) F d_M_put_112 rfl rfl ?_
                refine v_iload (pc' := 116) F d_M_put_114 rfl rfl ?_
                refine v_if_eq (tgt := 134) (pc' := 119) F d_M_put_116 (by decide) rfl (by omega) (fun c116 => ?_) (fun c116 => by exfalso; omega)
                refine v_iconst (pc' := 135) F d_M_put_134 rfl ?_
                refine v_callVM (pc' := 138) (C := zR_M) (T9 := zF_M) (N := 28) F d_M_put_135 rfl cal_M_allows wx_758 wx_760 wp_16 rfl hM.1 (c_allows_1 l X _ _ _ _ _ hM (by omega)) rfl ⟨by decide, by decide, by decide, by decide⟩ (Nat.le_of_ble_eq_true rfl) rfl rfl (fun h32 hM32 hF32 => ?_)
                refine v_if_ne (tgt := 143) (pc' := 141) F d_M_put_138 (by decide) rfl (by omega) (fun c138 => by exfalso; omega) (fun c138 => ?_)
                refine v_iconst (pc' := 142) F d_M_put_141 rfl ?_
                refine v_ireturn F rfl d_M_put_142 rfl rfl (Nat.le_refl _) (Nat.le_refl _) ?_
                first | (exfalso; omega) | (rw [show sp_put M f d v w b = (1, 0, M) from if_neg (by omega)]; exact ⟨_, hM32, ((MF.rf).tr hF32), rfl, upM_ss, eqv.note (Or.inl rfl), 0, rfl, fun q => absurd (show (1 : Int) = 0 from q) (by decide)⟩) | (rw [show sp_put M f d v w b = (2, 0, M) from (if_pos (by omega)).trans (if_neg (by omega))]; exact ⟨_, hM32, ((MF.rf).tr hF32), rfl, upM_ss, eqv.note (Or.inl rfl), 0, rfl, fun q => absurd (show (2 : Int) = 0 from q) (by decide)⟩) | (rw [show sp_put M f d v w b = _ from (if_pos (by omega)).trans (if_pos (by omega))]; exact ⟨_, hM32, ((MF.rf).tr hF32), rfl, (by rw [upM_n (by decide)]; rw [upM_n (by decide)]; rw [upM_n (by decide)]; rw [upM_n (by decide)]; rw [upM_n (by decide)]; exact upM_ss), (((((eqv.note (Or.inl rfl)).up 14 _ _).up 15 _ _).up 16 _ _).up 17 _ _).up 13 _ _, _, rfl, fun _ => rfl⟩)
              · refine v_aload_n (pc' := 94) (j := 0) F d_M_put_93 rfl rfl rfl ?_
                refine v_getf (pc' := 97) (C := zR_M) (T := zF_M) (N := 28) (ref := "BillSharesModel") F d_M_put_94 rfl zi_M rfl 16 (by decide) wx_677 (Or.inl rfl) hM.1 rfl ?_
                refine v_iload (pc' := 99) F d_M_put_97 rfl rfl ?_
                have q3 := hgo (40 * f + M 13 f - 1) (by omega) (by omega)
                refine mg_16 (pc' := 100) F hM d_M_put_99 rfl (by omega) (by omega) ?_
                refine v_iload_n (pc' := 101) (j := 3) F d_M_put_100 rfl rfl rfl ?_
                refine v_icmp_gt (tgt := 108) (pc' := 104) F d_M_put_101 (by decide) rfl (by omega) (by omega) (fun c101 => ?_) (fun c101 => ?_)
                · refine v_iconst (pc' := 109) F d_M_put_108 rfl ?_
                  refine v_istore_7 (pc' := 111) F d_M_put_109 rfl rfl (by decide) ?_
                  refine v_aload_n (pc' := 112) (j := 0) F d_M_put_111 rfl rfl rfl ?_
                  refine v_iload (pc' := 114) F d_M_put_112 rfl rfl ?_
                  refine v_iload (pc' := 116) F d_M_put_114 rfl rfl ?_
                  refine v_if_eq (tgt := 134) (pc' := 119) F d_M_put_116 (by decide) rfl (by omega) (fun c116 => ?_) (fun c116 => by exfalso; omega)
                  refine v_iconst (pc' := 135) F d_M_put_134 rfl ?_
                  refine v_callVM (pc' := 138) (C := zR_M) (T9 := zF_M) (N := 28) F d_M_put_135 rfl cal_M_allows wx_758 wx_760 wp_16 rfl hM.1 (c_allows_1 l X _ _ _ _ _ hM (by omega)) rfl ⟨by decide, by decide, by decide, by decide⟩ (Nat.le_of_ble_eq_true rfl) rfl rfl (fun h33 hM33 hF33 => ?_)
                  refine v_if_ne (tgt := 143) (pc' := 141) F d_M_put_138 (by decide) rfl (by omega) (fun c138 => by exfalso; omega) (fun c138 => ?_)
                  refine v_iconst (pc' := 142) F d_M_put_141 rfl ?_
                  refine v_ireturn F rfl d_M_put_142 rfl rfl (Nat.le_refl _) (Nat.le_refl _) ?_
                  first | (exfalso; omega) | (rw [show sp_put M f d v w b = (1, 0, M) from if_neg (by omega)]; exact ⟨_, hM33, ((MF.rf).tr hF33), rfl, upM_ss, eqv.note (Or.inl rfl), 0, rfl, fun q => absurd (show (1 : Int) = 0 from q) (by decide)⟩) | (rw [show sp_put M f d v w b = (2, 0, M) from (if_pos (by omega)).trans (if_neg (by omega))]; exact ⟨_, hM33, ((MF.rf).tr hF33), rfl, upM_ss, eqv.note (Or.inl rfl), 0, rfl, fun q => absurd (show (2 : Int) = 0 from q) (by decide)⟩) | (rw [show sp_put M f d v w b = _ from (if_pos (by omega)).trans (if_pos (by omega))]; exact ⟨_, hM33, ((MF.rf).tr hF33), rfl, (by rw [upM_n (by decide)]; rw [upM_n (by decide)]; rw [upM_n (by decide)]; rw [upM_n (by decide)]; rw [upM_n (by decide)]; exact upM_ss), (((((eqv.note (Or.inl rfl)).up 14 _ _).up 15 _ _).up 16 _ _).up 17 _ _).up 13 _ _, _, rfl, fun _ => rfl⟩)
                · refine v_iconst (pc' := 105) F d_M_put_104 rfl ?_
                  refine v_goto (tgt := 109) F d_M_put_105 (by decide) ?_
                  refine v_istore_7 (pc' := 111) F d_M_put_109 rfl rfl (by decide) ?_
                  refine v_aload_n (pc' := 112) (j := 0) F d_M_put_111 rfl rfl rfl ?_
                  refine v_iload (pc' := 114) F d_M_put_112 rfl rfl ?_
                  refine v_iload (pc' := 116) F d_M_put_114 rfl rfl ?_
                  refine v_if_eq (tgt := 134) (pc' := 119) F d_M_put_116 (by decide) rfl (by omega) (fun c116 => by exfalso; omega) (fun c116 => ?_)
                  refine v_aload_n (pc' := 120) (j := 0) F d_M_put_119 rfl rfl rfl ?_
                  refine v_getf (pc' := 123) (C := zR_M) (T := zF_M) (N := 28) (ref := "BillSharesModel") F d_M_put_120 rfl zi_M rfl 13 (by decide) wx_674 (Or.inl rfl) hM.1 rfl ?_
                  refine v_iload_n (pc' := 124) (j := 1) F d_M_put_123 rfl rfl rfl ?_
                  refine mg_13 (pc' := 125) F hM d_M_put_124 rfl (by omega) (by omega) ?_
                  refine v_bipush (pc' := 127) F d_M_put_125 rfl (by decide) ?_
                  refine v_icmp_ge (tgt := 134) (pc' := 130) F d_M_put_127 (by decide) rfl (by omega) (by omega) (fun c127 => ?_) (fun c127 => ?_)
                  · refine v_iconst (pc' := 135) F d_M_put_134 rfl ?_
                    refine v_callVM (pc' := 138) (C := zR_M) (T9 := zF_M) (N := 28) F d_M_put_135 rfl cal_M_allows wx_758 wx_760 wp_16 rfl hM.1 (c_allows_2 l X _ _ _ _ hM) rfl ⟨by decide, by decide, by decide, by decide⟩ (Nat.le_of_ble_eq_true rfl) rfl rfl (fun h34 hM34 hF34 => ?_)
                    refine v_if_ne (tgt := 143) (pc' := 141) F d_M_put_138 (by decide) rfl (by omega) (fun c138 => by exfalso; omega) (fun c138 => ?_)
                    refine v_iconst (pc' := 142) F d_M_put_141 rfl ?_
                    refine v_ireturn F rfl d_M_put_142 rfl rfl (Nat.le_refl _) (Nat.le_refl _) ?_
                    first | (exfalso; omega) | (rw [show sp_put M f d v w b = (1, 0, M) from if_neg (by omega)]; exact ⟨_, hM34, ((MF.rf).tr hF34), rfl, upM_ss, eqv.note (Or.inl rfl), 0, rfl, fun q => absurd (show (1 : Int) = 0 from q) (by decide)⟩) | (rw [show sp_put M f d v w b = (2, 0, M) from (if_pos (by omega)).trans (if_neg (by omega))]; exact ⟨_, hM34, ((MF.rf).tr hF34), rfl, upM_ss, eqv.note (Or.inl rfl), 0, rfl, fun q => absurd (show (2 : Int) = 0 from q) (by decide)⟩) | (rw [show sp_put M f d v w b = _ from (if_pos (by omega)).trans (if_pos (by omega))]; exact ⟨_, hM34, ((MF.rf).tr hF34), rfl, (by rw [upM_n (by decide)]; rw [upM_n (by decide)]; rw [upM_n (by decide)]; rw [upM_n (by decide)]; rw [upM_n (by decide)]; exact upM_ss), (((((eqv.note (Or.inl rfl)).up 14 _ _).up 15 _ _).up 16 _ _).up 17 _ _).up 13 _ _, _, rfl, fun _ => rfl⟩)
                  · refine v_iconst (pc' := 131) F d_M_put_130 rfl ?_
                    refine v_goto (tgt := 135) F d_M_put_131 (by decide) ?_
                    refine v_callVM (pc' := 138) (C := zR_M) (T9 := zF_M) (N := 28) F d_M_put_135 rfl cal_M_allows wx_758 wx_760 wp_16 rfl hM.1 (c_allows_0 l X _ _ _ _ hM) rfl ⟨by decide, by decide, by decide, by decide⟩ (Nat.le_of_ble_eq_true rfl) rfl rfl (fun h35 hM35 hF35 => ?_)
                    refine v_if_ne (tgt := 143) (pc' := 141) F d_M_put_138 (by decide) rfl (by omega) (fun c138 => ?_) (fun c138 => by exfalso; omega)
                    refine v_aload_n (pc' := 144) (j := 0) F d_M_put_143 rfl rfl rfl ?_
                    refine v_getf (pc' := 147) (C := zR_M) (T := zF_M) (N := 28) (ref := "BillSharesModel") F d_M_put_144 rfl zi_M rfl 14 (by decide) wx_675 (Or.inl rfl) hM35.1 rfl ?_
                    refine v_iload (pc' := 149) F d_M_put_147 rfl rfl ?_
                    refine v_iconst (pc' := 150) F d_M_put_149 rfl ?_
                    refine v_iadd (pc' := 151) F d_M_put_150 rfl ?_
                    refine v_topi (b := 40 * f + M 13 f) (by omega) ?_
                    refine v_iload_n (pc' := 152) (j := 2) F d_M_put_151 rfl rfl rfl ?_
                    refine mp_14 (pc' := 153) F hM35 d_M_put_152 rfl (by omega) (by omega) (fun h36 hM36 hF36 => ?_)
                    refine v_aload_n (pc' := 154) (j := 0) F d_M_put_153 rfl rfl rfl ?_
                    refine v_getf (pc' := 157) (C := zR_M) (T := zF_M) (N := 28) (ref := "BillSharesModel") F d_M_put_154 rfl zi_M rfl 15 (by decide) wx_676 (Or.inl rfl) hM36.1 rfl ?_
                    refine v_iload (pc' := 159) F d_M_put_157 rfl rfl ?_
                    refine v_iconst (pc' := 160) F d_M_put_159 rfl ?_
                    refine v_iadd (pc' := 161) F d_M_put_160 rfl ?_
                    refine v_topi (b := 40 * f + M 13 f) (by omega) ?_
                    refine v_iload_n (pc' := 162) (j := 3) F d_M_put_161 rfl rfl rfl ?_
                    refine mp_15 (pc' := 163) F hM36 d_M_put_162 rfl (by omega) (by omega) (fun h37 hM37 hF37 => ?_)
                    refine v_aload_n (pc' := 164) (j := 0) F d_M_put_163 rfl rfl rfl ?_
                    refine v_getf (pc' := 167) (C := zR_M) (T := zF_M) (N := 28) (ref := "BillSharesModel") F d_M_put_164 rfl zi_M rfl 16 (by decide) wx_677 (Or.inl rfl) hM37.1 rfl ?_
                    refine v_iload (pc' := 169) F d_M_put_167 rfl rfl ?_
                    refine v_iconst (pc' := 170) F d_M_put_169 rfl ?_
                    refine v_iadd (pc' := 171) F d_M_put_170 rfl ?_
                    refine v_topi (b := 40 * f + M 13 f) (by omega) ?_
                    refine v_iload (pc' := 173) F d_M_put_171 rfl rfl ?_
                    refine mp_16 (pc' := 174) F hM37 d_M_put_173 rfl (by omega) (by omega) (fun h38 hM38 hF38 => ?_)
                    refine v_aload_n (pc' := 175) (j := 0) F d_M_put_174 rfl rfl rfl ?_
                    refine v_getf (pc' := 178) (C := zR_M) (T := zF_M) (N := 28) (ref := "BillSharesModel") F d_M_put_175 rfl zi_M rfl 17 (by decide) wx_678 (Or.inl rfl) hM38.1 rfl ?_
                    refine v_iload (pc' := 180) F d_M_put_178 rfl rfl ?_
                    refine v_iconst (pc' := 181) F d_M_put_180 rfl ?_
                    refine v_iadd (pc' := 182) F d_M_put_181 rfl ?_
                    refine v_topi (b := 40 * f + M 13 f) (by omega) ?_
                    refine v_iload (pc' := 184) F d_M_put_182 rfl rfl ?_
                    refine mp_17 (pc' := 185) F hM38 d_M_put_184 rfl (by omega) (by omega) hb (fun h39 hM39 hF39 => ?_)
                    refine v_aload_n (pc' := 186) (j := 0) F d_M_put_185 rfl rfl rfl ?_
                    refine v_getf (pc' := 189) (C := zR_M) (T := zF_M) (N := 28) (ref := "BillSharesModel") F d_M_put_186 rfl zi_M rfl 13 (by decide) wx_674 (Or.inl rfl) hM39.1 rfl ?_
                    refine v_iload_n (pc' := 190) (j := 1) F d_M_put_189 rfl rfl rfl ?_
                    refine v_dup2 (pc' := 191) F d_M_put_190 rfl rfl rfl ?_
                    refine mg_13 (pc' := 192) F hM39 d_M_put_191 rfl (by omega) (by omega) ?_
                    refine v_un (by decide) ?_
                    refine v_un (by decide) ?_
                    refine v_un (by decide) ?_
                    refine v_un (by decide) ?_
                    refine v_un (by decide) ?_
                    refine v_iconst (pc' := 193) F d_M_put_192 rfl ?_
                    refine v_iadd (pc' := 194) F d_M_put_193 rfl ?_
                    refine mp_13 (pc' := 195) F hM39 d_M_put_194 rfl (by omega) (by omega) (fun h40 hM40 hF40 => ?_)
                    refine v_aload_n (pc' := 196) (j := 0) F d_M_put_195 rfl rfl rfl ?_
                    refine v_getf (pc' := 199) (C := zR_M) (T := zF_M) (N := 28) (ref := "BillSharesModel") F d_M_put_196 rfl zi_M rfl 13 (by decide) wx_674 (Or.inl rfl) hM40.1 rfl ?_
                    refine v_iload_n (pc' := 200) (j := 1) F d_M_put_199 rfl rfl rfl ?_
                    refine mg_13 (pc' := 201) F hM40 d_M_put_200 rfl (by omega) (by omega) ?_
                    refine v_us ?_
                    refine v_ireturn F rfl d_M_put_201 rfl rfl (Nat.le_refl _) (Nat.le_refl _) ?_
                    first | (exfalso; omega) | (rw [show sp_put M f d v w b = (1, 0, M) from if_neg (by omega)]; exact ⟨_, hM40, ((((((((((((MF.rf).tr hF35)).tr hF36)).tr hF37)).tr hF38)).tr hF39)).tr hF40), rfl, upM_ss, eqv.note (Or.inl rfl), 0, rfl, fun q => absurd (show (1 : Int) = 0 from q) (by decide)⟩) | (rw [show sp_put M f d v w b = (2, 0, M) from (if_pos (by omega)).trans (if_neg (by omega))]; exact ⟨_, hM40, ((((((((((((MF.rf).tr hF35)).tr hF36)).tr hF37)).tr hF38)).tr hF39)).tr hF40), rfl, upM_ss, eqv.note (Or.inl rfl), 0, rfl, fun q => absurd (show (2 : Int) = 0 from q) (by decide)⟩) | (rw [show sp_put M f d v w b = _ from (if_pos (by omega)).trans (if_pos (by omega))]; exact ⟨_, hM40, ((((((((((((MF.rf).tr hF35)).tr hF36)).tr hF37)).tr hF38)).tr hF39)).tr hF40), rfl, (by rw [upM_n (by decide)]; rw [upM_n (by decide)]; rw [upM_n (by decide)]; rw [upM_n (by decide)]; rw [upM_n (by decide)]; exact upM_ss), (((((eqv.note (Or.inl rfl)).up 14 _ _).up 15 _ _).up 16 _ _).up 17 _ _).up 13 _ _, _, rfl, fun _ => rfl⟩)
set_option maxRecDepth 100000 in
set_option maxHeartbeats 4000000 in
theorem c_M_reading (l : Launch) (X : am_X) (h : am_H) (nx : Nat) (y : Nat) (M : MS) (f d v : Int) (hM : RepM y M h) (hme : 0 ≤ M 7 0 ∧ M 7 0 ≤ 60) (hrd : ∀ f : Int, 0 ≤ f → f < M 7 0 → 0 ≤ M 13 f ∧ M 13 f ≤ 40) (hda : ∀ i : Int, 0 ≤ i → i < 2400 → 0 ≤ M 14 i ∧ M 14 i ≤ 3649) (hgo : ∀ i : Int, 0 ≤ i → i < 2400 → 0 ≤ M 16 i ∧ M 16 i ≤ 10000000) (rf : -2147483648 ≤ f ∧ f < 2147483648) (rd : -2147483648 ≤ d ∧ d < 2147483648) (rv : -2147483648 ≤ v ∧ v < 2147483648) : Cn l X y_M_reading ({ frames := 3, cells := 0, slots := 0, locals := 69 }) [.ref y, iV f, iV d, iV v] h nx (mpost y h nx iV (sp_put M f d v v 0)) := by
  refine cn_of (k := 0) (L0 := [some (.ref y), some (iV f), some (iV d), some (iV v)]) rfl wx_773 (Nat.le_of_ble_eq_true rfl) rfl (fun p e s m args below meth c F => ?_)
  refine v_aload_n (pc' := 1) (j := 0) F d_M_reading_0 rfl rfl rfl ?_
  refine v_iload_n (pc' := 2) (j := 1) F d_M_reading_1 rfl rfl rfl ?_
  refine v_iload_n (pc' := 3) (j := 2) F d_M_reading_2 rfl rfl rfl ?_
  refine v_iload_n (pc' := 4) (j := 3) F d_M_reading_3 rfl rfl rfl ?_
  refine v_iload_n (pc' := 5) (j := 3) F d_M_reading_4 rfl rfl rfl ?_
  refine v_iconst (pc' := 6) F d_M_reading_5 rfl ?_
  refine v_callV (pc' := 9) (C := zR_M) (T9 := zF_M) (N := 28) F d_M_reading_6 rfl cal_M_put wx_774 wx_776 wp_18 rfl hM.1 (c_M_put l X _ _ _ M f d v v 0 hM hme hrd hda hgo rf rd rv rv (Or.inl rfl)) rfl ⟨by decide, by decide, by decide, by decide⟩ (Nat.le_of_ble_eq_true rfl) (fun _ _ _ q => by obtain ⟨_, _, _, _, _, _, _, q7, _⟩ := q; cases q7) (fun r9 h' nx' q => ?_)
  obtain ⟨M9, q1, q2, rfl, q4, q5, r, q6, q7⟩ := q
  cases q6
  exact v_ireturn F rfl d_M_reading_9 rfl rfl (Nat.le_refl _) (Nat.le_refl _) ⟨M9, q1, q2, rfl, q4, q5, r, rfl, q7⟩
set_option maxRecDepth 100000 in
set_option maxHeartbeats 4000000 in
theorem c_M_changed (l : Launch) (X : am_X) (h : am_H) (nx : Nat) (y : Nat) (M : MS) (f d v w : Int) (hM : RepM y M h) (hme : 0 ≤ M 7 0 ∧ M 7 0 ≤ 60) (hrd : ∀ f : Int, 0 ≤ f → f < M 7 0 → 0 ≤ M 13 f ∧ M 13 f ≤ 40) (hda : ∀ i : Int, 0 ≤ i → i < 2400 → 0 ≤ M 14 i ∧ M 14 i ≤ 3649) (hgo : ∀ i : Int, 0 ≤ i → i < 2400 → 0 ≤ M 16 i ∧ M 16 i ≤ 10000000) (rf : -2147483648 ≤ f ∧ f < 2147483648) (rd : -2147483648 ≤ d ∧ d < 2147483648) (rv : -2147483648 ≤ v ∧ v < 2147483648) (rw : -2147483648 ≤ w ∧ w < 2147483648) : Cn l X y_M_changed ({ frames := 3, cells := 0, slots := 0, locals := 69 }) [.ref y, iV f, iV d, iV v, iV w] h nx (mpost y h nx iV (sp_put M f d v w 1)) := by
  refine cn_of (k := 0) (L0 := [some (.ref y), some (iV f), some (iV d), some (iV v), some (iV w)]) rfl wx_789 (Nat.le_of_ble_eq_true rfl) rfl (fun p e s m args below meth c F => ?_)
  refine v_aload_n (pc' := 1) (j := 0) F d_M_changed_0 rfl rfl rfl ?_
  refine v_iload_n (pc' := 2) (j := 1) F d_M_changed_1 rfl rfl rfl ?_
  refine v_iload_n (pc' := 3) (j := 2) F d_M_changed_2 rfl rfl rfl ?_
  refine v_iload_n (pc' := 4) (j := 3) F d_M_changed_3 rfl rfl rfl ?_
  refine v_iload (pc' := 6) F d_M_changed_4 rfl rfl ?_
  refine v_iconst (pc' := 7) F d_M_changed_6 rfl ?_
  refine v_callV (pc' := 10) (C := zR_M) (T9 := zF_M) (N := 28) F d_M_changed_7 rfl cal_M_put wx_774 wx_776 wp_18 rfl hM.1 (c_M_put l X _ _ _ M f d v w 1 hM hme hrd hda hgo rf rd rv rw (Or.inr rfl)) rfl ⟨by decide, by decide, by decide, by decide⟩ (Nat.le_of_ble_eq_true rfl) (fun _ _ _ q => by obtain ⟨_, _, _, _, _, _, _, q7, _⟩ := q; cases q7) (fun r9 h' nx' q => ?_)
  obtain ⟨M9, q1, q2, rfl, q4, q5, r, q6, q7⟩ := q
  cases q6
  exact v_ireturn F rfl d_M_changed_10 rfl rfl (Nat.le_refl _) (Nat.le_refl _) ⟨M9, q1, q2, rfl, q4, q5, r, rfl, q7⟩
/-- the place of a meter's reading at a day among its first ones, -1 if there is none -/
def sp_find (M : MS) (f d : Int) : Nat → Int
  | 0 => -1
  | k + 1 => if M 14 (40 * f + (k : Int)) = d then 40 * f + (k : Int) else sp_find M f d k
theorem sp_find_or (M : MS) (f d : Int) : ∀ k : Nat, sp_find M f d k = -1 ∨ (40 * f ≤ sp_find M f d k ∧ sp_find M f d k < 40 * f + (k : Int) ∧ M 14 (sp_find M f d k) = d)
  | 0 => Or.inl rfl
  | k + 1 => by
    unfold sp_find
    by_cases hq : M 14 (40 * f + (k : Int)) = d
    · rw [if_pos hq]; exact Or.inr ⟨by omega, by omega, hq⟩
    · rw [if_neg hq]
      rcases sp_find_or M f d k with q | ⟨q1, q2, q3⟩
      · exact Or.inl q
      · exact Or.inr ⟨q1, by omega, q3⟩
set_option maxRecDepth 100000 in
set_option maxHeartbeats 4000000 in
theorem lp_M_correct {p : Program} {l : Launch} {e : Env} {s : State} {m : MethodId} {args : Array Value} {below : List Frame} {meth : Method} {c : Code} {X : am_X} {Q : State → Prop} {h : am_H} {nx : Nat} {y kk : Nat} {M : MS} {f d v : Int} (F : am_Fx p s m args meth c y_M_correct b_M_correct 7 ((Option.some FieldType.int)) [] X) (hM : RepM y M h) (hme : 0 ≤ M 7 0 ∧ M 7 0 ≤ 60) (hrd : ∀ f : Int, 0 ≤ f → f < M 7 0 → 0 ≤ M 13 f ∧ M 13 f ≤ 40) (hda : ∀ i : Int, 0 ≤ i → i < 2400 → 0 ≤ M 14 i ∧ M 14 i ≤ 3649) (rf : -2147483648 ≤ f ∧ f < 2147483648) (rd : -2147483648 ≤ d ∧ d < 2147483648) (rv : -2147483648 ≤ v ∧ v < 2147483648) (hf : 0 ≤ f ∧ f < M 7 0) (hkk : (kk : Int) = M 13 f) (hx : V p l e ({ frames := 2, cells := 0, slots := 0, locals := 42 }) s m args below meth c 7 X Q h nx 0 0 61 [some (.ref y), some (iV f), some (iV d), some (iV v), some (iV (sp_find M f d kk)), some (iV (kk : Int)), none] []) : ∀ (n k : Nat), kk < k + n → k ≤ kk → V p l e ({ frames := 2, cells := 0, slots := 0, locals := 42 }) s m args below meth c 7 X Q h nx 0 0 6 [some (.ref y), some (iV f), some (iV d), some (iV v), some (iV (sp_find M f d k)), some (iV (k : Int)), none] [] := by
  intro n
  induction n with
  | zero =>
    intro k hk hk2
    exact absurd hk (by omega)
  | succ n ih =>
    intro k hk hk2
    have q1 := hrd f hf.1 hf.2
    refine v_aload_n (pc' := 7) (j := 0) F d_M_correct_6 rfl rfl rfl ?_
    refine v_iload_n (pc' := 8) (j := 1) F d_M_correct_7 rfl rfl rfl ?_
    refine v_callVP (pc' := 11) (C := zR_M) (T9 := zF_M) (N := 28) F d_M_correct_8 rfl cal_M_isMeter wx_778 wx_780 wp_19 rfl hM.1 (c_M_isMeter l X _ _ _ _ _ hM hme (by omega)) rfl ⟨by decide, by decide, by decide, by decide⟩ (Nat.le_of_ble_eq_true rfl) rfl rfl ?_
    refine v_zif_eq (tgt := 61) (pc' := 14) F d_M_correct_11 (by decide) rfl (fun c11 => ?_) (fun c11 => ?_)
    · exact absurd hf c11
    · refine v_iload (pc' := 16) F d_M_correct_14 rfl rfl ?_
      refine v_aload_n (pc' := 17) (j := 0) F d_M_correct_16 rfl rfl rfl ?_
      refine v_getf (pc' := 20) (C := zR_M) (T := zF_M) (N := 28) (ref := "BillSharesModel") F d_M_correct_17 rfl zi_M rfl 13 (by decide) wx_674 (Or.inl rfl) hM.1 rfl ?_
      refine v_iload_n (pc' := 21) (j := 1) F d_M_correct_20 rfl rfl rfl ?_
      refine mg_13 (pc' := 22) F hM d_M_correct_21 rfl (by omega) (by omega) ?_
      refine v_icmp_ge (tgt := 61) (pc' := 25) F d_M_correct_22 (by decide) rfl (by omega) (by omega) (fun c22 => ?_) (fun c22 => ?_)
      · obtain rfl : k = kk := by omega
        exact hx
      · refine v_aload_n (pc' := 26) (j := 0) F d_M_correct_25 rfl rfl rfl ?_
        refine v_getf (pc' := 29) (C := zR_M) (T := zF_M) (N := 28) (ref := "BillSharesModel") F d_M_correct_26 rfl zi_M rfl 14 (by decide) wx_675 (Or.inl rfl) hM.1 rfl ?_
        refine v_bipush (pc' := 31) F d_M_correct_29 rfl (by decide) ?_
        refine v_iload_n (pc' := 32) (j := 1) F d_M_correct_31 rfl rfl rfl ?_
        refine v_imul (pc' := 33) F d_M_correct_32 rfl ?_
        refine v_iload (pc' := 35) F d_M_correct_33 rfl rfl ?_
        refine v_iadd (pc' := 36) F d_M_correct_35 rfl ?_
        have q2 := hda (40 * f + (k : Int)) (by omega) (by omega)
        refine mg_14 (pc' := 37) F hM d_M_correct_36 rfl (by omega) (by omega) ?_
        refine v_iload_n (pc' := 38) (j := 2) F d_M_correct_37 rfl rfl rfl ?_
        refine v_icmp_ne (tgt := 51) (pc' := 41) F d_M_correct_38 (by decide) rfl (by omega) (by omega) (fun c38 => ?_) (fun c38 => ?_)
        · refine v_iload (pc' := 53) F d_M_correct_51 rfl rfl ?_
          refine v_istore_4 (pc' := 55) F d_M_correct_53 rfl rfl (by decide) ?_
          refine v_iinc_5 (pc' := 58) F d_M_correct_55 rfl rfl (by decide) ?_
          refine v_goto (tgt := 6) F d_M_correct_58 (by decide) ?_
          first | (have e9 : sp_find M f d (k + 1) = 40 * f + (k : Int) := if_pos (by omega); have q9 := ih (k + 1) (by omega) (by omega); rw [e9] at q9; exact q9) | (have e9 : sp_find M f d (k + 1) = sp_find M f d k := if_neg (by omega); have q9 := ih (k + 1) (by omega) (by omega); rw [e9] at q9; exact q9)
        · refine v_bipush (pc' := 43) F d_M_correct_41 rfl (by decide) ?_
          refine v_iload_n (pc' := 44) (j := 1) F d_M_correct_43 rfl rfl rfl ?_
          refine v_imul (pc' := 45) F d_M_correct_44 rfl ?_
          refine v_iload (pc' := 47) F d_M_correct_45 rfl rfl ?_
          refine v_iadd (pc' := 48) F d_M_correct_47 rfl ?_
          refine v_goto (tgt := 53) F d_M_correct_48 (by decide) ?_
          refine v_istore_4 (pc' := 55) F d_M_correct_53 rfl rfl (by decide) ?_
          refine v_iinc_5 (pc' := 58) F d_M_correct_55 rfl rfl (by decide) ?_
          refine v_goto (tgt := 6) F d_M_correct_58 (by decide) ?_
          first | (have e9 : sp_find M f d (k + 1) = 40 * f + (k : Int) := if_pos (by omega); have q9 := ih (k + 1) (by omega) (by omega); rw [e9] at q9; exact q9) | (have e9 : sp_find M f d (k + 1) = sp_find M f d k := if_neg (by omega); have q9 := ih (k + 1) (by omega) (by omega); rw [e9] at q9; exact q9)
def sp_cor (M : MS) (f v A : Int) : Int × Int × MS := if 0 ≤ A ∧ (0 ≤ v ∧ v ≤ 10000000) ∧ (A = 40 * f ∨ M 16 (A - 1) ≤ v) ∧ (¬ M 17 A = 0 ∨ A = 40 * f + M 13 f - 1 ∨ v ≤ M 15 (A + 1)) then (0, M 15 A, upM (upM M 15 A v) 16 A (if M 17 A = 0 then v else M 16 A)) else (1, 0, M)
def sp_correct (M : MS) (f d v : Int) : Int × Int × MS := sp_cor M f v (if 0 ≤ f ∧ f < M 7 0 then sp_find M f d (M 13 f).toNat else -1)
set_option maxRecDepth 100000 in
set_option maxHeartbeats 4000000 in
theorem tl_M_correct {p : Program} {l : Launch} {e : Env} {s : State} {m : MethodId} {args : Array Value} {below : List Frame} {meth : Method} {c : Code} {X : am_X} {h : am_H} {nx : Nat} {y : Nat} {M : MS} {f d v A k : Int} (F : am_Fx p s m args meth c y_M_correct b_M_correct 7 ((Option.some FieldType.int)) [] X) (hM : RepM y M h) (hme : 0 ≤ M 7 0 ∧ M 7 0 ≤ 60) (hrd : ∀ f : Int, 0 ≤ f → f < M 7 0 → 0 ≤ M 13 f ∧ M 13 f ≤ 40) (hva : ∀ i : Int, 0 ≤ i → i < 2400 → 0 ≤ M 15 i ∧ M 15 i ≤ 10000000) (hgo : ∀ i : Int, 0 ≤ i → i < 2400 → 0 ≤ M 16 i ∧ M 16 i ≤ 10000000) (hrn : ∀ i : Int, 0 ≤ i → i < 2400 → M 17 i = 0 ∨ M 17 i = 1) (rf : -2147483648 ≤ f ∧ f < 2147483648) (rd : -2147483648 ≤ d ∧ d < 2147483648) (rv : -2147483648 ≤ v ∧ v < 2147483648) (hA : A = -1 ∨ ((0 ≤ f ∧ f < M 7 0) ∧ 40 * f ≤ A ∧ A < 40 * f + M 13 f)) : V p l e ({ frames := 2, cells := 0, slots := 0, locals := 42 }) s m args below meth c 7 X (am_Q X below s 0 0 (mpost y h nx iV (sp_cor M f v A))) h nx 0 0 61 [some (.ref y), some (iV f), some (iV d), some (iV v), some (iV A), some (iV k), none] [] := by
  refine v_iload (pc' := 63) F d_M_correct_61 rfl rfl ?_
  have q0 : -1 ≤ A ∧ A < 2400 := by
    rcases hA with rfl | ⟨z1, z2, z3⟩
    · omega
    · have z4 := hrd f z1.1 z1.2
      omega
  refine v_if_lt (tgt := 77) (pc' := 66) F d_M_correct_63 (by decide) rfl (by omega) (fun c63 => ?_) (fun c63 => ?_)
  · refine v_iconst (pc' := 78) F d_M_correct_77 rfl ?_
    refine v_istore_5 (pc' := 80) F d_M_correct_78 rfl rfl (by decide) ?_
    refine v_iload (pc' := 82) F d_M_correct_80 rfl rfl ?_
    refine v_if_eq (tgt := 111) (pc' := 85) F d_M_correct_82 (by decide) rfl (by omega) (fun c82 => ?_) (fun c82 => by exfalso; omega)
    refine v_iconst (pc' := 112) F d_M_correct_111 rfl ?_
    refine v_istore_5 (pc' := 114) F d_M_correct_112 rfl rfl (by decide) ?_
    refine v_iload (pc' := 116) F d_M_correct_114 rfl rfl ?_
    refine v_if_eq (tgt := 164) (pc' := 119) F d_M_correct_116 (by decide) rfl (by omega) (fun c116 => ?_) (fun c116 => by exfalso; omega)
    refine v_iconst (pc' := 165) F d_M_correct_164 rfl ?_
    refine v_istore_5 (pc' := 167) F d_M_correct_165 rfl rfl (by decide) ?_
    refine v_aload_n (pc' := 168) (j := 0) F d_M_correct_167 rfl rfl rfl ?_
    refine v_iload (pc' := 170) F d_M_correct_168 rfl rfl ?_
    refine v_iconst (pc' := 171) F d_M_correct_170 rfl ?_
    refine v_callVM (pc' := 174) (C := zR_M) (T9 := zF_M) (N := 28) F d_M_correct_171 rfl cal_M_allows wx_758 wx_760 wp_16 rfl hM.1 (c_allows_1 l X _ _ _ _ _ hM (by omega)) rfl ⟨by decide, by decide, by decide, by decide⟩ (Nat.le_of_ble_eq_true rfl) rfl rfl (fun h1 hM1 hF1 => ?_)
    refine v_if_ne (tgt := 179) (pc' := 177) F d_M_correct_174 (by decide) rfl (by omega) (fun c174 => by exfalso; omega) (fun c174 => ?_)
    refine v_iconst (pc' := 178) F d_M_correct_177 rfl ?_
    refine v_ireturn F rfl d_M_correct_178 rfl rfl (Nat.le_refl _) (Nat.le_refl _) ?_
    first | (exfalso; omega) | (rw [show sp_cor M f v A = (1, 0, M) from if_neg (by omega)]; exact ⟨_, hM1, ((MF.rf).tr hF1), rfl, upM_ss, eqv.note (Or.inl rfl), 0, rfl, fun q => absurd (show (1 : Int) = 0 from q) (by decide)⟩) | (rw [show sp_cor M f v A = (0, M 15 A, upM (upM M 15 A v) 16 A v) from (if_pos (by omega)).trans (by rw [if_pos (by omega)])]; exact ⟨_, hM1, ((MF.rf).tr hF1), rfl, (by rw [upM_n (by decide)]; rw [upM_n (by decide)]; exact upM_ss), ((eqv.note (Or.inl rfl)).up 15 _ _).up 16 _ _, _, rfl, fun _ => rfl⟩) | (rw [show sp_cor M f v A = (0, M 15 A, upM (upM M 15 A v) 16 A (M 16 A)) from (if_pos (by omega)).trans (by rw [if_neg (by omega)])]; exact ⟨_, hM1, ((MF.rf).tr hF1), rfl, (by rw [upM_n (by decide)]; rw [upM_n (by decide)]; exact upM_ss), ((eqv.note (Or.inl rfl)).up 15 _ _).up 16 _ _, _, rfl, fun _ => rfl⟩)
  · have q1 := hrd f (by omega) (by omega)
    refine v_iload_n (pc' := 67) (j := 3) F d_M_correct_66 rfl rfl rfl ?_
    refine v_callSP (pc' := 70) F d_M_correct_67 rfl cal_M_isValue wx_782 wx_783 (c_M_isValue l X _ _ _ (by omega)) rfl ⟨by decide, by decide, by decide, by decide⟩ (Nat.le_of_ble_eq_true rfl) rfl rfl ?_
    refine v_zif_eq (tgt := 77) (pc' := 73) F d_M_correct_70 (by decide) rfl (fun c70 => ?_) (fun c70 => ?_)
    · refine v_iconst (pc' := 78) F d_M_correct_77 rfl ?_
      refine v_istore_5 (pc' := 80) F d_M_correct_78 rfl rfl (by decide) ?_
      refine v_iload (pc' := 82) F d_M_correct_80 rfl rfl ?_
      refine v_if_eq (tgt := 111) (pc' := 85) F d_M_correct_82 (by decide) rfl (by omega) (fun c82 => ?_) (fun c82 => by exfalso; omega)
      refine v_iconst (pc' := 112) F d_M_correct_111 rfl ?_
      refine v_istore_5 (pc' := 114) F d_M_correct_112 rfl rfl (by decide) ?_
      refine v_iload (pc' := 116) F d_M_correct_114 rfl rfl ?_
      refine v_if_eq (tgt := 164) (pc' := 119) F d_M_correct_116 (by decide) rfl (by omega) (fun c116 => ?_) (fun c116 => by exfalso; omega)
      refine v_iconst (pc' := 165) F d_M_correct_164 rfl ?_
      refine v_istore_5 (pc' := 167) F d_M_correct_165 rfl rfl (by decide) ?_
      refine v_aload_n (pc' := 168) (j := 0) F d_M_correct_167 rfl rfl rfl ?_
      refine v_iload (pc' := 170) F d_M_correct_168 rfl rfl ?_
      refine v_iconst (pc' := 171) F d_M_correct_170 rfl ?_
      refine v_callVM (pc' := 174) (C := zR_M) (T9 := zF_M) (N := 28) F d_M_correct_171 rfl cal_M_allows wx_758 wx_760 wp_16 rfl hM.1 (c_allows_1 l X _ _ _ _ _ hM (by omega)) rfl ⟨by decide, by decide, by decide, by decide⟩ (Nat.le_of_ble_eq_true rfl) rfl rfl (fun h2 hM2 hF2 => ?_)
      refine v_if_ne (tgt := 179) (pc' := 177) F d_M_correct_174 (by decide) rfl (by omega) (fun c174 => by exfalso; omega) (fun c174 => ?_)
      refine v_iconst (pc' := 178) F d_M_correct_177 rfl ?_
      refine v_ireturn F rfl d_M_correct_178 rfl rfl (Nat.le_refl _) (Nat.le_refl _) ?_
      first | (exfalso; omega) | (rw [show sp_cor M f v A = (1, 0, M) from if_neg (by omega)]; exact ⟨_, hM2, ((MF.rf).tr hF2), rfl, upM_ss, eqv.note (Or.inl rfl), 0, rfl, fun q => absurd (show (1 : Int) = 0 from q) (by decide)⟩) | (rw [show sp_cor M f v A = (0, M 15 A, upM (upM M 15 A v) 16 A v) from (if_pos (by omega)).trans (by rw [if_pos (by omega)])]; exact ⟨_, hM2, ((MF.rf).tr hF2), rfl, (by rw [upM_n (by decide)]; rw [upM_n (by decide)]; exact upM_ss), ((eqv.note (Or.inl rfl)).up 15 _ _).up 16 _ _, _, rfl, fun _ => rfl⟩) | (rw [show sp_cor M f v A = (0, M 15 A, upM (upM M 15 A v) 16 A (M 16 A)) from (if_pos (by omega)).trans (by rw [if_neg (by omega)])]; exact ⟨_, hM2, ((MF.rf).tr hF2), rfl, (by rw [upM_n (by decide)]; rw [upM_n (by decide)]; exact upM_ss), ((eqv.note (Or.inl rfl)).up 15 _ _).up 16 _ _, _, rfl, fun _ => rfl⟩)
    · refine v_iconst (pc' := 74) F d_M_correct_73 rfl ?_
      refine v_goto (tgt := 78) F d_M_correct_74 (by decide) ?_
      refine v_istore_5 (pc' := 80) F d_M_correct_78 rfl rfl (by decide) ?_
      refine v_iload (pc' := 82) F d_M_correct_80 rfl rfl ?_
      refine v_if_eq (tgt := 111) (pc' := 85) F d_M_correct_82 (by decide) rfl (by omega) (fun c82 => by exfalso; omega) (fun c82 => ?_)
      refine v_iload (pc' := 87) F d_M_correct_85 rfl rfl ?_
      refine v_bipush (pc' := 89) F d_M_correct_87 rfl (by decide) ?_
      refine v_iload_n (pc' := 90) (j := 1) F d_M_correct_89 rfl rfl rfl ?_
      refine v_imul (pc' := 91) F d_M_correct_90 rfl ?_
      refine v_icmp_eq (tgt := 107) (pc' := 94) F d_M_correct_91 (by decide) rfl (by omega) (by omega) (fun c91 => ?_) (fun c91 => ?_)
      · refine v_iconst (pc' := 108) F d_M_correct_107 rfl ?_
        refine v_goto (tgt := 112) F d_M_correct_108 (by decide) ?_
        refine v_istore_5 (pc' := 114) F d_M_correct_112 rfl rfl (by decide) ?_
        refine v_iload (pc' := 116) F d_M_correct_114 rfl rfl ?_
        refine v_if_eq (tgt := 164) (pc' := 119) F d_M_correct_116 (by decide) rfl (by omega) (fun c116 => by exfalso; omega) (fun c116 => ?_)
        refine v_aload_n (pc' := 120) (j := 0) F d_M_correct_119 rfl rfl rfl ?_
        refine v_getf (pc' := 123) (C := zR_M) (T := zF_M) (N := 28) (ref := "BillSharesModel") F d_M_correct_120 rfl zi_M rfl 17 (by decide) wx_678 (Or.inl rfl) hM.1 rfl ?_
        refine v_iload (pc' := 125) F d_M_correct_123 rfl rfl ?_
        refine mg_17 (pc' := 126) F hM d_M_correct_125 rfl (by omega) (by omega) ?_
        have q3 := hrn A (by omega) (by omega)
        refine v_if_ne (tgt := 160) (pc' := 129) F d_M_correct_126 (by decide) rfl (by omega) (fun c126 => ?_) (fun c126 => ?_)
        · refine v_iconst (pc' := 161) F d_M_correct_160 rfl ?_
          refine v_goto (tgt := 165) F d_M_correct_161 (by decide) ?_
          refine v_istore_5 (pc' := 167) F d_M_correct_165 rfl rfl (by decide) ?_
          refine v_aload_n (pc' := 168) (j := 0) F d_M_correct_167 rfl rfl rfl ?_
          refine v_iload (pc' := 170) F d_M_correct_168 rfl rfl ?_
          refine v_iconst (pc' := 171) F d_M_correct_170 rfl ?_
          refine v_callVM (pc' := 174) (C := zR_M) (T9 := zF_M) (N := 28) F d_M_correct_171 rfl cal_M_allows wx_758 wx_760 wp_16 rfl hM.1 (c_allows_0 l X _ _ _ _ hM) rfl ⟨by decide, by decide, by decide, by decide⟩ (Nat.le_of_ble_eq_true rfl) rfl rfl (fun h3 hM3 hF3 => ?_)
          refine v_if_ne (tgt := 179) (pc' := 177) F d_M_correct_174 (by decide) rfl (by omega) (fun c174 => ?_) (fun c174 => by exfalso; omega)
          refine v_aload_n (pc' := 180) (j := 0) F d_M_correct_179 rfl rfl rfl ?_
          refine v_getf (pc' := 183) (C := zR_M) (T := zF_M) (N := 28) (ref := "BillSharesModel") F d_M_correct_180 rfl zi_M rfl 15 (by decide) wx_676 (Or.inl rfl) hM3.1 rfl ?_
          refine v_iload (pc' := 185) F d_M_correct_183 rfl rfl ?_
          refine mg_15 (pc' := 186) F hM3 d_M_correct_185 rfl (by omega) (by omega) ?_
          refine v_un (by decide) ?_
          refine v_istore_6 (pc' := 188) F d_M_correct_186 rfl rfl (by decide) ?_
          refine v_aload_n (pc' := 189) (j := 0) F d_M_correct_188 rfl rfl rfl ?_
          refine v_getf (pc' := 192) (C := zR_M) (T := zF_M) (N := 28) (ref := "BillSharesModel") F d_M_correct_189 rfl zi_M rfl 15 (by decide) wx_676 (Or.inl rfl) hM3.1 rfl ?_
          refine v_iload (pc' := 194) F d_M_correct_192 rfl rfl ?_
          refine v_iload_n (pc' := 195) (j := 3) F d_M_correct_194 rfl rfl rfl ?_
          refine mp_15 (pc' := 196) F hM3 d_M_correct_195 rfl (by omega) (by omega) (fun h4 hM4 hF4 => ?_)
          refine v_aload_n (pc' := 197) (j := 0) F d_M_correct_196 rfl rfl rfl ?_
          refine v_getf (pc' := 200) (C := zR_M) (T := zF_M) (N := 28) (ref := "BillSharesModel") F d_M_correct_197 rfl zi_M rfl 16 (by decide) wx_677 (Or.inl rfl) hM4.1 rfl ?_
          refine v_iload (pc' := 202) F d_M_correct_200 rfl rfl ?_
          refine v_aload_n (pc' := 203) (j := 0) F d_M_correct_202 rfl rfl rfl ?_
          refine v_getf (pc' := 206) (C := zR_M) (T := zF_M) (N := 28) (ref := "BillSharesModel") F d_M_correct_203 rfl zi_M rfl 17 (by decide) wx_678 (Or.inl rfl) hM4.1 rfl ?_
          refine v_iload (pc' := 208) F d_M_correct_206 rfl rfl ?_
          refine mg_17 (pc' := 209) F hM4 d_M_correct_208 rfl (by omega) (by omega) ?_
          refine v_un (by decide) ?_
          refine v_un (by decide) ?_
          have q5 := hrn A (by omega) (by omega)
          refine v_if_eq (tgt := 222) (pc' := 212) F d_M_correct_209 (by decide) rfl (by omega) (fun c209 => ?_) (fun c209 => ?_)
          · refine v_iload_n (pc' := 223) (j := 3) F d_M_correct_222 rfl rfl rfl ?_
            refine mp_16 (pc' := 224) F hM4 d_M_correct_223 rfl (by omega) (by omega) (fun h5 hM5 hF5 => ?_)
            refine v_iload (pc' := 226) F d_M_correct_224 rfl rfl ?_
            refine v_ireturn F rfl d_M_correct_226 rfl rfl (Nat.le_refl _) (Nat.le_refl _) ?_
            first | (exfalso; omega) | (rw [show sp_cor M f v A = (1, 0, M) from if_neg (by omega)]; exact ⟨_, hM5, ((((((MF.rf).tr hF3)).tr hF4)).tr hF5), rfl, upM_ss, eqv.note (Or.inl rfl), 0, rfl, fun q => absurd (show (1 : Int) = 0 from q) (by decide)⟩) | (rw [show sp_cor M f v A = (0, M 15 A, upM (upM M 15 A v) 16 A v) from (if_pos (by omega)).trans (by rw [if_pos (by omega)])]; exact ⟨_, hM5, ((((((MF.rf).tr hF3)).tr hF4)).tr hF5), rfl, (by rw [upM_n (by decide)]; rw [upM_n (by decide)]; exact upM_ss), ((eqv.note (Or.inl rfl)).up 15 _ _).up 16 _ _, _, rfl, fun _ => rfl⟩) | (rw [show sp_cor M f v A = (0, M 15 A, upM (upM M 15 A v) 16 A (M 16 A)) from (if_pos (by omega)).trans (by rw [if_neg (by omega)])]; exact ⟨_, hM5, ((((((MF.rf).tr hF3)).tr hF4)).tr hF5), rfl, (by rw [upM_n (by decide)]; rw [upM_n (by decide)]; exact upM_ss), ((eqv.note (Or.inl rfl)).up 15 _ _).up 16 _ _, _, rfl, fun _ => rfl⟩)
          · refine v_aload_n (pc' := 213) (j := 0) F d_M_correct_212 rfl rfl rfl ?_
            refine v_getf (pc' := 216) (C := zR_M) (T := zF_M) (N := 28) (ref := "BillSharesModel") F d_M_correct_213 rfl zi_M rfl 16 (by decide) wx_677 (Or.inl rfl) hM4.1 rfl ?_
            refine v_iload (pc' := 218) F d_M_correct_216 rfl rfl ?_
            refine mg_16 (pc' := 219) F hM4 d_M_correct_218 rfl (by omega) (by omega) ?_
            refine v_un (by decide) ?_
            refine v_un (by decide) ?_
            refine v_goto (tgt := 223) F d_M_correct_219 (by decide) ?_
            refine mp_16 (pc' := 224) F hM4 d_M_correct_223 rfl (by omega) (by omega) (fun h6 hM6 hF6 => ?_)
            refine v_iload (pc' := 226) F d_M_correct_224 rfl rfl ?_
            refine v_ireturn F rfl d_M_correct_226 rfl rfl (Nat.le_refl _) (Nat.le_refl _) ?_
            first | (exfalso; omega) | (rw [show sp_cor M f v A = (1, 0, M) from if_neg (by omega)]; exact ⟨_, hM6, ((((((MF.rf).tr hF3)).tr hF4)).tr hF6), rfl, upM_ss, eqv.note (Or.inl rfl), 0, rfl, fun q => absurd (show (1 : Int) = 0 from q) (by decide)⟩) | (rw [show sp_cor M f v A = (0, M 15 A, upM (upM M 15 A v) 16 A v) from (if_pos (by omega)).trans (by rw [if_pos (by omega)])]; exact ⟨_, hM6, ((((((MF.rf).tr hF3)).tr hF4)).tr hF6), rfl, (by rw [upM_n (by decide)]; rw [upM_n (by decide)]; exact upM_ss), ((eqv.note (Or.inl rfl)).up 15 _ _).up 16 _ _, _, rfl, fun _ => rfl⟩) | (rw [show sp_cor M f v A = (0, M 15 A, upM (upM M 15 A v) 16 A (M 16 A)) from (if_pos (by omega)).trans (by rw [if_neg (by omega)])]; exact ⟨_, hM6, ((((((MF.rf).tr hF3)).tr hF4)).tr hF6), rfl, (by rw [upM_n (by decide)]; rw [upM_n (by decide)]; exact upM_ss), ((eqv.note (Or.inl rfl)).up 15 _ _).up 16 _ _, _, rfl, fun _ => rfl⟩)
        · refine v_iload (pc' := 131) F d_M_correct_129 rfl rfl ?_
          refine v_bipush (pc' := 133) F d_M_correct_131 rfl (by decide) ?_
          refine v_iload_n (pc' := 134) (j := 1) F d_M_correct_133 rfl rfl rfl ?_
          refine v_imul (pc' := 135) F d_M_correct_134 rfl ?_
          refine v_aload_n (pc' := 136) (j := 0) F d_M_correct_135 rfl rfl rfl ?_
          refine v_getf (pc' := 139) (C := zR_M) (T := zF_M) (N := 28) (ref := "BillSharesModel") F d_M_correct_136 rfl zi_M rfl 13 (by decide) wx_674 (Or.inl rfl) hM.1 rfl ?_
          refine v_iload_n (pc' := 140) (j := 1) F d_M_correct_139 rfl rfl rfl ?_
          refine mg_13 (pc' := 141) F hM d_M_correct_140 rfl (by omega) (by omega) ?_
          refine v_iadd (pc' := 142) F d_M_correct_141 rfl ?_
          refine v_iconst (pc' := 143) F d_M_correct_142 rfl ?_
          refine v_isub (pc' := 144) F d_M_correct_143 rfl ?_
          refine v_icmp_eq (tgt := 160) (pc' := 147) F d_M_correct_144 (by decide) rfl (by omega) (by omega) (fun c144 => ?_) (fun c144 => ?_)
          · refine v_iconst (pc' := 161) F d_M_correct_160 rfl ?_
            refine v_goto (tgt := 165) F d_M_correct_161 (by decide) ?_
            refine v_istore_5 (pc' := 167) F d_M_correct_165 rfl rfl (by decide) ?_
            refine v_aload_n (pc' := 168) (j := 0) F d_M_correct_167 rfl rfl rfl ?_
            refine v_iload (pc' := 170) F d_M_correct_168 rfl rfl ?_
            refine v_iconst (pc' := 171) F d_M_correct_170 rfl ?_
            refine v_callVM (pc' := 174) (C := zR_M) (T9 := zF_M) (N := 28) F d_M_correct_171 rfl cal_M_allows wx_758 wx_760 wp_16 rfl hM.1 (c_allows_0 l X _ _ _ _ hM) rfl ⟨by decide, by decide, by decide, by decide⟩ (Nat.le_of_ble_eq_true rfl) rfl rfl (fun h7 hM7 hF7 => ?_)
            refine v_if_ne (tgt := 179) (pc' := 177) F d_M_correct_174 (by decide) rfl (by omega) (fun c174 => ?_) (fun c174 => by exfalso; omega)
            refine v_aload_n (pc' := 180) (j := 0) F d_M_correct_179 rfl rfl rfl ?_
            refine v_getf (pc' := 183) (C := zR_M) (T := zF_M) (N := 28) (ref := "BillSharesModel") F d_M_correct_180 rfl zi_M rfl 15 (by decide) wx_676 (Or.inl rfl) hM7.1 rfl ?_
            refine v_iload (pc' := 185) F d_M_correct_183 rfl rfl ?_
            refine mg_15 (pc' := 186) F hM7 d_M_correct_185 rfl (by omega) (by omega) ?_
            refine v_un (by decide) ?_
            refine v_istore_6 (pc' := 188) F d_M_correct_186 rfl rfl (by decide) ?_
            refine v_aload_n (pc' := 189) (j := 0) F d_M_correct_188 rfl rfl rfl ?_
            refine v_getf (pc' := 192) (C := zR_M) (T := zF_M) (N := 28) (ref := "BillSharesModel") F d_M_correct_189 rfl zi_M rfl 15 (by decide) wx_676 (Or.inl rfl) hM7.1 rfl ?_
            refine v_iload (pc' := 194) F d_M_correct_192 rfl rfl ?_
            refine v_iload_n (pc' := 195) (j := 3) F d_M_correct_194 rfl rfl rfl ?_
            refine mp_15 (pc' := 196) F hM7 d_M_correct_195 rfl (by omega) (by omega) (fun h8 hM8 hF8 => ?_)
            refine v_aload_n (pc' := 197) (j := 0) F d_M_correct_196 rfl rfl rfl ?_
            refine v_getf (pc' := 200) (C := zR_M) (T := zF_M) (N := 28) (ref := "BillSharesModel") F d_M_correct_197 rfl zi_M rfl 16 (by decide) wx_677 (Or.inl rfl) hM8.1 rfl ?_
            refine v_iload (pc' := 202) F d_M_correct_200 rfl rfl ?_
            refine v_aload_n (pc' := 203) (j := 0) F d_M_correct_202 rfl rfl rfl ?_
            refine v_getf (pc' := 206) (C := zR_M) (T := zF_M) (N := 28) (ref := "BillSharesModel") F d_M_correct_203 rfl zi_M rfl 17 (by decide) wx_678 (Or.inl rfl) hM8.1 rfl ?_
            refine v_iload (pc' := 208) F d_M_correct_206 rfl rfl ?_
            refine mg_17 (pc' := 209) F hM8 d_M_correct_208 rfl (by omega) (by omega) ?_
            refine v_un (by decide) ?_
            refine v_un (by decide) ?_
            have q5 := hrn A (by omega) (by omega)
            refine v_if_eq (tgt := 222) (pc' := 212) F d_M_correct_209 (by decide) rfl (by omega) (fun c209 => ?_) (fun c209 => ?_)
            · refine v_iload_n (pc' := 223) (j := 3) F d_M_correct_222 rfl rfl rfl ?_
              refine mp_16 (pc' := 224) F hM8 d_M_correct_223 rfl (by omega) (by omega) (fun h9 hM9 hF9 => ?_)
              refine v_iload (pc' := 226) F d_M_correct_224 rfl rfl ?_
              refine v_ireturn F rfl d_M_correct_226 rfl rfl (Nat.le_refl _) (Nat.le_refl _) ?_
              first | (exfalso; omega) | (rw [show sp_cor M f v A = (1, 0, M) from if_neg (by omega)]; exact ⟨_, hM9, ((((((MF.rf).tr hF7)).tr hF8)).tr hF9), rfl, upM_ss, eqv.note (Or.inl rfl), 0, rfl, fun q => absurd (show (1 : Int) = 0 from q) (by decide)⟩) | (rw [show sp_cor M f v A = (0, M 15 A, upM (upM M 15 A v) 16 A v) from (if_pos (by omega)).trans (by rw [if_pos (by omega)])]; exact ⟨_, hM9, ((((((MF.rf).tr hF7)).tr hF8)).tr hF9), rfl, (by rw [upM_n (by decide)]; rw [upM_n (by decide)]; exact upM_ss), ((eqv.note (Or.inl rfl)).up 15 _ _).up 16 _ _, _, rfl, fun _ => rfl⟩) | (rw [show sp_cor M f v A = (0, M 15 A, upM (upM M 15 A v) 16 A (M 16 A)) from (if_pos (by omega)).trans (by rw [if_neg (by omega)])]; exact ⟨_, hM9, ((((((MF.rf).tr hF7)).tr hF8)).tr hF9), rfl, (by rw [upM_n (by decide)]; rw [upM_n (by decide)]; exact upM_ss), ((eqv.note (Or.inl rfl)).up 15 _ _).up 16 _ _, _, rfl, fun _ => rfl⟩)
            · refine v_aload_n (pc' := 213) (j := 0) F d_M_correct_212 rfl rfl rfl ?_
              refine v_getf (pc' := 216) (C := zR_M) (T := zF_M) (N := 28) (ref := "BillSharesModel") F d_M_correct_213 rfl zi_M rfl 16 (by decide) wx_677 (Or.inl rfl) hM8.1 rfl ?_
              refine v_iload (pc' := 218) F d_M_correct_216 rfl rfl ?_
              refine mg_16 (pc' := 219) F hM8 d_M_correct_218 rfl (by omega) (by omega) ?_
              refine v_un (by decide) ?_
              refine v_un (by decide) ?_
              refine v_goto (tgt := 223) F d_M_correct_219 (by decide) ?_
              refine mp_16 (pc' := 224) F hM8 d_M_correct_223 rfl (by omega) (by omega) (fun h10 hM10 hF10 => ?_)
              refine v_iload (pc' := 226) F d_M_correct_224 rfl rfl ?_
              refine v_ireturn F rfl d_M_correct_226 rfl rfl (Nat.le_refl _) (Nat.le_refl _) ?_
              first | (exfalso; omega) | (rw [show sp_cor M f v A = (1, 0, M) from if_neg (by omega)]; exact ⟨_, hM10, ((((((MF.rf).tr hF7)).tr hF8)).tr hF10), rfl, upM_ss, eqv.note (Or.inl rfl), 0, rfl, fun q => absurd (show (1 : Int) = 0 from q) (by decide)⟩) | (rw [show sp_cor M f v A = (0, M 15 A, upM (upM M 15 A v) 16 A v) from (if_pos (by omega)).trans (by rw [if_pos (by omega)])]; exact ⟨_, hM10, ((((((MF.rf).tr hF7)).tr hF8)).tr hF10), rfl, (by rw [upM_n (by decide)]; rw [upM_n (by decide)]; exact upM_ss), ((eqv.note (Or.inl rfl)).up 15 _ _).up 16 _ _, _, rfl, fun _ => rfl⟩) | (rw [show sp_cor M f v A = (0, M 15 A, upM (upM M 15 A v) 16 A (M 16 A)) from (if_pos (by omega)).trans (by rw [if_neg (by omega)])]; exact ⟨_, hM10, ((((((MF.rf).tr hF7)).tr hF8)).tr hF10), rfl, (by rw [upM_n (by decide)]; rw [upM_n (by decide)]; exact upM_ss), ((eqv.note (Or.inl rfl)).up 15 _ _).up 16 _ _, _, rfl, fun _ => rfl⟩)
          · refine v_iload_n (pc' := 148) (j := 3) F d_M_correct_147 rfl rfl rfl ?_
            refine v_aload_n (pc' := 149) (j := 0) F d_M_correct_148 rfl rfl rfl ?_
            refine v_getf (pc' := 152) (C := zR_M) (T := zF_M) (N := 28) (ref := "BillSharesModel") F d_M_correct_149 rfl zi_M rfl 15 (by decide) wx_676 (Or.inl rfl) hM.1 rfl ?_
            refine v_iload (pc' := 154) F d_M_correct_152 rfl rfl ?_
            refine v_iconst (pc' := 155) F d_M_correct_154 rfl ?_
            refine v_iadd (pc' := 156) F d_M_correct_155 rfl ?_
            refine mg_15 (pc' := 157) F hM d_M_correct_156 rfl (by omega) (by omega) ?_
            have q4 := hva (A + 1) (by omega) (by omega)
            refine v_icmp_gt (tgt := 164) (pc' := 160) F d_M_correct_157 (by decide) rfl (by omega) (by omega) (fun c157 => ?_) (fun c157 => ?_)
            · refine v_iconst (pc' := 165) F d_M_correct_164 rfl ?_
              refine v_istore_5 (pc' := 167) F d_M_correct_165 rfl rfl (by decide) ?_
              refine v_aload_n (pc' := 168) (j := 0) F d_M_correct_167 rfl rfl rfl ?_
              refine v_iload (pc' := 170) F d_M_correct_168 rfl rfl ?_
              refine v_iconst (pc' := 171) F d_M_correct_170 rfl ?_
              refine v_callVM (pc' := 174) (C := zR_M) (T9 := zF_M) (N := 28) F d_M_correct_171 rfl cal_M_allows wx_758 wx_760 wp_16 rfl hM.1 (c_allows_1 l X _ _ _ _ _ hM (by omega)) rfl ⟨by decide, by decide, by decide, by decide⟩ (Nat.le_of_ble_eq_true rfl) rfl rfl (fun h11 hM11 hF11 => ?_)
              refine v_if_ne (tgt := 179) (pc' := 177) F d_M_correct_174 (by decide) rfl (by omega) (fun c174 => by exfalso; omega) (fun c174 => ?_)
              refine v_iconst (pc' := 178) F d_M_correct_177 rfl ?_
              refine v_ireturn F rfl d_M_correct_178 rfl rfl (Nat.le_refl _) (Nat.le_refl _) ?_
              first | (exfalso; omega) | (rw [show sp_cor M f v A = (1, 0, M) from if_neg (by omega)]; exact ⟨_, hM11, ((MF.rf).tr hF11), rfl, upM_ss, eqv.note (Or.inl rfl), 0, rfl, fun q => absurd (show (1 : Int) = 0 from q) (by decide)⟩) | (rw [show sp_cor M f v A = (0, M 15 A, upM (upM M 15 A v) 16 A v) from (if_pos (by omega)).trans (by rw [if_pos (by omega)])]; exact ⟨_, hM11, ((MF.rf).tr hF11), rfl, (by rw [upM_n (by decide)]; rw [upM_n (by decide)]; exact upM_ss), ((eqv.note (Or.inl rfl)).up 15 _ _).up 16 _ _, _, rfl, fun _ => rfl⟩) | (rw [show sp_cor M f v A = (0, M 15 A, upM (upM M 15 A v) 16 A (M 16 A)) from (if_pos (by omega)).trans (by rw [if_neg (by omega)])]; exact ⟨_, hM11, ((MF.rf).tr hF11), rfl, (by rw [upM_n (by decide)]; rw [upM_n (by decide)]; exact upM_ss), ((eqv.note (Or.inl rfl)).up 15 _ _).up 16 _ _, _, rfl, fun _ => rfl⟩)
            · refine v_iconst (pc' := 161) F d_M_correct_160 rfl ?_
              refine v_goto (tgt := 165) F d_M_correct_161 (by decide) ?_
              refine v_istore_5 (pc' := 167) F d_M_correct_165 rfl rfl (by decide) ?_
              refine v_aload_n (pc' := 168) (j := 0) F d_M_correct_167 rfl rfl rfl ?_
              refine v_iload (pc' := 170) F d_M_correct_168 rfl rfl ?_
              refine v_iconst (pc' := 171) F d_M_correct_170 rfl ?_
              refine v_callVM (pc' := 174) (C := zR_M) (T9 := zF_M) (N := 28) F d_M_correct_171 rfl cal_M_allows wx_758 wx_760 wp_16 rfl hM.1 (c_allows_0 l X _ _ _ _ hM) rfl ⟨by decide, by decide, by decide, by decide⟩ (Nat.le_of_ble_eq_true rfl) rfl rfl (fun h12 hM12 hF12 => ?_)
              refine v_if_ne (tgt := 179) (pc' := 177) F d_M_correct_174 (by decide) rfl (by omega) (fun c174 => ?_) (fun c174 => by exfalso; omega)
              refine v_aload_n (pc' := 180) (j := 0) F d_M_correct_179 rfl rfl rfl ?_
              refine v_getf (pc' := 183) (C := zR_M) (T := zF_M) (N := 28) (ref := "BillSharesModel") F d_M_correct_180 rfl zi_M rfl 15 (by decide) wx_676 (Or.inl rfl) hM12.1 rfl ?_
              refine v_iload (pc' := 185) F d_M_correct_183 rfl rfl ?_
              refine mg_15 (pc' := 186) F hM12 d_M_correct_185 rfl (by omega) (by omega) ?_
              refine v_un (by decide) ?_
              refine v_istore_6 (pc' := 188) F d_M_correct_186 rfl rfl (by decide) ?_
              refine v_aload_n (pc' := 189) (j := 0) F d_M_correct_188 rfl rfl rfl ?_
              refine v_getf (pc' := 192) (C := zR_M) (T := zF_M) (N := 28) (ref := "BillSharesModel") F d_M_correct_189 rfl zi_M rfl 15 (by decide) wx_676 (Or.inl rfl) hM12.1 rfl ?_
              refine v_iload (pc' := 194) F d_M_correct_192 rfl rfl ?_
              refine v_iload_n (pc' := 195) (j := 3) F d_M_correct_194 rfl rfl rfl ?_
              refine mp_15 (pc' := 196) F hM12 d_M_correct_195 rfl (by omega) (by omega) (fun h13 hM13 hF13 => ?_)
              refine v_aload_n (pc' := 197) (j := 0) F d_M_correct_196 rfl rfl rfl ?_
              refine v_getf (pc' := 200) (C := zR_M) (T := zF_M) (N := 28) (ref := "BillSharesModel") F d_M_correct_197 rfl zi_M rfl 16 (by decide) wx_677 (Or.inl rfl) hM13.1 rfl ?_
              refine v_iload (pc' := 202) F d_M_correct_200 rfl rfl ?_
              refine v_aload_n (pc' := 203) (j := 0) F d_M_correct_202 rfl rfl rfl ?_
              refine v_getf (pc' := 206) (C := zR_M) (T := zF_M) (N := 28) (ref := "BillSharesModel") F d_M_correct_203 rfl zi_M rfl 17 (by decide) wx_678 (Or.inl rfl) hM13.1 rfl ?_
              refine v_iload (pc' := 208) F d_M_correct_206 rfl rfl ?_
              refine mg_17 (pc' := 209) F hM13 d_M_correct_208 rfl (by omega) (by omega) ?_
              refine v_un (by decide) ?_
              refine v_un (by decide) ?_
              have q5 := hrn A (by omega) (by omega)
              refine v_if_eq (tgt := 222) (pc' := 212) F d_M_correct_209 (by decide) rfl (by omega) (fun c209 => ?_) (fun c209 => ?_)
              · refine v_iload_n (pc' := 223) (j := 3) F d_M_correct_222 rfl rfl rfl ?_
                refine mp_16 (pc' := 224) F hM13 d_M_correct_223 rfl (by omega) (by omega) (fun h14 hM14 hF14 => ?_)
                refine v_iload (pc' := 226) F d_M_correct_224 rfl rfl ?_
                refine v_ireturn F rfl d_M_correct_226 rfl rfl (Nat.le_refl _) (Nat.le_refl _) ?_
                first | (exfalso; omega) | (rw [show sp_cor M f v A = (1, 0, M) from if_neg (by omega)]; exact ⟨_, hM14, ((((((MF.rf).tr hF12)).tr hF13)).tr hF14), rfl, upM_ss, eqv.note (Or.inl rfl), 0, rfl, fun q => absurd (show (1 : Int) = 0 from q) (by decide)⟩) | (rw [show sp_cor M f v A = (0, M 15 A, upM (upM M 15 A v) 16 A v) from (if_pos (by omega)).trans (by rw [if_pos (by omega)])]; exact ⟨_, hM14, ((((((MF.rf).tr hF12)).tr hF13)).tr hF14), rfl, (by rw [upM_n (by decide)]; rw [upM_n (by decide)]; exact upM_ss), ((eqv.note (Or.inl rfl)).up 15 _ _).up 16 _ _, _, rfl, fun _ => rfl⟩) | (rw [show sp_cor M f v A = (0, M 15 A, upM (upM M 15 A v) 16 A (M 16 A)) from (if_pos (by omega)).trans (by rw [if_neg (by omega)])]; exact ⟨_, hM14, ((((((MF.rf).tr hF12)).tr hF13)).tr hF14), rfl, (by rw [upM_n (by decide)]; rw [upM_n (by decide)]; exact upM_ss), ((eqv.note (Or.inl rfl)).up 15 _ _).up 16 _ _, _, rfl, fun _ => rfl⟩)
              · refine v_aload_n (pc' := 213) (j := 0) F d_M_correct_212 rfl rfl rfl ?_
                refine v_getf (pc' := 216) (C := zR_M) (T := zF_M) (N := 28) (ref := "BillSharesModel") F d_M_correct_213 rfl zi_M rfl 16 (by decide) wx_677 (Or.inl rfl) hM13.1 rfl ?_
                refine v_iload (pc' := 218) F d_M_correct_216 rfl rfl ?_
                refine mg_16 (pc' := 219) F hM13 d_M_correct_218 rfl (by omega) (by omega) ?_
                refine v_un (by decide) ?_
                refine v_un (by decide) ?_
                refine v_goto (tgt := 223) F d_M_correct_219 (by decide) ?_
                refine mp_16 (pc' := 224) F hM13 d_M_correct_223 rfl (by omega) (by omega) (fun h15 hM15 hF15 => ?_)
                refine v_iload (pc' := 226) F d_M_correct_224 rfl rfl ?_
                refine v_ireturn F rfl d_M_correct_226 rfl rfl (Nat.le_refl _) (Nat.le_refl _) ?_
                first | (exfalso; omega) | (rw [show sp_cor M f v A = (1, 0, M) from if_neg (by omega)]; exact ⟨_, hM15, ((((((MF.rf).tr hF12)).tr hF13)).tr hF15), rfl, upM_ss, eqv.note (Or.inl rfl), 0, rfl, fun q => absurd (show (1 : Int) = 0 from q) (by decide)⟩) | (rw [show sp_cor M f v A = (0, M 15 A, upM (upM M 15 A v) 16 A v) from (if_pos (by omega)).trans (by rw [if_pos (by omega)])]; exact ⟨_, hM15, ((((((MF.rf).tr hF12)).tr hF13)).tr hF15), rfl, (by rw [upM_n (by decide)]; rw [upM_n (by decide)]; exact upM_ss), ((eqv.note (Or.inl rfl)).up 15 _ _).up 16 _ _, _, rfl, fun _ => rfl⟩) | (rw [show sp_cor M f v A = (0, M 15 A, upM (upM M 15 A v) 16 A (M 16 A)) from (if_pos (by omega)).trans (by rw [if_neg (by omega)])]; exact ⟨_, hM15, ((((((MF.rf).tr hF12)).tr hF13)).tr hF15), rfl, (by rw [upM_n (by decide)]; rw [upM_n (by decide)]; exact upM_ss), ((eqv.note (Or.inl rfl)).up 15 _ _).up 16 _ _, _, rfl, fun _ => rfl⟩)
      · refine v_aload_n (pc' := 95) (j := 0) F d_M_correct_94 rfl rfl rfl ?_
        refine v_getf (pc' := 98) (C := zR_M) (T := zF_M) (N := 28) (ref := "BillSharesModel") F d_M_correct_95 rfl zi_M rfl 16 (by decide) wx_677 (Or.inl rfl) hM.1 rfl ?_
        refine v_iload (pc' := 100) F d_M_correct_98 rfl rfl ?_
        refine v_iconst (pc' := 101) F d_M_correct_100 rfl ?_
        refine v_isub (pc' := 102) F d_M_correct_101 rfl ?_
        have q2 := hgo (A - 1) (by omega) (by omega)
        refine mg_16 (pc' := 103) F hM d_M_correct_102 rfl (by omega) (by omega) ?_
        refine v_iload_n (pc' := 104) (j := 3) F d_M_correct_103 rfl rfl rfl ?_
        refine v_icmp_gt (tgt := 111) (pc' := 107) F d_M_correct_104 (by decide) rfl (by omega) (by omega) (fun c104 => ?_) (fun c104 => ?_)
        · refine v_iconst (pc' := 112) F d_M_correct_111 rfl ?_
          refine v_istore_5 (pc' := 114) F d_M_correct_112 rfl rfl (by decide) ?_
          refine v_iload (pc' := 116) F d_M_correct_114 rfl rfl ?_
          refine v_if_eq (tgt := 164) (pc' := 119) F d_M_correct_116 (by decide) rfl (by omega) (fun c116 => ?_) (fun c116 => by exfalso; omega)
          refine v_iconst (pc' := 165) F d_M_correct_164 rfl ?_
          refine v_istore_5 (pc' := 167) F d_M_correct_165 rfl rfl (by decide) ?_
          refine v_aload_n (pc' := 168) (j := 0) F d_M_correct_167 rfl rfl rfl ?_
          refine v_iload (pc' := 170) F d_M_correct_168 rfl rfl ?_
          refine v_iconst (pc' := 171) F d_M_correct_170 rfl ?_
          refine v_callVM (pc' := 174) (C := zR_M) (T9 := zF_M) (N := 28) F d_M_correct_171 rfl cal_M_allows wx_758 wx_760 wp_16 rfl hM.1 (c_allows_1 l X _ _ _ _ _ hM (by omega)) rfl ⟨by decide, by decide, by decide, by decide⟩ (Nat.le_of_ble_eq_true rfl) rfl rfl (fun h16 hM16 hF16 => ?_)
          refine v_if_ne (tgt := 179) (pc' := 177) F d_M_correct_174 (by decide) rfl (by omega) (fun c174 => by exfalso; omega) (fun c174 => ?_)
          refine v_iconst (pc' := 178) F d_M_correct_177 rfl ?_
          refine v_ireturn F rfl d_M_correct_178 rfl rfl (Nat.le_refl _) (Nat.le_refl _) ?_
          first | (exfalso; omega) | (rw [show sp_cor M f v A = (1, 0, M) from if_neg (by omega)]; exact ⟨_, hM16, ((MF.rf).tr hF16), rfl, upM_ss, eqv.note (Or.inl rfl), 0, rfl, fun q => absurd (show (1 : Int) = 0 from q) (by decide)⟩) | (rw [show sp_cor M f v A = (0, M 15 A, upM (upM M 15 A v) 16 A v) from (if_pos (by omega)).trans (by rw [if_pos (by omega)])]; exact ⟨_, hM16, ((MF.rf).tr hF16), rfl, (by rw [upM_n (by decide)]; rw [upM_n (by decide)]; exact upM_ss), ((eqv.note (Or.inl rfl)).up 15 _ _).up 16 _ _, _, rfl, fun _ => rfl⟩) | (rw [show sp_cor M f v A = (0, M 15 A, upM (upM M 15 A v) 16 A (M 16 A)) from (if_pos (by omega)).trans (by rw [if_neg (by omega)])]; exact ⟨_, hM16, ((MF.rf).tr hF16), rfl, (by rw [upM_n (by decide)]; rw [upM_n (by decide)]; exact upM_ss), ((eqv.note (Or.inl rfl)).up 15 _ _).up 16 _ _, _, rfl, fun _ => rfl⟩)
        · refine v_iconst (pc' := 108) F d_M_correct_107 rfl ?_
          refine v_goto (tgt := 112) F d_M_correct_108 (by decide) ?_
          refine v_istore_5 (pc' := 114) F d_M_correct_112 rfl rfl (by decide) ?_
          refine v_iload (pc' := 116) F d_M_correct_114 rfl rfl ?_
          refine v_if_eq (tgt := 164) (pc' := 119) F d_M_correct_116 (by decide) rfl (by omega) (fun c116 => by exfalso; omega) (fun c116 => ?_)
          refine v_aload_n (pc' := 120) (j := 0) F d_M_correct_119 rfl rfl rfl ?_
          refine v_getf (pc' := 123) (C := zR_M) (T := zF_M) (N := 28) (ref := "BillSharesModel") F d_M_correct_120 rfl zi_M rfl 17 (by decide) wx_678 (Or.inl rfl) hM.1 rfl ?_
          refine v_iload (pc' := 125) F d_M_correct_123 rfl rfl ?_
          refine mg_17 (pc' := 126) F hM d_M_correct_125 rfl (by omega) (by omega) ?_
          have q3 := hrn A (by omega) (by omega)
          refine v_if_ne (tgt := 160) (pc' := 129) F d_M_correct_126 (by decide) rfl (by omega) (fun c126 => ?_) (fun c126 => ?_)
          · refine v_iconst (pc' := 161) F d_M_correct_160 rfl ?_
            refine v_goto (tgt := 165) F d_M_correct_161 (by decide) ?_
            refine v_istore_5 (pc' := 167) F d_M_correct_165 rfl rfl (by decide) ?_
            refine v_aload_n (pc' := 168) (j := 0) F d_M_correct_167 rfl rfl rfl ?_
            refine v_iload (pc' := 170) F d_M_correct_168 rfl rfl ?_
            refine v_iconst (pc' := 171) F d_M_correct_170 rfl ?_
            refine v_callVM (pc' := 174) (C := zR_M) (T9 := zF_M) (N := 28) F d_M_correct_171 rfl cal_M_allows wx_758 wx_760 wp_16 rfl hM.1 (c_allows_0 l X _ _ _ _ hM) rfl ⟨by decide, by decide, by decide, by decide⟩ (Nat.le_of_ble_eq_true rfl) rfl rfl (fun h17 hM17 hF17 => ?_)
            refine v_if_ne (tgt := 179) (pc' := 177) F d_M_correct_174 (by decide) rfl (by omega) (fun c174 => ?_) (fun c174 => by exfalso; omega)
            refine v_aload_n (pc' := 180) (j := 0) F d_M_correct_179 rfl rfl rfl ?_
            refine v_getf (pc' := 183) (C := zR_M) (T := zF_M) (N := 28) (ref := "BillSharesModel") F d_M_correct_180 rfl zi_M rfl 15 (by decide) wx_676 (Or.inl rfl) hM17.1 rfl ?_
            refine v_iload (pc' := 185) F d_M_correct_183 rfl rfl ?_
            refine mg_15 (pc' := 186) F hM17 d_M_correct_185 rfl (by omega) (by omega) ?_
            refine v_un (by decide) ?_
            refine v_istore_6 (pc' := 188) F d_M_correct_186 rfl rfl (by decide) ?_
            refine v_aload_n (pc' := 189) (j := 0) F d_M_correct_188 rfl rfl rfl ?_
            refine v_getf (pc' := 192) (C := zR_M) (T := zF_M) (N := 28) (ref := "BillSharesModel") F d_M_correct_189 rfl zi_M rfl 15 (by decide) wx_676 (Or.inl rfl) hM17.1 rfl ?_
            refine v_iload (pc' := 194) F d_M_correct_192 rfl rfl ?_
            refine v_iload_n (pc' := 195) (j := 3) F d_M_correct_194 rfl rfl rfl ?_
            refine mp_15 (pc' := 196) F hM17 d_M_correct_195 rfl (by omega) (by omega) (fun h18 hM18 hF18 => ?_)
            refine v_aload_n (pc' := 197) (j := 0) F d_M_correct_196 rfl rfl rfl ?_
            refine v_getf (pc' := 200) (C := zR_M) (T := zF_M) (N := 28) (ref := "BillSharesModel") F d_M_correct_197 rfl zi_M rfl 16 (by decide) wx_677 (Or.inl rfl) hM18.1 rfl ?_
            refine v_iload (pc' := 202) F d_M_correct_200 rfl rfl ?_
            refine v_aload_n (pc' := 203) (j := 0) F d_M_correct_202 rfl rfl rfl ?_
            refine v_getf (pc' := 206) (C := zR_M) (T := zF_M) (N := 28) (ref := "BillSharesModel") F d_M_correct_203 rfl zi_M rfl 17 (by decide) wx_678 (Or.inl rfl) hM18.1 rfl ?_
            refine v_iload (pc' := 208) F d_M_correct_206 rfl rfl ?_
            refine mg_17 (pc' := 209) F hM18 d_M_correct_208 rfl (by omega) (by omega) ?_
            refine v_un (by decide) ?_
            refine v_un (by decide) ?_
            have q5 := hrn A (by omega) (by omega)
            refine v_if_eq (tgt := 222) (pc' := 212) F d_M_correct_209 (by decide) rfl (by omega) (fun c209 => ?_) (fun c209 => ?_)
            · refine v_iload_n (pc' := 223) (j := 3) F d_M_correct_222 rfl rfl rfl ?_
              refine mp_16 (pc' := 224) F hM18 d_M_correct_223 rfl (by omega) (by omega) (fun h19 hM19 hF19 => ?_)
              refine v_iload (pc' := 226) F d_M_correct_224 rfl rfl ?_
              refine v_ireturn F rfl d_M_correct_226 rfl rfl (Nat.le_refl _) (Nat.le_refl _) ?_
              first | (exfalso; omega) | (rw [show sp_cor M f v A = (1, 0, M) from if_neg (by omega)]; exact ⟨_, hM19, ((((((MF.rf).tr hF17)).tr hF18)).tr hF19), rfl, upM_ss, eqv.note (Or.inl rfl), 0, rfl, fun q => absurd (show (1 : Int) = 0 from q) (by decide)⟩) | (rw [show sp_cor M f v A = (0, M 15 A, upM (upM M 15 A v) 16 A v) from (if_pos (by omega)).trans (by rw [if_pos (by omega)])]; exact ⟨_, hM19, ((((((MF.rf).tr hF17)).tr hF18)).tr hF19), rfl, (by rw [upM_n (by decide)]; rw [upM_n (by decide)]; exact upM_ss), ((eqv.note (Or.inl rfl)).up 15 _ _).up 16 _ _, _, rfl, fun _ => rfl⟩) | (rw [show sp_cor M f v A = (0, M 15 A, upM (upM M 15 A v) 16 A (M 16 A)) from (if_pos (by omega)).trans (by rw [if_neg (by omega)])]; exact ⟨_, hM19, ((((((MF.rf).tr hF17)).tr hF18)).tr hF19), rfl, (by rw [upM_n (by decide)]; rw [upM_n (by decide)]; exact upM_ss), ((eqv.note (Or.inl rfl)).up 15 _ _).up 16 _ _, _, rfl, fun _ => rfl⟩)
            · refine v_aload_n (pc' := 213) (j := 0) F d_M_correct_212 rfl rfl rfl ?_
              refine v_getf (pc' := 216) (C := zR_M) (T := zF_M) (N := 28) (ref := "BillSharesModel") F d_M_correct_213 rfl zi_M rfl 16 (by decide) wx_677 (Or.inl rfl) hM18.1 rfl ?_
              refine v_iload (pc' := 218) F d_M_correct_216 rfl rfl ?_
              refine mg_16 (pc' := 219) F hM18 d_M_correct_218 rfl (by omega) (by omega) ?_
              refine v_un (by decide) ?_
              refine v_un (by decide) ?_
              refine v_goto (tgt := 223) F d_M_correct_219 (by decide) ?_
              refine mp_16 (pc' := 224) F hM18 d_M_correct_223 rfl (by omega) (by omega) (fun h20 hM20 hF20 => ?_)
              refine v_iload (pc' := 226) F d_M_correct_224 rfl rfl ?_
              refine v_ireturn F rfl d_M_correct_226 rfl rfl (Nat.le_refl _) (Nat.le_refl _) ?_
              first | (exfalso; omega) | (rw [show sp_cor M f v A = (1, 0, M) from if_neg (by omega)]; exact ⟨_, hM20, ((((((MF.rf).tr hF17)).tr hF18)).tr hF20), rfl, upM_ss, eqv.note (Or.inl rfl), 0, rfl, fun q => absurd (show (1 : Int) = 0 from q) (by decide)⟩) | (rw [show sp_cor M f v A = (0, M 15 A, upM (upM M 15 A v) 16 A v) from (if_pos (by omega)).trans (by rw [if_pos (by omega)])]; exact ⟨_, hM20, ((((((MF.rf).tr hF17)).tr hF18)).tr hF20), rfl, (by rw [upM_n (by decide)]; rw [upM_n (by decide)]; exact upM_ss), ((eqv.note (Or.inl rfl)).up 15 _ _).up 16 _ _, _, rfl, fun _ => rfl⟩) | (rw [show sp_cor M f v A = (0, M 15 A, upM (upM M 15 A v) 16 A (M 16 A)) from (if_pos (by omega)).trans (by rw [if_neg (by omega)])]; exact ⟨_, hM20, ((((((MF.rf).tr hF17)).tr hF18)).tr hF20), rfl, (by rw [upM_n (by decide)]; rw [upM_n (by decide)]; exact upM_ss), ((eqv.note (Or.inl rfl)).up 15 _ _).up 16 _ _, _, rfl, fun _ => rfl⟩)
          · refine v_iload (pc' := 131) F d_M_correct_129 rfl rfl ?_
            refine v_bipush (pc' := 133) F d_M_correct_131 rfl (by decide) ?_
            refine v_iload_n (pc' := 134) (j := 1) F d_M_correct_133 rfl rfl rfl ?_
            refine v_imul (pc' := 135) F d_M_correct_134 rfl ?_
            refine v_aload_n (pc' := 136) (j := 0) F d_M_correct_135 rfl rfl rfl ?_
            refine v_getf (pc' := 139) (C := zR_M) (T := zF_M) (N := 28) (ref := "BillSharesModel") F d_M_correct_136 rfl zi_M rfl 13 (by decide) wx_674 (Or.inl rfl) hM.1 rfl ?_
            refine v_iload_n (pc' := 140) (j := 1) F d_M_correct_139 rfl rfl rfl ?_
            refine mg_13 (pc' := 141) F hM d_M_correct_140 rfl (by omega) (by omega) ?_
            refine v_iadd (pc' := 142) F d_M_correct_141 rfl ?_
            refine v_iconst (pc' := 143) F d_M_correct_142 rfl ?_
            refine v_isub (pc' := 144) F d_M_correct_143 rfl ?_
            refine v_icmp_eq (tgt := 160) (pc' := 147) F d_M_correct_144 (by decide) rfl (by omega) (by omega) (fun c144 => ?_) (fun c144 => ?_)
            · refine v_iconst (pc' := 161) F d_M_correct_160 rfl ?_
              refine v_goto (tgt := 165) F d_M_correct_161 (by decide) ?_
              refine v_istore_5 (pc' := 167) F d_M_correct_165 rfl rfl (by decide) ?_
              refine v_aload_n (pc' := 168) (j := 0) F d_M_correct_167 rfl rfl rfl ?_
              refine v_iload (pc' := 170) F d_M_correct_168 rfl rfl ?_
              refine v_iconst (pc' := 171) F d_M_correct_170 rfl ?_
              refine v_callVM (pc' := 174) (C := zR_M) (T9 := zF_M) (N := 28) F d_M_correct_171 rfl cal_M_allows wx_758 wx_760 wp_16 rfl hM.1 (c_allows_0 l X _ _ _ _ hM) rfl ⟨by decide, by decide, by decide, by decide⟩ (Nat.le_of_ble_eq_true rfl) rfl rfl (fun h21 hM21 hF21 => ?_)
              refine v_if_ne (tgt := 179) (pc' := 177) F d_M_correct_174 (by decide) rfl (by omega) (fun c174 => ?_) (fun c174 => by exfalso; omega)
              refine v_aload_n (pc' := 180) (j := 0) F d_M_correct_179 rfl rfl rfl ?_
              refine v_getf (pc' := 183) (C := zR_M) (T := zF_M) (N := 28) (ref := "BillSharesModel") F d_M_correct_180 rfl zi_M rfl 15 (by decide) wx_676 (Or.inl rfl) hM21.1 rfl ?_
              refine v_iload (pc' := 185) F d_M_correct_183 rfl rfl ?_
              refine mg_15 (pc' := 186) F hM21 d_M_correct_185 rfl (by omega) (by omega) ?_
              refine v_un (by decide) ?_
              refine v_istore_6 (pc' := 188) F d_M_correct_186 rfl rfl (by decide) ?_
              refine v_aload_n (pc' := 189) (j := 0) F d_M_correct_188 rfl rfl rfl ?_
              refine v_getf (pc' := 192) (C := zR_M) (T := zF_M) (N := 28) (ref := "BillSharesModel") F d_M_correct_189 rfl zi_M rfl 15 (by decide) wx_676 (Or.inl rfl) hM21.1 rfl ?_
              refine v_iload (pc' := 194) F d_M_correct_192 rfl rfl ?_
              refine v_iload_n (pc' := 195) (j := 3) F d_M_correct_194 rfl rfl rfl ?_
              refine mp_15 (pc' := 196) F hM21 d_M_correct_195 rfl (by omega) (by omega) (fun h22 hM22 hF22 => ?_)
              refine v_aload_n (pc' := 197) (j := 0) F d_M_correct_196 rfl rfl rfl ?_
              refine v_getf (pc' := 200) (C := zR_M) (T := zF_M) (N := 28) (ref := "BillSharesModel") F d_M_correct_197 rfl zi_M rfl 16 (by decide) wx_677 (Or.inl rfl) hM22.1 rfl ?_
              refine v_iload (pc' := 202) F d_M_correct_200 rfl rfl ?_
              refine v_aload_n (pc' := 203) (j := 0) F d_M_correct_202 rfl rfl rfl ?_
              refine v_getf (pc' := 206) (C := zR_M) (T := zF_M) (N := 28) (ref := "BillSharesModel") F d_M_correct_203 rfl zi_M rfl 17 (by decide) wx_678 (Or.inl rfl) hM22.1 rfl ?_
              refine v_iload (pc' := 208) F d_M_correct_206 rfl rfl ?_
              refine mg_17 (pc' := 209) F hM22 d_M_correct_208 rfl (by omega) (by omega) ?_
              refine v_un (by decide) ?_
              refine v_un (by decide) ?_
              have q5 := hrn A (by omega) (by omega)
              refine v_if_eq (tgt := 222) (pc' := 212) F d_M_correct_209 (by decide) rfl (by omega) (fun c209 => ?_) (fun c209 => ?_)
              · refine v_iload_n (pc' := 223) (j := 3) F d_M_correct_222 rfl rfl rfl ?_
                refine mp_16 (pc' := 224) F hM22 d_M_correct_223 rfl (by omega) (by omega) (fun h23 hM23 hF23 => ?_)
                refine v_iload (pc' := 226) F d_M_correct_224 rfl rfl ?_
                refine v_ireturn F rfl d_M_correct_226 rfl rfl (Nat.le_refl _) (Nat.le_refl _) ?_
                first | (exfalso; omega) | (rw [show sp_cor M f v A = (1, 0, M) from if_neg (by omega)]; exact ⟨_, hM23, ((((((MF.rf).tr hF21)).tr hF22)).tr hF23), rfl, upM_ss, eqv.note (Or.inl rfl), 0, rfl, fun q => absurd (show (1 : Int) = 0 from q) (by decide)⟩) | (rw [show sp_cor M f v A = (0, M 15 A, upM (upM M 15 A v) 16 A v) from (if_pos (by omega)).trans (by rw [if_pos (by omega)])]; exact ⟨_, hM23, ((((((MF.rf).tr hF21)).tr hF22)).tr hF23), rfl, (by rw [upM_n (by decide)]; rw [upM_n (by decide)]; exact upM_ss), ((eqv.note (Or.inl rfl)).up 15 _ _).up 16 _ _, _, rfl, fun _ => rfl⟩) | (rw [show sp_cor M f v A = (0, M 15 A, upM (upM M 15 A v) 16 A (M 16 A)) from (if_pos (by omega)).trans (by rw [if_neg (by omega)])]; exact ⟨_, hM23, ((((((MF.rf).tr hF21)).tr hF22)).tr hF23), rfl, (by rw [upM_n (by decide)]; rw [upM_n (by decide)]; exact upM_ss), ((eqv.note (Or.inl rfl)).up 15 _ _).up 16 _ _, _, rfl, fun _ => rfl⟩)
              · refine v_aload_n (pc' := 213) (j := 0) F d_M_correct_212 rfl rfl rfl ?_
                refine v_getf (pc' := 216) (C := zR_M) (T := zF_M) (N := 28) (ref := "BillSharesModel") F d_M_correct_213 rfl zi_M rfl 16 (by decide) wx_677 (Or.inl rfl) hM22.1 rfl ?_
                refine v_iload (pc' := 218) F d_M_correct_216 rfl rfl ?_
                refine mg_16 (pc' := 219) F hM22 d_M_correct_218 rfl (by omega) (by omega) ?_
                refine v_un (by decide) ?_
                refine v_un (by decide) ?_
                refine v_goto (tgt := 223) F d_M_correct_219 (by decide) ?_
                refine mp_16 (pc' := 224) F hM22 d_M_correct_223 rfl (by omega) (by omega) (fun h24 hM24 hF24 => ?_)
                refine v_iload (pc' := 226) F d_M_correct_224 rfl rfl ?_
                refine v_ireturn F rfl d_M_correct_226 rfl rfl (Nat.le_refl _) (Nat.le_refl _) ?_
                first | (exfalso; omega) | (rw [show sp_cor M f v A = (1, 0, M) from if_neg (by omega)]; exact ⟨_, hM24, ((((((MF.rf).tr hF21)).tr hF22)).tr hF24), rfl, upM_ss, eqv.note (Or.inl rfl), 0, rfl, fun q => absurd (show (1 : Int) = 0 from q) (by decide)⟩) | (rw [show sp_cor M f v A = (0, M 15 A, upM (upM M 15 A v) 16 A v) from (if_pos (by omega)).trans (by rw [if_pos (by omega)])]; exact ⟨_, hM24, ((((((MF.rf).tr hF21)).tr hF22)).tr hF24), rfl, (by rw [upM_n (by decide)]; rw [upM_n (by decide)]; exact upM_ss), ((eqv.note (Or.inl rfl)).up 15 _ _).up 16 _ _, _, rfl, fun _ => rfl⟩) | (rw [show sp_cor M f v A = (0, M 15 A, upM (upM M 15 A v) 16 A (M 16 A)) from (if_pos (by omega)).trans (by rw [if_neg (by omega)])]; exact ⟨_, hM24, ((((((MF.rf).tr hF21)).tr hF22)).tr hF24), rfl, (by rw [upM_n (by decide)]; rw [upM_n (by decide)]; exact upM_ss), ((eqv.note (Or.inl rfl)).up 15 _ _).up 16 _ _, _, rfl, fun _ => rfl⟩)
            · refine v_iload_n (pc' := 148) (j := 3) F d_M_correct_147 rfl rfl rfl ?_
              refine v_aload_n (pc' := 149) (j := 0) F d_M_correct_148 rfl rfl rfl ?_
              refine v_getf (pc' := 152) (C := zR_M) (T := zF_M) (N := 28) (ref := "BillSharesModel") F d_M_correct_149 rfl zi_M rfl 15 (by decide) wx_676 (Or.inl rfl) hM.1 rfl ?_
              refine v_iload (pc' := 154) F d_M_correct_152 rfl rfl ?_
              refine v_iconst (pc' := 155) F d_M_correct_154 rfl ?_
              refine v_iadd (pc' := 156) F d_M_correct_155 rfl ?_
              refine mg_15 (pc' := 157) F hM d_M_correct_156 rfl (by omega) (by omega) ?_
              have q4 := hva (A + 1) (by omega) (by omega)
              refine v_icmp_gt (tgt := 164) (pc' := 160) F d_M_correct_157 (by decide) rfl (by omega) (by omega) (fun c157 => ?_) (fun c157 => ?_)
              · refine v_iconst (pc' := 165) F d_M_correct_164 rfl ?_
                refine v_istore_5 (pc' := 167) F d_M_correct_165 rfl rfl (by decide) ?_
                refine v_aload_n (pc' := 168) (j := 0) F d_M_correct_167 rfl rfl rfl ?_
                refine v_iload (pc' := 170) F d_M_correct_168 rfl rfl ?_
                refine v_iconst (pc' := 171) F d_M_correct_170 rfl ?_
                refine v_callVM (pc' := 174) (C := zR_M) (T9 := zF_M) (N := 28) F d_M_correct_171 rfl cal_M_allows wx_758 wx_760 wp_16 rfl hM.1 (c_allows_1 l X _ _ _ _ _ hM (by omega)) rfl ⟨by decide, by decide, by decide, by decide⟩ (Nat.le_of_ble_eq_true rfl) rfl rfl (fun h25 hM25 hF25 => ?_)
                refine v_if_ne (tgt := 179) (pc' := 177) F d_M_correct_174 (by decide) rfl (by omega) (fun c174 => by exfalso; omega) (fun c174 => ?_)
                refine v_iconst (pc' := 178) F d_M_correct_177 rfl ?_
                refine v_ireturn F rfl d_M_correct_178 rfl rfl (Nat.le_refl _) (Nat.le_refl _) ?_
                first | (exfalso; omega) | (rw [show sp_cor M f v A = (1, 0, M) from if_neg (by omega)]; exact ⟨_, hM25, ((MF.rf).tr hF25), rfl, upM_ss, eqv.note (Or.inl rfl), 0, rfl, fun q => absurd (show (1 : Int) = 0 from q) (by decide)⟩) | (rw [show sp_cor M f v A = (0, M 15 A, upM (upM M 15 A v) 16 A v) from (if_pos (by omega)).trans (by rw [if_pos (by omega)])]; exact ⟨_, hM25, ((MF.rf).tr hF25), rfl, (by rw [upM_n (by decide)]; rw [upM_n (by decide)]; exact upM_ss), ((eqv.note (Or.inl rfl)).up 15 _ _).up 16 _ _, _, rfl, fun _ => rfl⟩) | (rw [show sp_cor M f v A = (0, M 15 A, upM (upM M 15 A v) 16 A (M 16 A)) from (if_pos (by omega)).trans (by rw [if_neg (by omega)])]; exact ⟨_, hM25, ((MF.rf).tr hF25), rfl, (by rw [upM_n (by decide)]; rw [upM_n (by decide)]; exact upM_ss), ((eqv.note (Or.inl rfl)).up 15 _ _).up 16 _ _, _, rfl, fun _ => rfl⟩)
              · refine v_iconst (pc' := 161) F d_M_correct_160 rfl ?_
                refine v_goto (tgt := 165) F d_M_correct_161 (by decide) ?_
                refine v_istore_5 (pc' := 167) F d_M_correct_165 rfl rfl (by decide) ?_
                refine v_aload_n (pc' := 168) (j := 0) F d_M_correct_167 rfl rfl rfl ?_
                refine v_iload (pc' := 170) F d_M_correct_168 rfl rfl ?_
                refine v_iconst (pc' := 171) F d_M_correct_170 rfl ?_
                refine v_callVM (pc' := 174) (C := zR_M) (T9 := zF_M) (N := 28) F d_M_correct_171 rfl cal_M_allows wx_758 wx_760 wp_16 rfl hM.1 (c_allows_0 l X _ _ _ _ hM) rfl ⟨by decide, by decide, by decide, by decide⟩ (Nat.le_of_ble_eq_true rfl) rfl rfl (fun h26 hM26 hF26 => ?_)
                refine v_if_ne (tgt := 179) (pc' := 177) F d_M_correct_174 (by decide) rfl (by omega) (fun c174 => ?_) (fun c174 => by exfalso; omega)
                refine v_aload_n (pc' := 180) (j := 0) F d_M_correct_179 rfl rfl rfl ?_
                refine v_getf (pc' := 183) (C := zR_M) (T := zF_M) (N := 28) (ref := "BillSharesModel") F d_M_correct_180 rfl zi_M rfl 15 (by decide) wx_676 (Or.inl rfl) hM26.1 rfl ?_
                refine v_iload (pc' := 185) F d_M_correct_183 rfl rfl ?_
                refine mg_15 (pc' := 186) F hM26 d_M_correct_185 rfl (by omega) (by omega) ?_
                refine v_un (by decide) ?_
                refine v_istore_6 (pc' := 188) F d_M_correct_186 rfl rfl (by decide) ?_
                refine v_aload_n (pc' := 189) (j := 0) F d_M_correct_188 rfl rfl rfl ?_
                refine v_getf (pc' := 192) (C := zR_M) (T := zF_M) (N := 28) (ref := "BillSharesModel") F d_M_correct_189 rfl zi_M rfl 15 (by decide) wx_676 (Or.inl rfl) hM26.1 rfl ?_
                refine v_iload (pc' := 194) F d_M_correct_192 rfl rfl ?_
                refine v_iload_n (pc' := 195) (j := 3) F d_M_correct_194 rfl rfl rfl ?_
                refine mp_15 (pc' := 196) F hM26 d_M_correct_195 rfl (by omega) (by omega) (fun h27 hM27 hF27 => ?_)
                refine v_aload_n (pc' := 197) (j := 0) F d_M_correct_196 rfl rfl rfl ?_
                refine v_getf (pc' := 200) (C := zR_M) (T := zF_M) (N := 28) (ref := "BillSharesModel") F d_M_correct_197 rfl zi_M rfl 16 (by decide) wx_677 (Or.inl rfl) hM27.1 rfl ?_
                refine v_iload (pc' := 202) F d_M_correct_200 rfl rfl ?_
                refine v_aload_n (pc' := 203) (j := 0) F d_M_correct_202 rfl rfl rfl ?_
                refine v_getf (pc' := 206) (C := zR_M) (T := zF_M) (N := 28) (ref := "BillSharesModel") F d_M_correct_203 rfl zi_M rfl 17 (by decide) wx_678 (Or.inl rfl) hM27.1 rfl ?_
                refine v_iload (pc' := 208) F d_M_correct_206 rfl rfl ?_
                refine mg_17 (pc' := 209) F hM27 d_M_correct_208 rfl (by omega) (by omega) ?_
                refine v_un (by decide) ?_
                refine v_un (by decide) ?_
                have q5 := hrn A (by omega) (by omega)
                refine v_if_eq (tgt := 222) (pc' := 212) F d_M_correct_209 (by decide) rfl (by omega) (fun c209 => ?_) (fun c209 => ?_)
                · refine v_iload_n (pc' := 223) (j := 3) F d_M_correct_222 rfl rfl rfl ?_
                  refine mp_16 (pc' := 224) F hM27 d_M_correct_223 rfl (by omega) (by omega) (fun h28 hM28 hF28 => ?_)
                  refine v_iload (pc' := 226) F d_M_correct_224 rfl rfl ?_
                  refine v_ireturn F rfl d_M_correct_226 rfl rfl (Nat.le_refl _) (Nat.le_refl _) ?_
                  first | (exfalso; omega) | (rw [show sp_cor M f v A = (1, 0, M) from if_neg (by omega)]; exact ⟨_, hM28, ((((((MF.rf).tr hF26)).tr hF27)).tr hF28), rfl, upM_ss, eqv.note (Or.inl rfl), 0, rfl, fun q => absurd (show (1 : Int) = 0 from q) (by decide)⟩) | (rw [show sp_cor M f v A = (0, M 15 A, upM (upM M 15 A v) 16 A v) from (if_pos (by omega)).trans (by rw [if_pos (by omega)])]; exact ⟨_, hM28, ((((((MF.rf).tr hF26)).tr hF27)).tr hF28), rfl, (by rw [upM_n (by decide)]; rw [upM_n (by decide)]; exact upM_ss), ((eqv.note (Or.inl rfl)).up 15 _ _).up 16 _ _, _, rfl, fun _ => rfl⟩) | (rw [show sp_cor M f v A = (0, M 15 A, upM (upM M 15 A v) 16 A (M 16 A)) from (if_pos (by omega)).trans (by rw [if_neg (by omega)])]; exact ⟨_, hM28, ((((((MF.rf).tr hF26)).tr hF27)).tr hF28), rfl, (by rw [upM_n (by decide)]; rw [upM_n (by decide)]; exact upM_ss), ((eqv.note (Or.inl rfl)).up 15 _ _).up 16 _ _, _, rfl, fun _ => rfl⟩)
                · refine v_aload_n (pc' := 213) (j := 0) F d_M_correct_212 rfl rfl rfl ?_
                  refine v_getf (pc' := 216) (C := zR_M) (T := zF_M) (N := 28) (ref := "BillSharesModel") F d_M_correct_213 rfl zi_M rfl 16 (by decide) wx_677 (Or.inl rfl) hM27.1 rfl ?_
                  refine v_iload (pc' := 218) F d_M_correct_216 rfl rfl ?_
                  refine mg_16 (pc' := 219) F hM27 d_M_correct_218 rfl (by omega) (by omega) ?_
                  refine v_un (by decide) ?_
                  refine v_un (by decide) ?_
                  refine v_goto (tgt := 223) F d_M_correct_219 (by decide) ?_
                  refine mp_16 (pc' := 224) F hM27 d_M_correct_223 rfl (by omega) (by omega) (fun h29 hM29 hF29 => ?_)
                  refine v_iload (pc' := 226) F d_M_correct_224 rfl rfl ?_
                  refine v_ireturn F rfl d_M_correct_226 rfl rfl (Nat.le_refl _) (Nat.le_refl _) ?_
                  first | (exfalso; omega) | (rw [show sp_cor M f v A = (1, 0, M) from if_neg (by omega)]; exact ⟨_, hM29, ((((((MF.rf).tr hF26)).tr hF27)).tr hF29), rfl, upM_ss, eqv.note (Or.inl rfl), 0, rfl, fun q => absurd (show (1 : Int) = 0 from q) (by decide)⟩) | (rw [show sp_cor M f v A = (0, M 15 A, upM (upM M 15 A v) 16 A v) from (if_pos (by omega)).trans (by rw [if_pos (by omega)])]; exact ⟨_, hM29, ((((((MF.rf).tr hF26)).tr hF27)).tr hF29), rfl, (by rw [upM_n (by decide)]; rw [upM_n (by decide)]; exact upM_ss), ((eqv.note (Or.inl rfl)).up 15 _ _).up 16 _ _, _, rfl, fun _ => rfl⟩) | (rw [show sp_cor M f v A = (0, M 15 A, upM (upM M 15 A v) 16 A (M 16 A)) from (if_pos (by omega)).trans (by rw [if_neg (by omega)])]; exact ⟨_, hM29, ((((((MF.rf).tr hF26)).tr hF27)).tr hF29), rfl, (by rw [upM_n (by decide)]; rw [upM_n (by decide)]; exact upM_ss), ((eqv.note (Or.inl rfl)).up 15 _ _).up 16 _ _, _, rfl, fun _ => rfl⟩)
set_option maxRecDepth 100000 in
set_option maxHeartbeats 4000000 in
theorem c_M_correct (l : Launch) (X : am_X) (h : am_H) (nx : Nat) (y : Nat) (M : MS) (f d v : Int) (hM : RepM y M h) (hme : 0 ≤ M 7 0 ∧ M 7 0 ≤ 60) (hrd : ∀ f : Int, 0 ≤ f → f < M 7 0 → 0 ≤ M 13 f ∧ M 13 f ≤ 40) (hda : ∀ i : Int, 0 ≤ i → i < 2400 → 0 ≤ M 14 i ∧ M 14 i ≤ 3649) (hva : ∀ i : Int, 0 ≤ i → i < 2400 → 0 ≤ M 15 i ∧ M 15 i ≤ 10000000) (hgo : ∀ i : Int, 0 ≤ i → i < 2400 → 0 ≤ M 16 i ∧ M 16 i ≤ 10000000) (hrn : ∀ i : Int, 0 ≤ i → i < 2400 → M 17 i = 0 ∨ M 17 i = 1) (rf : -2147483648 ≤ f ∧ f < 2147483648) (rd : -2147483648 ≤ d ∧ d < 2147483648) (rv : -2147483648 ≤ v ∧ v < 2147483648) : Cn l X y_M_correct ({ frames := 2, cells := 0, slots := 0, locals := 42 }) [.ref y, iV f, iV d, iV v] h nx (mpost y h nx iV (sp_correct M f d v)) := by
  refine cn_of (k := 3) (L0 := [some (.ref y), some (iV f), some (iV d), some (iV v), none, none, none]) rfl wx_793 (Nat.le_of_ble_eq_true rfl) rfl (fun p e s m args below meth c F => ?_)
  unfold sp_correct
  by_cases hf : 0 ≤ f ∧ f < M 7 0
  · rw [if_pos hf]
    have q1 := hrd f hf.1 hf.2
    have hA := sp_find_or M f d (M 13 f).toNat
    refine v_iconst (pc' := 1) F d_M_correct_0 rfl ?_
    refine v_istore_4 (pc' := 3) F d_M_correct_1 rfl rfl (by decide) ?_
    refine v_iconst (pc' := 4) F d_M_correct_3 rfl ?_
    refine v_istore_5 (pc' := 6) F d_M_correct_4 rfl rfl (by decide) ?_
    exact lp_M_correct (kk := (M 13 f).toNat) F hM hme hrd hda rf rd rv hf (by omega) (tl_M_correct F hM hme hrd hva hgo hrn rf rd rv (by omega)) ((M 13 f).toNat + 1) 0 (by omega) (by omega)
  · rw [if_neg hf]
    refine v_iconst (pc' := 1) F d_M_correct_0 rfl ?_
    refine v_istore_4 (pc' := 3) F d_M_correct_1 rfl rfl (by decide) ?_
    refine v_iconst (pc' := 4) F d_M_correct_3 rfl ?_
    refine v_istore_5 (pc' := 6) F d_M_correct_4 rfl rfl (by decide) ?_
    refine v_aload_n (pc' := 7) (j := 0) F d_M_correct_6 rfl rfl rfl ?_
    refine v_iload_n (pc' := 8) (j := 1) F d_M_correct_7 rfl rfl rfl ?_
    refine v_callVP (pc' := 11) (C := zR_M) (T9 := zF_M) (N := 28) F d_M_correct_8 rfl cal_M_isMeter wx_778 wx_780 wp_19 rfl hM.1 (c_M_isMeter l X _ _ _ _ _ hM hme (by omega)) rfl ⟨by decide, by decide, by decide, by decide⟩ (Nat.le_of_ble_eq_true rfl) rfl rfl ?_
    refine v_zif_eq (tgt := 61) (pc' := 14) F d_M_correct_11 (by decide) rfl (fun c11 => ?_) (fun c11 => ?_)
    · exact tl_M_correct F hM hme hrd hva hgo hrn rf rd rv (Or.inl rfl)
    · exact absurd c11 hf
