/-! put, reading, changed, correct of the reference (written by wip/whole/mm4.py) -/
def sp_put (M : MS) (f d v w b : Int) : Int × Int × MS := if (0 ≤ f ∧ f < M 7 0) ∧ (0 ≤ d ∧ d ≤ 3649) ∧ (0 ≤ v ∧ v ≤ 10000000) ∧ (0 ≤ w ∧ w ≤ 10000000) ∧ (M 13 f = 0 ∨ M 14 (40 * f + M 13 f - 1) < d ∧ M 16 (40 * f + M 13 f - 1) ≤ v) then (if M 13 f < 40 then (0, M 13 f + 1, upM (upM (upM (upM (upM M 14 (40 * f + M 13 f) d) 15 (40 * f + M 13 f) v) 16 (40 * f + M 13 f) w) 17 (40 * f + M 13 f) b) 13 f (M 13 f + 1)) else (2, 0, M)) else (1, 0, M)
set_option maxRecDepth 100000 in
set_option maxHeartbeats 4000000 in
theorem c_M_put (l : Launch) (X : am_X) (h : am_H) (nx : Nat) (y : Nat) (M : MS) (f d v w b : Int) (hM : RepM y M h) (hme : 0 ≤ M 7 0 ∧ M 7 0 ≤ 60) (hrd : ∀ f : Int, 0 ≤ f → f < M 7 0 → 0 ≤ M 13 f ∧ M 13 f ≤ 40) (hda : ∀ i : Int, 0 ≤ i → i < 2400 → 0 ≤ M 14 i ∧ M 14 i ≤ 3649) (hgo : ∀ i : Int, 0 ≤ i → i < 2400 → 0 ≤ M 16 i ∧ M 16 i ≤ 10000000) (rf : -2147483648 ≤ f ∧ f < 2147483648) (rd : -2147483648 ≤ d ∧ d < 2147483648) (rv : -2147483648 ≤ v ∧ v < 2147483648) (rw : -2147483648 ≤ w ∧ w < 2147483648) (hb : b = 0 ∨ b = 1) : Cn l X y_M_put ({ frames := 2, cells := 0, slots := 0, locals := 42 }) [.ref y, iV f, iV d, iV v, iV w, iV b] h nx (mpost y h nx iV (sp_put M f d v w b)) := by
  refine cn_of (k := 2) (L0 := [some (.ref y), some (iV f), some (iV d), some (iV v), some (iV w), some (iV b), none, none]) rfl wx_777 (Nat.le_of_ble_eq_true rfl) rfl (fun p e s m args below meth c F => ?_)
  refine v_aload_n (pc' := 1) (j := 0) F d_M_put_0 rfl rfl rfl ?_
  refine v_iload_n (pc' := 2) (j := 1) F d_M_put_1 rfl rfl rfl ?_
  refine v_callVP (pc' := 5) (C := zR_M) (T9 := zF_M) (N := 28) F d_M_put_2 rfl cal_M_isMeter wx_778 wx_780 wp_19 rfl hM.1 (c_M_isMeter l X _ _ _ _ _ hM hme (by omega)) rfl ⟨by decide, by decide, by decide, by decide⟩ (Nat.le_of_ble_eq_true rfl) rfl rfl ?_
  refine v_zif_eq (tgt := 24) (pc' := 8) F d_M_put_5 (by decide) rfl (fun c5 => ?_) (fun c5 => ?_)
  · refine v_iconst (pc' := 25) F d_M_put_24 rfl ?_
    refine v_istore_6 (pc' := 27) F d_M_put_25 rfl rfl (by decide) ?_
    refine v_aload_n (pc' := 28) (j := 0) F d_M_put_27 rfl rfl rfl ?_
    refine v_iload_n (pc' := 29) (j := 1) F d_M_put_28 rfl rfl rfl ?_
    refine v_callVP (pc' := 32) (C := zR_M) (T9 := zF_M) (N := 28) F d_M_put_29 rfl cal_M_isMeter wx_778 wx_780 wp_19 rfl hM.1 (c_M_isMeter l X _ _ _ _ _ hM hme (by omega)) rfl ⟨by decide, by decide, by decide, by decide⟩ (Nat.le_of_ble_eq_true rfl) rfl rfl ?_
    refine v_zif_eq (tgt := 65) (pc' := 35) F d_M_put_32 (by decide) rfl (fun c32 => ?_) (fun c32 => ?_)
    · refine v_iconst (pc' := 66) F d_M_put_65 rfl ?_
      refine v_istore_7 (pc' := 68) F d_M_put_66 rfl rfl (by decide) ?_
      refine v_iload (pc' := 70) F d_M_put_68 rfl rfl ?_
      refine v_if_eq (tgt := 108) (pc' := 73) F d_M_put_70 (by decide) rfl (by omega) (fun c70 => ?_) (fun c70 => by exfalso; omega)
      refine v_iconst (pc' := 109) F d_M_put_108 rfl ?_
      refine v_istore_7 (pc' := 111) F d_M_put_109 rfl rfl (by decide) ?_
      refine v_aload_n (pc' := 112) (j := 0) F d_M_put_111 rfl rfl rfl ?_
      refine v_iload (pc' := 114) F d_M_put_112 rfl rfl ?_
      refine v_iload (pc' := 116) F d_M_put_114 rfl rfl ?_
      refine v_if_eq (tgt := 134) (pc' := 119) F d_M_put_116 (by decide) rfl (by omega) (fun c116 => ?_) (fun c116 => by exfalso; omega)
      refine v_iconst (pc' := 135) F d_M_put_134 rfl ?_
      refine v_callVM (pc' := 138) (C := zR_M) (T9 := zF_M) (N := 28) F d_M_put_135 rfl cal_M_allows wx_758 wx_760 wp_16 rfl hM.1 (c_allows_1 l X _ _ _ _ _ hM (by omega)) rfl ⟨by decide, by decide, by decide, by decide⟩ (Nat.le_of_ble_eq_true rfl) rfl rfl (fun h1 hM1 hF1 => ?_)
      refine v_if_ne (tgt := 143) (pc' := 141) F d_M_put_138 (by decide) rfl (by omega) (fun c138 => by exfalso; omega) (fun c138 => ?_)
      refine v_iconst (pc' := 142) F d_M_put_141 rfl ?_
      refine v_ireturn F rfl d_M_put_142 rfl rfl (Nat.le_refl _) (Nat.le_refl _) ?_
      first | (exfalso; omega) | (rw [show sp_put M f d v w b = (1, 0, M) from if_neg (by omega)]; exact ⟨_, hM1, ((MF.rf).tr hF1), rfl, upM_ss, eqv.note (Or.inl rfl), 0, rfl, fun q => absurd (show (1 : Int) = 0 from q) (by decide)⟩) | (rw [show sp_put M f d v w b = (2, 0, M) from (if_pos (by omega)).trans (if_neg (by omega))]; exact ⟨_, hM1, ((MF.rf).tr hF1), rfl, upM_ss, eqv.note (Or.inl rfl), 0, rfl, fun q => absurd (show (2 : Int) = 0 from q) (by decide)⟩) | (rw [show sp_put M f d v w b = _ from (if_pos (by omega)).trans (if_pos (by omega))]; exact ⟨_, hM1, ((MF.rf).tr hF1), rfl, (by rw [upM_n (by decide)]; rw [upM_n (by decide)]; rw [upM_n (by decide)]; rw [upM_n (by decide)]; rw [upM_n (by decide)]; exact upM_ss), (((((eqv.note (Or.inl rfl)).up 14 _ _).up 15 _ _).up 16 _ _).up 17 _ _).up 13 _ _, _, rfl, fun _ => rfl⟩)
    · refine v_iload_n (pc' := 36) (j := 2) F d_M_put_35 rfl rfl rfl ?_
      refine v_iconst (pc' := 37) F d_M_put_36 rfl ?_
      refine v_sipush (pc' := 40) F d_M_put_37 rfl (by decide) ?_
      refine v_callSP (pc' := 43) F d_M_put_40 rfl cal_M_isIn wx_755 wx_756 (c_M_isIn l X _ _ _ _ _ (by omega) (by omega) (by omega)) rfl ⟨by decide, by decide, by decide, by decide⟩ (Nat.le_of_ble_eq_true rfl) rfl rfl ?_
      refine v_zif_eq (tgt := 65) (pc' := 46) F d_M_put_43 (by decide) rfl (fun c43 => ?_) (fun c43 => ?_)
      · refine v_iconst (pc' := 66) F d_M_put_65 rfl ?_
        refine v_istore_7 (pc' := 68) F d_M_put_66 rfl rfl (by decide) ?_
        refine v_iload (pc' := 70) F d_M_put_68 rfl rfl ?_
        refine v_if_eq (tgt := 108) (pc' := 73) F d_M_put_70 (by decide) rfl (by omega) (fun c70 => ?_) (fun c70 => by exfalso; omega)
        refine v_iconst (pc' := 109) F d_M_put_108 rfl ?_
        refine v_istore_7 (pc' := 111) F d_M_put_109 rfl rfl (by decide) ?_
        refine v_aload_n (pc' := 112) (j := 0) F d_M_put_111 rfl rfl rfl ?_
        refine v_iload (pc' := 114) F d_M_put_112 rfl rfl ?_
        refine v_iload (pc' := 116) F d_M_put_114 rfl rfl ?_
        refine v_if_eq (tgt := 134) (pc' := 119) F d_M_put_116 (by decide) rfl (by omega) (fun c116 => ?_) (fun c116 => by exfalso; omega)
        refine v_iconst (pc' := 135) F d_M_put_134 rfl ?_
        refine v_callVM (pc' := 138) (C := zR_M) (T9 := zF_M) (N := 28) F d_M_put_135 rfl cal_M_allows wx_758 wx_760 wp_16 rfl hM.1 (c_allows_1 l X _ _ _ _ _ hM (by omega)) rfl ⟨by decide, by decide, by decide, by decide⟩ (Nat.le_of_ble_eq_true rfl) rfl rfl (fun h2 hM2 hF2 => ?_)
        refine v_if_ne (tgt := 143) (pc' := 141) F d_M_put_138 (by decide) rfl (by omega) (fun c138 => by exfalso; omega) (fun c138 => ?_)
        refine v_iconst (pc' := 142) F d_M_put_141 rfl ?_
        refine v_ireturn F rfl d_M_put_142 rfl rfl (Nat.le_refl _) (Nat.le_refl _) ?_
        first | (exfalso; omega) | (rw [show sp_put M f d v w b = (1, 0, M) from if_neg (by omega)]; exact ⟨_, hM2, ((MF.rf).tr hF2), rfl, upM_ss, eqv.note (Or.inl rfl), 0, rfl, fun q => absurd (show (1 : Int) = 0 from q) (by decide)⟩) | (rw [show sp_put M f d v w b = (2, 0, M) from (if_pos (by omega)).trans (if_neg (by omega))]; exact ⟨_, hM2, ((MF.rf).tr hF2), rfl, upM_ss, eqv.note (Or.inl rfl), 0, rfl, fun q => absurd (show (2 : Int) = 0 from q) (by decide)⟩) | (rw [show sp_put M f d v w b = _ from (if_pos (by omega)).trans (if_pos (by omega))]; exact ⟨_, hM2, ((MF.rf).tr hF2), rfl, (by rw [upM_n (by decide)]; rw [upM_n (by decide)]; rw [upM_n (by decide)]; rw [upM_n (by decide)]; rw [upM_n (by decide)]; exact upM_ss), (((((eqv.note (Or.inl rfl)).up 14 _ _).up 15 _ _).up 16 _ _).up 17 _ _).up 13 _ _, _, rfl, fun _ => rfl⟩)
      · refine v_iload_n (pc' := 47) (j := 3) F d_M_put_46 rfl rfl rfl ?_
        refine v_callSP (pc' := 50) F d_M_put_47 rfl cal_M_isValue wx_782 wx_783 (c_M_isValue l X _ _ _ (by omega)) rfl ⟨by decide, by decide, by decide, by decide⟩ (Nat.le_of_ble_eq_true rfl) rfl rfl ?_
        refine v_zif_eq (tgt := 65) (pc' := 53) F d_M_put_50 (by decide) rfl (fun c50 => ?_) (fun c50 => ?_)
        · refine v_iconst (pc' := 66) F d_M_put_65 rfl ?_
          refine v_istore_7 (pc' := 68) F d_M_put_66 rfl rfl (by decide) ?_
          refine v_iload (pc' := 70) F d_M_put_68 rfl rfl ?_
          refine v_if_eq (tgt := 108) (pc' := 73) F d_M_put_70 (by decide) rfl (by omega) (fun c70 => ?_) (fun c70 => by exfalso; omega)
          refine v_iconst (pc' := 109) F d_M_put_108 rfl ?_
          refine v_istore_7 (pc' := 111) F d_M_put_109 rfl rfl (by decide) ?_
          refine v_aload_n (pc' := 112) (j := 0) F d_M_put_111 rfl rfl rfl ?_
          refine v_iload (pc' := 114) F d_M_put_112 rfl rfl ?_
          refine v_iload (pc' := 116) F d_M_put_114 rfl rfl ?_
          refine v_if_eq (tgt := 134) (pc' := 119) F d_M_put_116 (by decide) rfl (by omega) (fun c116 => ?_) (fun c116 => by exfalso; omega)
          refine v_iconst (pc' := 135) F d_M_put_134 rfl ?_
          refine v_callVM (pc' := 138) (C := zR_M) (T9 := zF_M) (N := 28) F d_M_put_135 rfl cal_M_allows wx_758 wx_760 wp_16 rfl hM.1 (c_allows_1 l X _ _ _ _ _ hM (by omega)) rfl ⟨by decide, by decide, by decide, by decide⟩ (Nat.le_of_ble_eq_true rfl) rfl rfl (fun h3 hM3 hF3 => ?_)
          refine v_if_ne (tgt := 143) (pc' := 141) F d_M_put_138 (by decide) rfl (by omega) (fun c138 => by exfalso; omega) (fun c138 => ?_)
          refine v_iconst (pc' := 142) F d_M_put_141 rfl ?_
          refine v_ireturn F rfl d_M_put_142 rfl rfl (Nat.le_refl _) (Nat.le_refl _) ?_
          first | (exfalso; omega) | (rw [show sp_put M f d v w b = (1, 0, M) from if_neg (by omega)]; exact ⟨_, hM3, ((MF.rf).tr hF3), rfl, upM_ss, eqv.note (Or.inl rfl), 0, rfl, fun q => absurd (show (1 : Int) = 0 from q) (by decide)⟩) | (rw [show sp_put M f d v w b = (2, 0, M) from (if_pos (by omega)).trans (if_neg (by omega))]; exact ⟨_, hM3, ((MF.rf).tr hF3), rfl, upM_ss, eqv.note (Or.inl rfl), 0, rfl, fun q => absurd (show (2 : Int) = 0 from q) (by decide)⟩) | (rw [show sp_put M f d v w b = _ from (if_pos (by omega)).trans (if_pos (by omega))]; exact ⟨_, hM3, ((MF.rf).tr hF3), rfl, (by rw [upM_n (by decide)]; rw [upM_n (by decide)]; rw [upM_n (by decide)]; rw [upM_n (by decide)]; rw [upM_n (by decide)]; exact upM_ss), (((((eqv.note (Or.inl rfl)).up 14 _ _).up 15 _ _).up 16 _ _).up 17 _ _).up 13 _ _, _, rfl, fun _ => rfl⟩)
        · refine v_iload (pc' := 55) F d_M_put_53 rfl rfl ?_
          refine v_callSP (pc' := 58) F d_M_put_55 rfl cal_M_isValue wx_782 wx_783 (c_M_isValue l X _ _ _ (by omega)) rfl ⟨by decide, by decide, by decide, by decide⟩ (Nat.le_of_ble_eq_true rfl) rfl rfl ?_
          refine v_zif_eq (tgt := 65) (pc' := 61) F d_M_put_58 (by decide) rfl (fun c58 => ?_) (fun c58 => ?_)
          · refine v_iconst (pc' := 66) F d_M_put_65 rfl ?_
            refine v_istore_7 (pc' := 68) F d_M_put_66 rfl rfl (by decide) ?_
            refine v_iload (pc' := 70) F d_M_put_68 rfl rfl ?_
            refine v_if_eq (tgt := 108) (pc' := 73) F d_M_put_70 (by decide) rfl (by omega) (fun c70 => ?_) (fun c70 => by exfalso; omega)
            refine v_iconst (pc' := 109) F d_M_put_108 rfl ?_
            refine v_istore_7 (pc' := 111) F d_M_put_109 rfl rfl (by decide) ?_
            refine v_aload_n (pc' := 112) (j := 0) F d_M_put_111 rfl rfl rfl ?_
            refine v_iload (pc' := 114) F d_M_put_112 rfl rfl ?_
            refine v_iload (pc' := 116) F d_M_put_114 rfl rfl ?_
            refine v_if_eq (tgt := 134) (pc' := 119) F d_M_put_116 (by decide) rfl (by omega) (fun c116 => ?_) (fun c116 => by exfalso; omega)
            refine v_iconst (pc' := 135) F d_M_put_134 rfl ?_
            refine v_callVM (pc' := 138) (C := zR_M) (T9 := zF_M) (N := 28) F d_M_put_135 rfl cal_M_allows wx_758 wx_760 wp_16 rfl hM.1 (c_allows_1 l X _ _ _ _ _ hM (by omega)) rfl ⟨by decide, by decide, by decide, by decide⟩ (Nat.le_of_ble_eq_true rfl) rfl rfl (fun h4 hM4 hF4 => ?_)
            refine v_if_ne (tgt := 143) (pc' := 141) F d_M_put_138 (by decide) rfl (by omega) (fun c138 => by exfalso; omega) (fun c138 => ?_)
            refine v_iconst (pc' := 142) F d_M_put_141 rfl ?_
            refine v_ireturn F rfl d_M_put_142 rfl rfl (Nat.le_refl _) (Nat.le_refl _) ?_
            first | (exfalso; omega) | (rw [show sp_put M f d v w b = (1, 0, M) from if_neg (by omega)]; exact ⟨_, hM4, ((MF.rf).tr hF4), rfl, upM_ss, eqv.note (Or.inl rfl), 0, rfl, fun q => absurd (show (1 : Int) = 0 from q) (by decide)⟩) | (rw [show sp_put M f d v w b = (2, 0, M) from (if_pos (by omega)).trans (if_neg (by omega))]; exact ⟨_, hM4, ((MF.rf).tr hF4), rfl, upM_ss, eqv.note (Or.inl rfl), 0, rfl, fun q => absurd (show (2 : Int) = 0 from q) (by decide)⟩) | (rw [show sp_put M f d v w b = _ from (if_pos (by omega)).trans (if_pos (by omega))]; exact ⟨_, hM4, ((MF.rf).tr hF4), rfl, (by rw [upM_n (by decide)]; rw [upM_n (by decide)]; rw [upM_n (by decide)]; rw [upM_n (by decide)]; rw [upM_n (by decide)]; exact upM_ss), (((((eqv.note (Or.inl rfl)).up 14 _ _).up 15 _ _).up 16 _ _).up 17 _ _).up 13 _ _, _, rfl, fun _ => rfl⟩)
          · refine v_iconst (pc' := 62) F d_M_put_61 rfl ?_
            refine v_goto (tgt := 66) F d_M_put_62 (by decide) ?_
            refine v_istore_7 (pc' := 68) F d_M_put_66 rfl rfl (by decide) ?_
            refine v_iload (pc' := 70) F d_M_put_68 rfl rfl ?_
            refine v_if_eq (tgt := 108) (pc' := 73) F d_M_put_70 (by decide) rfl (by omega) (fun c70 => by exfalso; omega) (fun c70 => ?_)
            refine v_aload_n (pc' := 74) (j := 0) F d_M_put_73 rfl rfl rfl ?_
            refine v_getf (pc' := 77) (C := zR_M) (T := zF_M) (N := 28) (ref := "BillSharesModel") F d_M_put_74 rfl zi_M rfl 13 (by decide) wx_674 (Or.inl rfl) hM.1 rfl ?_
            refine v_iload_n (pc' := 78) (j := 1) F d_M_put_77 rfl rfl rfl ?_
            have q1 := hrd f (by omega) (by omega)
            refine mg_13 (pc' := 79) F hM d_M_put_78 rfl (by omega) (by omega) ?_
            refine v_if_eq (tgt := 104) (pc' := 82) F d_M_put_79 (by decide) rfl (by omega) (fun c79 => ?_) (fun c79 => ?_)
            · refine v_iconst (pc' := 105) F d_M_put_104 rfl ?_
              refine v_goto (tgt := 109) F d_M_put_105 (by decide) ?_
              refine v_istore_7 (pc' := 111) F d_M_put_109 rfl rfl (by decide) ?_
              refine v_aload_n (pc' := 112) (j := 0) F d_M_put_111 rfl rfl rfl ?_
              refine v_iload (pc' := 114) F d_M_put_112 rfl rfl ?_
              refine v_iload (pc' := 116) F d_M_put_114 rfl rfl ?_
              refine v_if_eq (tgt := 134) (pc' := 119) F d_M_put_116 (by decide) rfl (by omega) (fun c116 => by exfalso; omega) (fun c116 => ?_)
              refine v_aload_n (pc' := 120) (j := 0) F d_M_put_119 rfl rfl rfl ?_
              refine v_getf (pc' := 123) (C := zR_M) (T := zF_M) (N := 28) (ref := "BillSharesModel") F d_M_put_120 rfl zi_M rfl 13 (by decide) wx_674 (Or.inl rfl) hM.1 rfl ?_
              refine v_iload_n (pc' := 124) (j := 1) F d_M_put_123 rfl rfl rfl ?_
              refine mg_13 (pc' := 125) F hM d_M_put_124 rfl (by omega) (by omega) ?_
              refine v_bipush (pc' := 127) F d_M_put_125 rfl (by decide) ?_
              refine v_icmp_ge (tgt := 134) (pc' := 130) F d_M_put_127 (by decide) rfl (by omega) (by omega) (fun c127 => ?_) (fun c127 => ?_)
              · refine v_iconst (pc' := 135) F d_M_put_134 rfl ?_
                refine v_callVM (pc' := 138) (C := zR_M) (T9 := zF_M) (N := 28) F d_M_put_135 rfl cal_M_allows wx_758 wx_760 wp_16 rfl hM.1 (c_allows_2 l X _ _ _ _ hM) rfl ⟨by decide, by decide, by decide, by decide⟩ (Nat.le_of_ble_eq_true rfl) rfl rfl (fun h5 hM5 hF5 => ?_)
                refine v_if_ne (tgt := 143) (pc' := 141) F d_M_put_138 (by decide) rfl (by omega) (fun c138 => by exfalso; omega) (fun c138 => ?_)
                refine v_iconst (pc' := 142) F d_M_put_141 rfl ?_
                refine v_ireturn F rfl d_M_put_142 rfl rfl (Nat.le_refl _) (Nat.le_refl _) ?_
                first | (exfalso; omega) | (rw [show sp_put M f d v w b = (1, 0, M) from if_neg (by omega)]; exact ⟨_, hM5, ((MF.rf).tr hF5), rfl, upM_ss, eqv.note (Or.inl rfl), 0, rfl, fun q => absurd (show (1 : Int) = 0 from q) (by decide)⟩) | (rw [show sp_put M f d v w b = (2, 0, M) from (if_pos (by omega)).trans (if_neg (by omega))]; exact ⟨_, hM5, ((MF.rf).tr hF5), rfl, upM_ss, eqv.note (Or.inl rfl), 0, rfl, fun q => absurd (show (2 : Int) = 0 from q) (by decide)⟩) | (rw [show sp_put M f d v w b = _ from (if_pos (by omega)).trans (if_pos (by omega))]; exact ⟨_, hM5, ((MF.rf).tr hF5), rfl, (by rw [upM_n (by decide)]; rw [upM_n (by decide)]; rw [upM_n (by decide)]; rw [upM_n (by decide)]; rw [upM_n (by decide)]; exact upM_ss), (((((eqv.note (Or.inl rfl)).up 14 _ _).up 15 _ _).up 16 _ _).up 17 _ _).up 13 _ _, _, rfl, fun _ => rfl⟩)
              · refine v_iconst (pc' := 131) F d_M_put_130 rfl ?_
                refine v_goto (tgt := 135) F d_M_put_131 (by decide) ?_
                refine v_callVM (pc' := 138) (C := zR_M) (T9 := zF_M) (N := 28) F d_M_put_135 rfl cal_M_allows wx_758 wx_760 wp_16 rfl hM.1 (c_allows_0 l X _ _ _ _ hM) rfl ⟨by decide, by decide, by decide, by decide⟩ (Nat.le_of_ble_eq_true rfl) rfl rfl (fun h6 hM6 hF6 => ?_)
                refine v_if_ne (tgt := 143) (pc' := 141) F d_M_put_138 (by decide) rfl (by omega) (fun c138 => ?_) (fun c138 => by exfalso; omega)
                refine v_aload_n (pc' := 144) (j := 0) F d_M_put_143 rfl rfl rfl ?_
                refine v_getf (pc' := 147) (C := zR_M) (T := zF_M) (N := 28) (ref := "BillSharesModel") F d_M_put_144 rfl zi_M rfl 14 (by decide) wx_675 (Or.inl rfl) hM6.1 rfl ?_
                refine v_iload (pc' := 149) F d_M_put_147 rfl rfl ?_
                refine v_iconst (pc' := 150) F d_M_put_149 rfl ?_
                refine v_iadd (pc' := 151) F d_M_put_150 rfl ?_
                refine v_topi (b := 40 * f + M 13 f) (by omega) ?_
                refine v_iload_n (pc' := 152) (j := 2) F d_M_put_151 rfl rfl rfl ?_
                refine mp_14 (pc' := 153) F hM6 d_M_put_152 rfl (by omega) (by omega) (fun h7 hM7 hF7 => ?_)
                refine v_aload_n (pc' := 154) (j := 0) F d_M_put_153 rfl rfl rfl ?_
                refine v_getf (pc' := 157) (C := zR_M) (T := zF_M) (N := 28) (ref := "BillSharesModel") F d_M_put_154 rfl zi_M rfl 15 (by decide) wx_676 (Or.inl rfl) hM7.1 rfl ?_
                refine v_iload (pc' := 159) F d_M_put_157 rfl rfl ?_
                refine v_iconst (pc' := 160) F d_M_put_159 rfl ?_
                refine v_iadd (pc' := 161) F d_M_put_160 rfl ?_
                refine v_topi (b := 40 * f + M 13 f) (by omega) ?_
                refine v_iload_n (pc' := 162) (j := 3) F d_M_put_161 rfl rfl rfl ?_
                refine mp_15 (pc' := 163) F hM7 d_M_put_162 rfl (by omega) (by omega) (fun h8 hM8 hF8 => ?_)
                refine v_aload_n (pc' := 164) (j := 0) F d_M_put_163 rfl rfl rfl ?_
                refine v_getf (pc' := 167) (C := zR_M) (T := zF_M) (N := 28) (ref := "BillSharesModel") F d_M_put_164 rfl zi_M rfl 16 (by decide) wx_677 (Or.inl rfl) hM8.1 rfl ?_
                refine v_iload (pc' := 169) F d_M_put_167 rfl rfl ?_
                refine v_iconst (pc' := 170) F d_M_put_169 rfl ?_
                refine v_iadd (pc' := 171) F d_M_put_170 rfl ?_
                refine v_topi (b := 40 * f + M 13 f) (by omega) ?_
                refine v_iload (pc' := 173) F d_M_put_171 rfl rfl ?_
                refine mp_16 (pc' := 174) F hM8 d_M_put_173 rfl (by omega) (by omega) (fun h9 hM9 hF9 => ?_)
                refine v_aload_n (pc' := 175) (j := 0) F d_M_put_174 rfl rfl rfl ?_
                refine v_getf (pc' := 178) (C := zR_M) (T := zF_M) (N := 28) (ref := "BillSharesModel") F d_M_put_175 rfl zi_M rfl 17 (by decide) wx_678 (Or.inl rfl) hM9.1 rfl ?_
                refine v_iload (pc' := 180) F d_M_put_178 rfl rfl ?_
                refine v_iconst (pc' := 181) F d_M_put_180 rfl ?_
                refine v_iadd (pc' := 182) F d_M_put_181 rfl ?_
                refine v_topi (b := 40 * f + M 13 f) (by omega) ?_
                refine v_iload (pc' := 184) F d_M_put_182 rfl rfl ?_
                refine mp_17 (pc' := 185) F hM9 d_M_put_184 rfl (by omega) (by omega) hb (fun h10 hM10 hF10 => ?_)
                refine v_aload_n (pc' := 186) (j := 0) F d_M_put_185 rfl rfl rfl ?_
                refine v_getf (pc' := 189) (C := zR_M) (T := zF_M) (N := 28) (ref := "BillSharesModel") F d_M_put_186 rfl zi_M rfl 13 (by decide) wx_674 (Or.inl rfl) hM10.1 rfl ?_
                refine v_iload_n (pc' := 190) (j := 1) F d_M_put_189 rfl rfl rfl ?_
                refine v_dup2 (pc' := 191) F d_M_put_190 rfl rfl rfl ?_
                refine mg_13 (pc' := 192) F hM10 d_M_put_191 rfl (by omega) (by omega) ?_
                refine v_un (by decide) ?_
                refine v_un (by decide) ?_
                refine v_un (by decide) ?_
                refine v_un (by decide) ?_
                refine v_un (by decide) ?_
                refine v_iconst (pc' := 193) F d_M_put_192 rfl ?_
                refine v_iadd (pc' := 194) F d_M_put_193 rfl ?_
                refine mp_13 (pc' := 195) F hM10 d_M_put_194 rfl (by omega) (by omega) (fun h11 hM11 hF11 => ?_)
                refine v_aload_n (pc' := 196) (j := 0) F d_M_put_195 rfl rfl rfl ?_
                refine v_getf (pc' := 199) (C := zR_M) (T := zF_M) (N := 28) (ref := "BillSharesModel") F d_M_put_196 rfl zi_M rfl 13 (by decide) wx_674 (Or.inl rfl) hM11.1 rfl ?_
                refine v_iload_n (pc' := 200) (j := 1) F d_M_put_199 rfl rfl rfl ?_
                refine mg_13 (pc' := 201) F hM11 d_M_put_200 rfl (by omega) (by omega) ?_
                refine v_us ?_
                refine v_ireturn F rfl d_M_put_201 rfl rfl (Nat.le_refl _) (Nat.le_refl _) ?_
                first | (exfalso; omega) | (rw [show sp_put M f d v w b = (1, 0, M) from if_neg (by omega)]; exact ⟨_, hM11, ((((((((((((MF.rf).tr hF6)).tr hF7)).tr hF8)).tr hF9)).tr hF10)).tr hF11), rfl, upM_ss, eqv.note (Or.inl rfl), 0, rfl, fun q => absurd (show (1 : Int) = 0 from q) (by decide)⟩) | (rw [show sp_put M f d v w b = (2, 0, M) from (if_pos (by omega)).trans (if_neg (by omega))]; exact ⟨_, hM11, ((((((((((((MF.rf).tr hF6)).tr hF7)).tr hF8)).tr hF9)).tr hF10)).tr hF11), rfl, upM_ss, eqv.note (Or.inl rfl), 0, rfl, fun q => absurd (show (2 : Int) = 0 from q) (by decide)⟩) | (rw [show sp_put M f d v w b = _ from (if_pos (by omega)).trans (if_pos (by omega))]; exact ⟨_, hM11, ((((((((((((MF.rf).tr hF6)).tr hF7)).tr hF8)).tr hF9)).tr hF10)).tr hF11), rfl, (by rw [upM_n (by decide)]; rw [upM_n (by decide)]; rw [upM_n (by decide)]; rw [upM_n (by decide)]; rw [upM_n (by decide)]; exact upM_ss), (((((eqv.note (Or.inl rfl)).up 14 _ _).up 15 _ _).up 16 _ _).up 17 _ _).up 13 _ _, _, rfl, fun _ => rfl⟩)
            · refine v_aload_n (pc' := 83) (j := 0) F d_M_put_82 rfl rfl rfl ?_
              refine v_getf (pc' := 86) (C := zR_M) (T := zF_M) (N := 28) (ref := "BillSharesModel") F d_M_put_83 rfl zi_M rfl 14 (by decide) wx_675 (Or.inl rfl) hM.1 rfl ?_
              refine v_iload (pc' := 88) F d_M_put_86 rfl rfl ?_
              have q2 := hda (40 * f + M 13 f - 1) (by omega) (by omega)
              refine mg_14 (pc' := 89) F hM d_M_put_88 rfl (by omega) (by omega) ?_
              refine v_iload_n (pc' := 90) (j := 2) F d_M_put_89 rfl rfl rfl ?_
              refine v_icmp_ge (tgt := 108) (pc' := 93) F d_M_put_90 (by decide) rfl (by omega) (by omega) (fun c90 => ?_) (fun c90 => ?_)
              · refine v_iconst (pc' := 109) F d_M_put_108 rfl ?_
                refine v_istore_7 (pc' := 111) F d_M_put_109 rfl rfl (by decide) ?_
                refine v_aload_n (pc' := 112) (j := 0) F d_M_put_111 rfl rfl rfl ?_
                refine v_iload (pc' := 114) F d_M_put_112 rfl rfl ?_
                refine v_iload (pc' := 116) F d_M_put_114 rfl rfl ?_
                refine v_if_eq (tgt := 134) (pc' := 119) F d_M_put_116 (by decide) rfl (by omega) (fun c116 => ?_) (fun c116 => by exfalso; omega)
                refine v_iconst (pc' := 135) F d_M_put_134 rfl ?_
                refine v_callVM (pc' := 138) (C := zR_M) (T9 := zF_M) (N := 28) F d_M_put_135 rfl cal_M_allows wx_758 wx_760 wp_16 rfl hM.1 (c_allows_1 l X _ _ _ _ _ hM (by omega)) rfl ⟨by decide, by decide, by decide, by decide⟩ (Nat.le_of_ble_eq_true rfl) rfl rfl (fun h12 hM12 hF12 => ?_)
                refine v_if_ne (tgt := 143) (pc' := 141) F d_M_put_138 (by decide) rfl (by omega) (fun c138 => by exfalso; omega) (fun c138 => ?_)
                refine v_iconst (pc' := 142) F d_M_put_141 rfl ?_
                refine v_ireturn F rfl d_M_put_142 rfl rfl (Nat.le_refl _) (Nat.le_refl _) ?_
                first | (exfalso; omega) | (rw [show sp_put M f d v w b = (1, 0, M) from if_neg (by omega)]; exact ⟨_, hM12, ((MF.rf).tr hF12), rfl, upM_ss, eqv.note (Or.inl rfl), 0, rfl, fun q => absurd (show (1 : Int) = 0 from q) (by decide)⟩) | (rw [show sp_put M f d v w b = (2, 0, M) from (if_pos (by omega)).trans (if_neg (by omega))]; exact ⟨_, hM12, ((MF.rf).tr hF12), rfl, upM_ss, eqv.note (Or.inl rfl), 0, rfl, fun q => absurd (show (2 : Int) = 0 from q) (by decide)⟩) | (rw [show sp_put M f d v w b = _ from (if_pos (by omega)).trans (if_pos (by omega))]; exact ⟨_, hM12, ((MF.rf).tr hF12), rfl, (by rw [upM_n (by decide)]; rw [upM_n (by decide)]; rw [upM_n (by decide)]; rw [upM_n (by decide)]; rw [upM_n (by decide)]; exact upM_ss), (((((eqv.note (Or.inl rfl)).up 14 _ _).up 15 _ _).up 16 _ _).up 17 _ _).up 13 _ _, _, rfl, fun _ => rfl⟩)
              · refine v_aload_n (pc' := 94) (j := 0) F d_M_put_93 rfl rfl rfl ?_
                refine v_getf (pc' := 97) (C := zR_M) (T := zF_M) (N := 28) (ref := "BillSharesModel") F d_M_put_94 rfl zi_M rfl 16 (by decide) wx_677 (Or.inl rfl) hM.1 rfl ?_
                refine v_iload (pc' := 99) F d_M_put_97 rfl rfl ?_
                have q3 := hgo (40 * f + M 13 f - 1) (by omega) (by omega)
                refine mg_16 (pc' := 100) F hM d_M_put_99 rfl (by omega) (by omega) ?_
                refine v_iload_n (pc' := 101) (j := 3) F d_M_put_100 rfl rfl rfl ?_
                refine v_icmp_gt (tgt := 108) (pc' := 104) F d_M_put_101 (by decide) rfl (by omega) (by omega) (fun c101 => ?_) (fun c101 => ?_)
                · refine v_iconst (pc' := 109) F d_M_put_108 rfl ?_
                  refine v_istore_7 (pc' := 111) F d_M_put_109 rfl rfl (by decide) ?_
                  refine v_aload_n (pc' := 112) (j := 0) F d_M_put_111 rfl rfl rfl ?_
                  refine v_iload (pc' := 114) F d_M_put_112 rfl rfl ?_
                  refine v_iload (pc' := 116) F d_M_put_114 rfl rfl ?_
                  refine v_if_eq (tgt := 134) (pc' := 119) F d_M_put_116 (by decide) rfl (by omega) (fun c116 => ?_) (fun c116 => by exfalso; omega)
                  refine v_iconst (pc' := 135) F d_M_put_134 rfl ?_
                  refine v_callVM (pc' := 138) (C := zR_M) (T9 := zF_M) (N := 28) F d_M_put_135 rfl cal_M_allows wx_758 wx_760 wp_16 rfl hM.1 (c_allows_1 l X _ _ _ _ _ hM (by omega)) rfl ⟨by decide, by decide, by decide, by decide⟩ (Nat.le_of_ble_eq_true rfl) rfl rfl (fun h13 hM13 hF13 => ?_)
                  refine v_if_ne (tgt := 143) (pc' := 141) F d_M_put_138 (by decide) rfl (by omega) (fun c138 => by exfalso; omega) (fun c138 => ?_)
                  refine v_iconst (pc' := 142) F d_M_put_141 rfl ?_
                  refine v_ireturn F rfl d_M_put_142 rfl rfl (Nat.le_refl _) (Nat.le_refl _) ?_
                  first | (exfalso; omega) | (rw [show sp_put M f d v w b = (1, 0, M) from if_neg (by omega)]; exact ⟨_, hM13, ((MF.rf).tr hF13), rfl, upM_ss, eqv.note (Or.inl rfl), 0, rfl, fun q => absurd (show (1 : Int) = 0 from q) (by decide)⟩) | (rw [show sp_put M f d v w b = (2, 0, M) from (if_pos (by omega)).trans (if_neg (by omega))]; exact ⟨_, hM13, ((MF.rf).tr hF13), rfl, upM_ss, eqv.note (Or.inl rfl), 0, rfl, fun q => absurd (show (2 : Int) = 0 from q) (by decide)⟩) | (rw [show sp_put M f d v w b = _ from (if_pos (by omega)).trans (if_pos (by omega))]; exact ⟨_, hM13, ((MF.rf).tr hF13), rfl, (by rw [upM_n (by decide)]; rw [upM_n (by decide)]; rw [upM_n (by decide)]; rw [upM_n (by decide)]; rw [upM_n (by decide)]; exact upM_ss), (((((eqv.note (Or.inl rfl)).up 14 _ _).up 15 _ _).up 16 _ _).up 17 _ _).up 13 _ _, _, rfl, fun _ => rfl⟩)
                · refine v_iconst (pc' := 105) F d_M_put_104 rfl ?_
                  refine v_goto (tgt := 109) F d_M_put_105 (by decide) ?_
                  refine v_istore_7 (pc' := 111) F d_M_put_109 rfl rfl (by decide) ?_
                  refine v_aload_n (pc' := 112) (j := 0) F d_M_put_111 rfl rfl rfl ?_
                  refine v_iload (pc' := 114) F d_M_put_112 rfl rfl ?_
                  refine v_iload (pc' := 116) F d_M_put_114 rfl rfl ?_
                  refine v_if_eq (tgt := 134) (pc' := 119) F d_M_put_116 (by decide) rfl (by omega) (fun c116 => by exfalso; omega) (fun c116 => ?_)
                  refine v_aload_n (pc' := 120) (j := 0) F d_M_put_119 rfl rfl rfl ?_
                  refine v_getf (pc' := 123) (C := zR_M) (T := zF_M) (N := 28) (ref := "BillSharesModel") F d_M_put_120 rfl zi_M rfl 13 (by decide) wx_674 (Or.inl rfl) hM.1 rfl ?_
                  refine v_iload_n (pc' := 124) (j := 1) F d_M_put_123 rfl rfl rfl ?_
                  refine mg_13 (pc' := 125) F hM d_M_put_124 rfl (by omega) (by omega) ?_
                  refine v_bipush (pc' := 127) F d_M_put_125 rfl (by decide) ?_
                  refine v_icmp_ge (tgt := 134) (pc' := 130) F d_M_put_127 (by decide) rfl (by omega) (by omega) (fun c127 => ?_) (fun c127 => ?_)
                  · refine v_iconst (pc' := 135) F d_M_put_134 rfl ?_
                    refine v_callVM (pc' := 138) (C := zR_M) (T9 := zF_M) (N := 28) F d_M_put_135 rfl cal_M_allows wx_758 wx_760 wp_16 rfl hM.1 (c_allows_2 l X _ _ _ _ hM) rfl ⟨by decide, by decide, by decide, by decide⟩ (Nat.le_of_ble_eq_true rfl) rfl rfl (fun h14 hM14 hF14 => ?_)
                    refine v_if_ne (tgt := 143) (pc' := 141) F d_M_put_138 (by decide) rfl (by omega) (fun c138 => by exfalso; omega) (fun c138 => ?_)
                    refine v_iconst (pc' := 142) F d_M_put_141 rfl ?_
                    refine v_ireturn F rfl d_M_put_142 rfl rfl (Nat.le_refl _) (Nat.le_refl _) ?_
                    first | (exfalso; omega) | (rw [show sp_put M f d v w b = (1, 0, M) from if_neg (by omega)]; exact ⟨_, hM14, ((MF.rf).tr hF14), rfl, upM_ss, eqv.note (Or.inl rfl), 0, rfl, fun q => absurd (show (1 : Int) = 0 from q) (by decide)⟩) | (rw [show sp_put M f d v w b = (2, 0, M) from (if_pos (by omega)).trans (if_neg (by omega))]; exact ⟨_, hM14, ((MF.rf).tr hF14), rfl, upM_ss, eqv.note (Or.inl rfl), 0, rfl, fun q => absurd (show (2 : Int) = 0 from q) (by decide)⟩) | (rw [show sp_put M f d v w b = _ from (if_pos (by omega)).trans (if_pos (by omega))]; exact ⟨_, hM14, ((MF.rf).tr hF14), rfl, (by rw [upM_n (by decide)]; rw [upM_n (by decide)]; rw [upM_n (by decide)]; rw [upM_n (by decide)]; rw [upM_n (by decide)]; exact upM_ss), (((((eqv.note (Or.inl rfl)).up 14 _ _).up 15 _ _).up 16 _ _).up 17 _ _).up 13 _ _, _, rfl, fun _ => rfl⟩)
                  · refine v_iconst (pc' := 131) F d_M_put_130 rfl ?_
                    refine v_goto (tgt := 135) F d_M_put_131 (by decide) ?_
                    refine v_callVM (pc' := 138) (C := zR_M) (T9 := zF_M) (N := 28) F d_M_put_135 rfl cal_M_allows wx_758 wx_760 wp_16 rfl hM.1 (c_allows_0 l X _ _ _ _ hM) rfl ⟨by decide, by decide, by decide, by decide⟩ (Nat.le_of_ble_eq_true rfl) rfl rfl (fun h15 hM15 hF15 => ?_)
                    refine v_if_ne (tgt := 143) (pc' := 141) F d_M_put_138 (by decide) rfl (by omega) (fun c138 => ?_) (fun c138 => by exfalso; omega)
                    refine v_aload_n (pc' := 144) (j := 0) F d_M_put_143 rfl rfl rfl ?_
                    refine v_getf (pc' := 147) (C := zR_M) (T := zF_M) (N := 28) (ref := "BillSharesModel") F d_M_put_144 rfl zi_M rfl 14 (by decide) wx_675 (Or.inl rfl) hM15.1 rfl ?_
                    refine v_iload (pc' := 149) F d_M_put_147 rfl rfl ?_
                    refine v_iconst (pc' := 150) F d_M_put_149 rfl ?_
                    refine v_iadd (pc' := 151) F d_M_put_150 rfl ?_
                    refine v_topi (b := 40 * f + M 13 f) (by omega) ?_
                    refine v_iload_n (pc' := 152) (j := 2) F d_M_put_151 rfl rfl rfl ?_
                    refine mp_14 (pc' := 153) F hM15 d_M_put_152 rfl (by omega) (by omega) (fun h16 hM16 hF16 => ?_)
                    refine v_aload_n (pc' := 154) (j := 0) F d_M_put_153 rfl rfl rfl ?_
                    refine v_getf (pc' := 157) (C := zR_M) (T := zF_M) (N := 28) (ref := "BillSharesModel") F d_M_put_154 rfl zi_M rfl 15 (by decide) wx_676 (Or.inl rfl) hM16.1 rfl ?_
                    refine v_iload (pc' := 159) F d_M_put_157 rfl rfl ?_
                    refine v_iconst (pc' := 160) F d_M_put_159 rfl ?_
                    refine v_iadd (pc' := 161) F d_M_put_160 rfl ?_
                    refine v_topi (b := 40 * f + M 13 f) (by omega) ?_
                    refine v_iload_n (pc' := 162) (j := 3) F d_M_put_161 rfl rfl rfl ?_
                    refine mp_15 (pc' := 163) F hM16 d_M_put_162 rfl (by omega) (by omega) (fun h17 hM17 hF17 => ?_)
                    refine v_aload_n (pc' := 164) (j := 0) F d_M_put_163 rfl rfl rfl ?_
                    refine v_getf (pc' := 167) (C := zR_M) (T := zF_M) (N := 28) (ref := "BillSharesModel") F d_M_put_164 rfl zi_M rfl 16 (by decide) wx_677 (Or.inl rfl) hM17.1 rfl ?_
                    refine v_iload (pc' := 169) F d_M_put_167 rfl rfl ?_
                    refine v_iconst (pc' := 170) F d_M_put_169 rfl ?_
                    refine v_iadd (pc' := 171) F d_M_put_170 rfl ?_
                    refine v_topi (b := 40 * f + M 13 f) (by omega) ?_
                    refine v_iload (pc' := 173) F d_M_put_171 rfl rfl ?_
                    refine mp_16 (pc' := 174) F hM17 d_M_put_173 rfl (by omega) (by omega) (fun h18 hM18 hF18 => ?_)
                    refine v_aload_n (pc' := 175) (j := 0) F d_M_put_174 rfl rfl rfl ?_
                    refine v_getf (pc' := 178) (C := zR_M) (T := zF_M) (N := 28) (ref := "BillSharesModel") F d_M_put_175 rfl zi_M rfl 17 (by decide) wx_678 (Or.inl rfl) hM18.1 rfl ?_
                    refine v_iload (pc' := 180) F d_M_put_178 rfl rfl ?_
                    refine v_iconst (pc' := 181) F d_M_put_180 rfl ?_
                    refine v_iadd (pc' := 182) F d_M_put_181 rfl ?_
                    refine v_topi (b := 40 * f + M 13 f) (by omega) ?_
                    refine v_iload (pc' := 184) F d_M_put_182 rfl rfl ?_
                    refine mp_17 (pc' := 185) F hM18 d_M_put_184 rfl (by omega) (by omega) hb (fun h19 hM19 hF19 => ?_)
                    refine v_aload_n (pc' := 186) (j := 0) F d_M_put_185 rfl rfl rfl ?_
                    refine v_getf (pc' := 189) (C := zR_M) (T := zF_M) (N := 28) (ref := "BillSharesModel") F d_M_put_186 rfl zi_M rfl 13 (by decide) wx_674 (Or.inl rfl) hM19.1 rfl ?_
                    refine v_iload_n (pc' := 190) (j := 1) F d_M_put_189 rfl rfl rfl ?_
                    refine v_dup2 (pc' := 191) F d_M_put_190 rfl rfl rfl ?_
                    refine mg_13 (pc' := 192) F hM19 d_M_put_191 rfl (by omega) (by omega) ?_
                    refine v_un (by decide) ?_
                    refine v_un (by decide) ?_
                    refine v_un (by decide) ?_
                    refine v_un (by decide) ?_
                    refine v_un (by decide) ?_
                    refine v_iconst (pc' := 193) F d_M_put_192 rfl ?_
                    refine v_iadd (pc' := 194) F d_M_put_193 rfl ?_
                    refine mp_13 (pc' := 195) F hM19 d_M_put_194 rfl (by omega) (by omega) (fun h20 hM20 hF20 => ?_)
                    refine v_aload_n (pc' := 196) (j := 0) F d_M_put_195 rfl rfl rfl ?_
                    refine v_getf (pc' := 199) (C := zR_M) (T := zF_M) (N := 28) (ref := "BillSharesModel") F d_M_put_196 rfl zi_M rfl 13 (by decide) wx_674 (Or.inl rfl) hM20.1 rfl ?_
                    refine v_iload_n (pc' := 200) (j := 1) F d_M_put_199 rfl rfl rfl ?_
                    refine mg_13 (pc' := 201) F hM20 d_M_put_200 rfl (by omega) (by omega) ?_
                    refine v_us ?_
                    refine v_ireturn F rfl d_M_put_201 rfl rfl (Nat.le_refl _) (Nat.le_refl _) ?_
                    first | (exfalso; omega) | (rw [show sp_put M f d v w b = (1, 0, M) from if_neg (by omega)]; exact ⟨_, hM20, ((((((((((((MF.rf).tr hF15)).tr hF16)).tr hF17)).tr hF18)).tr hF19)).tr hF20), rfl, upM_ss, eqv.note (Or.inl rfl), 0, rfl, fun q => absurd (show (1 : Int) = 0 from q) (by decide)⟩) | (rw [show sp_put M f d v w b = (2, 0, M) from (if_pos (by omega)).trans (if_neg (by omega))]; exact ⟨_, hM20, ((((((((((((MF.rf).tr hF15)).tr hF16)).tr hF17)).tr hF18)).tr hF19)).tr hF20), rfl, upM_ss, eqv.note (Or.inl rfl), 0, rfl, fun q => absurd (show (2 : Int) = 0 from q) (by decide)⟩) | (rw [show sp_put M f d v w b = _ from (if_pos (by omega)).trans (if_pos (by omega))]; exact ⟨_, hM20, ((((((((((((MF.rf).tr hF15)).tr hF16)).tr hF17)).tr hF18)).tr hF19)).tr hF20), rfl, (by rw [upM_n (by decide)]; rw [upM_n (by decide)]; rw [upM_n (by decide)]; rw [upM_n (by decide)]; rw [upM_n (by decide)]; exact upM_ss), (((((eqv.note (Or.inl rfl)).up 14 _ _).up 15 _ _).up 16 _ _).up 17 _ _).up 13 _ _, _, rfl, fun _ => rfl⟩)
  · refine v_bipush (pc' := 10) F d_M_put_8 rfl (by decide) ?_
    refine v_iload_n (pc' := 11) (j := 1) F d_M_put_10 rfl rfl rfl ?_
    refine v_imul (pc' := 12) F d_M_put_11 rfl ?_
    refine v_aload_n (pc' := 13) (j := 0) F d_M_put_12 rfl rfl rfl ?_
    refine v_getf (pc' := 16) (C := zR_M) (T := zF_M) (N := 28) (ref := "BillSharesModel") F d_M_put_13 rfl zi_M rfl 13 (by decide) wx_674 (Or.inl rfl) hM.1 rfl ?_
    refine v_iload_n (pc' := 17) (j := 1) F d_M_put_16 rfl rfl rfl ?_
    have q1 := hrd f (by omega) (by omega)
    refine mg_13 (pc' := 18) F hM d_M_put_17 rfl (by omega) (by omega) ?_
    refine v_iadd (pc' := 19) F d_M_put_18 rfl ?_
    refine v_iconst (pc' := 20) F d_M_put_19 rfl ?_
    refine v_isub (pc' := 21) F d_M_put_20 rfl ?_
    refine v_goto (tgt := 25) F d_M_put_21 (by decide) ?_
    refine v_istore_6 (pc' := 27) F d_M_put_25 rfl rfl (by decide) ?_
    refine v_aload_n (pc' := 28) (j := 0) F d_M_put_27 rfl rfl rfl ?_
    refine v_iload_n (pc' := 29) (j := 1) F d_M_put_28 rfl rfl rfl ?_
    refine v_callVP (pc' := 32) (C := zR_M) (T9 := zF_M) (N := 28) F d_M_put_29 rfl cal_M_isMeter wx_778 wx_780 wp_19 rfl hM.1 (c_M_isMeter l X _ _ _ _ _ hM hme (by omega)) rfl ⟨by decide, by decide, by decide, by decide⟩ (Nat.le_of_ble_eq_true rfl) rfl rfl ?_
    refine v_zif_eq (tgt := 65) (pc' := 35) F d_M_put_32 (by decide) rfl (fun c32 => ?_) (fun c32 => ?_)
    · refine v_iconst (pc' := 66) F d_M_put_65 rfl ?_
      refine v_istore_7 (pc' := 68) F d_M_put_66 rfl rfl (by decide) ?_
      refine v_iload (pc' := 70) F d_M_put_68 rfl rfl ?_
      refine v_if_eq (tgt := 108) (pc' := 73) F d_M_put_70 (by decide) rfl (by omega) (fun c70 => ?_) (fun c70 => by exfalso; omega)
      refine v_iconst (pc' := 109) F d_M_put_108 rfl ?_
      refine v_istore_7 (pc' := 111) F d_M_put_109 rfl rfl (by decide) ?_
      refine v_aload_n (pc' := 112) (j := 0) F d_M_put_111 rfl rfl rfl ?_
      refine v_iload (pc' := 114) F d_M_put_112 rfl rfl ?_
      refine v_iload (pc' := 116) F d_M_put_114 rfl rfl ?_
      refine v_if_eq (tgt := 134) (pc' := 119) F d_M_put_116 (by decide) rfl (by omega) (fun c116 => ?_) (fun c116 => by exfalso; omega)
      refine v_iconst (pc' := 135) F d_M_put_134 rfl ?_
      refine v_callVM (pc' := 138) (C := zR_M) (T9 := zF_M) (N := 28) F d_M_put_135 rfl cal_M_allows wx_758 wx_760 wp_16 rfl hM.1 (c_allows_1 l X _ _ _ _ _ hM (by omega)) rfl ⟨by decide, by decide, by decide, by decide⟩ (Nat.le_of_ble_eq_true rfl) rfl rfl (fun h21 hM21 hF21 => ?_)
      refine v_if_ne (tgt := 143) (pc' := 141) F d_M_put_138 (by decide) rfl (by omega) (fun c138 => by exfalso; omega) (fun c138 => ?_)
      refine v_iconst (pc' := 142) F d_M_put_141 rfl ?_
      refine v_ireturn F rfl d_M_put_142 rfl rfl (Nat.le_refl _) (Nat.le_refl _) ?_
      first | (exfalso; omega) | (rw [show sp_put M f d v w b = (1, 0, M) from if_neg (by omega)]; exact ⟨_, hM21, ((MF.rf).tr hF21), rfl, upM_ss, eqv.note (Or.inl rfl), 0, rfl, fun q => absurd (show (1 : Int) = 0 from q) (by decide)⟩) | (rw [show sp_put M f d v w b = (2, 0, M) from (if_pos (by omega)).trans (if_neg (by omega))]; exact ⟨_, hM21, ((MF.rf).tr hF21), rfl, upM_ss, eqv.note (Or.inl rfl), 0, rfl, fun q => absurd (show (2 : Int) = 0 from q) (by decide)⟩) | (rw [show sp_put M f d v w b = _ from (if_pos (by omega)).trans (if_pos (by omega))]; exact ⟨_, hM21, ((MF.rf).tr hF21), rfl, (by rw [upM_n (by decide)]; rw [upM_n (by decide)]; rw [upM_n (by decide)]; rw [upM_n (by decide)]; rw [upM_n (by decide)]; exact upM_ss), (((((eqv.note (Or.inl rfl)).up 14 _ _).up 15 _ _).up 16 _ _).up 17 _ _).up 13 _ _, _, rfl, fun _ => rfl⟩)
    · refine v_iload_n (pc' := 36) (j := 2) F d_M_put_35 rfl rfl rfl ?_
      refine v_iconst (pc' := 37) F d_M_put_36 rfl ?_
      refine v_sipush (pc' := 40) F d_M_put_37 rfl (by decide) ?_
      refine v_callSP (pc' := 43) F d_M_put_40 rfl cal_M_isIn wx_755 wx_756 (c_M_isIn l X _ _ _ _ _ (by omega) (by omega) (by omega)) rfl ⟨by decide, by decide, by decide, by decide⟩ (Nat.le_of_ble_eq_true rfl) rfl rfl ?_
      refine v_zif_eq (tgt := 65) (pc' := 46) F d_M_put_43 (by decide) rfl (fun c43 => ?_) (fun c43 => ?_)
      · refine v_iconst (pc' := 66) F d_M_put_65 rfl ?_
        refine v_istore_7 (pc' := 68) F d_M_put_66 rfl rfl (by decide) ?_
        refine v_iload (pc' := 70) F d_M_put_68 rfl rfl ?_
        refine v_if_eq (tgt := 108) (pc' := 73) F d_M_put_70 (by decide) rfl (by omega) (fun c70 => ?_) (fun c70 => by exfalso; omega)
        refine v_iconst (pc' := 109) F d_M_put_108 rfl ?_
        refine v_istore_7 (pc' := 111) F d_M_put_109 rfl rfl (by decide) ?_
        refine v_aload_n (pc' := 112) (j := 0) F d_M_put_111 rfl rfl rfl ?_
        refine v_iload (pc' := 114) F d_M_put_112 rfl rfl ?_
        refine v_iload (pc' := 116) F d_M_put_114 rfl rfl ?_
        refine v_if_eq (tgt := 134) (pc' := 119) F d_M_put_116 (by decide) rfl (by omega) (fun c116 => ?_) (fun c116 => by exfalso; omega)
        refine v_iconst (pc' := 135) F d_M_put_134 rfl ?_
        refine v_callVM (pc' := 138) (C := zR_M) (T9 := zF_M) (N := 28) F d_M_put_135 rfl cal_M_allows wx_758 wx_760 wp_16 rfl hM.1 (c_allows_1 l X _ _ _ _ _ hM (by omega)) rfl ⟨by decide, by decide, by decide, by decide⟩ (Nat.le_of_ble_eq_true rfl) rfl rfl (fun h22 hM22 hF22 => ?_)
        refine v_if_ne (tgt := 143) (pc' := 141) F d_M_put_138 (by decide) rfl (by omega) (fun c138 => by exfalso; omega) (fun c138 => ?_)
        refine v_iconst (pc' := 142) F d_M_put_141 rfl ?_
        refine v_ireturn F rfl d_M_put_142 rfl rfl (Nat.le_refl _) (Nat.le_refl _) ?_
        first | (exfalso; omega) | (rw [show sp_put M f d v w b = (1, 0, M) from if_neg (by omega)]; exact ⟨_, hM22, ((MF.rf).tr hF22), rfl, upM_ss, eqv.note (Or.inl rfl), 0, rfl, fun q => absurd (show (1 : Int) = 0 from q) (by decide)⟩) | (rw [show sp_put M f d v w b = (2, 0, M) from (if_pos (by omega)).trans (if_neg (by omega))]; exact ⟨_, hM22, ((MF.rf).tr hF22), rfl, upM_ss, eqv.note (Or.inl rfl), 0, rfl, fun q => absurd (show (2 : Int) = 0 from q) (by decide)⟩) | (rw [show sp_put M f d v w b = _ from (if_pos (by omega)).trans (if_pos (by omega))]; exact ⟨_, hM22, ((MF.rf).tr hF22), rfl, (by rw [upM_n (by decide)]; rw [upM_n (by decide)]; rw [upM_n (by decide)]; rw [upM_n (by decide)]; rw [upM_n (by decide)]; exact upM_ss), (((((eqv.note (Or.inl rfl)).up 14 _ _).up 15 _ _).up 16 _ _).up 17 _ _).up 13 _ _, _, rfl, fun _ => rfl⟩)
      · refine v_iload_n (pc' := 47) (j := 3) F d_M_put_46 rfl rfl rfl ?_
        refine v_callSP (pc' := 50) F d_M_put_47 rfl cal_M_isValue wx_782 wx_783 (c_M_isValue l X _ _ _ (by omega)) rfl ⟨by decide, by decide, by decide, by decide⟩ (Nat.le_of_ble_eq_true rfl) rfl rfl ?_
        refine v_zif_eq (tgt := 65) (pc' := 53) F d_M_put_50 (by decide) rfl (fun c50 => ?_) (fun c50 => ?_)
        · refine v_iconst (pc' := 66) F d_M_put_65 rfl ?_
          refine v_istore_7 (pc' := 68) F d_M_put_66 rfl rfl (by decide) ?_
          refine v_iload (pc' := 70) F d_M_put_68 rfl rfl ?_
          refine v_if_eq (tgt := 108) (pc' := 73) F d_M_put_70 (by decide) rfl (by omega) (fun c70 => ?_) (fun c70 => by exfalso; omega)
          refine v_iconst (pc' := 109) F d_M_put_108 rfl ?_
          refine v_istore_7 (pc' := 111) F d_M_put_109 rfl rfl (by decide) ?_
          refine v_aload_n (pc' := 112) (j := 0) F d_M_put_111 rfl rfl rfl ?_
          refine v_iload (pc' := 114) F d_M_put_112 rfl rfl ?_
          refine v_iload (pc' := 116) F d_M_put_114 rfl rfl ?_
          refine v_if_eq (tgt := 134) (pc' := 119) F d_M_put_116 (by decide) rfl (by omega) (fun c116 => ?_) (fun c116 => by exfalso; omega)
          refine v_iconst (pc' := 135) F d_M_put_134 rfl ?_
          refine v_callVM (pc' := 138) (C := zR_M) (T9 := zF_M) (N := 28) F d_M_put_135 rfl cal_M_allows wx_758 wx_760 wp_16 rfl hM.1 (c_allows_1 l X _ _ _ _ _ hM (by omega)) rfl ⟨by decide, by decide, by decide, by decide⟩ (Nat.le_of_ble_eq_true rfl) rfl rfl (fun h23 hM23 hF23 => ?_)
          refine v_if_ne (tgt := 143) (pc' := 141) F d_M_put_138 (by decide) rfl (by omega) (fun c138 => by exfalso; omega) (fun c138 => ?_)
          refine v_iconst (pc' := 142) F d_M_put_141 rfl ?_
          refine v_ireturn F rfl d_M_put_142 rfl rfl (Nat.le_refl _) (Nat.le_refl _) ?_
          first | (exfalso; omega) | (rw [show sp_put M f d v w b = (1, 0, M) from if_neg (by omega)]; exact ⟨_, hM23, ((MF.rf).tr hF23), rfl, upM_ss, eqv.note (Or.inl rfl), 0, rfl, fun q => absurd (show (1 : Int) = 0 from q) (by decide)⟩) | (rw [show sp_put M f d v w b = (2, 0, M) from (if_pos (by omega)).trans (if_neg (by omega))]; exact ⟨_, hM23, ((MF.rf).tr hF23), rfl, upM_ss, eqv.note (Or.inl rfl), 0, rfl, fun q => absurd (show (2 : Int) = 0 from q) (by decide)⟩) | (rw [show sp_put M f d v w b = _ from (if_pos (by omega)).trans (if_pos (by omega))]; exact ⟨_, hM23, ((MF.rf).tr hF23), rfl, (by rw [upM_n (by decide)]; rw [upM_n (by decide)]; rw [upM_n (by decide)]; rw [upM_n (by decide)]; rw [upM_n (by decide)]; exact upM_ss), (((((eqv.note (Or.inl rfl)).up 14 _ _).up 15 _ _).up 16 _ _).up 17 _ _).up 13 _ _, _, rfl, fun _ => rfl⟩)
        · refine v_iload (pc' := 55) F d_M_put_53 rfl rfl ?_
          refine v_callSP (pc' := 58) F d_M_put_55 rfl cal_M_isValue wx_782 wx_783 (c_M_isValue l X _ _ _ (by omega)) rfl ⟨by decide, by decide, by decide, by decide⟩ (Nat.le_of_ble_eq_true rfl) rfl rfl ?_
          refine v_zif_eq (tgt := 65) (pc' := 61) F d_M_put_58 (by decide) rfl (fun c58 => ?_) (fun c58 => ?_)
          · refine v_iconst (pc' := 66) F d_M_put_65 rfl ?_
            refine v_istore_7 (pc' := 68) F d_M_put_66 rfl rfl (by decide) ?_
            refine v_iload (pc' := 70) F d_M_put_68 rfl rfl ?_
            refine v_if_eq (tgt := 108) (pc' := 73) F d_M_put_70 (by decide) rfl (by omega) (fun c70 => ?_) (fun c70 => by exfalso; omega)
            refine v_iconst (pc' := 109) F d_M_put_108 rfl ?_
            refine v_istore_7 (pc' := 111) F d_M_put_109 rfl rfl (by decide) ?_
            refine v_aload_n (pc' := 112) (j := 0) F d_M_put_111 rfl rfl rfl ?_
            refine v_iload (pc' := 114) F d_M_put_112 rfl rfl ?_
            refine v_iload (pc' := 116) F d_M_put_114 rfl rfl ?_
            refine v_if_eq (tgt := 134) (pc' := 119) F d_M_put_116 (by decide) rfl (by omega) (fun c116 => ?_) (fun c116 => by exfalso; omega)
            refine v_iconst (pc' := 135) F d_M_put_134 rfl ?_
            refine v_callVM (pc' := 138) (C := zR_M) (T9 := zF_M) (N := 28) F d_M_put_135 rfl cal_M_allows wx_758 wx_760 wp_16 rfl hM.1 (c_allows_1 l X _ _ _ _ _ hM (by omega)) rfl ⟨by decide, by decide, by decide, by decide⟩ (Nat.le_of_ble_eq_true rfl) rfl rfl (fun h24 hM24 hF24 => ?_)
            refine v_if_ne (tgt := 143) (pc' := 141) F d_M_put_138 (by decide) rfl (by omega) (fun c138 => by exfalso; omega) (fun c138 => ?_)
            refine v_iconst (pc' := 142) F d_M_put_141 rfl ?_
            refine v_ireturn F rfl d_M_put_142 rfl rfl (Nat.le_refl _) (Nat.le_refl _) ?_
            first | (exfalso; omega) | (rw [show sp_put M f d v w b = (1, 0, M) from if_neg (by omega)]; exact ⟨_, hM24, ((MF.rf).tr hF24), rfl, upM_ss, eqv.note (Or.inl rfl), 0, rfl, fun q => absurd (show (1 : Int) = 0 from q) (by decide)⟩) | (rw [show sp_put M f d v w b = (2, 0, M) from (if_pos (by omega)).trans (if_neg (by omega))]; exact ⟨_, hM24, ((MF.rf).tr hF24), rfl, upM_ss, eqv.note (Or.inl rfl), 0, rfl, fun q => absurd (show (2 : Int) = 0 from q) (by decide)⟩) | (rw [show sp_put M f d v w b = _ from (if_pos (by omega)).trans (if_pos (by omega))]; exact ⟨_, hM24, ((MF.rf).tr hF24), rfl, (by rw [upM_n (by decide)]; rw [upM_n (by decide)]; rw [upM_n (by decide)]; rw [upM_n (by decide)]; rw [upM_n (by decide)]; exact upM_ss), (((((eqv.note (Or.inl rfl)).up 14 _ _).up 15 _ _).up 16 _ _).up 17 _ _).up 13 _ _, _, rfl, fun _ => rfl⟩)
          · refine v_iconst (pc' := 62) F d_M_put_61 rfl ?_
            refine v_goto (tgt := 66) F d_M_put_62 (by decide) ?_
            refine v_istore_7 (pc' := 68) F d_M_put_66 rfl rfl (by decide) ?_
            refine v_iload (pc' := 70) F d_M_put_68 rfl rfl ?_
            refine v_if_eq (tgt := 108) (pc' := 73) F d_M_put_70 (by decide) rfl (by omega) (fun c70 => by exfalso; omega) (fun c70 => ?_)
            refine v_aload_n (pc' := 74) (j := 0) F d_M_put_73 rfl rfl rfl ?_
            refine v_getf (pc' := 77) (C := zR_M) (T := zF_M) (N := 28) (ref := "BillSharesModel") F d_M_put_74 rfl zi_M rfl 13 (by decide) wx_674 (Or.inl rfl) hM.1 rfl ?_
            refine v_iload_n (pc' := 78) (j := 1) F d_M_put_77 rfl rfl rfl ?_
            have q1 := hrd f (by omega) (by omega)
            refine mg_13 (pc' := 79) F hM d_M_put_78 rfl (by omega) (by omega) ?_
            refine v_if_eq (tgt := 104) (pc' := 82) F d_M_put_79 (by decide) rfl (by omega) (fun c79 => ?_) (fun c79 => ?_)
            · refine v_iconst (pc' := 105) F d_M_put_104 rfl ?_
              refine v_goto (tgt := 109) F d_M_put_105 (by decide) ?_
              refine v_istore_7 (pc' := 111) F d_M_put_109 rfl rfl (by decide) ?_
              refine v_aload_n (pc' := 112) (j := 0) F d_M_put_111 rfl rfl rfl ?_
              refine v_iload (pc' := 114) F d_M_put_112 rfl rfl ?_
              refine v_iload (pc' := 116) F d_M_put_114 rfl rfl ?_
              refine v_if_eq (tgt := 134) (pc' := 119) F d_M_put_116 (by decide) rfl (by omega) (fun c116 => by exfalso; omega) (fun c116 => ?_)
              refine v_aload_n (pc' := 120) (j := 0) F d_M_put_119 rfl rfl rfl ?_
              refine v_getf (pc' := 123) (C := zR_M) (T := zF_M) (N := 28) (ref := "BillSharesModel") F d_M_put_120 rfl zi_M rfl 13 (by decide) wx_674 (Or.inl rfl) hM.1 rfl ?_
              refine v_iload_n (pc' := 124) (j := 1) F d_M_put_123 rfl rfl rfl ?_
              refine mg_13 (pc' := 125) F hM d_M_put_124 rfl (by omega) (by omega) ?_
              refine v_bipush (pc' := 127) F d_M_put_125 rfl (by decide) ?_
              refine v_icmp_ge (tgt := 134) (pc' := 130) F d_M_put_127 (by decide) rfl (by omega) (by omega) (fun c127 => ?_) (fun c127 => ?_)
              · refine v_iconst (pc' := 135) F d_M_put_134 rfl ?_
                refine v_callVM (pc' := 138) (C := zR_M) (T9 := zF_M) (N := 28) F d_M_put_135 rfl cal_M_allows wx_758 wx_760 wp_16 rfl hM.1 (c_allows_2 l X _ _ _ _ hM) rfl ⟨by decide, by decide, by decide, by decide⟩ (Nat.le_of_ble_eq_true rfl) rfl rfl (fun h25 hM25 hF25 => ?_)
                refine v_if_ne (tgt := 143) (pc' := 141) F d_M_put_138 (by decide) rfl (by omega) (fun c138 => by exfalso; omega) (fun c138 => ?_)
                refine v_iconst (pc' := 142) F d_M_put_141 rfl ?_
                refine v_ireturn F rfl d_M_put_142 rfl rfl (Nat.le_refl _) (Nat.le_refl _) ?_
                first | (exfalso; omega) | (rw [show sp_put M f d v w b = (1, 0, M) from if_neg (by omega)]; exact ⟨_, hM25, ((MF.rf).tr hF25), rfl, upM_ss, eqv.note (Or.inl rfl), 0, rfl, fun q => absurd (show (1 : Int) = 0 from q) (by decide)⟩) | (rw [show sp_put M f d v w b = (2, 0, M) from (if_pos (by omega)).trans (if_neg (by omega))]; exact ⟨_, hM25, ((MF.rf).tr hF25), rfl, upM_ss, eqv.note (Or.inl rfl), 0, rfl, fun q => absurd (show (2 : Int) = 0 from q) (by decide)⟩) | (rw [show sp_put M f d v w b = _ from (if_pos (by omega)).trans (if_pos (by omega))]; exact ⟨_, hM25, ((MF.rf).tr hF25), rfl, (by rw [upM_n (by decide)]; rw [upM_n (by decide)]; rw [upM_n (by decide)]; rw [upM_n (by decide)]; rw [upM_n (by decide)]; exact upM_ss), (((((eqv.note (Or.inl rfl)).up 14 _ _).up 15 _ _).up 16 _ _).up 17 _ _).up 13 _ _, _, rfl, fun _ => rfl⟩)
              · refine v_iconst (pc' := 131) F d_M_put_130 rfl ?_
                refine v_goto (tgt := 135) F d_M_put_131 (by decide) ?_
                refine v_callVM (pc' := 138) (C := zR_M) (T9 := zF_M) (N := 28) F d_M_put_135 rfl cal_M_allows wx_758 wx_760 wp_16 rfl hM.1 (c_allows_0 l X _ _ _ _ hM) rfl ⟨by decide, by decide, by decide, by decide⟩ (Nat.le_of_ble_eq_true rfl) rfl rfl (fun h26 hM26 hF26 => ?_)
                refine v_if_ne (tgt := 143) (pc' := 141) F d_M_put_138 (by decide) rfl (by omega) (fun c138 => ?_) (fun c138 => by exfalso; omega)
                refine v_aload_n (pc' := 144) (j := 0) F d_M_put_143 rfl rfl rfl ?_
                refine v_getf (pc' := 147) (C := zR_M) (T := zF_M) (N := 28) (ref := "BillSharesModel") F d_M_put_144 rfl zi_M rfl 14 (by decide) wx_675 (Or.inl rfl) hM26.1 rfl ?_
                refine v_iload (pc' := 149) F d_M_put_147 rfl rfl ?_
                refine v_iconst (pc' := 150) F d_M_put_149 rfl ?_
                refine v_iadd (pc' := 151) F d_M_put_150 rfl ?_
                refine v_topi (b := 40 * f + M 13 f) (by omega) ?_
                refine v_iload_n (pc' := 152) (j := 2) F d_M_put_151 rfl rfl rfl ?_
                refine mp_14 (pc' := 153) F hM26 d_M_put_152 rfl (by omega) (by omega) (fun h27 hM27 hF27 => ?_)
                refine v_aload_n (pc' := 154) (j := 0) F d_M_put_153 rfl rfl rfl ?_
                refine v_getf (pc' := 157) (C := zR_M) (T := zF_M) (N := 28) (ref := "BillSharesModel") F d_M_put_154 rfl zi_M rfl 15 (by decide) wx_676 (Or.inl rfl) hM27.1 rfl ?_
                refine v_iload (pc' := 159) F d_M_put_157 rfl rfl ?_
                refine v_iconst (pc' := 160) F d_M_put_159 rfl ?_
                refine v_iadd (pc' := 161) F d_M_put_160 rfl ?_
                refine v_topi (b := 40 * f + M 13 f) (by omega) ?_
                refine v_iload_n (pc' := 162) (j := 3) F d_M_put_161 rfl rfl rfl ?_
                refine mp_15 (pc' := 163) F hM27 d_M_put_162 rfl (by omega) (by omega) (fun h28 hM28 hF28 => ?_)
                refine v_aload_n (pc' := 164) (j := 0) F d_M_put_163 rfl rfl rfl ?_
                refine v_getf (pc' := 167) (C := zR_M) (T := zF_M) (N := 28) (ref := "BillSharesModel") F d_M_put_164 rfl zi_M rfl 16 (by decide) wx_677 (Or.inl rfl) hM28.1 rfl ?_
                refine v_iload (pc' := 169) F d_M_put_167 rfl rfl ?_
                refine v_iconst (pc' := 170) F d_M_put_169 rfl ?_
                refine v_iadd (pc' := 171) F d_M_put_170 rfl ?_
                refine v_topi (b := 40 * f + M 13 f) (by omega) ?_
                refine v_iload (pc' := 173) F d_M_put_171 rfl rfl ?_
                refine mp_16 (pc' := 174) F hM28 d_M_put_173 rfl (by omega) (by omega) (fun h29 hM29 hF29 => ?_)
                refine v_aload_n (pc' := 175) (j := 0) F d_M_put_174 rfl rfl rfl ?_
                refine v_getf (pc' := 178) (C := zR_M) (T := zF_M) (N := 28) (ref := "BillSharesModel") F d_M_put_175 rfl zi_M rfl 17 (by decide) wx_678 (Or.inl rfl) hM29.1 rfl ?_
                refine v_iload (pc' := 180) F d_M_put_178 rfl rfl ?_
                refine v_iconst (pc' := 181) F d_M_put_180 rfl ?_
                refine v_iadd (pc' := 182) F d_M_put_181 rfl ?_
                refine v_topi (b := 40 * f + M 13 f) (by omega) ?_
                refine v_iload (pc' := 184) F d_M_put_182 rfl rfl ?_
                refine mp_17 (pc' := 185) F hM29 d_M_put_184 rfl (by omega) (by omega) hb (fun h30 hM30 hF30 => ?_)
                refine v_aload_n (pc' := 186) (j := 0) F d_M_put_185 rfl rfl rfl ?_
                refine v_getf (pc' := 189) (C := zR_M) (T := zF_M) (N := 28) (ref := "BillSharesModel") F d_M_put_186 rfl zi_M rfl 13 (by decide) wx_674 (Or.inl rfl) hM30.1 rfl ?_
                refine v_iload_n (pc' := 190) (j := 1) F d_M_put_189 rfl rfl rfl ?_
                refine v_dup2 (pc' := 191) F d_M_put_190 rfl rfl rfl ?_
                refine mg_13 (pc' := 192) F hM30 d_M_put_191 rfl (by omega) (by omega) ?_
                refine v_un (by decide) ?_
                refine v_un (by decide) ?_
                refine v_un (by decide) ?_
                refine v_un (by decide) ?_
                refine v_un (by decide) ?_
                refine v_iconst (pc' := 193) F d_M_put_192 rfl ?_
                refine v_iadd (pc' := 194) F d_M_put_193 rfl ?_
                refine mp_13 (pc' := 195) F hM30 d_M_put_194 rfl (by omega) (by omega) (fun h31 hM31 hF31 => ?_)
                refine v_aload_n (pc' := 196) (j := 0) F d_M_put_195 rfl rfl rfl ?_
                refine v_getf (pc' := 199) (C := zR_M) (T := zF_M) (N := 28) (ref := "BillSharesModel") F d_M_put_196 rfl zi_M rfl 13 (by decide) wx_674 (Or.inl rfl) hM31.1 rfl ?_
                refine v_iload_n (pc' := 200) (j := 1) F d_M_put_199 rfl rfl rfl ?_
                refine mg_13 (pc' := 201) F hM31 d_M_put_200 rfl (by omega) (by omega) ?_
                refine v_us ?_
                refine v_ireturn F rfl d_M_put_201 rfl rfl (Nat.le_refl _) (Nat.le_refl _) ?_
                first | (exfalso; omega) | (rw [show sp_put M f d v w b = (1, 0, M) from if_neg (by omega)]; exact ⟨_, hM31, ((((((((((((MF.rf).tr hF26)).tr hF27)).tr hF28)).tr hF29)).tr hF30)).tr hF31), rfl, upM_ss, eqv.note (Or.inl rfl), 0, rfl, fun q => absurd (show (1 : Int) = 0 from q) (by decide)⟩) | (rw [show sp_put M f d v w b = (2, 0, M) from (if_pos (by omega)).trans (if_neg (by omega))]; exact ⟨_, hM31, ((((((((((((MF.rf).tr hF26)).tr hF27)).tr hF28)).tr hF29)).tr hF30)).tr hF31), rfl, upM_ss, eqv.note (Or.inl rfl), 0, rfl, fun q => absurd (show (2 : Int) = 0 from q) (by decide)⟩) | (rw [show sp_put M f d v w b = _ from (if_pos (by omega)).trans (if_pos (by omega))]; exact ⟨_, hM31, ((((((((((((MF.rf).tr hF26)).tr hF27)).tr hF28)).tr hF29)).tr hF30)).tr hF31), rfl, (by rw [upM_n (by decide)]; rw [upM_n (by decide)]; rw [upM_n (by decide)]; rw [upM_n (by decide)]; rw [upM_n (by decide)]; exact upM_ss), (((((eqv.note (Or.inl rfl)).up 14 _ _).up 15 _ _).up 16 _ _).up 17 _ _).up 13 _ _, _, rfl, fun _ => rfl⟩)
            · refine v_aload_n (pc' := 83) (j := 0) F d_M_put_82 rfl rfl rfl ?_
              refine v_getf (pc' := 86) (C := zR_M) (T := zF_M) (N := 28) (ref := "BillSharesModel") F d_M_put_83 rfl zi_M rfl 14 (by decide) wx_675 (Or.inl rfl) hM.1 rfl ?_
              refine v_iload (pc' := 88) F d_M_put_86 rfl rfl ?_
              have q2 := hda (40 * f + M 13 f - 1) (by omega) (by omega)
              refine mg_14 (pc' := 89) F hM d_M_put_88 rfl (by omega) (by omega) ?_
              refine v_iload_n (pc' := 90) (j := 2) F d_M_put_89 rfl rfl rfl ?_
              refine v_icmp_ge (tgt := 108) (pc' := 93) F d_M_put_90 (by decide) rfl (by omega) (by omega) (fun c90 => ?_) (fun c90 => ?_)
              · refine v_iconst (pc' := 109) F d_M_put_108 rfl ?_
                refine v_istore_7 (pc' := 111) F d_M_put_109 rfl rfl (by decide) ?_
                refine v_aload_n (pc' := 112) (j := 0) F d_M_put_111 rfl rfl rfl ?_
                refine v_iload (pc' := 114) F d_M_put_112 rfl rfl ?_
                refine v_iload (pc' := 116) F d_M_put_114 rfl rfl ?_
                refine v_if_eq (tgt := 134) (pc' := 119) F d_M_put_116 (by decide) rfl (by omega) (fun c116 => ?_) (fun c116 => by exfalso; omega)
                refine v_iconst (pc' := 135) F d_M_put_134 rfl ?_
                refine v_callVM (pc' := 138) (C := zR_M) (T9 := zF_M) (N := 28) F d_M_put_135 rfl cal_M_allows wx_758 wx_760 wp_16 rfl hM.1 (c_allows_1 l X _ _ _ _ _ hM (by omega)) rfl ⟨by decide, by decide, by decide, by decide⟩ (Nat.le_of_ble_eq_true rfl) rfl rfl (fun h32 hM32 hF32 => ?_)
                refine v_if_ne (tgt := 143) (pc' := 141) F d_M_put_138 (by decide) rfl (by omega) (fun c138 => by exfalso; omega) (fun c138 => ?_)
                refine v_iconst (pc' := 142) F d_M_put_141 rfl ?_
                refine v_ireturn F rfl d_M_put_142 rfl rfl (Nat.le_refl _) (Nat.le_refl _) ?_
                first | (exfalso; omega) | (rw [show sp_put M f d v w b = (1, 0, M) from if_neg (by omega)]; exact ⟨_, hM32, ((MF.rf).tr hF32), rfl, upM_ss, eqv.note (Or.inl rfl), 0, rfl, fun q => absurd (show (1 : Int) = 0 from q) (by decide)⟩) | (rw [show sp_put M f d v w b = (2, 0, M) from (if_pos (by omega)).trans (if_neg (by omega))]; exact ⟨_, hM32, ((MF.rf).tr hF32), rfl, upM_ss, eqv.note (Or.inl rfl), 0, rfl, fun q => absurd (show (2 : Int) = 0 from q) (by decide)⟩) | (rw [show sp_put M f d v w b = _ from (if_pos (by omega)).trans (if_pos (by omega))]; exact ⟨_, hM32, ((MF.rf).tr hF32), rfl, (by rw [upM_n (by decide)]; rw [upM_n (by decide)]; rw [upM_n (by decide)]; rw [upM_n (by decide)]; rw [upM_n (by decide)]; exact upM_ss), (((((eqv.note (Or.inl rfl)).up 14 _ _).up 15 _ _).up 16 _ _).up 17 _ _).up 13 _ _, _, rfl, fun _ => rfl⟩)
              · refine v_aload_n (pc' := 94) (j := 0) F d_M_put_93 rfl rfl rfl ?_
                refine v_getf (pc' := 97) (C := zR_M) (T := zF_M) (N := 28) (ref := "BillSharesModel") F d_M_put_94 rfl zi_M rfl 16 (by decide) wx_677 (Or.inl rfl) hM.1 rfl ?_
                refine v_iload (pc' := 99) F d_M_put_97 rfl rfl ?_
                have q3 := hgo (40 * f + M 13 f - 1) (by omega) (by omega)
                refine mg_16 (pc' := 100) F hM d_M_put_99 rfl (by omega) (by omega) ?_
                refine v_iload_n (pc' := 101) (j := 3) F d_M_put_100 rfl rfl rfl ?_
                refine v_icmp_gt (tgt := 108) (pc' := 104) F d_M_put_101 (by decide) rfl (by omega) (by omega) (fun c101 => ?_) (fun c101 => ?_)
                · refine v_iconst (pc' := 109) F d_M_put_108 rfl ?_
                  refine v_istore_7 (pc' := 111) F d_M_put_109 rfl rfl (by decide) ?_
                  refine v_aload_n (pc' := 112) (j := 0) F d_M_put_111 rfl rfl rfl ?_
                  refine v_iload (pc' := 114) F d_M_put_112 rfl rfl ?_
                  refine v_iload (pc' := 116) F d_M_put_114 rfl rfl ?_
                  refine v_if_eq (tgt := 134) (pc' := 119) F d_M_put_116 (by decide) rfl (by omega) (fun c116 => ?_) (fun c116 => by exfalso; omega)
                  refine v_iconst (pc' := 135) F d_M_put_134 rfl ?_
                  refine v_callVM (pc' := 138) (C := zR_M) (T9 := zF_M) (N := 28) F d_M_put_135 rfl cal_M_allows wx_758 wx_760 wp_16 rfl hM.1 (c_allows_1 l X _ _ _ _ _ hM (by omega)) rfl ⟨by decide, by decide, by decide, by decide⟩ (Nat.le_of_ble_eq_true rfl) rfl rfl (fun h33 hM33 hF33 => ?_)
                  refine v_if_ne (tgt := 143) (pc' := 141) F d_M_put_138 (by decide) rfl (by omega) (fun c138 => by exfalso; omega) (fun c138 => ?_)
                  refine v_iconst (pc' := 142) F d_M_put_141 rfl ?_
                  refine v_ireturn F rfl d_M_put_142 rfl rfl (Nat.le_refl _) (Nat.le_refl _) ?_
                  first | (exfalso; omega) | (rw [show sp_put M f d v w b = (1, 0, M) from if_neg (by omega)]; exact ⟨_, hM33, ((MF.rf).tr hF33), rfl, upM_ss, eqv.note (Or.inl rfl), 0, rfl, fun q => absurd (show (1 : Int) = 0 from q) (by decide)⟩) | (rw [show sp_put M f d v w b = (2, 0, M) from (if_pos (by omega)).trans (if_neg (by omega))]; exact ⟨_, hM33, ((MF.rf).tr hF33), rfl, upM_ss, eqv.note (Or.inl rfl), 0, rfl, fun q => absurd (show (2 : Int) = 0 from q) (by decide)⟩) | (rw [show sp_put M f d v w b = _ from (if_pos (by omega)).trans (if_pos (by omega))]; exact ⟨_, hM33, ((MF.rf).tr hF33), rfl, (by rw [upM_n (by decide)]; rw [upM_n (by decide)]; rw [upM_n (by decide)]; rw [upM_n (by decide)]; rw [upM_n (by decide)]; exact upM_ss), (((((eqv.note (Or.inl rfl)).up 14 _ _).up 15 _ _).up 16 _ _).up 17 _ _).up 13 _ _, _, rfl, fun _ => rfl⟩)
                · refine v_iconst (pc' := 105) F d_M_put_104 rfl ?_
                  refine v_goto (tgt := 109) F d_M_put_105 (by decide) ?_
                  refine v_istore_7 (pc' := 111) F d_M_put_109 rfl rfl (by decide) ?_
                  refine v_aload_n (pc' := 112) (j := 0) F d_M_put_111 rfl rfl rfl ?_
                  refine v_iload (pc' := 114) F d_M_put_112 rfl rfl ?_
                  refine v_iload (pc' := 116) F d_M_put_114 rfl rfl ?_
                  refine v_if_eq (tgt := 134) (pc' := 119) F d_M_put_116 (by decide) rfl (by omega) (fun c116 => by exfalso; omega) (fun c116 => ?_)
                  refine v_aload_n (pc' := 120) (j := 0) F d_M_put_119 rfl rfl rfl ?_
                  refine v_getf (pc' := 123) (C := zR_M) (T := zF_M) (N := 28) (ref := "BillSharesModel") F d_M_put_120 rfl zi_M rfl 13 (by decide) wx_674 (Or.inl rfl) hM.1 rfl ?_
                  refine v_iload_n (pc' := 124) (j := 1) F d_M_put_123 rfl rfl rfl ?_
                  refine mg_13 (pc' := 125) F hM d_M_put_124 rfl (by omega) (by omega) ?_
                  refine v_bipush (pc' := 127) F d_M_put_125 rfl (by decide) ?_
                  refine v_icmp_ge (tgt := 134) (pc' := 130) F d_M_put_127 (by decide) rfl (by omega) (by omega) (fun c127 => ?_) (fun c127 => ?_)
                  · refine v_iconst (pc' := 135) F d_M_put_134 rfl ?_
                    refine v_callVM (pc' := 138) (C := zR_M) (T9 := zF_M) (N := 28) F d_M_put_135 rfl cal_M_allows wx_758 wx_760 wp_16 rfl hM.1 (c_allows_2 l X _ _ _ _ hM) rfl ⟨by decide, by decide, by decide, by decide⟩ (Nat.le_of_ble_eq_true rfl) rfl rfl (fun h34 hM34 hF34 => ?_)
                    refine v_if_ne (tgt := 143) (pc' := 141) F d_M_put_138 (by decide) rfl (by omega) (fun c138 => by exfalso; omega) (fun c138 => ?_)
                    refine v_iconst (pc' := 142) F d_M_put_141 rfl ?_
                    refine v_ireturn F rfl d_M_put_142 rfl rfl (Nat.le_refl _) (Nat.le_refl _) ?_
                    first | (exfalso; omega) | (rw [show sp_put M f d v w b = (1, 0, M) from if_neg (by omega)]; exact ⟨_, hM34, ((MF.rf).tr hF34), rfl, upM_ss, eqv.note (Or.inl rfl), 0, rfl, fun q => absurd (show (1 : Int) = 0 from q) (by decide)⟩) | (rw [show sp_put M f d v w b = (2, 0, M) from (if_pos (by omega)).trans (if_neg (by omega))]; exact ⟨_, hM34, ((MF.rf).tr hF34), rfl, upM_ss, eqv.note (Or.inl rfl), 0, rfl, fun q => absurd (show (2 : Int) = 0 from q) (by decide)⟩) | (rw [show sp_put M f d v w b = _ from (if_pos (by omega)).trans (if_pos (by omega))]; exact ⟨_, hM34, ((MF.rf).tr hF34), rfl, (by rw [upM_n (by decide)]; rw [upM_n (by decide)]; rw [upM_n (by decide)]; rw [upM_n (by decide)]; rw [upM_n (by decide)]; exact upM_ss), (((((eqv.note (Or.inl rfl)).up 14 _ _).up 15 _ _).up 16 _ _).up 17 _ _).up 13 _ _, _, rfl, fun _ => rfl⟩)
                  · refine v_iconst (pc' := 131) F d_M_put_130 rfl ?_
                    refine v_goto (tgt := 135) F d_M_put_131 (by decide) ?_
                    refine v_callVM (pc' := 138) (C := zR_M) (T9 := zF_M) (N := 28) F d_M_put_135 rfl cal_M_allows wx_758 wx_760 wp_16 rfl hM.1 (c_allows_0 l X _ _ _ _ hM) rfl ⟨by decide, by decide, by decide, by decide⟩ (Nat.le_of_ble_eq_true rfl) rfl rfl (fun h35 hM35 hF35 => ?_)
                    refine v_if_ne (tgt := 143) (pc' := 141) F d_M_put_138 (by decide) rfl (by omega) (fun c138 => ?_) (fun c138 => by exfalso; omega)
                    refine v_aload_n (pc' := 144) (j := 0) F d_M_put_143 rfl rfl rfl ?_
                    refine v_getf (pc' := 147) (C := zR_M) (T := zF_M) (N := 28) (ref := "BillSharesModel") F d_M_put_144 rfl zi_M rfl 14 (by decide) wx_675 (Or.inl rfl) hM35.1 rfl ?_
                    refine v_iload (pc' := 149) F d_M_put_147 rfl rfl ?_
                    refine v_iconst (pc' := 150) F d_M_put_149 rfl ?_
                    refine v_iadd (pc' := 151) F d_M_put_150 rfl ?_
                    refine v_topi (b := 40 * f + M 13 f) (by omega) ?_
                    refine v_iload_n (pc' := 152) (j := 2) F d_M_put_151 rfl rfl rfl ?_
                    refine mp_14 (pc' := 153) F hM35 d_M_put_152 rfl (by omega) (by omega) (fun h36 hM36 hF36 => ?_)
                    refine v_aload_n (pc' := 154) (j := 0) F d_M_put_153 rfl rfl rfl ?_
                    refine v_getf (pc' := 157) (C := zR_M) (T := zF_M) (N := 28) (ref := "BillSharesModel") F d_M_put_154 rfl zi_M rfl 15 (by decide) wx_676 (Or.inl rfl) hM36.1 rfl ?_
                    refine v_iload (pc' := 159) F d_M_put_157 rfl rfl ?_
                    refine v_iconst (pc' := 160) F d_M_put_159 rfl ?_
                    refine v_iadd (pc' := 161) F d_M_put_160 rfl ?_
                    refine v_topi (b := 40 * f + M 13 f) (by omega) ?_
                    refine v_iload_n (pc' := 162) (j := 3) F d_M_put_161 rfl rfl rfl ?_
                    refine mp_15 (pc' := 163) F hM36 d_M_put_162 rfl (by omega) (by omega) (fun h37 hM37 hF37 => ?_)
                    refine v_aload_n (pc' := 164) (j := 0) F d_M_put_163 rfl rfl rfl ?_
                    refine v_getf (pc' := 167) (C := zR_M) (T := zF_M) (N := 28) (ref := "BillSharesModel") F d_M_put_164 rfl zi_M rfl 16 (by decide) wx_677 (Or.inl rfl) hM37.1 rfl ?_
                    refine v_iload (pc' := 169) F d_M_put_167 rfl rfl ?_
                    refine v_iconst (pc' := 170) F d_M_put_169 rfl ?_
                    refine v_iadd (pc' := 171) F d_M_put_170 rfl ?_
                    refine v_topi (b := 40 * f + M 13 f) (by omega) ?_
                    refine v_iload (pc' := 173) F d_M_put_171 rfl rfl ?_
                    refine mp_16 (pc' := 174) F hM37 d_M_put_173 rfl (by omega) (by omega) (fun h38 hM38 hF38 => ?_)
                    refine v_aload_n (pc' := 175) (j := 0) F d_M_put_174 rfl rfl rfl ?_
                    refine v_getf (pc' := 178) (C := zR_M) (T := zF_M) (N := 28) (ref := "BillSharesModel") F d_M_put_175 rfl zi_M rfl 17 (by decide) wx_678 (Or.inl rfl) hM38.1 rfl ?_
                    refine v_iload (pc' := 180) F d_M_put_178 rfl rfl ?_
                    refine v_iconst (pc' := 181) F d_M_put_180 rfl ?_
                    refine v_iadd (pc' := 182) F d_M_put_181 rfl ?_
                    refine v_topi (b := 40 * f + M 13 f) (by omega) ?_
                    refine v_iload (pc' := 184) F d_M_put_182 rfl rfl ?_
                    refine mp_17 (pc' := 185) F hM38 d_M_put_184 rfl (by omega) (by omega) hb (fun h39 hM39 hF39 => ?_)
                    refine v_aload_n (pc' := 186) (j := 0) F d_M_put_185 rfl rfl rfl ?_
                    refine v_getf (pc' := 189) (C := zR_M) (T := zF_M) (N := 28) (ref := "BillSharesModel") F d_M_put_186 rfl zi_M rfl 13 (by decide) wx_674 (Or.inl rfl) hM39.1 rfl ?_
                    refine v_iload_n (pc' := 190) (j := 1) F d_M_put_189 rfl rfl rfl ?_
                    refine v_dup2 (pc' := 191) F d_M_put_190 rfl rfl rfl ?_
                    refine mg_13 (pc' := 192) F hM39 d_M_put_191 rfl (by omega) (by omega) ?_
                    refine v_un (by decide) ?_
                    refine v_un (by decide) ?_
                    refine v_un (by decide) ?_
                    refine v_un (by decide) ?_
                    refine v_un (by decide) ?_
                    refine v_iconst (pc' := 193) F d_M_put_192 rfl ?_
                    refine v_iadd (pc' := 194) F d_M_put_193 rfl ?_
                    refine mp_13 (pc' := 195) F hM39 d_M_put_194 rfl (by omega) (by omega) (fun h40 hM40 hF40 => ?_)
                    refine v_aload_n (pc' := 196) (j := 0) F d_M_put_195 rfl rfl rfl ?_
                    refine v_getf (pc' := 199) (C := zR_M) (T := zF_M) (N := 28) (ref := "BillSharesModel") F d_M_put_196 rfl zi_M rfl 13 (by decide) wx_674 (Or.inl rfl) hM40.1 rfl ?_
                    refine v_iload_n (pc' := 200) (j := 1) F d_M_put_199 rfl rfl rfl ?_
                    refine mg_13 (pc' := 201) F hM40 d_M_put_200 rfl (by omega) (by omega) ?_
                    refine v_us ?_
                    refine v_ireturn F rfl d_M_put_201 rfl rfl (Nat.le_refl _) (Nat.le_refl _) ?_
                    first | (exfalso; omega) | (rw [show sp_put M f d v w b = (1, 0, M) from if_neg (by omega)]; exact ⟨_, hM40, ((((((((((((MF.rf).tr hF35)).tr hF36)).tr hF37)).tr hF38)).tr hF39)).tr hF40), rfl, upM_ss, eqv.note (Or.inl rfl), 0, rfl, fun q => absurd (show (1 : Int) = 0 from q) (by decide)⟩) | (rw [show sp_put M f d v w b = (2, 0, M) from (if_pos (by omega)).trans (if_neg (by omega))]; exact ⟨_, hM40, ((((((((((((MF.rf).tr hF35)).tr hF36)).tr hF37)).tr hF38)).tr hF39)).tr hF40), rfl, upM_ss, eqv.note (Or.inl rfl), 0, rfl, fun q => absurd (show (2 : Int) = 0 from q) (by decide)⟩) | (rw [show sp_put M f d v w b = _ from (if_pos (by omega)).trans (if_pos (by omega))]; exact ⟨_, hM40, ((((((((((((MF.rf).tr hF35)).tr hF36)).tr hF37)).tr hF38)).tr hF39)).tr hF40), rfl, (by rw [upM_n (by decide)]; rw [upM_n (by decide)]; rw [upM_n (by decide)]; rw [upM_n (by decide)]; rw [upM_n (by decide)]; exact upM_ss), (((((eqv.note (Or.inl rfl)).up 14 _ _).up 15 _ _).up 16 _ _).up 17 _ _).up 13 _ _, _, rfl, fun _ => rfl⟩)
set_option maxRecDepth 100000 in
set_option maxHeartbeats 4000000 in
theorem c_M_reading (l : Launch) (X : am_X) (h : am_H) (nx : Nat) (y : Nat) (M : MS) (f d v : Int) (hM : RepM y M h) (hme : 0 ≤ M 7 0 ∧ M 7 0 ≤ 60) (hrd : ∀ f : Int, 0 ≤ f → f < M 7 0 → 0 ≤ M 13 f ∧ M 13 f ≤ 40) (hda : ∀ i : Int, 0 ≤ i → i < 2400 → 0 ≤ M 14 i ∧ M 14 i ≤ 3649) (hgo : ∀ i : Int, 0 ≤ i → i < 2400 → 0 ≤ M 16 i ∧ M 16 i ≤ 10000000) (rf : -2147483648 ≤ f ∧ f < 2147483648) (rd : -2147483648 ≤ d ∧ d < 2147483648) (rv : -2147483648 ≤ v ∧ v < 2147483648) : Cn l X y_M_reading ({ frames := 3, cells := 0, slots := 0, locals := 69 }) [.ref y, iV f, iV d, iV v] h nx (mpost y h nx iV (sp_put M f d v v 0)) := by
  refine cn_of (k := 0) (L0 := [some (.ref y), some (iV f), some (iV d), some (iV v)]) rfl wx_773 (Nat.le_of_ble_eq_true rfl) rfl (fun p e s m args below meth c F => ?_)
  refine v_aload_n (pc' := 1) (j := 0) F d_M_reading_0 rfl rfl rfl ?_
  refine v_iload_n (pc' := 2) (j := 1) F d_M_reading_1 rfl rfl rfl ?_
  refine v_iload_n (pc' := 3) (j := 2) F d_M_reading_2 rfl rfl rfl ?_
  refine v_iload_n (pc' := 4) (j := 3) F d_M_reading_3 rfl rfl rfl ?_
  refine v_iload_n (pc' := 5) (j := 3) F d_M_reading_4 rfl rfl rfl ?_
  refine v_iconst (pc' := 6) F d_M_reading_5 rfl ?_
  refine v_callV (pc' := 9) (C := zR_M) (T9 := zF_M) (N := 28) F d_M_reading_6 rfl cal_M_put wx_774 wx_776 wp_18 rfl hM.1 (c_M_put l X _ _ _ M f d v v 0 hM hme hrd hda hgo rf rd rv rv (Or.inl rfl)) rfl ⟨by decide, by decide, by decide, by decide⟩ (Nat.le_of_ble_eq_true rfl) (fun _ _ _ q => by obtain ⟨_, _, _, _, _, _, _, q7, _⟩ := q; cases q7) (fun r9 h' nx' q => ?_)
  obtain ⟨M9, q1, q2, rfl, q4, q5, r, q6, q7⟩ := q
  cases q6
  exact v_ireturn F rfl d_M_reading_9 rfl rfl (Nat.le_refl _) (Nat.le_refl _) ⟨M9, q1, q2, rfl, q4, q5, r, rfl, q7⟩
set_option maxRecDepth 100000 in
set_option maxHeartbeats 4000000 in
theorem c_M_changed (l : Launch) (X : am_X) (h : am_H) (nx : Nat) (y : Nat) (M : MS) (f d v w : Int) (hM : RepM y M h) (hme : 0 ≤ M 7 0 ∧ M 7 0 ≤ 60) (hrd : ∀ f : Int, 0 ≤ f → f < M 7 0 → 0 ≤ M 13 f ∧ M 13 f ≤ 40) (hda : ∀ i : Int, 0 ≤ i → i < 2400 → 0 ≤ M 14 i ∧ M 14 i ≤ 3649) (hgo : ∀ i : Int, 0 ≤ i → i < 2400 → 0 ≤ M 16 i ∧ M 16 i ≤ 10000000) (rf : -2147483648 ≤ f ∧ f < 2147483648) (rd : -2147483648 ≤ d ∧ d < 2147483648) (rv : -2147483648 ≤ v ∧ v < 2147483648) (rw : -2147483648 ≤ w ∧ w < 2147483648) : Cn l X y_M_changed ({ frames := 3, cells := 0, slots := 0, locals := 69 }) [.ref y, iV f, iV d, iV v, iV w] h nx (mpost y h nx iV (sp_put M f d v w 1)) := by
  refine cn_of (k := 0) (L0 := [some (.ref y), some (iV f), some (iV d), some (iV v), some (iV w)]) rfl wx_789 (Nat.le_of_ble_eq_true rfl) rfl (fun p e s m args below meth c F => ?_)
  refine v_aload_n (pc' := 1) (j := 0) F d_M_changed_0 rfl rfl rfl ?_
  refine v_iload_n (pc' := 2) (j := 1) F d_M_changed_1 rfl rfl rfl ?_
  refine v_iload_n (pc' := 3) (j := 2) F d_M_changed_2 rfl rfl rfl ?_
  refine v_iload_n (pc' := 4) (j := 3) F d_M_changed_3 rfl rfl rfl ?_
  refine v_iload (pc' := 6) F d_M_changed_4 rfl rfl ?_
  refine v_iconst (pc' := 7) F d_M_changed_6 rfl ?_
  refine v_callV (pc' := 10) (C := zR_M) (T9 := zF_M) (N := 28) F d_M_changed_7 rfl cal_M_put wx_774 wx_776 wp_18 rfl hM.1 (c_M_put l X _ _ _ M f d v w 1 hM hme hrd hda hgo rf rd rv rw (Or.inr rfl)) rfl ⟨by decide, by decide, by decide, by decide⟩ (Nat.le_of_ble_eq_true rfl) (fun _ _ _ q => by obtain ⟨_, _, _, _, _, _, _, q7, _⟩ := q; cases q7) (fun r9 h' nx' q => ?_)
  obtain ⟨M9, q1, q2, rfl, q4, q5, r, q6, q7⟩ := q
  cases q6
  exact v_ireturn F rfl d_M_changed_10 rfl rfl (Nat.le_refl _) (Nat.le_refl _) ⟨M9, q1, q2, rfl, q4, q5, r, rfl, q7⟩
/-- the place of a meter's reading at a day among its first ones, -1 if there is none -/
def sp_find (M : MS) (f d : Int) : Nat → Int
  | 0 => -1
  | k + 1 => if M 14 (40 * f + (k : Int)) = d then 40 * f + (k : Int) else sp_find M f d k
theorem sp_find_or (M : MS) (f d : Int) : ∀ k : Nat, sp_find M f d k = -1 ∨ (40 * f ≤ sp_find M f d k ∧ sp_find M f d k < 40 * f + (k : Int) ∧ M 14 (sp_find M f d k) = d)
  | 0 => Or.inl rfl
  | k + 1 => by
    unfold sp_find
    by_cases hq : M 14 (40 * f + (k : Int)) = d
    · rw [if_pos hq]; exact Or.inr ⟨by omega, by omega, hq⟩
    · rw [if_neg hq]
      rcases sp_find_or M f d k with q | ⟨q1, q2, q3⟩
      · exact Or.inl q
      · exact Or.inr ⟨q1, by omega, q3⟩
