/-! own, part of the reference (written by wip/whole/mm12.py) -/
def sp_ally (M : MS) (f k a : Int) : Int := if 0 < sp_barred M f k a then 0 else sp_usedBy M f k (365 * a) (365 * a + 365)
def sp_own (M : MS) (f k w a : Int) : Int := M 23 (80 * a + 4 * f + k) * sp_days M f w a / 365 + (if sp_ally M f k a = 0 then M 24 (80 * a + 4 * f + k) * sp_days M f w a / 365 else if sp_days M f w a = 0 then 0 else M 24 (80 * a + 4 * f + k) * sp_usedBy M f k (sp_begin M f w a) (sp_end M f w a) / sp_ally M f k a)
theorem sp_days_r {M : MS} {f w a : Int} (hfl : 0 ≤ M 1 0 ∧ M 1 0 ≤ 20) (hlv : ∀ f : Int, 0 ≤ f → f < M 1 0 → 1 ≤ M 4 f ∧ M 4 f ≤ 12) (hsi : ∀ i : Int, 0 ≤ i → i < 240 → 0 ≤ M 5 i ∧ M 5 i ≤ 3649) (hf : 0 ≤ f ∧ f < M 1 0) (hw : 0 ≤ w ∧ w < 12) (ry : 0 ≤ a ∧ a ≤ 9) : 0 ≤ sp_days M f w a ∧ sp_days M f w a ≤ 365 ∧ (¬ sp_days M f w a = 0 → sp_begin M f w a < sp_end M f w a) := by
  have q1 := sp_begin_r (f := f) hsi (by omega) hw ry
  have q2 := sp_end_r hfl hlv hsi hf hw ry
  unfold sp_days
  split <;> omega
theorem sp_ally_r {M : MS} {f k a : Int} (hme : 0 ≤ M 7 0 ∧ M 7 0 ≤ 60) (hrd : ∀ f : Int, 0 ≤ f → f < M 7 0 → 0 ≤ M 13 f ∧ M 13 f ≤ 40) (hda : ∀ i : Int, 0 ≤ i → i < 2400 → 0 ≤ M 14 i ∧ M 14 i ≤ 3649) (hva : ∀ i : Int, 0 ≤ i → i < 2400 → 0 ≤ M 15 i ∧ M 15 i ≤ 10000000) (hgo : ∀ i : Int, 0 ≤ i → i < 2400 → 0 ≤ M 16 i ∧ M 16 i ≤ 10000000) (hmo : ∀ f k : Int, 0 ≤ f → f < M 7 0 → 0 ≤ k → k + 1 < M 13 f → M 14 (40 * f + k) < M 14 (40 * f + 1 + k) ∧ M 16 (40 * f + k) ≤ M 15 (40 * f + 1 + k)) (hab : ∀ f : Int, 0 ≤ f → f < M 7 0 → (1 ≤ M 10 f ∧ M 10 f ≤ 1000) ∧ (1 ≤ M 11 f ∧ M 11 f ≤ 1000)) (hte : ∀ i : Int, 0 ≤ i → i < 60 → 0 ≤ M 12 i ∧ M 12 i ≤ 3649) (hfo : ∀ i : Int, 0 ≤ i → i < 60 → (0 ≤ M 8 i ∧ M 8 i ≤ 20) ∧ (0 ≤ M 9 i ∧ M 9 i ≤ 3)) : 0 ≤ sp_ally M f k a ∧ sp_ally M f k a ≤ 23400000000000 := by
  have q := sp_usedBy_r (f := f) (k := k) (g := 365 * a) (t := 365 * a + 365) hme hrd hda hva hgo hmo hab hte hfo (by omega)
  unfold sp_ally
  split <;> omega
set_option maxRecDepth 100000 in
set_option maxHeartbeats 4000000 in
theorem c_M_own (l : Launch) (X : am_X) (h : am_H) (nx : Nat) (y : Nat) (M : MS) (f k0 w a : Int) (hM : RepM y M h) (hfl : 0 ≤ M 1 0 ∧ M 1 0 ≤ 20) (hlv : ∀ f : Int, 0 ≤ f → f < M 1 0 → 1 ≤ M 4 f ∧ M 4 f ≤ 12) (hsi : ∀ i : Int, 0 ≤ i → i < 240 → 0 ≤ M 5 i ∧ M 5 i ≤ 3649) (hbp : ∀ i : Int, 0 ≤ i → i < 800 → (0 ≤ M 23 i ∧ M 23 i ≤ 1000000001) ∧ (0 ≤ M 24 i ∧ M 24 i ≤ 1000000001)) (hme : 0 ≤ M 7 0 ∧ M 7 0 ≤ 60) (hrd : ∀ f : Int, 0 ≤ f → f < M 7 0 → 0 ≤ M 13 f ∧ M 13 f ≤ 40) (hda : ∀ i : Int, 0 ≤ i → i < 2400 → 0 ≤ M 14 i ∧ M 14 i ≤ 3649) (hva : ∀ i : Int, 0 ≤ i → i < 2400 → 0 ≤ M 15 i ∧ M 15 i ≤ 10000000) (hgo : ∀ i : Int, 0 ≤ i → i < 2400 → 0 ≤ M 16 i ∧ M 16 i ≤ 10000000) (hmo : ∀ f k : Int, 0 ≤ f → f < M 7 0 → 0 ≤ k → k + 1 < M 13 f → M 14 (40 * f + k) < M 14 (40 * f + 1 + k) ∧ M 16 (40 * f + k) ≤ M 15 (40 * f + 1 + k)) (hab : ∀ f : Int, 0 ≤ f → f < M 7 0 → (1 ≤ M 10 f ∧ M 10 f ≤ 1000) ∧ (1 ≤ M 11 f ∧ M 11 f ≤ 1000)) (hte : ∀ i : Int, 0 ≤ i → i < 60 → 0 ≤ M 12 i ∧ M 12 i ≤ 3649) (hfo : ∀ i : Int, 0 ≤ i → i < 60 → (0 ≤ M 8 i ∧ M 8 i ≤ 20) ∧ (0 ≤ M 9 i ∧ M 9 i ≤ 3)) (hf : 0 ≤ f ∧ f < M 1 0) (hk : 0 ≤ k0 ∧ k0 ≤ 3) (hw : 0 ≤ w ∧ w < 12) (ry : 0 ≤ a ∧ a ≤ 9) : CnP l X y_M_own ({ frames := 2, cells := 0, slots := 0, locals := 59 }) [.ref y, iV f, iV k0, iV w, iV a] h nx (lV (sp_own M f k0 w a)) := by
  refine cn_of (k := 6) (L0 := [some (.ref y), some (iV f), some (iV k0), some (iV w), some (iV a), none, none, none, none, none, none]) rfl wx_900 (Nat.le_of_ble_eq_true rfl) rfl (fun p e s m args below meth c F => ?_)
  have q1 := sp_days_r hfl hlv hsi hf hw ry
  have q2 := sp_ally_r (f := f) (k := k0) (a := a) hme hrd hda hva hgo hmo hab hte hfo
  have q3 := hbp (80 * a + 4 * f + k0) (by omega) (by omega)
  have q4 := sp_barred_r M f k0 a
  have q5 := sp_begin_r (f := f) hsi (by omega) hw ry
  have q6 := sp_end_r hfl hlv hsi hf hw ry
  have q7 : ¬ sp_days M f w a = 0 → 0 ≤ sp_usedBy M f k0 (sp_begin M f w a) (sp_end M f w a) ∧ sp_usedBy M f k0 (sp_begin M f w a) (sp_end M f w a) ≤ 23400000000000 := fun z => sp_usedBy_r hme hrd hda hva hgo hmo hab hte hfo (by omega)
  refine v_aload_n (pc' := 1) (j := 0) F d_M_own_0 rfl rfl rfl ?_
  refine v_iload_n (pc' := 2) (j := 1) F d_M_own_1 rfl rfl rfl ?_
  refine v_iload_n (pc' := 3) (j := 3) F d_M_own_2 rfl rfl rfl ?_
  refine v_iload (pc' := 5) F d_M_own_3 rfl rfl ?_
  refine v_callVP (pc' := 8) (C := zR_M) (T9 := zF_M) (N := 28) F d_M_own_5 rfl cal_M_days wx_885 wx_887 wp_30 rfl hM.1 (c_M_days l X _ _ _ _ _ _ _ hM hfl hlv hsi hf hw ry) rfl ⟨by decide, by decide, by decide, by decide⟩ (Nat.le_of_ble_eq_true rfl) rfl rfl ?_
  refine v_istore_5 (pc' := 10) F d_M_own_8 rfl rfl (by decide) ?_
  refine v_bipush (pc' := 12) F d_M_own_10 rfl (by decide) ?_
  refine v_iload (pc' := 14) F d_M_own_12 rfl rfl ?_
  refine v_imul (pc' := 15) F d_M_own_14 rfl ?_
  refine v_iconst (pc' := 16) F d_M_own_15 rfl ?_
  refine v_iload_n (pc' := 17) (j := 1) F d_M_own_16 rfl rfl rfl ?_
  refine v_imul (pc' := 18) F d_M_own_17 rfl ?_
  refine v_iadd (pc' := 19) F d_M_own_18 rfl ?_
  refine v_iload_n (pc' := 20) (j := 2) F d_M_own_19 rfl rfl rfl ?_
  refine v_iadd (pc' := 21) F d_M_own_20 rfl ?_
  refine v_istore_6 (pc' := 23) F d_M_own_21 rfl rfl (by decide) ?_
  refine v_aload_n (pc' := 24) (j := 0) F d_M_own_23 rfl rfl rfl ?_
  refine v_getf (pc' := 27) (C := zR_M) (T := zF_M) (N := 28) (ref := "BillSharesModel") F d_M_own_24 rfl zi_M rfl 23 (by decide) wx_684 (Or.inl rfl) hM.1 rfl ?_
  refine v_iload (pc' := 29) F d_M_own_27 rfl rfl ?_
  refine mg_23 (pc' := 30) F hM d_M_own_29 rfl (by omega) (by omega) ?_
  refine v_iload (pc' := 32) F d_M_own_30 rfl rfl ?_
  refine v_i2l (pc' := 33) F d_M_own_32 rfl (by omega) ?_
  refine v_ldc2 (pc' := 36) (z := 365) F d_M_own_33 rfl wx_901 (by decide) ?_
  refine v_callSP (pc' := 39) F d_M_own_36 rfl cal_M_portion wx_832 wx_833 (c_M_portion l X _ _ _ _ _ (by omega) (by omega) (by omega)) rfl ⟨by decide, by decide, by decide, by decide⟩ (Nat.le_of_ble_eq_true rfl) rfl rfl ?_
  refine v_lstore_7 (pc' := 41) F d_M_own_39 rfl rfl (by decide) ?_
  refine v_aload_n (pc' := 42) (j := 0) F d_M_own_41 rfl rfl rfl ?_
  refine v_iload_n (pc' := 43) (j := 1) F d_M_own_42 rfl rfl rfl ?_
  refine v_iload_n (pc' := 44) (j := 2) F d_M_own_43 rfl rfl rfl ?_
  refine v_iload (pc' := 46) F d_M_own_44 rfl rfl ?_
  refine v_callVP (pc' := 49) (C := zR_M) (T9 := zF_M) (N := 28) F d_M_own_46 rfl cal_M_barredOf wx_844 wx_846 wp_25 rfl hM.1 (c_M_barredOf l X _ _ _ _ _ _ _ hM hme hrd hda hva hgo hmo hab hte hfo (by omega) (by omega) (by omega)) rfl ⟨by decide, by decide, by decide, by decide⟩ (Nat.le_of_ble_eq_true rfl) rfl rfl ?_
  refine v_if_le (tgt := 56) (pc' := 52) F d_M_own_49 (by decide) rfl (by omega) (fun c49 => ?_) (fun c49 => ?_)
  · refine v_aload_n (pc' := 57) (j := 0) F d_M_own_56 rfl rfl rfl ?_
    refine v_iload_n (pc' := 58) (j := 1) F d_M_own_57 rfl rfl rfl ?_
    refine v_iload_n (pc' := 59) (j := 2) F d_M_own_58 rfl rfl rfl ?_
    refine v_sipush (pc' := 62) F d_M_own_59 rfl (by decide) ?_
    refine v_iload (pc' := 64) F d_M_own_62 rfl rfl ?_
    refine v_imul (pc' := 65) F d_M_own_64 rfl ?_
    refine v_sipush (pc' := 68) F d_M_own_65 rfl (by decide) ?_
    refine v_iload (pc' := 70) F d_M_own_68 rfl rfl ?_
    refine v_imul (pc' := 71) F d_M_own_70 rfl ?_
    refine v_sipush (pc' := 74) F d_M_own_71 rfl (by decide) ?_
    refine v_iadd (pc' := 75) F d_M_own_74 rfl ?_
    refine v_callVP (pc' := 78) (C := zR_M) (T9 := zF_M) (N := 28) F d_M_own_75 rfl cal_M_usedBy wx_852 wx_854 wp_27 rfl hM.1 (c_M_usedBy l X _ _ _ _ _ _ _ _ hM hme hrd hda hva hgo hmo hab hte hfo (by omega) (by omega) (by omega) (by omega)) rfl ⟨by decide, by decide, by decide, by decide⟩ (Nat.le_of_ble_eq_true rfl) rfl rfl ?_
    refine v_topl (b := sp_ally M f k0 a) (by unfold sp_ally; first | rw [if_pos (by omega)] | rw [if_neg (by omega)]) ?_
    refine v_lstore_9 (pc' := 80) F d_M_own_78 rfl rfl (by decide) ?_
    refine v_lload (pc' := 82) F d_M_own_80 rfl rfl ?_
    refine v_lconst (pc' := 83) (z := 0) F d_M_own_82 rfl (by decide) ?_
    refine v_lc_ne (tgt := 107) (pc' := 87) F d_M_own_83 d_M_own_84 (by decide) rfl (by omega) (by omega) (fun c83 => ?_) (fun c83 => ?_)
    · refine v_iload (pc' := 109) F d_M_own_107 rfl rfl ?_
      refine v_if_ne (tgt := 117) (pc' := 112) F d_M_own_109 (by decide) rfl (by omega) (fun c109 => ?_) (fun c109 => ?_)
      · refine v_lload (pc' := 119) F d_M_own_117 rfl rfl ?_
        refine v_aload_n (pc' := 120) (j := 0) F d_M_own_119 rfl rfl rfl ?_
        refine v_getf (pc' := 123) (C := zR_M) (T := zF_M) (N := 28) (ref := "BillSharesModel") F d_M_own_120 rfl zi_M rfl 24 (by decide) wx_685 (Or.inl rfl) hM.1 rfl ?_
        refine v_iload (pc' := 125) F d_M_own_123 rfl rfl ?_
        refine mg_24 (pc' := 126) F hM d_M_own_125 rfl (by omega) (by omega) ?_
        refine v_aload_n (pc' := 127) (j := 0) F d_M_own_126 rfl rfl rfl ?_
        refine v_iload_n (pc' := 128) (j := 1) F d_M_own_127 rfl rfl rfl ?_
        refine v_iload_n (pc' := 129) (j := 2) F d_M_own_128 rfl rfl rfl ?_
        refine v_aload_n (pc' := 130) (j := 0) F d_M_own_129 rfl rfl rfl ?_
        refine v_iload_n (pc' := 131) (j := 1) F d_M_own_130 rfl rfl rfl ?_
        refine v_iload_n (pc' := 132) (j := 3) F d_M_own_131 rfl rfl rfl ?_
        refine v_iload (pc' := 134) F d_M_own_132 rfl rfl ?_
        refine v_callVP (pc' := 137) (C := zR_M) (T9 := zF_M) (N := 28) F d_M_own_134 rfl cal_M_begin wx_893 wx_895 wp_32 rfl hM.1 (c_M_begin l X _ _ _ _ _ _ _ hM hfl hlv hsi hf hw ry) rfl ⟨by decide, by decide, by decide, by decide⟩ (Nat.le_of_ble_eq_true rfl) rfl rfl ?_
        refine v_aload_n (pc' := 138) (j := 0) F d_M_own_137 rfl rfl rfl ?_
        refine v_iload_n (pc' := 139) (j := 1) F d_M_own_138 rfl rfl rfl ?_
        refine v_iload_n (pc' := 140) (j := 3) F d_M_own_139 rfl rfl rfl ?_
        refine v_iload (pc' := 142) F d_M_own_140 rfl rfl ?_
        refine v_callVP (pc' := 145) (C := zR_M) (T9 := zF_M) (N := 28) F d_M_own_142 rfl cal_M_end wx_889 wx_891 wp_31 rfl hM.1 (c_M_end l X _ _ _ _ _ _ _ hM hfl hlv hsi hf hw ry) rfl ⟨by decide, by decide, by decide, by decide⟩ (Nat.le_of_ble_eq_true rfl) rfl rfl ?_
        refine v_callVP (pc' := 148) (C := zR_M) (T9 := zF_M) (N := 28) F d_M_own_145 rfl cal_M_usedBy wx_852 wx_854 wp_27 rfl hM.1 (c_M_usedBy l X _ _ _ _ _ _ _ _ hM hme hrd hda hva hgo hmo hab hte hfo (by omega) (by omega) (by omega) (by omega)) rfl ⟨by decide, by decide, by decide, by decide⟩ (Nat.le_of_ble_eq_true rfl) rfl rfl ?_
        refine v_lload (pc' := 150) F d_M_own_148 rfl rfl ?_
        refine v_callSP (pc' := 153) F d_M_own_150 rfl cal_M_portion wx_832 wx_833 (c_M_portion l X _ _ _ _ _ (by omega) (by omega) (by omega)) rfl ⟨by decide, by decide, by decide, by decide⟩ (Nat.le_of_ble_eq_true rfl) rfl rfl ?_
        refine v_ladd (pc' := 154) F d_M_own_153 rfl ?_
        exact v_lreturn F d_M_own_154 rfl (Nat.le_refl _) (Nat.le_refl _) ⟨by unfold sp_own; first | rw [if_pos (by omega)] | rw [if_neg (by omega), if_pos (by omega), Int.add_zero] | rw [if_neg (by omega), if_neg (by omega)], rfl, rfl⟩
      · refine v_lload (pc' := 114) F d_M_own_112 rfl rfl ?_
        refine v_goto (tgt := 154) F d_M_own_114 (by decide) ?_
        exact v_lreturn F d_M_own_154 rfl (Nat.le_refl _) (Nat.le_refl _) ⟨by unfold sp_own; first | rw [if_pos (by omega)] | rw [if_neg (by omega), if_pos (by omega), Int.add_zero] | rw [if_neg (by omega), if_neg (by omega)], rfl, rfl⟩
    · refine v_lload (pc' := 89) F d_M_own_87 rfl rfl ?_
      refine v_aload_n (pc' := 90) (j := 0) F d_M_own_89 rfl rfl rfl ?_
      refine v_getf (pc' := 93) (C := zR_M) (T := zF_M) (N := 28) (ref := "BillSharesModel") F d_M_own_90 rfl zi_M rfl 24 (by decide) wx_685 (Or.inl rfl) hM.1 rfl ?_
      refine v_iload (pc' := 95) F d_M_own_93 rfl rfl ?_
      refine mg_24 (pc' := 96) F hM d_M_own_95 rfl (by omega) (by omega) ?_
      refine v_iload (pc' := 98) F d_M_own_96 rfl rfl ?_
      refine v_i2l (pc' := 99) F d_M_own_98 rfl (by omega) ?_
      refine v_ldc2 (pc' := 102) (z := 365) F d_M_own_99 rfl wx_901 (by decide) ?_
      refine v_callSP (pc' := 105) F d_M_own_102 rfl cal_M_portion wx_832 wx_833 (c_M_portion l X _ _ _ _ _ (by omega) (by omega) (by omega)) rfl ⟨by decide, by decide, by decide, by decide⟩ (Nat.le_of_ble_eq_true rfl) rfl rfl ?_
      refine v_ladd (pc' := 106) F d_M_own_105 rfl ?_
      exact v_lreturn F d_M_own_106 rfl (Nat.le_refl _) (Nat.le_refl _) ⟨by unfold sp_own; first | rw [if_pos (by omega)] | rw [if_neg (by omega), if_pos (by omega), Int.add_zero] | rw [if_neg (by omega), if_neg (by omega)], rfl, rfl⟩
  · refine v_lconst (pc' := 53) (z := 0) F d_M_own_52 rfl (by decide) ?_
    refine v_goto (tgt := 78) F d_M_own_53 (by decide) ?_
    refine v_topl (b := sp_ally M f k0 a) (by unfold sp_ally; first | rw [if_pos (by omega)] | rw [if_neg (by omega)]) ?_
    refine v_lstore_9 (pc' := 80) F d_M_own_78 rfl rfl (by decide) ?_
    refine v_lload (pc' := 82) F d_M_own_80 rfl rfl ?_
    refine v_lconst (pc' := 83) (z := 0) F d_M_own_82 rfl (by decide) ?_
    refine v_lc_ne (tgt := 107) (pc' := 87) F d_M_own_83 d_M_own_84 (by decide) rfl (by omega) (by omega) (fun c83 => ?_) (fun c83 => ?_)
    · refine v_iload (pc' := 109) F d_M_own_107 rfl rfl ?_
      refine v_if_ne (tgt := 117) (pc' := 112) F d_M_own_109 (by decide) rfl (by omega) (fun c109 => ?_) (fun c109 => ?_)
      · refine v_lload (pc' := 119) F d_M_own_117 rfl rfl ?_
        refine v_aload_n (pc' := 120) (j := 0) F d_M_own_119 rfl rfl rfl ?_
        refine v_getf (pc' := 123) (C := zR_M) (T := zF_M) (N := 28) (ref := "BillSharesModel") F d_M_own_120 rfl zi_M rfl 24 (by decide) wx_685 (Or.inl rfl) hM.1 rfl ?_
        refine v_iload (pc' := 125) F d_M_own_123 rfl rfl ?_
        refine mg_24 (pc' := 126) F hM d_M_own_125 rfl (by omega) (by omega) ?_
        refine v_aload_n (pc' := 127) (j := 0) F d_M_own_126 rfl rfl rfl ?_
        refine v_iload_n (pc' := 128) (j := 1) F d_M_own_127 rfl rfl rfl ?_
        refine v_iload_n (pc' := 129) (j := 2) F d_M_own_128 rfl rfl rfl ?_
        refine v_aload_n (pc' := 130) (j := 0) F d_M_own_129 rfl rfl rfl ?_
        refine v_iload_n (pc' := 131) (j := 1) F d_M_own_130 rfl rfl rfl ?_
        refine v_iload_n (pc' := 132) (j := 3) F d_M_own_131 rfl rfl rfl ?_
        refine v_iload (pc' := 134) F d_M_own_132 rfl rfl ?_
        refine v_callVP (pc' := 137) (C := zR_M) (T9 := zF_M) (N := 28) F d_M_own_134 rfl cal_M_begin wx_893 wx_895 wp_32 rfl hM.1 (c_M_begin l X _ _ _ _ _ _ _ hM hfl hlv hsi hf hw ry) rfl ⟨by decide, by decide, by decide, by decide⟩ (Nat.le_of_ble_eq_true rfl) rfl rfl ?_
        refine v_aload_n (pc' := 138) (j := 0) F d_M_own_137 rfl rfl rfl ?_
        refine v_iload_n (pc' := 139) (j := 1) F d_M_own_138 rfl rfl rfl ?_
        refine v_iload_n (pc' := 140) (j := 3) F d_M_own_139 rfl rfl rfl ?_
        refine v_iload (pc' := 142) F d_M_own_140 rfl rfl ?_
        refine v_callVP (pc' := 145) (C := zR_M) (T9 := zF_M) (N := 28) F d_M_own_142 rfl cal_M_end wx_889 wx_891 wp_31 rfl hM.1 (c_M_end l X _ _ _ _ _ _ _ hM hfl hlv hsi hf hw ry) rfl ⟨by decide, by decide, by decide, by decide⟩ (Nat.le_of_ble_eq_true rfl) rfl rfl ?_
        refine v_callVP (pc' := 148) (C := zR_M) (T9 := zF_M) (N := 28) F d_M_own_145 rfl cal_M_usedBy wx_852 wx_854 wp_27 rfl hM.1 (c_M_usedBy l X _ _ _ _ _ _ _ _ hM hme hrd hda hva hgo hmo hab hte hfo (by omega) (by omega) (by omega) (by omega)) rfl ⟨by decide, by decide, by decide, by decide⟩ (Nat.le_of_ble_eq_true rfl) rfl rfl ?_
        refine v_lload (pc' := 150) F d_M_own_148 rfl rfl ?_
        refine v_callSP (pc' := 153) F d_M_own_150 rfl cal_M_portion wx_832 wx_833 (c_M_portion l X _ _ _ _ _ (by omega) (by omega) (by omega)) rfl ⟨by decide, by decide, by decide, by decide⟩ (Nat.le_of_ble_eq_true rfl) rfl rfl ?_
        refine v_ladd (pc' := 154) F d_M_own_153 rfl ?_
        exact v_lreturn F d_M_own_154 rfl (Nat.le_refl _) (Nat.le_refl _) ⟨by unfold sp_own; first | rw [if_pos (by omega)] | rw [if_neg (by omega), if_pos (by omega), Int.add_zero] | rw [if_neg (by omega), if_neg (by omega)], rfl, rfl⟩
      · refine v_lload (pc' := 114) F d_M_own_112 rfl rfl ?_
        refine v_goto (tgt := 154) F d_M_own_114 (by decide) ?_
        exact v_lreturn F d_M_own_154 rfl (Nat.le_refl _) (Nat.le_refl _) ⟨by unfold sp_own; first | rw [if_pos (by omega)] | rw [if_neg (by omega), if_pos (by omega), Int.add_zero] | rw [if_neg (by omega), if_neg (by omega)], rfl, rfl⟩
    · refine v_lload (pc' := 89) F d_M_own_87 rfl rfl ?_
      refine v_aload_n (pc' := 90) (j := 0) F d_M_own_89 rfl rfl rfl ?_
      refine v_getf (pc' := 93) (C := zR_M) (T := zF_M) (N := 28) (ref := "BillSharesModel") F d_M_own_90 rfl zi_M rfl 24 (by decide) wx_685 (Or.inl rfl) hM.1 rfl ?_
      refine v_iload (pc' := 95) F d_M_own_93 rfl rfl ?_
      refine mg_24 (pc' := 96) F hM d_M_own_95 rfl (by omega) (by omega) ?_
      refine v_iload (pc' := 98) F d_M_own_96 rfl rfl ?_
      refine v_i2l (pc' := 99) F d_M_own_98 rfl (by omega) ?_
      refine v_ldc2 (pc' := 102) (z := 365) F d_M_own_99 rfl wx_901 (by decide) ?_
      refine v_callSP (pc' := 105) F d_M_own_102 rfl cal_M_portion wx_832 wx_833 (c_M_portion l X _ _ _ _ _ (by omega) (by omega) (by omega)) rfl ⟨by decide, by decide, by decide, by decide⟩ (Nat.le_of_ble_eq_true rfl) rfl rfl ?_
      refine v_ladd (pc' := 106) F d_M_own_105 rfl ?_
      exact v_lreturn F d_M_own_106 rfl (Nat.le_refl _) (Nat.le_refl _) ⟨by unfold sp_own; first | rw [if_pos (by omega)] | rw [if_neg (by omega), if_pos (by omega), Int.add_zero] | rw [if_neg (by omega), if_neg (by omega)], rfl, rfl⟩
def sp_lastf (D : Int → Int) (w : Int) : Nat → Int
  | 0 => 1
  | j + 1 => if sp_lastf D w j = 0 then 0 else if D (w + 1 + (j : Int)) = 0 then 1 else 0
theorem sp_lastf_r (D : Int → Int) (w : Int) : ∀ j : Nat, sp_lastf D w j = 0 ∨ sp_lastf D w j = 1
  | 0 => Or.inr rfl
  | j + 1 => by
    unfold sp_lastf
    split
    · exact Or.inl rfl
    · split
      · exact Or.inr rfl
      · exact Or.inl rfl
/-- the sum of what all who live in a flat own of a kind -/
def sp_owns (M : MS) (f k a : Int) : Int := sumI (fun w => sp_own M f k w a) (M 4 f).toNat
def sp_part (M : MS) (f w a : Int) : Int := sp_own M f 0 w a + sp_own M f 1 w a + sp_own M f 2 w a + sp_own M f 3 w a + (if sp_lastf (fun v => sp_days M f v a) w (M 4 f - (w + 1)).toNat = 0 then 0 else sp_share M f a - sp_owns M f 0 a - sp_owns M f 1 a - sp_owns M f 2 a - sp_owns M f 3 a)
set_option maxRecDepth 100000 in
set_option maxHeartbeats 4000000 in
theorem lp1_M_part {p : Program} {l : Launch} {e : Env} {s : State} {m : MethodId} {args : Array Value} {below : List Frame} {meth : Method} {c : Code} {X : am_X} {Q : State → Prop} {h : am_H} {nx : Nat} {y kk : Nat} {M : MS} {f w a : Int} (F : am_Fx p s m args meth c y_M_part b_M_part 11 ((Option.some FieldType.long)) [] X) (hM : RepM y M h) (hfl : 0 ≤ M 1 0 ∧ M 1 0 ≤ 20) (hlv : ∀ f : Int, 0 ≤ f → f < M 1 0 → 1 ≤ M 4 f ∧ M 4 f ≤ 12) (hsi : ∀ i : Int, 0 ≤ i → i < 240 → 0 ≤ M 5 i ∧ M 5 i ≤ 3649) (hbp : ∀ i : Int, 0 ≤ i → i < 800 → (0 ≤ M 23 i ∧ M 23 i ≤ 1000000001) ∧ (0 ≤ M 24 i ∧ M 24 i ≤ 1000000001)) (hme : 0 ≤ M 7 0 ∧ M 7 0 ≤ 60) (hrd : ∀ f : Int, 0 ≤ f → f < M 7 0 → 0 ≤ M 13 f ∧ M 13 f ≤ 40) (hda : ∀ i : Int, 0 ≤ i → i < 2400 → 0 ≤ M 14 i ∧ M 14 i ≤ 3649) (hva : ∀ i : Int, 0 ≤ i → i < 2400 → 0 ≤ M 15 i ∧ M 15 i ≤ 10000000) (hgo : ∀ i : Int, 0 ≤ i → i < 2400 → 0 ≤ M 16 i ∧ M 16 i ≤ 10000000) (hmo : ∀ f k : Int, 0 ≤ f → f < M 7 0 → 0 ≤ k → k + 1 < M 13 f → M 14 (40 * f + k) < M 14 (40 * f + 1 + k) ∧ M 16 (40 * f + k) ≤ M 15 (40 * f + 1 + k)) (hab : ∀ f : Int, 0 ≤ f → f < M 7 0 → (1 ≤ M 10 f ∧ M 10 f ≤ 1000) ∧ (1 ≤ M 11 f ∧ M 11 f ≤ 1000)) (hte : ∀ i : Int, 0 ≤ i → i < 60 → 0 ≤ M 12 i ∧ M 12 i ≤ 3649) (hfo : ∀ i : Int, 0 ≤ i → i < 60 → (0 ≤ M 8 i ∧ M 8 i ≤ 20) ∧ (0 ≤ M 9 i ∧ M 9 i ≤ 3)) (hf : 0 ≤ f ∧ f < M 1 0) (ry : 0 ≤ a ∧ a ≤ 9) (hw : 0 ≤ w ∧ w < M 4 f) (hkk : (kk : Int) = M 4 f - (w + 1)) (hx : V p l e ({ frames := 3, cells := 0, slots := 0, locals := 89 }) s m args below meth c 11 X Q h nx 0 0 108 [some (.ref y), some (iV f), some (iV w), some (iV a), some (iV (sp_lastf (fun v => sp_days M f v a) w kk)), some (iV (w + 1 + (kk : Int))), none, none, none, none, none] []) : ∀ (n k : Nat), kk < k + n → k ≤ kk → V p l e ({ frames := 3, cells := 0, slots := 0, locals := 89 }) s m args below meth c 11 X Q h nx 0 0 68 [some (.ref y), some (iV f), some (iV w), some (iV a), some (iV (sp_lastf (fun v => sp_days M f v a) w k)), some (iV (w + 1 + (k : Int))), none, none, none, none, none] [] := by
  intro n
  induction n with
  | zero =>
    intro k hk hk2
    exact absurd hk (by omega)
  | succ n ih =>
    intro k hk hk2
    have q1 := hlv f hf.1 hf.2
    have q2 := sp_lastf_r (fun v => sp_days M f v a) w k
    refine v_iload (pc' := 70) F d_M_part_68 rfl rfl ?_
    refine v_aload_n (pc' := 71) (j := 0) F d_M_part_70 rfl rfl rfl ?_
    refine v_getf (pc' := 74) (C := zR_M) (T := zF_M) (N := 28) (ref := "BillSharesModel") F d_M_part_71 rfl zi_M rfl 4 (by decide) wx_665 (Or.inl rfl) hM.1 rfl ?_
    refine v_iload_n (pc' := 75) (j := 1) F d_M_part_74 rfl rfl rfl ?_
    refine mg_4 (pc' := 76) F hM d_M_part_75 rfl (by omega) (by omega) ?_
    refine v_icmp_ge (tgt := 108) (pc' := 79) F d_M_part_76 (by decide) rfl (by omega) (by omega) (fun c76 => ?_) (fun c76 => ?_)
    · obtain rfl : k = kk := by omega
      exact hx
    · refine v_iload (pc' := 81) F d_M_part_79 rfl rfl ?_
      refine v_if_eq (tgt := 99) (pc' := 84) F d_M_part_81 (by decide) rfl (by omega) (fun c81 => ?_) (fun c81 => ?_)
      · refine v_iconst (pc' := 100) F d_M_part_99 rfl ?_
        refine v_istore_4 (pc' := 102) F d_M_part_100 rfl rfl (by decide) ?_
        refine v_iinc_5 (pc' := 105) F d_M_part_102 rfl rfl (by decide) ?_
        refine v_goto (tgt := 68) F d_M_part_105 (by decide) ?_
        have q9 := ih (k + 1) (by omega) (by omega)
        rw [show (w + 1 + ((k + 1 : Nat) : Int)) = w + 1 + (k : Int) + 1 by omega] at q9
        first | rw [show sp_lastf (fun v => sp_days M f v a) w (k + 1) = 0 from if_pos (by omega)] at q9 | rw [show sp_lastf (fun v => sp_days M f v a) w (k + 1) = 1 from (if_neg (by omega)).trans (if_pos (by omega))] at q9 | rw [show sp_lastf (fun v => sp_days M f v a) w (k + 1) = 0 from (if_neg (by omega)).trans (if_neg (by omega))] at q9
        exact q9
      · refine v_aload_n (pc' := 85) (j := 0) F d_M_part_84 rfl rfl rfl ?_
        refine v_iload_n (pc' := 86) (j := 1) F d_M_part_85 rfl rfl rfl ?_
        refine v_iload (pc' := 88) F d_M_part_86 rfl rfl ?_
        refine v_iload_n (pc' := 89) (j := 3) F d_M_part_88 rfl rfl rfl ?_
        refine v_callVP (pc' := 92) (C := zR_M) (T9 := zF_M) (N := 28) F d_M_part_89 rfl cal_M_days wx_885 wx_887 wp_30 rfl hM.1 (c_M_days l X _ _ _ _ _ _ _ hM hfl hlv hsi hf (by omega) ry) rfl ⟨by decide, by decide, by decide, by decide⟩ (Nat.le_of_ble_eq_true rfl) rfl rfl ?_
        have q5 := sp_days_r (w := w + 1 + (k : Int)) hfl hlv hsi hf (by omega) ry
        refine v_if_ne (tgt := 99) (pc' := 95) F d_M_part_92 (by decide) rfl (by omega) (fun c92 => ?_) (fun c92 => ?_)
        · refine v_iconst (pc' := 100) F d_M_part_99 rfl ?_
          refine v_istore_4 (pc' := 102) F d_M_part_100 rfl rfl (by decide) ?_
          refine v_iinc_5 (pc' := 105) F d_M_part_102 rfl rfl (by decide) ?_
          refine v_goto (tgt := 68) F d_M_part_105 (by decide) ?_
          have q9 := ih (k + 1) (by omega) (by omega)
          rw [show (w + 1 + ((k + 1 : Nat) : Int)) = w + 1 + (k : Int) + 1 by omega] at q9
          first | rw [show sp_lastf (fun v => sp_days M f v a) w (k + 1) = 0 from if_pos (by omega)] at q9 | rw [show sp_lastf (fun v => sp_days M f v a) w (k + 1) = 1 from (if_neg (by omega)).trans (if_pos (by omega))] at q9 | rw [show sp_lastf (fun v => sp_days M f v a) w (k + 1) = 0 from (if_neg (by omega)).trans (if_neg (by omega))] at q9
          exact q9
        · refine v_iconst (pc' := 96) F d_M_part_95 rfl ?_
          refine v_goto (tgt := 100) F d_M_part_96 (by decide) ?_
          refine v_istore_4 (pc' := 102) F d_M_part_100 rfl rfl (by decide) ?_
          refine v_iinc_5 (pc' := 105) F d_M_part_102 rfl rfl (by decide) ?_
          refine v_goto (tgt := 68) F d_M_part_105 (by decide) ?_
          have q9 := ih (k + 1) (by omega) (by omega)
          rw [show (w + 1 + ((k + 1 : Nat) : Int)) = w + 1 + (k : Int) + 1 by omega] at q9
          first | rw [show sp_lastf (fun v => sp_days M f v a) w (k + 1) = 0 from if_pos (by omega)] at q9 | rw [show sp_lastf (fun v => sp_days M f v a) w (k + 1) = 1 from (if_neg (by omega)).trans (if_pos (by omega))] at q9 | rw [show sp_lastf (fun v => sp_days M f v a) w (k + 1) = 0 from (if_neg (by omega)).trans (if_neg (by omega))] at q9
          exact q9
set_option maxRecDepth 100000 in
set_option maxHeartbeats 4000000 in
theorem lp2_M_part {p : Program} {l : Launch} {e : Env} {s : State} {m : MethodId} {args : Array Value} {below : List Frame} {meth : Method} {c : Code} {X : am_X} {Q : State → Prop} {h : am_H} {nx : Nat} {y kk : Nat} {M : MS} {f w a ls sm z0 K : Int} (F : am_Fx p s m args meth c y_M_part b_M_part 11 ((Option.some FieldType.long)) [] X) (hM : RepM y M h) (hfl : 0 ≤ M 1 0 ∧ M 1 0 ≤ 20) (hlv : ∀ f : Int, 0 ≤ f → f < M 1 0 → 1 ≤ M 4 f ∧ M 4 f ≤ 12) (hsi : ∀ i : Int, 0 ≤ i → i < 240 → 0 ≤ M 5 i ∧ M 5 i ≤ 3649) (hbp : ∀ i : Int, 0 ≤ i → i < 800 → (0 ≤ M 23 i ∧ M 23 i ≤ 1000000001) ∧ (0 ≤ M 24 i ∧ M 24 i ≤ 1000000001)) (hme : 0 ≤ M 7 0 ∧ M 7 0 ≤ 60) (hrd : ∀ f : Int, 0 ≤ f → f < M 7 0 → 0 ≤ M 13 f ∧ M 13 f ≤ 40) (hda : ∀ i : Int, 0 ≤ i → i < 2400 → 0 ≤ M 14 i ∧ M 14 i ≤ 3649) (hva : ∀ i : Int, 0 ≤ i → i < 2400 → 0 ≤ M 15 i ∧ M 15 i ≤ 10000000) (hgo : ∀ i : Int, 0 ≤ i → i < 2400 → 0 ≤ M 16 i ∧ M 16 i ≤ 10000000) (hmo : ∀ f k : Int, 0 ≤ f → f < M 7 0 → 0 ≤ k → k + 1 < M 13 f → M 14 (40 * f + k) < M 14 (40 * f + 1 + k) ∧ M 16 (40 * f + k) ≤ M 15 (40 * f + 1 + k)) (hab : ∀ f : Int, 0 ≤ f → f < M 7 0 → (1 ≤ M 10 f ∧ M 10 f ≤ 1000) ∧ (1 ≤ M 11 f ∧ M 11 f ≤ 1000)) (hte : ∀ i : Int, 0 ≤ i → i < 60 → 0 ≤ M 12 i ∧ M 12 i ≤ 3649) (hfo : ∀ i : Int, 0 ≤ i → i < 60 → (0 ≤ M 8 i ∧ M 8 i ≤ 20) ∧ (0 ≤ M 9 i ∧ M 9 i ≤ 3)) (hf : 0 ≤ f ∧ f < M 1 0) (ry : 0 ≤ a ∧ a ≤ 9) (hK : 0 ≤ K ∧ K ≤ 3) (hkk : (kk : Int) = M 4 f) (hx : V p l e ({ frames := 3, cells := 0, slots := 0, locals := 89 }) s m args below meth c 11 X Q h nx 0 0 192 [some (.ref y), some (iV f), some (iV w), some (iV a), some (iV ls), some (lV sm), none, some (lV (z0 - sumI (fun w => sp_own M f K w a) kk)), none, some (iV K), some (iV (kk : Int))] []) : ∀ (n k : Nat), kk < k + n → k ≤ kk → V p l e ({ frames := 3, cells := 0, slots := 0, locals := 89 }) s m args below meth c 11 X Q h nx 0 0 160 [some (.ref y), some (iV f), some (iV w), some (iV a), some (iV ls), some (lV sm), none, some (lV (z0 - sumI (fun w => sp_own M f K w a) k)), none, some (iV K), some (iV (k : Int))] [] := by
  intro n
  induction n with
  | zero =>
    intro k hk hk2
    exact absurd hk (by omega)
  | succ n ih =>
    intro k hk hk2
    have q1 := hlv f hf.1 hf.2
    refine v_iload (pc' := 162) F d_M_part_160 rfl rfl ?_
    refine v_aload_n (pc' := 163) (j := 0) F d_M_part_162 rfl rfl rfl ?_
    refine v_getf (pc' := 166) (C := zR_M) (T := zF_M) (N := 28) (ref := "BillSharesModel") F d_M_part_163 rfl zi_M rfl 4 (by decide) wx_665 (Or.inl rfl) hM.1 rfl ?_
    refine v_iload_n (pc' := 167) (j := 1) F d_M_part_166 rfl rfl rfl ?_
    refine mg_4 (pc' := 168) F hM d_M_part_167 rfl (by omega) (by omega) ?_
    refine v_icmp_ge (tgt := 192) (pc' := 171) F d_M_part_168 (by decide) rfl (by omega) (by omega) (fun c168 => ?_) (fun c168 => ?_)
    · obtain rfl : k = kk := by omega
      exact hx
    · refine v_lload (pc' := 173) F d_M_part_171 rfl rfl ?_
      refine v_aload_n (pc' := 174) (j := 0) F d_M_part_173 rfl rfl rfl ?_
      refine v_iload_n (pc' := 175) (j := 1) F d_M_part_174 rfl rfl rfl ?_
      refine v_iload (pc' := 177) F d_M_part_175 rfl rfl ?_
      refine v_iload (pc' := 179) F d_M_part_177 rfl rfl ?_
      refine v_iload_n (pc' := 180) (j := 3) F d_M_part_179 rfl rfl rfl ?_
      refine v_callVP (pc' := 183) (C := zR_M) (T9 := zF_M) (N := 28) F d_M_part_180 rfl cal_M_own wx_897 wx_899 wp_33 rfl hM.1 (c_M_own l X _ _ _ _ _ _ _ _ hM hfl hlv hsi hbp hme hrd hda hva hgo hmo hab hte hfo hf (by omega) (by omega) ry) rfl ⟨by decide, by decide, by decide, by decide⟩ (Nat.le_of_ble_eq_true rfl) rfl rfl ?_
      refine v_lsub (pc' := 184) F d_M_part_183 rfl ?_
      refine v_lstore_7 (pc' := 186) F d_M_part_184 rfl rfl (by decide) ?_
      refine v_iinc_10 (pc' := 189) F d_M_part_186 rfl rfl (by decide) ?_
      refine v_goto (tgt := 160) F d_M_part_189 (by decide) ?_
      have q9 := ih (k + 1) (by omega) (by omega)
      rw [show z0 - sumI (fun w => sp_own M f K w a) (k + 1) = z0 - sumI (fun w => sp_own M f K w a) k - sp_own M f K (k : Int) a by show z0 - (sumI (fun w => sp_own M f K w a) k + sp_own M f K (k : Int) a) = _; omega] at q9
      exact q9
set_option maxRecDepth 100000 in
set_option maxHeartbeats 4000000 in
theorem at160_M_part {p : Program} {l : Launch} {e : Env} {s : State} {m : MethodId} {args : Array Value} {below : List Frame} {meth : Method} {c : Code} {X : am_X} {Q : State → Prop} {h : am_H} {nx : Nat} {y : Nat} {M : MS} {f w a ls sm : Int} (F : am_Fx p s m args meth c y_M_part b_M_part 11 (some .long) [] X) (hM : RepM y M h) (hfl : 0 ≤ M 1 0 ∧ M 1 0 ≤ 20) (hlv : ∀ f : Int, 0 ≤ f → f < M 1 0 → 1 ≤ M 4 f ∧ M 4 f ≤ 12) (hsi : ∀ i : Int, 0 ≤ i → i < 240 → 0 ≤ M 5 i ∧ M 5 i ≤ 3649) (hbp : ∀ i : Int, 0 ≤ i → i < 800 → (0 ≤ M 23 i ∧ M 23 i ≤ 1000000001) ∧ (0 ≤ M 24 i ∧ M 24 i ≤ 1000000001)) (hme : 0 ≤ M 7 0 ∧ M 7 0 ≤ 60) (hrd : ∀ f : Int, 0 ≤ f → f < M 7 0 → 0 ≤ M 13 f ∧ M 13 f ≤ 40) (hda : ∀ i : Int, 0 ≤ i → i < 2400 → 0 ≤ M 14 i ∧ M 14 i ≤ 3649) (hva : ∀ i : Int, 0 ≤ i → i < 2400 → 0 ≤ M 15 i ∧ M 15 i ≤ 10000000) (hgo : ∀ i : Int, 0 ≤ i → i < 2400 → 0 ≤ M 16 i ∧ M 16 i ≤ 10000000) (hmo : ∀ f k : Int, 0 ≤ f → f < M 7 0 → 0 ≤ k → k + 1 < M 13 f → M 14 (40 * f + k) < M 14 (40 * f + 1 + k) ∧ M 16 (40 * f + k) ≤ M 15 (40 * f + 1 + k)) (hab : ∀ f : Int, 0 ≤ f → f < M 7 0 → (1 ≤ M 10 f ∧ M 10 f ≤ 1000) ∧ (1 ≤ M 11 f ∧ M 11 f ≤ 1000)) (hte : ∀ i : Int, 0 ≤ i → i < 60 → 0 ≤ M 12 i ∧ M 12 i ≤ 3649) (hfo : ∀ i : Int, 0 ≤ i → i < 60 → (0 ≤ M 8 i ∧ M 8 i ≤ 20) ∧ (0 ≤ M 9 i ∧ M 9 i ≤ 3)) (hf : 0 ≤ f ∧ f < M 1 0) (ry : 0 ≤ a ∧ a ≤ 9) {z0 K : Int} (hK : 0 ≤ K ∧ K ≤ 3) (hx : V p l e ({ frames := 3, cells := 0, slots := 0, locals := 89 }) s m args below meth c 11 X Q h nx 0 0 192 [some (.ref y), some (iV f), some (iV w), some (iV a), some (iV ls), some (lV sm), none, some (lV (z0 - sp_owns M f K a)), none, some (iV K), some (iV (((M 4 f).toNat : Nat) : Int))] []) : V p l e ({ frames := 3, cells := 0, slots := 0, locals := 89 }) s m args below meth c 11 X Q h nx 0 0 160 [some (.ref y), some (iV f), some (iV w), some (iV a), some (iV ls), some (lV sm), none, some (lV z0), none, some (iV K), some (iV 0)] [] := by
  have q1 := hlv f hf.1 hf.2
  have q9 := lp2_M_part (kk := (M 4 f).toNat) (z0 := z0) (K := K) F hM hfl hlv hsi hbp hme hrd hda hva hgo hmo hab hte hfo hf ry hK (by omega) hx ((M 4 f).toNat + 1) 0 (by omega) (by omega)
  rw [show z0 - sumI (fun w => sp_own M f K w a) 0 = z0 by show z0 - 0 = z0; omega] at q9
  exact q9
set_option maxRecDepth 100000 in
set_option maxHeartbeats 4000000 in
theorem tl2_M_part {p : Program} {l : Launch} {e : Env} {s : State} {m : MethodId} {args : Array Value} {below : List Frame} {meth : Method} {c : Code} {X : am_X} {h : am_H} {nx : Nat} {y : Nat} {M : MS} {f w a z : Int} (F : am_Fx p s m args meth c y_M_part b_M_part 11 (some .long) [] X) (hM : RepM y M h) (hfl : 0 ≤ M 1 0 ∧ M 1 0 ≤ 20) (hlv : ∀ f : Int, 0 ≤ f → f < M 1 0 → 1 ≤ M 4 f ∧ M 4 f ≤ 12) (hsi : ∀ i : Int, 0 ≤ i → i < 240 → 0 ≤ M 5 i ∧ M 5 i ≤ 3649) (hbp : ∀ i : Int, 0 ≤ i → i < 800 → (0 ≤ M 23 i ∧ M 23 i ≤ 1000000001) ∧ (0 ≤ M 24 i ∧ M 24 i ≤ 1000000001)) (hme : 0 ≤ M 7 0 ∧ M 7 0 ≤ 60) (hrd : ∀ f : Int, 0 ≤ f → f < M 7 0 → 0 ≤ M 13 f ∧ M 13 f ≤ 40) (hda : ∀ i : Int, 0 ≤ i → i < 2400 → 0 ≤ M 14 i ∧ M 14 i ≤ 3649) (hva : ∀ i : Int, 0 ≤ i → i < 2400 → 0 ≤ M 15 i ∧ M 15 i ≤ 10000000) (hgo : ∀ i : Int, 0 ≤ i → i < 2400 → 0 ≤ M 16 i ∧ M 16 i ≤ 10000000) (hmo : ∀ f k : Int, 0 ≤ f → f < M 7 0 → 0 ≤ k → k + 1 < M 13 f → M 14 (40 * f + k) < M 14 (40 * f + 1 + k) ∧ M 16 (40 * f + k) ≤ M 15 (40 * f + 1 + k)) (hab : ∀ f : Int, 0 ≤ f → f < M 7 0 → (1 ≤ M 10 f ∧ M 10 f ≤ 1000) ∧ (1 ≤ M 11 f ∧ M 11 f ≤ 1000)) (hte : ∀ i : Int, 0 ≤ i → i < 60 → 0 ≤ M 12 i ∧ M 12 i ≤ 3649) (hfo : ∀ i : Int, 0 ≤ i → i < 60 → (0 ≤ M 8 i ∧ M 8 i ≤ 20) ∧ (0 ≤ M 9 i ∧ M 9 i ≤ 3)) (hf : 0 ≤ f ∧ f < M 1 0) (ry : 0 ≤ a ∧ a ≤ 9) (hw : 0 ≤ w ∧ w < M 4 f) {post : Outcome → am_H → Nat → Prop} (hp : post (.returned (some (lV (sp_part M f w a)))) h nx) : V p l e ({ frames := 3, cells := 0, slots := 0, locals := 89 }) s m args below meth c 11 X (am_Q X below s 0 0 post) h nx 0 0 108 [some (.ref y), some (iV f), some (iV w), some (iV a), some (iV (sp_lastf (fun v => sp_days M f v a) w (M 4 f - (w + 1)).toNat)), some (iV z), none, none, none, none, none] [] := by
  have q1 := hlv f hf.1 hf.2
  have q2 := sp_lastf_r (fun v => sp_days M f v a) w (M 4 f - (w + 1)).toNat
  refine v_lconst (pc' := 109) (z := 0) F d_M_part_108 rfl (by decide) ?_
  refine v_lstore_5 (pc' := 111) F d_M_part_109 rfl rfl (by decide) ?_
  refine v_iconst (pc' := 112) F d_M_part_111 rfl ?_
  refine v_istore_7 (pc' := 114) F d_M_part_112 rfl rfl (by decide) ?_
  refine v_iload (pc' := 116) F d_M_part_114 rfl rfl ?_
  refine v_iconst (pc' := 117) F d_M_part_116 rfl ?_
  refine v_icmp_ge (tgt := 140) (pc' := 120) F d_M_part_117 (by decide) rfl (by omega) (by omega) (fun c117 => by exfalso; omega) (fun c117 => ?_)
  refine v_lload (pc' := 122) F d_M_part_120 rfl rfl ?_
  refine v_aload_n (pc' := 123) (j := 0) F d_M_part_122 rfl rfl rfl ?_
  refine v_iload_n (pc' := 124) (j := 1) F d_M_part_123 rfl rfl rfl ?_
  refine v_iload (pc' := 126) F d_M_part_124 rfl rfl ?_
  refine v_iload_n (pc' := 127) (j := 2) F d_M_part_126 rfl rfl rfl ?_
  refine v_iload_n (pc' := 128) (j := 3) F d_M_part_127 rfl rfl rfl ?_
  refine v_callVP (pc' := 131) (C := zR_M) (T9 := zF_M) (N := 28) F d_M_part_128 rfl cal_M_own wx_897 wx_899 wp_33 rfl hM.1 (c_M_own l X _ _ _ _ _ _ _ _ hM hfl hlv hsi hbp hme hrd hda hva hgo hmo hab hte hfo hf (by omega) (by omega) ry) rfl ⟨by decide, by decide, by decide, by decide⟩ (Nat.le_of_ble_eq_true rfl) rfl rfl ?_
  refine v_ladd (pc' := 132) F d_M_part_131 rfl ?_
  refine v_lstore_5 (pc' := 134) F d_M_part_132 rfl rfl (by decide) ?_
  refine v_iinc_7 (pc' := 137) F d_M_part_134 rfl rfl (by decide) ?_
  refine v_goto (tgt := 114) F d_M_part_137 (by decide) ?_
  refine v_iload (pc' := 116) F d_M_part_114 rfl rfl ?_
  refine v_iconst (pc' := 117) F d_M_part_116 rfl ?_
  refine v_icmp_ge (tgt := 140) (pc' := 120) F d_M_part_117 (by decide) rfl (by omega) (by omega) (fun c117 => by exfalso; omega) (fun c117 => ?_)
  refine v_lload (pc' := 122) F d_M_part_120 rfl rfl ?_
  refine v_aload_n (pc' := 123) (j := 0) F d_M_part_122 rfl rfl rfl ?_
  refine v_iload_n (pc' := 124) (j := 1) F d_M_part_123 rfl rfl rfl ?_
  refine v_iload (pc' := 126) F d_M_part_124 rfl rfl ?_
  refine v_iload_n (pc' := 127) (j := 2) F d_M_part_126 rfl rfl rfl ?_
  refine v_iload_n (pc' := 128) (j := 3) F d_M_part_127 rfl rfl rfl ?_
  refine v_callVP (pc' := 131) (C := zR_M) (T9 := zF_M) (N := 28) F d_M_part_128 rfl cal_M_own wx_897 wx_899 wp_33 rfl hM.1 (c_M_own l X _ _ _ _ _ _ _ _ hM hfl hlv hsi hbp hme hrd hda hva hgo hmo hab hte hfo hf (by omega) (by omega) ry) rfl ⟨by decide, by decide, by decide, by decide⟩ (Nat.le_of_ble_eq_true rfl) rfl rfl ?_
  refine v_ladd (pc' := 132) F d_M_part_131 rfl ?_
  refine v_lstore_5 (pc' := 134) F d_M_part_132 rfl rfl (by decide) ?_
  refine v_iinc_7 (pc' := 137) F d_M_part_134 rfl rfl (by decide) ?_
  refine v_goto (tgt := 114) F d_M_part_137 (by decide) ?_
  refine v_iload (pc' := 116) F d_M_part_114 rfl rfl ?_
  refine v_iconst (pc' := 117) F d_M_part_116 rfl ?_
  refine v_icmp_ge (tgt := 140) (pc' := 120) F d_M_part_117 (by decide) rfl (by omega) (by omega) (fun c117 => by exfalso; omega) (fun c117 => ?_)
  refine v_lload (pc' := 122) F d_M_part_120 rfl rfl ?_
  refine v_aload_n (pc' := 123) (j := 0) F d_M_part_122 rfl rfl rfl ?_
  refine v_iload_n (pc' := 124) (j := 1) F d_M_part_123 rfl rfl rfl ?_
  refine v_iload (pc' := 126) F d_M_part_124 rfl rfl ?_
  refine v_iload_n (pc' := 127) (j := 2) F d_M_part_126 rfl rfl rfl ?_
  refine v_iload_n (pc' := 128) (j := 3) F d_M_part_127 rfl rfl rfl ?_
  refine v_callVP (pc' := 131) (C := zR_M) (T9 := zF_M) (N := 28) F d_M_part_128 rfl cal_M_own wx_897 wx_899 wp_33 rfl hM.1 (c_M_own l X _ _ _ _ _ _ _ _ hM hfl hlv hsi hbp hme hrd hda hva hgo hmo hab hte hfo hf (by omega) (by omega) ry) rfl ⟨by decide, by decide, by decide, by decide⟩ (Nat.le_of_ble_eq_true rfl) rfl rfl ?_
  refine v_ladd (pc' := 132) F d_M_part_131 rfl ?_
  refine v_lstore_5 (pc' := 134) F d_M_part_132 rfl rfl (by decide) ?_
  refine v_iinc_7 (pc' := 137) F d_M_part_134 rfl rfl (by decide) ?_
  refine v_goto (tgt := 114) F d_M_part_137 (by decide) ?_
  refine v_iload (pc' := 116) F d_M_part_114 rfl rfl ?_
  refine v_iconst (pc' := 117) F d_M_part_116 rfl ?_
  refine v_icmp_ge (tgt := 140) (pc' := 120) F d_M_part_117 (by decide) rfl (by omega) (by omega) (fun c117 => by exfalso; omega) (fun c117 => ?_)
  refine v_lload (pc' := 122) F d_M_part_120 rfl rfl ?_
  refine v_aload_n (pc' := 123) (j := 0) F d_M_part_122 rfl rfl rfl ?_
  refine v_iload_n (pc' := 124) (j := 1) F d_M_part_123 rfl rfl rfl ?_
  refine v_iload (pc' := 126) F d_M_part_124 rfl rfl ?_
  refine v_iload_n (pc' := 127) (j := 2) F d_M_part_126 rfl rfl rfl ?_
  refine v_iload_n (pc' := 128) (j := 3) F d_M_part_127 rfl rfl rfl ?_
  refine v_callVP (pc' := 131) (C := zR_M) (T9 := zF_M) (N := 28) F d_M_part_128 rfl cal_M_own wx_897 wx_899 wp_33 rfl hM.1 (c_M_own l X _ _ _ _ _ _ _ _ hM hfl hlv hsi hbp hme hrd hda hva hgo hmo hab hte hfo hf (by omega) (by omega) ry) rfl ⟨by decide, by decide, by decide, by decide⟩ (Nat.le_of_ble_eq_true rfl) rfl rfl ?_
  refine v_ladd (pc' := 132) F d_M_part_131 rfl ?_
  refine v_lstore_5 (pc' := 134) F d_M_part_132 rfl rfl (by decide) ?_
  refine v_iinc_7 (pc' := 137) F d_M_part_134 rfl rfl (by decide) ?_
  refine v_goto (tgt := 114) F d_M_part_137 (by decide) ?_
  refine v_iload (pc' := 116) F d_M_part_114 rfl rfl ?_
  refine v_iconst (pc' := 117) F d_M_part_116 rfl ?_
  refine v_icmp_ge (tgt := 140) (pc' := 120) F d_M_part_117 (by decide) rfl (by omega) (by omega) (fun c117 => ?_) (fun c117 => by exfalso; omega)
  refine v_aload_n (pc' := 141) (j := 0) F d_M_part_140 rfl rfl rfl ?_
  refine v_iload_n (pc' := 142) (j := 1) F d_M_part_141 rfl rfl rfl ?_
  refine v_iload_n (pc' := 143) (j := 3) F d_M_part_142 rfl rfl rfl ?_
  refine v_callVP (pc' := 146) (C := zR_M) (T9 := zF_M) (N := 28) F d_M_part_143 rfl cal_M_shareOf wx_819 wx_821 wp_20 rfl hM.1 (c_M_shareOf l X _ _ _ _ _ _ hM (by omega) (by omega)) rfl ⟨by decide, by decide, by decide, by decide⟩ (Nat.le_of_ble_eq_true rfl) rfl rfl ?_
  refine v_lstore_7 (pc' := 148) F d_M_part_146 rfl rfl (by decide) ?_
  refine v_iconst (pc' := 149) F d_M_part_148 rfl ?_
  refine v_istore_9 (pc' := 151) F d_M_part_149 rfl rfl (by decide) ?_
  refine v_iload (pc' := 153) F d_M_part_151 rfl rfl ?_
  refine v_iconst (pc' := 154) F d_M_part_153 rfl ?_
  refine v_icmp_ge (tgt := 198) (pc' := 157) F d_M_part_154 (by decide) rfl (by omega) (by omega) (fun c154 => by exfalso; omega) (fun c154 => ?_)
  refine v_iconst (pc' := 158) F d_M_part_157 rfl ?_
  refine v_istore_10 (pc' := 160) F d_M_part_158 rfl rfl (by decide) ?_
  refine at160_M_part F hM hfl hlv hsi hbp hme hrd hda hva hgo hmo hab hte hfo hf ry (K := 0) (z0 := sp_share M f a) (by omega) ?_
  refine v_iinc_9 (pc' := 195) F d_M_part_192 rfl rfl (by decide) ?_
  refine v_goto (tgt := 151) F d_M_part_195 (by decide) ?_
  refine v_iload (pc' := 153) F d_M_part_151 rfl rfl ?_
  refine v_iconst (pc' := 154) F d_M_part_153 rfl ?_
  refine v_icmp_ge (tgt := 198) (pc' := 157) F d_M_part_154 (by decide) rfl (by omega) (by omega) (fun c154 => by exfalso; omega) (fun c154 => ?_)
  refine v_iconst (pc' := 158) F d_M_part_157 rfl ?_
  refine v_istore_10 (pc' := 160) F d_M_part_158 rfl rfl (by decide) ?_
  refine at160_M_part F hM hfl hlv hsi hbp hme hrd hda hva hgo hmo hab hte hfo hf ry (K := 0 + 1) (z0 := sp_share M f a - sp_owns M f (0) a) (by omega) ?_
  refine v_iinc_9 (pc' := 195) F d_M_part_192 rfl rfl (by decide) ?_
  refine v_goto (tgt := 151) F d_M_part_195 (by decide) ?_
  refine v_iload (pc' := 153) F d_M_part_151 rfl rfl ?_
  refine v_iconst (pc' := 154) F d_M_part_153 rfl ?_
  refine v_icmp_ge (tgt := 198) (pc' := 157) F d_M_part_154 (by decide) rfl (by omega) (by omega) (fun c154 => by exfalso; omega) (fun c154 => ?_)
  refine v_iconst (pc' := 158) F d_M_part_157 rfl ?_
  refine v_istore_10 (pc' := 160) F d_M_part_158 rfl rfl (by decide) ?_
  refine at160_M_part F hM hfl hlv hsi hbp hme hrd hda hva hgo hmo hab hte hfo hf ry (K := 0 + 1 + 1) (z0 := sp_share M f a - sp_owns M f (0) a - sp_owns M f (0 + 1) a) (by omega) ?_
  refine v_iinc_9 (pc' := 195) F d_M_part_192 rfl rfl (by decide) ?_
  refine v_goto (tgt := 151) F d_M_part_195 (by decide) ?_
  refine v_iload (pc' := 153) F d_M_part_151 rfl rfl ?_
  refine v_iconst (pc' := 154) F d_M_part_153 rfl ?_
  refine v_icmp_ge (tgt := 198) (pc' := 157) F d_M_part_154 (by decide) rfl (by omega) (by omega) (fun c154 => by exfalso; omega) (fun c154 => ?_)
  refine v_iconst (pc' := 158) F d_M_part_157 rfl ?_
  refine v_istore_10 (pc' := 160) F d_M_part_158 rfl rfl (by decide) ?_
  refine at160_M_part F hM hfl hlv hsi hbp hme hrd hda hva hgo hmo hab hte hfo hf ry (K := 0 + 1 + 1 + 1) (z0 := sp_share M f a - sp_owns M f (0) a - sp_owns M f (0 + 1) a - sp_owns M f (0 + 1 + 1) a) (by omega) ?_
  refine v_iinc_9 (pc' := 195) F d_M_part_192 rfl rfl (by decide) ?_
  refine v_goto (tgt := 151) F d_M_part_195 (by decide) ?_
  refine v_iload (pc' := 153) F d_M_part_151 rfl rfl ?_
  refine v_iconst (pc' := 154) F d_M_part_153 rfl ?_
  refine v_icmp_ge (tgt := 198) (pc' := 157) F d_M_part_154 (by decide) rfl (by omega) (by omega) (fun c154 => ?_) (fun c154 => by exfalso; omega)
  refine v_lload (pc' := 200) F d_M_part_198 rfl rfl ?_
  refine v_iload (pc' := 202) F d_M_part_200 rfl rfl ?_
  refine v_if_eq (tgt := 210) (pc' := 205) F d_M_part_202 (by decide) rfl (by omega) (fun c202 => ?_) (fun c202 => ?_)
  · refine v_lconst (pc' := 211) (z := 0) F d_M_part_210 rfl (by decide) ?_
    refine v_ladd (pc' := 212) F d_M_part_211 rfl ?_
    exact v_lreturn F d_M_part_212 rfl (Nat.le_refl _) (Nat.le_refl _) (by unfold sp_part at hp; simp only [Int.zero_add, Int.reduceAdd] at *; first | (rw [if_pos (by omega)] at hp; exact hp) | (rw [if_neg (by omega)] at hp; exact hp))
  · refine v_lload (pc' := 207) F d_M_part_205 rfl rfl ?_
    refine v_goto (tgt := 211) F d_M_part_207 (by decide) ?_
    refine v_ladd (pc' := 212) F d_M_part_211 rfl ?_
    exact v_lreturn F d_M_part_212 rfl (Nat.le_refl _) (Nat.le_refl _) (by unfold sp_part at hp; simp only [Int.zero_add, Int.reduceAdd] at *; first | (rw [if_pos (by omega)] at hp; exact hp) | (rw [if_neg (by omega)] at hp; exact hp))
set_option maxRecDepth 100000 in
set_option maxHeartbeats 4000000 in
theorem tl_M_part {p : Program} {l : Launch} {e : Env} {s : State} {m : MethodId} {args : Array Value} {below : List Frame} {meth : Method} {c : Code} {X : am_X} {h : am_H} {nx : Nat} {y : Nat} {M : MS} {f w a : Int} (F : am_Fx p s m args meth c y_M_part b_M_part 11 (some .long) [] X) (hM : RepM y M h) (hfl : 0 ≤ M 1 0 ∧ M 1 0 ≤ 20) (hlv : ∀ f : Int, 0 ≤ f → f < M 1 0 → 1 ≤ M 4 f ∧ M 4 f ≤ 12) (hsi : ∀ i : Int, 0 ≤ i → i < 240 → 0 ≤ M 5 i ∧ M 5 i ≤ 3649) (hbp : ∀ i : Int, 0 ≤ i → i < 800 → (0 ≤ M 23 i ∧ M 23 i ≤ 1000000001) ∧ (0 ≤ M 24 i ∧ M 24 i ≤ 1000000001)) (hme : 0 ≤ M 7 0 ∧ M 7 0 ≤ 60) (hrd : ∀ f : Int, 0 ≤ f → f < M 7 0 → 0 ≤ M 13 f ∧ M 13 f ≤ 40) (hda : ∀ i : Int, 0 ≤ i → i < 2400 → 0 ≤ M 14 i ∧ M 14 i ≤ 3649) (hva : ∀ i : Int, 0 ≤ i → i < 2400 → 0 ≤ M 15 i ∧ M 15 i ≤ 10000000) (hgo : ∀ i : Int, 0 ≤ i → i < 2400 → 0 ≤ M 16 i ∧ M 16 i ≤ 10000000) (hmo : ∀ f k : Int, 0 ≤ f → f < M 7 0 → 0 ≤ k → k + 1 < M 13 f → M 14 (40 * f + k) < M 14 (40 * f + 1 + k) ∧ M 16 (40 * f + k) ≤ M 15 (40 * f + 1 + k)) (hab : ∀ f : Int, 0 ≤ f → f < M 7 0 → (1 ≤ M 10 f ∧ M 10 f ≤ 1000) ∧ (1 ≤ M 11 f ∧ M 11 f ≤ 1000)) (hte : ∀ i : Int, 0 ≤ i → i < 60 → 0 ≤ M 12 i ∧ M 12 i ≤ 3649) (hfo : ∀ i : Int, 0 ≤ i → i < 60 → (0 ≤ M 8 i ∧ M 8 i ≤ 20) ∧ (0 ≤ M 9 i ∧ M 9 i ≤ 3)) (hf : 0 ≤ f ∧ f < M 1 0) (ry : 0 ≤ a ∧ a ≤ 9) (hw : 0 ≤ w ∧ w < M 4 f) {post : Outcome → am_H → Nat → Prop} (hp : post (.returned (some (lV (if sp_days M f w a = 0 then 0 else sp_part M f w a)))) h nx) : V p l e ({ frames := 3, cells := 0, slots := 0, locals := 89 }) s m args below meth c 11 X (am_Q X below s 0 0 post) h nx 0 0 48 [some (.ref y), some (iV f), some (iV w), some (iV a), none, none, none, none, none, none, none] [] := by
  have q1 := hlv f hf.1 hf.2
  have q0 := sp_days_r (w := w) hfl hlv hsi hf (by omega) ry
  refine v_aload_n (pc' := 49) (j := 0) F d_M_part_48 rfl rfl rfl ?_
  refine v_iload_n (pc' := 50) (j := 1) F d_M_part_49 rfl rfl rfl ?_
  refine v_iload_n (pc' := 51) (j := 2) F d_M_part_50 rfl rfl rfl ?_
  refine v_iload_n (pc' := 52) (j := 3) F d_M_part_51 rfl rfl rfl ?_
  refine v_callVP (pc' := 55) (C := zR_M) (T9 := zF_M) (N := 28) F d_M_part_52 rfl cal_M_days wx_885 wx_887 wp_30 rfl hM.1 (c_M_days l X _ _ _ _ _ _ _ hM hfl hlv hsi hf (by omega) ry) rfl ⟨by decide, by decide, by decide, by decide⟩ (Nat.le_of_ble_eq_true rfl) rfl rfl ?_
  refine v_if_ne (tgt := 60) (pc' := 58) F d_M_part_55 (by decide) rfl (by omega) (fun c55 => ?_) (fun c55 => ?_)
  · refine v_iconst (pc' := 61) F d_M_part_60 rfl ?_
    refine v_istore_4 (pc' := 63) F d_M_part_61 rfl rfl (by decide) ?_
    refine v_iload_n (pc' := 64) (j := 2) F d_M_part_63 rfl rfl rfl ?_
    refine v_iconst (pc' := 65) F d_M_part_64 rfl ?_
    refine v_iadd (pc' := 66) F d_M_part_65 rfl ?_
    refine v_topi (b := w + 1 + ((0 : Nat) : Int)) (by omega) ?_
    refine v_istore_5 (pc' := 68) F d_M_part_66 rfl rfl (by decide) ?_
    exact lp1_M_part (kk := (M 4 f - (w + 1)).toNat) F hM hfl hlv hsi hbp hme hrd hda hva hgo hmo hab hte hfo hf ry hw (by omega) (tl2_M_part F hM hfl hlv hsi hbp hme hrd hda hva hgo hmo hab hte hfo hf ry hw (by rw [if_neg (by omega)] at hp; exact hp)) ((M 4 f - (w + 1)).toNat + 1) 0 (by omega) (by omega)
  · refine v_lconst (pc' := 59) (z := 0) F d_M_part_58 rfl (by decide) ?_
    exact v_lreturn F d_M_part_59 rfl (Nat.le_refl _) (Nat.le_refl _) (by rw [if_pos (by omega)] at hp; exact hp)
def sp_partR (M : MS) (f w a : Int) : Int × Int × MS := if ((0 ≤ f ∧ f < M 1 0) ∧ 0 ≤ w ∧ w < M 4 f) ∧ sp_has M 1 f a = 0 then (0, (if sp_days M f w a = 0 then 0 else sp_part M f w a), M) else (if (0 ≤ f ∧ f < M 1 0) ∧ 0 ≤ w ∧ w < M 4 f then sp_has M 1 f a else 1, 0, M)
set_option maxRecDepth 100000 in
set_option maxHeartbeats 4000000 in
theorem c_M_part (l : Launch) (X : am_X) (h : am_H) (nx : Nat) (y : Nat) (M : MS) (f w a : Int) (hM : RepM y M h) (hfl : 0 ≤ M 1 0 ∧ M 1 0 ≤ 20) (hlv : ∀ f : Int, 0 ≤ f → f < M 1 0 → 1 ≤ M 4 f ∧ M 4 f ≤ 12) (hsi : ∀ i : Int, 0 ≤ i → i < 240 → 0 ≤ M 5 i ∧ M 5 i ≤ 3649) (hbp : ∀ i : Int, 0 ≤ i → i < 800 → (0 ≤ M 23 i ∧ M 23 i ≤ 1000000001) ∧ (0 ≤ M 24 i ∧ M 24 i ≤ 1000000001)) (hme : 0 ≤ M 7 0 ∧ M 7 0 ≤ 60) (hrd : ∀ f : Int, 0 ≤ f → f < M 7 0 → 0 ≤ M 13 f ∧ M 13 f ≤ 40) (hda : ∀ i : Int, 0 ≤ i → i < 2400 → 0 ≤ M 14 i ∧ M 14 i ≤ 3649) (hva : ∀ i : Int, 0 ≤ i → i < 2400 → 0 ≤ M 15 i ∧ M 15 i ≤ 10000000) (hgo : ∀ i : Int, 0 ≤ i → i < 2400 → 0 ≤ M 16 i ∧ M 16 i ≤ 10000000) (hmo : ∀ f k : Int, 0 ≤ f → f < M 7 0 → 0 ≤ k → k + 1 < M 13 f → M 14 (40 * f + k) < M 14 (40 * f + 1 + k) ∧ M 16 (40 * f + k) ≤ M 15 (40 * f + 1 + k)) (hab : ∀ f : Int, 0 ≤ f → f < M 7 0 → (1 ≤ M 10 f ∧ M 10 f ≤ 1000) ∧ (1 ≤ M 11 f ∧ M 11 f ≤ 1000)) (hte : ∀ i : Int, 0 ≤ i → i < 60 → 0 ≤ M 12 i ∧ M 12 i ≤ 3649) (hfo : ∀ i : Int, 0 ≤ i → i < 60 → (0 ≤ M 8 i ∧ M 8 i ≤ 20) ∧ (0 ≤ M 9 i ∧ M 9 i ≤ 3)) (hed : ∀ i : Int, 0 ≤ i → i < 10 → 0 ≤ M 20 i ∧ M 20 i ≤ 50) (hth : ∀ i : Int, 0 ≤ i → i < 10 → 0 ≤ M 21 i ∧ M 21 i ≤ 20) (rf : -2147483648 ≤ f ∧ f < 2147483648) (rww : -2147483648 ≤ w ∧ w < 2147483648) (ra : -2147483648 ≤ a ∧ a < 2147483648) : Cn l X y_M_part ({ frames := 3, cells := 0, slots := 0, locals := 89 }) [.ref y, iV f, iV w, iV a] h nx (mpost y h nx lV (sp_partR M f w a)) := by
  refine cn_of (k := 7) (L0 := [some (.ref y), some (iV f), some (iV w), some (iV a), none, none, none, none, none, none, none]) rfl wx_884 (Nat.le_of_ble_eq_true rfl) rfl (fun p e s m args below meth c F => ?_)
  refine v_aload_n (pc' := 1) (j := 0) F d_M_part_0 rfl rfl rfl ?_
  refine v_aload_n (pc' := 2) (j := 0) F d_M_part_1 rfl rfl rfl ?_
  refine v_iload_n (pc' := 3) (j := 1) F d_M_part_2 rfl rfl rfl ?_
  refine v_callVP (pc' := 6) (C := zR_M) (T9 := zF_M) (N := 28) F d_M_part_3 rfl cal_M_isFlat wx_766 wx_768 wp_17 rfl hM.1 (c_M_isFlat l X _ _ _ _ _ hM hfl (by omega)) rfl ⟨by decide, by decide, by decide, by decide⟩ (Nat.le_of_ble_eq_true rfl) rfl rfl ?_
  refine v_zif_eq (tgt := 39) (pc' := 9) F d_M_part_6 (by decide) rfl (fun c6 => ?_) (fun c6 => ?_)
  · refine v_iconst (pc' := 40) F d_M_part_39 rfl ?_
    refine v_iload_n (pc' := 41) (j := 1) F d_M_part_40 rfl rfl rfl ?_
    refine v_iload_n (pc' := 42) (j := 3) F d_M_part_41 rfl rfl rfl ?_
    refine v_callVM (pc' := 45) (C := zR_M) (T9 := zF_M) (N := 28) F d_M_part_42 rfl cal_M_has wx_873 wx_875 wp_29 rfl hM.1 (c_has_0 l X _ _ _ _ _ _ hM hfl hed hth (by omega) (by omega)) rfl ⟨by decide, by decide, by decide, by decide⟩ (Nat.le_of_ble_eq_true rfl) rfl rfl (fun h1 hM1 hF1 => ?_)
    refine v_if_eq (tgt := 58) (pc' := 48) F d_M_part_45 (by decide) rfl (by omega) (fun c45 => ?_) (fun c45 => by exfalso; omega)
    refine v_lconst (pc' := 59) (z := 0) F d_M_part_58 rfl (by decide) ?_
    refine v_lreturn F d_M_part_59 rfl (Nat.le_refl _) (Nat.le_refl _) ?_
    first | (exfalso; omega) | (rw [show sp_partR M f w a = (sp_has M 1 f a, 0, M) from (if_neg (by omega)).trans (by rw [if_pos (by omega)])]; exact ⟨_, hM1, ((MF.rf).tr hF1), rfl, upM_ss, eqv.note (Or.inl rfl), 0, rfl, fun q => absurd (show sp_has M 1 f a = 0 from q) (by omega)⟩) | (rw [show sp_partR M f w a = (1, 0, M) from (if_neg (by omega)).trans (by rw [if_neg (by omega)])]; exact ⟨_, hM1, ((MF.rf).tr hF1), rfl, upM_ss, eqv.note (Or.inl rfl), 0, rfl, fun q => absurd (show (1 : Int) = 0 from q) (by decide)⟩)
  · refine v_iload_n (pc' := 10) (j := 2) F d_M_part_9 rfl rfl rfl ?_
    refine v_if_lt (tgt := 39) (pc' := 13) F d_M_part_10 (by decide) rfl (by omega) (fun c10 => ?_) (fun c10 => ?_)
    · refine v_iconst (pc' := 40) F d_M_part_39 rfl ?_
      refine v_iload_n (pc' := 41) (j := 1) F d_M_part_40 rfl rfl rfl ?_
      refine v_iload_n (pc' := 42) (j := 3) F d_M_part_41 rfl rfl rfl ?_
      refine v_callVM (pc' := 45) (C := zR_M) (T9 := zF_M) (N := 28) F d_M_part_42 rfl cal_M_has wx_873 wx_875 wp_29 rfl hM.1 (c_has_0 l X _ _ _ _ _ _ hM hfl hed hth (by omega) (by omega)) rfl ⟨by decide, by decide, by decide, by decide⟩ (Nat.le_of_ble_eq_true rfl) rfl rfl (fun h2 hM2 hF2 => ?_)
      refine v_if_eq (tgt := 58) (pc' := 48) F d_M_part_45 (by decide) rfl (by omega) (fun c45 => ?_) (fun c45 => by exfalso; omega)
      refine v_lconst (pc' := 59) (z := 0) F d_M_part_58 rfl (by decide) ?_
      refine v_lreturn F d_M_part_59 rfl (Nat.le_refl _) (Nat.le_refl _) ?_
      first | (exfalso; omega) | (rw [show sp_partR M f w a = (sp_has M 1 f a, 0, M) from (if_neg (by omega)).trans (by rw [if_pos (by omega)])]; exact ⟨_, hM2, ((MF.rf).tr hF2), rfl, upM_ss, eqv.note (Or.inl rfl), 0, rfl, fun q => absurd (show sp_has M 1 f a = 0 from q) (by omega)⟩) | (rw [show sp_partR M f w a = (1, 0, M) from (if_neg (by omega)).trans (by rw [if_neg (by omega)])]; exact ⟨_, hM2, ((MF.rf).tr hF2), rfl, upM_ss, eqv.note (Or.inl rfl), 0, rfl, fun q => absurd (show (1 : Int) = 0 from q) (by decide)⟩)
    · refine v_iload_n (pc' := 14) (j := 2) F d_M_part_13 rfl rfl rfl ?_
      refine v_aload_n (pc' := 15) (j := 0) F d_M_part_14 rfl rfl rfl ?_
      refine v_getf (pc' := 18) (C := zR_M) (T := zF_M) (N := 28) (ref := "BillSharesModel") F d_M_part_15 rfl zi_M rfl 4 (by decide) wx_665 (Or.inl rfl) hM.1 rfl ?_
      refine v_aload_n (pc' := 19) (j := 0) F d_M_part_18 rfl rfl rfl ?_
      refine v_iload_n (pc' := 20) (j := 1) F d_M_part_19 rfl rfl rfl ?_
      refine v_callVP (pc' := 23) (C := zR_M) (T9 := zF_M) (N := 28) F d_M_part_20 rfl cal_M_isFlat wx_766 wx_768 wp_17 rfl hM.1 (c_M_isFlat l X _ _ _ _ _ hM hfl (by omega)) rfl ⟨by decide, by decide, by decide, by decide⟩ (Nat.le_of_ble_eq_true rfl) rfl rfl ?_
      refine v_zif_eq (tgt := 30) (pc' := 26) F d_M_part_23 (by decide) rfl (fun c23 => ?_) (fun c23 => ?_)
      · refine v_iconst (pc' := 31) F d_M_part_30 rfl ?_
        have q1 := hlv f (by omega) (by omega)
        refine mg_4 (pc' := 32) F hM d_M_part_31 rfl (by omega) (by omega) ?_
        refine v_icmp_ge (tgt := 39) (pc' := 35) F d_M_part_32 (by decide) rfl (by omega) (by omega) (fun c32 => ?_) (fun c32 => ?_)
        · refine v_iconst (pc' := 40) F d_M_part_39 rfl ?_
          refine v_iload_n (pc' := 41) (j := 1) F d_M_part_40 rfl rfl rfl ?_
          refine v_iload_n (pc' := 42) (j := 3) F d_M_part_41 rfl rfl rfl ?_
          refine v_callVM (pc' := 45) (C := zR_M) (T9 := zF_M) (N := 28) F d_M_part_42 rfl cal_M_has wx_873 wx_875 wp_29 rfl hM.1 (c_has_0 l X _ _ _ _ _ _ hM hfl hed hth (by omega) (by omega)) rfl ⟨by decide, by decide, by decide, by decide⟩ (Nat.le_of_ble_eq_true rfl) rfl rfl (fun h3 hM3 hF3 => ?_)
          refine v_if_eq (tgt := 58) (pc' := 48) F d_M_part_45 (by decide) rfl (by omega) (fun c45 => ?_) (fun c45 => by exfalso; omega)
          refine v_lconst (pc' := 59) (z := 0) F d_M_part_58 rfl (by decide) ?_
          refine v_lreturn F d_M_part_59 rfl (Nat.le_refl _) (Nat.le_refl _) ?_
          first | (exfalso; omega) | (rw [show sp_partR M f w a = (sp_has M 1 f a, 0, M) from (if_neg (by omega)).trans (by rw [if_pos (by omega)])]; exact ⟨_, hM3, ((MF.rf).tr hF3), rfl, upM_ss, eqv.note (Or.inl rfl), 0, rfl, fun q => absurd (show sp_has M 1 f a = 0 from q) (by omega)⟩) | (rw [show sp_partR M f w a = (1, 0, M) from (if_neg (by omega)).trans (by rw [if_neg (by omega)])]; exact ⟨_, hM3, ((MF.rf).tr hF3), rfl, upM_ss, eqv.note (Or.inl rfl), 0, rfl, fun q => absurd (show (1 : Int) = 0 from q) (by decide)⟩)
        · refine v_iconst (pc' := 36) F d_M_part_35 rfl ?_
          refine v_goto (tgt := 40) F d_M_part_36 (by decide) ?_
          refine v_iload_n (pc' := 41) (j := 1) F d_M_part_40 rfl rfl rfl ?_
          refine v_iload_n (pc' := 42) (j := 3) F d_M_part_41 rfl rfl rfl ?_
          refine v_callVM (pc' := 45) (C := zR_M) (T9 := zF_M) (N := 28) F d_M_part_42 rfl cal_M_has wx_873 wx_875 wp_29 rfl hM.1 (c_M_has l X _ _ _ _ _ _ _ hM hfl hed hth (by omega) (by omega) (by omega)) rfl ⟨by decide, by decide, by decide, by decide⟩ (Nat.le_of_ble_eq_true rfl) rfl rfl (fun h4 hM4 hF4 => ?_)
          refine v_zif_eq (tgt := 58) (pc' := 48) F d_M_part_45 (by decide) rfl (fun c45 => ?_) (fun c45 => ?_)
          · refine v_lconst (pc' := 59) (z := 0) F d_M_part_58 rfl (by decide) ?_
            refine v_lreturn F d_M_part_59 rfl (Nat.le_refl _) (Nat.le_refl _) ?_
            first | (exfalso; omega) | (rw [show sp_partR M f w a = (sp_has M 1 f a, 0, M) from (if_neg (by omega)).trans (by rw [if_pos (by omega)])]; exact ⟨_, hM4, ((MF.rf).tr hF4), rfl, upM_ss, eqv.note (Or.inl rfl), 0, rfl, fun q => absurd (show sp_has M 1 f a = 0 from q) (by omega)⟩) | (rw [show sp_partR M f w a = (1, 0, M) from (if_neg (by omega)).trans (by rw [if_neg (by omega)])]; exact ⟨_, hM4, ((MF.rf).tr hF4), rfl, upM_ss, eqv.note (Or.inl rfl), 0, rfl, fun q => absurd (show (1 : Int) = 0 from q) (by decide)⟩)
          · first | (exfalso; omega) | (have q8 : (0 ≤ f ∧ f < M 1 0) ∧ 0 ≤ a ∧ a ≤ 9 := (by unfold sp_has at c45; split at c45 <;> omega); refine tl_M_part (M := upM M 0 0 (sp_has M 1 f a)) F hM4 hfl hlv hsi hbp hme hrd hda hva hgo hmo hab hte hfo q8.1 q8.2 (show 0 ≤ w ∧ w < M 4 f by omega) ?_; rw [show sp_partR M f w a = (0, (if sp_days M f w a = 0 then 0 else sp_part M f w a), M) from if_pos (by omega)]; exact ⟨_, hM4, ((MF.rf).tr hF4), rfl, upM_ss.trans (by omega), eqv.note (Or.inl rfl), _, rfl, fun _ => rfl⟩)
      · refine v_iload_n (pc' := 27) (j := 1) F d_M_part_26 rfl rfl rfl ?_
        refine v_goto (tgt := 31) F d_M_part_27 (by decide) ?_
        have q1 := hlv f (by omega) (by omega)
        refine mg_4 (pc' := 32) F hM d_M_part_31 rfl (by omega) (by omega) ?_
        refine v_icmp_ge (tgt := 39) (pc' := 35) F d_M_part_32 (by decide) rfl (by omega) (by omega) (fun c32 => ?_) (fun c32 => ?_)
        · refine v_iconst (pc' := 40) F d_M_part_39 rfl ?_
          refine v_iload_n (pc' := 41) (j := 1) F d_M_part_40 rfl rfl rfl ?_
          refine v_iload_n (pc' := 42) (j := 3) F d_M_part_41 rfl rfl rfl ?_
          refine v_callVM (pc' := 45) (C := zR_M) (T9 := zF_M) (N := 28) F d_M_part_42 rfl cal_M_has wx_873 wx_875 wp_29 rfl hM.1 (c_has_0 l X _ _ _ _ _ _ hM hfl hed hth (by omega) (by omega)) rfl ⟨by decide, by decide, by decide, by decide⟩ (Nat.le_of_ble_eq_true rfl) rfl rfl (fun h5 hM5 hF5 => ?_)
          refine v_if_eq (tgt := 58) (pc' := 48) F d_M_part_45 (by decide) rfl (by omega) (fun c45 => ?_) (fun c45 => by exfalso; omega)
          refine v_lconst (pc' := 59) (z := 0) F d_M_part_58 rfl (by decide) ?_
          refine v_lreturn F d_M_part_59 rfl (Nat.le_refl _) (Nat.le_refl _) ?_
          first | (exfalso; omega) | (rw [show sp_partR M f w a = (sp_has M 1 f a, 0, M) from (if_neg (by omega)).trans (by rw [if_pos (by omega)])]; exact ⟨_, hM5, ((MF.rf).tr hF5), rfl, upM_ss, eqv.note (Or.inl rfl), 0, rfl, fun q => absurd (show sp_has M 1 f a = 0 from q) (by omega)⟩) | (rw [show sp_partR M f w a = (1, 0, M) from (if_neg (by omega)).trans (by rw [if_neg (by omega)])]; exact ⟨_, hM5, ((MF.rf).tr hF5), rfl, upM_ss, eqv.note (Or.inl rfl), 0, rfl, fun q => absurd (show (1 : Int) = 0 from q) (by decide)⟩)
        · refine v_iconst (pc' := 36) F d_M_part_35 rfl ?_
          refine v_goto (tgt := 40) F d_M_part_36 (by decide) ?_
          refine v_iload_n (pc' := 41) (j := 1) F d_M_part_40 rfl rfl rfl ?_
          refine v_iload_n (pc' := 42) (j := 3) F d_M_part_41 rfl rfl rfl ?_
          refine v_callVM (pc' := 45) (C := zR_M) (T9 := zF_M) (N := 28) F d_M_part_42 rfl cal_M_has wx_873 wx_875 wp_29 rfl hM.1 (c_M_has l X _ _ _ _ _ _ _ hM hfl hed hth (by omega) (by omega) (by omega)) rfl ⟨by decide, by decide, by decide, by decide⟩ (Nat.le_of_ble_eq_true rfl) rfl rfl (fun h6 hM6 hF6 => ?_)
          refine v_zif_eq (tgt := 58) (pc' := 48) F d_M_part_45 (by decide) rfl (fun c45 => ?_) (fun c45 => ?_)
          · refine v_lconst (pc' := 59) (z := 0) F d_M_part_58 rfl (by decide) ?_
            refine v_lreturn F d_M_part_59 rfl (Nat.le_refl _) (Nat.le_refl _) ?_
            first | (exfalso; omega) | (rw [show sp_partR M f w a = (sp_has M 1 f a, 0, M) from (if_neg (by omega)).trans (by rw [if_pos (by omega)])]; exact ⟨_, hM6, ((MF.rf).tr hF6), rfl, upM_ss, eqv.note (Or.inl rfl), 0, rfl, fun q => absurd (show sp_has M 1 f a = 0 from q) (by omega)⟩) | (rw [show sp_partR M f w a = (1, 0, M) from (if_neg (by omega)).trans (by rw [if_neg (by omega)])]; exact ⟨_, hM6, ((MF.rf).tr hF6), rfl, upM_ss, eqv.note (Or.inl rfl), 0, rfl, fun q => absurd (show (1 : Int) = 0 from q) (by decide)⟩)
          · first | (exfalso; omega) | (have q8 : (0 ≤ f ∧ f < M 1 0) ∧ 0 ≤ a ∧ a ≤ 9 := (by unfold sp_has at c45; split at c45 <;> omega); refine tl_M_part (M := upM M 0 0 (sp_has M 1 f a)) F hM6 hfl hlv hsi hbp hme hrd hda hva hgo hmo hab hte hfo q8.1 q8.2 (show 0 ≤ w ∧ w < M 4 f by omega) ?_; rw [show sp_partR M f w a = (0, (if sp_days M f w a = 0 then 0 else sp_part M f w a), M) from if_pos (by omega)]; exact ⟨_, hM6, ((MF.rf).tr hF6), rfl, upM_ss.trans (by omega), eqv.note (Or.inl rfl), _, rfl, fun _ => rfl⟩)
