/-! the reference's small methods (written by wip/whole/mm1.py) -/
set_option maxRecDepth 100000 in
set_option maxHeartbeats 4000000 in
theorem c_M_isIn (l : Launch) (X : am_X) (h : am_H) (nx : Nat) (v a b : Int) (rv : -2147483648 ≤ v ∧ v < 2147483648) (ra : -2147483648 ≤ a ∧ a < 2147483648) (rb : -2147483648 ≤ b ∧ b < 2147483648) : CnP l X y_M_isIn ({ frames := 0, cells := 0, slots := 0, locals := 0 }) [iV v, iV a, iV b] h nx (iV (bI (a ≤ v ∧ v ≤ b))) := by
  refine cn_of (k := 0) (L0 := [some (iV v), some (iV a), some (iV b)]) rfl wx_757 (Nat.le_of_ble_eq_true rfl) rfl (fun p e s m args below meth c F => ?_)
  refine v_iload_n (pc' := 1) (j := 0) F d_M_isIn_0 rfl rfl rfl ?_
  refine v_iload_n (pc' := 2) (j := 1) F d_M_isIn_1 rfl rfl rfl ?_
  refine v_icmp_lt (tgt := 14) (pc' := 5) F d_M_isIn_2 (by decide) rfl (by omega) (by omega) (fun c2 => ?_) (fun c2 => ?_)
  · refine v_iconst (pc' := 15) F d_M_isIn_14 rfl ?_
    exact v_ireturn F rfl d_M_isIn_15 rfl rfl (Nat.le_refl _) (Nat.le_refl _) ⟨by first | rw [bI_t (by omega)] | rw [bI_f (by omega)], rfl, rfl⟩
  · refine v_iload_n (pc' := 6) (j := 0) F d_M_isIn_5 rfl rfl rfl ?_
    refine v_iload_n (pc' := 7) (j := 2) F d_M_isIn_6 rfl rfl rfl ?_
    refine v_icmp_gt (tgt := 14) (pc' := 10) F d_M_isIn_7 (by decide) rfl (by omega) (by omega) (fun c7 => ?_) (fun c7 => ?_)
    · refine v_iconst (pc' := 15) F d_M_isIn_14 rfl ?_
      exact v_ireturn F rfl d_M_isIn_15 rfl rfl (Nat.le_refl _) (Nat.le_refl _) ⟨by first | rw [bI_t (by omega)] | rw [bI_f (by omega)], rfl, rfl⟩
    · refine v_iconst (pc' := 11) F d_M_isIn_10 rfl ?_
      refine v_goto (tgt := 15) F d_M_isIn_11 (by decide) ?_
      exact v_ireturn F rfl d_M_isIn_15 rfl rfl (Nat.le_refl _) (Nat.le_refl _) ⟨by first | rw [bI_t (by omega)] | rw [bI_f (by omega)], rfl, rfl⟩
set_option maxRecDepth 100000 in
set_option maxHeartbeats 4000000 in
theorem c_M_isValue (l : Launch) (X : am_X) (h : am_H) (nx : Nat) (v : Int) (rv : -2147483648 ≤ v ∧ v < 2147483648) : CnP l X y_M_isValue ({ frames := 1, cells := 0, slots := 0, locals := 22 }) [iV v] h nx (iV (bI (0 ≤ v ∧ v ≤ 10000000))) := by
  refine cn_of (k := 0) (L0 := [some (iV v)]) rfl wx_784 (Nat.le_of_ble_eq_true rfl) rfl (fun p e s m args below meth c F => ?_)
  refine v_iload_n (pc' := 1) (j := 0) F d_M_isValue_0 rfl rfl rfl ?_
  refine v_iconst (pc' := 2) F d_M_isValue_1 rfl ?_
  refine v_ldc (pc' := 4) (z := 10000000) F d_M_isValue_2 rfl wx_785 (by decide) ?_
  refine v_callSP (pc' := 7) F d_M_isValue_4 rfl cal_M_isIn wx_755 wx_756 (c_M_isIn l X h nx v 0 10000000 rv (by omega) (by omega)) rfl ⟨by decide, by decide, by decide, by decide⟩ (Nat.le_of_ble_eq_true rfl) rfl rfl ?_
  exact v_ireturn F rfl d_M_isValue_7 rfl (by rcases bI_r (0 ≤ v ∧ v ≤ 10000000) with q | q <;> rw [q] <;> rfl) (Nat.le_refl _) (Nat.le_refl _) ⟨rfl, rfl, rfl⟩
set_option maxRecDepth 100000 in
set_option maxHeartbeats 4000000 in
theorem c_M_isFlat (l : Launch) (X : am_X) (h : am_H) (nx : Nat) (y : Nat) (M : MS) (f : Int) (hM : RepM y M h) (hfl : 0 ≤ M 1 0 ∧ M 1 0 ≤ 20) (rf : -2147483648 ≤ f ∧ f < 2147483648) : CnP l X y_M_isFlat ({ frames := 0, cells := 0, slots := 0, locals := 0 }) [.ref y, iV f] h nx (iV (bI (0 ≤ f ∧ f < M 1 0))) := by
  refine cn_of (k := 0) (L0 := [some (.ref y), some (iV f)]) rfl wx_769 (Nat.le_of_ble_eq_true rfl) rfl (fun p e s m args below meth c F => ?_)
  refine v_iload_n (pc' := 1) (j := 1) F d_M_isFlat_0 rfl rfl rfl ?_
  refine v_if_lt (tgt := 16) (pc' := 4) F d_M_isFlat_1 (by decide) rfl (by omega) (fun c1 => ?_) (fun c1 => ?_)
  · refine v_iconst (pc' := 17) F d_M_isFlat_16 rfl ?_
    exact v_ireturn F rfl d_M_isFlat_17 rfl rfl (Nat.le_refl _) (Nat.le_refl _) ⟨by first | rw [bI_t (by omega)] | rw [bI_f (by omega)], rfl, rfl⟩
  · refine v_iload_n (pc' := 5) (j := 1) F d_M_isFlat_4 rfl rfl rfl ?_
    refine v_aload_n (pc' := 6) (j := 0) F d_M_isFlat_5 rfl rfl rfl ?_
    refine v_getf (pc' := 9) (C := zR_M) (T := zF_M) (N := 28) (ref := "BillSharesModel") F d_M_isFlat_6 rfl zi_M rfl 1 (by decide) wx_662 (Or.inl rfl) hM.1 rfl ?_
    refine v_icmp_ge (tgt := 16) (pc' := 12) F d_M_isFlat_9 (by decide) rfl (by omega) (by omega) (fun c9 => ?_) (fun c9 => ?_)
    · refine v_iconst (pc' := 17) F d_M_isFlat_16 rfl ?_
      exact v_ireturn F rfl d_M_isFlat_17 rfl rfl (Nat.le_refl _) (Nat.le_refl _) ⟨by first | rw [bI_t (by omega)] | rw [bI_f (by omega)], rfl, rfl⟩
    · refine v_iconst (pc' := 13) F d_M_isFlat_12 rfl ?_
      refine v_goto (tgt := 17) F d_M_isFlat_13 (by decide) ?_
      exact v_ireturn F rfl d_M_isFlat_17 rfl rfl (Nat.le_refl _) (Nat.le_refl _) ⟨by first | rw [bI_t (by omega)] | rw [bI_f (by omega)], rfl, rfl⟩
set_option maxRecDepth 100000 in
set_option maxHeartbeats 4000000 in
theorem c_M_isMeter (l : Launch) (X : am_X) (h : am_H) (nx : Nat) (y : Nat) (M : MS) (f : Int) (hM : RepM y M h) (hme : 0 ≤ M 7 0 ∧ M 7 0 ≤ 60) (rf : -2147483648 ≤ f ∧ f < 2147483648) : CnP l X y_M_isMeter ({ frames := 0, cells := 0, slots := 0, locals := 0 }) [.ref y, iV f] h nx (iV (bI (0 ≤ f ∧ f < M 7 0))) := by
  refine cn_of (k := 0) (L0 := [some (.ref y), some (iV f)]) rfl wx_781 (Nat.le_of_ble_eq_true rfl) rfl (fun p e s m args below meth c F => ?_)
  refine v_iload_n (pc' := 1) (j := 1) F d_M_isMeter_0 rfl rfl rfl ?_
  refine v_if_lt (tgt := 16) (pc' := 4) F d_M_isMeter_1 (by decide) rfl (by omega) (fun c1 => ?_) (fun c1 => ?_)
  · refine v_iconst (pc' := 17) F d_M_isMeter_16 rfl ?_
    exact v_ireturn F rfl d_M_isMeter_17 rfl rfl (Nat.le_refl _) (Nat.le_refl _) ⟨by first | rw [bI_t (by omega)] | rw [bI_f (by omega)], rfl, rfl⟩
  · refine v_iload_n (pc' := 5) (j := 1) F d_M_isMeter_4 rfl rfl rfl ?_
    refine v_aload_n (pc' := 6) (j := 0) F d_M_isMeter_5 rfl rfl rfl ?_
    refine v_getf (pc' := 9) (C := zR_M) (T := zF_M) (N := 28) (ref := "BillSharesModel") F d_M_isMeter_6 rfl zi_M rfl 7 (by decide) wx_668 (Or.inl rfl) hM.1 rfl ?_
    refine v_icmp_ge (tgt := 16) (pc' := 12) F d_M_isMeter_9 (by decide) rfl (by omega) (by omega) (fun c9 => ?_) (fun c9 => ?_)
    · refine v_iconst (pc' := 17) F d_M_isMeter_16 rfl ?_
      exact v_ireturn F rfl d_M_isMeter_17 rfl rfl (Nat.le_refl _) (Nat.le_refl _) ⟨by first | rw [bI_t (by omega)] | rw [bI_f (by omega)], rfl, rfl⟩
    · refine v_iconst (pc' := 13) F d_M_isMeter_12 rfl ?_
      refine v_goto (tgt := 17) F d_M_isMeter_13 (by decide) ?_
      exact v_ireturn F rfl d_M_isMeter_17 rfl rfl (Nat.le_refl _) (Nat.le_refl _) ⟨by first | rw [bI_t (by omega)] | rw [bI_f (by omega)], rfl, rfl⟩
set_option maxRecDepth 100000 in
set_option maxHeartbeats 4000000 in
theorem c_M_thrown (l : Launch) (X : am_X) (h : am_H) (nx : Nat) (y : Nat) (M : MS) (hM : RepM y M h) : CnP l X y_M_thrown ({ frames := 0, cells := 0, slots := 0, locals := 0 }) [.ref y] h nx (iV (M 0 0)) := by
  refine cn_of (k := 0) (L0 := [some (.ref y)]) rfl wx_750 (Nat.le_of_ble_eq_true rfl) rfl (fun p e s m args below meth c F => ?_)
  refine v_aload_n (pc' := 1) (j := 0) F d_M_thrown_0 rfl rfl rfl ?_
  refine v_getf (pc' := 4) (C := zR_M) (T := zF_M) (N := 28) (ref := "BillSharesModel") F d_M_thrown_1 rfl zi_M rfl 0 (by decide) wx_661 (Or.inl rfl) hM.1 rfl ?_
  exact v_ireturn F rfl d_M_thrown_4 rfl rfl (Nat.le_refl _) (Nat.le_refl _) ⟨rfl, rfl, rfl⟩
/-- what allows() notes -/
noncomputable def sp_code (a b : Int) : Int := if a = 0 then 1 else if b = 0 then 2 else 0
theorem sp_code_1 {a b : Int} (h : a = 0) : sp_code a b = 1 := if_pos h
theorem sp_code_2 {a b : Int} (h : ¬ a = 0) (h2 : b = 0) : sp_code a b = 2 := by unfold sp_code; rw [if_neg h, if_pos h2]
theorem sp_code_0 {a b : Int} (h : ¬ a = 0) (h2 : ¬ b = 0) : sp_code a b = 0 := by unfold sp_code; rw [if_neg h, if_neg h2]
set_option maxRecDepth 100000 in
set_option maxHeartbeats 4000000 in
theorem c_M_allows (l : Launch) (X : am_X) (h : am_H) (nx : Nat) (y : Nat) (M : MS) (a b : Int) (hM : RepM y M h) (ra : -2147483648 ≤ a ∧ a < 2147483648) (rb : -2147483648 ≤ b ∧ b < 2147483648) : Cn l X y_M_allows ({ frames := 0, cells := 0, slots := 0, locals := 0 }) [.ref y, iV a, iV b] h nx (fun o h' nx' => RepM y (upM M 0 0 (sp_code a b)) h' ∧ MF y h h' ∧ nx' = nx ∧ o = .returned (some (iV (bI (sp_code a b = 0))))) := by
  refine cn_of (k := 0) (L0 := [some (.ref y), some (iV a), some (iV b)]) rfl wx_761 (Nat.le_of_ble_eq_true rfl) rfl (fun p e s m args below meth c F => ?_)
  refine v_aload_n (pc' := 1) (j := 0) F d_M_allows_0 rfl rfl rfl ?_
  refine v_iload_n (pc' := 2) (j := 1) F d_M_allows_1 rfl rfl rfl ?_
  refine v_if_ne (tgt := 9) (pc' := 5) F d_M_allows_2 (by decide) rfl (by omega) (fun c2 => ?_) (fun c2 => ?_)
  · refine v_iload_n (pc' := 10) (j := 2) F d_M_allows_9 rfl rfl rfl ?_
    refine v_if_ne (tgt := 17) (pc' := 13) F d_M_allows_10 (by decide) rfl (by omega) (fun c10 => ?_) (fun c10 => ?_)
    · refine v_iconst (pc' := 18) F d_M_allows_17 rfl ?_
      refine mp_0 (pc' := 21) F hM d_M_allows_18 rfl wx_661 (fun h1 hM1 hF1 => ?_)
      refine v_aload_n (pc' := 22) (j := 0) F d_M_allows_21 rfl rfl rfl ?_
      refine v_getf (pc' := 25) (C := zR_M) (T := zF_M) (N := 28) (ref := "BillSharesModel") F d_M_allows_22 rfl zi_M rfl 0 (by decide) wx_661 (Or.inl rfl) hM1.1 rfl ?_
      refine v_topi upM_ss ?_
      refine v_if_ne (tgt := 32) (pc' := 28) F d_M_allows_25 (by decide) rfl (by omega) (fun c25 => ?_) (fun c25 => ?_)
      · refine v_iconst (pc' := 33) F d_M_allows_32 rfl ?_
        refine v_ireturn F rfl d_M_allows_33 rfl rfl (Nat.le_refl _) (Nat.le_refl _) ?_
        first | (exfalso; omega) | (rw [sp_code_1 c2]; exact ⟨hM1, ((MF.rf).tr hF1), rfl, by rw [bI_f (by decide)]⟩) | (rw [sp_code_2 c2 c10]; exact ⟨hM1, ((MF.rf).tr hF1), rfl, by rw [bI_f (by decide)]⟩) | (rw [sp_code_0 c2 c10]; exact ⟨hM1, ((MF.rf).tr hF1), rfl, by rw [bI_t rfl]⟩)
      · refine v_iconst (pc' := 29) F d_M_allows_28 rfl ?_
        refine v_goto (tgt := 33) F d_M_allows_29 (by decide) ?_
        refine v_ireturn F rfl d_M_allows_33 rfl rfl (Nat.le_refl _) (Nat.le_refl _) ?_
        first | (exfalso; omega) | (rw [sp_code_1 c2]; exact ⟨hM1, ((MF.rf).tr hF1), rfl, by rw [bI_f (by decide)]⟩) | (rw [sp_code_2 c2 c10]; exact ⟨hM1, ((MF.rf).tr hF1), rfl, by rw [bI_f (by decide)]⟩) | (rw [sp_code_0 c2 c10]; exact ⟨hM1, ((MF.rf).tr hF1), rfl, by rw [bI_t rfl]⟩)
    · refine v_iconst (pc' := 14) F d_M_allows_13 rfl ?_
      refine v_goto (tgt := 18) F d_M_allows_14 (by decide) ?_
      refine mp_0 (pc' := 21) F hM d_M_allows_18 rfl wx_661 (fun h2 hM2 hF2 => ?_)
      refine v_aload_n (pc' := 22) (j := 0) F d_M_allows_21 rfl rfl rfl ?_
      refine v_getf (pc' := 25) (C := zR_M) (T := zF_M) (N := 28) (ref := "BillSharesModel") F d_M_allows_22 rfl zi_M rfl 0 (by decide) wx_661 (Or.inl rfl) hM2.1 rfl ?_
      refine v_topi upM_ss ?_
      refine v_if_ne (tgt := 32) (pc' := 28) F d_M_allows_25 (by decide) rfl (by omega) (fun c25 => ?_) (fun c25 => ?_)
      · refine v_iconst (pc' := 33) F d_M_allows_32 rfl ?_
        refine v_ireturn F rfl d_M_allows_33 rfl rfl (Nat.le_refl _) (Nat.le_refl _) ?_
        first | (exfalso; omega) | (rw [sp_code_1 c2]; exact ⟨hM2, ((MF.rf).tr hF2), rfl, by rw [bI_f (by decide)]⟩) | (rw [sp_code_2 c2 c10]; exact ⟨hM2, ((MF.rf).tr hF2), rfl, by rw [bI_f (by decide)]⟩) | (rw [sp_code_0 c2 c10]; exact ⟨hM2, ((MF.rf).tr hF2), rfl, by rw [bI_t rfl]⟩)
      · refine v_iconst (pc' := 29) F d_M_allows_28 rfl ?_
        refine v_goto (tgt := 33) F d_M_allows_29 (by decide) ?_
        refine v_ireturn F rfl d_M_allows_33 rfl rfl (Nat.le_refl _) (Nat.le_refl _) ?_
        first | (exfalso; omega) | (rw [sp_code_1 c2]; exact ⟨hM2, ((MF.rf).tr hF2), rfl, by rw [bI_f (by decide)]⟩) | (rw [sp_code_2 c2 c10]; exact ⟨hM2, ((MF.rf).tr hF2), rfl, by rw [bI_f (by decide)]⟩) | (rw [sp_code_0 c2 c10]; exact ⟨hM2, ((MF.rf).tr hF2), rfl, by rw [bI_t rfl]⟩)
  · refine v_iconst (pc' := 6) F d_M_allows_5 rfl ?_
    refine v_goto (tgt := 18) F d_M_allows_6 (by decide) ?_
    refine mp_0 (pc' := 21) F hM d_M_allows_18 rfl wx_661 (fun h3 hM3 hF3 => ?_)
    refine v_aload_n (pc' := 22) (j := 0) F d_M_allows_21 rfl rfl rfl ?_
    refine v_getf (pc' := 25) (C := zR_M) (T := zF_M) (N := 28) (ref := "BillSharesModel") F d_M_allows_22 rfl zi_M rfl 0 (by decide) wx_661 (Or.inl rfl) hM3.1 rfl ?_
    refine v_topi upM_ss ?_
    refine v_if_ne (tgt := 32) (pc' := 28) F d_M_allows_25 (by decide) rfl (by omega) (fun c25 => ?_) (fun c25 => ?_)
    · refine v_iconst (pc' := 33) F d_M_allows_32 rfl ?_
      refine v_ireturn F rfl d_M_allows_33 rfl rfl (Nat.le_refl _) (Nat.le_refl _) ?_
      first | (exfalso; omega) | (rw [sp_code_1 c2]; exact ⟨hM3, ((MF.rf).tr hF3), rfl, by rw [bI_f (by decide)]⟩) | (rw [sp_code_2 c2 c10]; exact ⟨hM3, ((MF.rf).tr hF3), rfl, by rw [bI_f (by decide)]⟩) | (rw [sp_code_0 c2 c10]; exact ⟨hM3, ((MF.rf).tr hF3), rfl, by rw [bI_t rfl]⟩)
    · refine v_iconst (pc' := 29) F d_M_allows_28 rfl ?_
      refine v_goto (tgt := 33) F d_M_allows_29 (by decide) ?_
      refine v_ireturn F rfl d_M_allows_33 rfl rfl (Nat.le_refl _) (Nat.le_refl _) ?_
      first | (exfalso; omega) | (rw [sp_code_1 c2]; exact ⟨hM3, ((MF.rf).tr hF3), rfl, by rw [bI_f (by decide)]⟩) | (rw [sp_code_2 c2 c10]; exact ⟨hM3, ((MF.rf).tr hF3), rfl, by rw [bI_f (by decide)]⟩) | (rw [sp_code_0 c2 c10]; exact ⟨hM3, ((MF.rf).tr hF3), rfl, by rw [bI_t rfl]⟩)
