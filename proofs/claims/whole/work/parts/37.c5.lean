/-! part of the class (written by wip/whole/cc5.py) -/
theorem ld_gt {S : Int → Int} {E : Int} : ∀ (k : Nat) (j : Int), sp_ld S E k < j → j ≤ (k : Int) → ¬ S j < E
  | 0, j, h1, h2 => by simp [sp_ld] at h1; omega
  | k + 1, j, h1, h2 => by
    unfold sp_ld at h1
    by_cases hq : S ((k : Int) + 1) < E
    · rw [if_pos hq] at h1; omega
    · rw [if_neg hq] at h1
      by_cases hj : j = (k : Int) + 1
      · rw [hj]; exact hq
      · exact ld_gt k j h1 (by omega)
theorem ld_at {S : Int → Int} {E : Int} : ∀ k : Nat, sp_ld S E k = 0 ∨ S (sp_ld S E k) < E
  | 0 => Or.inl rfl
  | k + 1 => by
    unfold sp_ld
    by_cases hq : S ((k : Int) + 1) < E
    · rw [if_pos hq]; exact Or.inr hq
    · rw [if_neg hq]; exact ld_at k
theorem sumI_z {g : Int → Int} {m : Nat} : ∀ d : Nat, (∀ i : Nat, m ≤ i → i < m + d → g (i : Int) = 0) → sumI g (m + d) = sumI g m
  | 0, _ => rfl
  | d + 1, h => by
    show sumI g (m + d) + g ((m + d : Nat) : Int) = _
    rw [sumI_z d (fun i h1 h2 => h i h1 (by omega)), h (m + d) (by omega) (by omega)]
    omega
theorem lastf_1 {D : Int → Int} {w : Int} : ∀ j : Nat, (∀ i : Nat, i < j → D (w + 1 + (i : Int)) = 0) → sp_lastf D w j = 1
  | 0, _ => rfl
  | j + 1, h => by
    unfold sp_lastf
    rw [lastf_1 j (fun i hi => h i (by omega)), if_neg (by decide), if_pos (h j (by omega))]
theorem lastf_0 {D : Int → Int} {w : Int} : ∀ (j i : Nat), i < j → D (w + 1 + (i : Int)) ≠ 0 → sp_lastf D w j = 0
  | 0, i, hi, _ => absurd hi (by omega)
  | j + 1, i, hi, hd => by
    unfold sp_lastf
    by_cases hj : i = j
    · subst hj
      by_cases hz : sp_lastf D w i = 0
      · exact if_pos hz
      · exact (if_neg hz).trans (if_neg hd)
    · rw [if_pos (lastf_0 j i (by omega) hd)]
theorem lo_begin {M : MS} {f w a : Int} : sp_lo M f w a = sp_begin M f w a := by
  unfold sp_lo sp_begin
  split <;> split <;> omega
theorem hi_end {M : MS} {f w a : Int} (ry : 0 ≤ a ∧ a ≤ 9) : sp_hi M f w a = sp_end M f w a := by
  unfold sp_hi sp_end sp_till
  rw [show 12 * f + (w + 1) = 12 * f + w + 1 by omega]
  by_cases hq : w + 1 < M 4 f
  · rw [if_pos hq]
    split <;> split <;> omega
  · rw [if_neg hq]
    split <;> split <;> omega
theorem own_0 {M : MS} {f k w a : Int} (h : sp_days M f w a = 0) : sp_own M f k w a = 0 := by
  unfold sp_own
  rw [h]
  simp
theorem pbf_own {M : MS} {f w a : Int} (ry : 0 ≤ a ∧ a ≤ 9) : sp_pbf M f w a = sp_own M f 0 w a + sp_own M f 1 w a + sp_own M f 2 w a + sp_own M f 3 w a := by
  unfold sp_pbf
  rw [lo_begin, hi_end ry]
  by_cases hq : sp_end M f w a ≤ sp_begin M f w a
  · rw [if_pos hq]
    have hd : sp_days M f w a = 0 := by unfold sp_days; split <;> omega
    rw [own_0 hd, own_0 hd, own_0 hd, own_0 hd]
    rfl
  · rw [if_neg hq]
    have hd : sp_days M f w a = sp_end M f w a - sp_begin M f w a := by unfold sp_days; split <;> omega
    have e : ∀ k : Int, sp_pbk M f w a k = sp_own M f k w a := fun k => by
      unfold sp_pbk sp_own sp_upb
      rw [lo_begin, hi_end ry, hd, show 4 * (20 * a + f) + k = 80 * a + 4 * f + k by omega]
      by_cases hz : sp_ally M f k a = 0
      · rw [if_pos hz, if_pos hz]
      · rw [if_neg hz, if_neg hz, if_neg (by omega)]
    rw [e, e, e, e]
abbrev ldf (M : MS) (f a : Int) : Int := sp_ld (fun w => M 5 (12 * f + w)) (365 * a + 365) (M 4 f - 1).toNat
theorem ldf_r {M : MS} (hI : RI M) {f a : Int} (hf : 0 ≤ f ∧ f < M 1 0) : 0 ≤ ldf M f a ∧ ldf M f a < M 4 f := by
  have q := hI.hlv f hf.1 hf.2
  have := sp_ld_r (fun w => M 5 (12 * f + w)) (365 * a + 365) (M 4 f - 1).toNat
  unfold ldf
  omega
theorem days_hi {M : MS} (hI : RI M) {f a w : Int} (hf : 0 ≤ f ∧ f < M 1 0) (ry : 0 ≤ a ∧ a ≤ 9) (h1 : ldf M f a < w) (h2 : w < M 4 f) : sp_days M f w a = 0 := by
  have q : ¬ M 5 (12 * f + w) < 365 * a + 365 := ld_gt (S := fun w => M 5 (12 * f + w)) _ w h1 (by omega)
  have e1 : 365 * a + 365 ≤ sp_begin M f w a := by unfold sp_begin; split <;> omega
  have e2 : sp_end M f w a ≤ 365 * a + 365 := by unfold sp_end; split <;> omega
  unfold sp_days
  split <;> omega
theorem days_ld {M : MS} (hI : RI M) {f a : Int} (hf : 0 ≤ f ∧ f < M 1 0) (ry : 0 ≤ a ∧ a ≤ 9) : sp_days M f (ldf M f a) a ≠ 0 := by
  have qr := ldf_r hI (a := a) hf
  have q0 := hI.hfl
  have q1 : M 5 (12 * f + ldf M f a) < 365 * a + 365 := by
    rcases ld_at (S := fun w => M 5 (12 * f + w)) (E := 365 * a + 365) (M 4 f - 1).toNat with z | z
    · have e : ldf M f a = 0 := z
      have := hI.hs0 f hf.1 (by omega)
      rw [e, Int.add_zero]
      omega
    · exact z
  have q2 : ldf M f a + 1 < M 4 f → ¬ M 5 (12 * f + (ldf M f a + 1)) < 365 * a + 365 := fun z => ld_gt (S := fun w => M 5 (12 * f + w)) (E := 365 * a + 365) (M 4 f - 1).toNat (ldf M f a + 1) (by show ldf M f a < ldf M f a + 1; omega) (by omega)
  have e1 : sp_begin M f (ldf M f a) a < 365 * a + 365 := by unfold sp_begin; split <;> omega
  have e2 : sp_end M f (ldf M f a) a = 365 * a + 365 := by
    unfold sp_end sp_till
    by_cases hq : ldf M f a + 1 < M 4 f
    · have := q2 hq
      rw [show 12 * f + (ldf M f a + 1) = 12 * f + ldf M f a + 1 by omega] at this
      rw [if_pos hq, if_neg this]
    · rw [if_neg hq, if_neg (by omega)]
  unfold sp_days
  split <;> omega
theorem part_ne {M : MS} (hI : RI M) {f w a : Int} (hf : 0 ≤ f ∧ f < M 1 0) (ry : 0 ≤ a ∧ a ≤ 9) (hw : 0 ≤ w ∧ w < M 4 f) (hne : w ≠ ldf M f a) : (if sp_days M f w a = 0 then 0 else sp_part M f w a) = sp_pbf M f w a := by
  rw [pbf_own ry]
  by_cases hd : sp_days M f w a = 0
  · rw [if_pos hd, own_0 hd, own_0 hd, own_0 hd, own_0 hd]; rfl
  · rw [if_neg hd]
    have hr := ldf_r hI (a := a) hf
    have hlt : w < ldf M f a := by
      by_cases z : ldf M f a < w
      · exact absurd (days_hi hI hf ry z hw.2) hd
      · omega
    have hl : sp_lastf (fun v => sp_days M f v a) w (M 4 f - (w + 1)).toNat = 0 := lastf_0 _ (ldf M f a - (w + 1)).toNat (by omega) (by
      rw [show w + 1 + ((ldf M f a - (w + 1)).toNat : Int) = ldf M f a by omega]
      exact days_ld hI hf ry)
    unfold sp_part
    rw [if_pos hl, Int.add_zero]
theorem part_eq {M : MS} (hI : RI M) {f a : Int} (hf : 0 ≤ f ∧ f < M 1 0) (ry : 0 ≤ a ∧ a ≤ 9) : (if sp_days M f (ldf M f a) a = 0 then 0 else sp_part M f (ldf M f a) a) = sp_share M f a - sumI (fun w => sp_pbf M f w a) (ldf M f a).toNat := by
  rw [if_neg (days_ld hI hf ry)]
  have hr := ldf_r hI (a := a) hf
  have hl : sp_lastf (fun v => sp_days M f v a) (ldf M f a) (M 4 f - (ldf M f a + 1)).toNat = 1 := lastf_1 _ (fun i hi => days_hi hI hf ry (by omega) (by omega))
  have hs : ∀ k : Int, sp_owns M f k a = sumI (fun w => sp_own M f k w a) (ldf M f a).toNat + sp_own M f k (ldf M f a) a := fun k => by
    unfold sp_owns
    have e := sumI_z (g := fun w => sp_own M f k w a) (m := (ldf M f a).toNat + 1) ((M 4 f).toNat - ((ldf M f a).toNat + 1)) (fun i h1 h2 => own_0 (days_hi hI hf ry (by omega) (by omega)))
    rw [show (ldf M f a).toNat + 1 + ((M 4 f).toNat - ((ldf M f a).toNat + 1)) = (M 4 f).toNat by omega] at e
    rw [e]
    show sumI _ (ldf M f a).toNat + sp_own M f k (((ldf M f a).toNat : Nat) : Int) a = _
    rw [Int.toNat_of_nonneg hr.1]
  have hp : sumI (fun w => sp_pbf M f w a) (ldf M f a).toNat = sumI (fun w => sp_own M f 0 w a) (ldf M f a).toNat + sumI (fun w => sp_own M f 1 w a) (ldf M f a).toNat + sumI (fun w => sp_own M f 2 w a) (ldf M f a).toNat + sumI (fun w => sp_own M f 3 w a) (ldf M f a).toNat := by
    rw [← sumI_add, ← sumI_add, ← sumI_add]
    exact sumI_c (fun w _ => pbf_own ry)
  unfold sp_part
  rw [hl, if_neg (by decide), hs 0, hs 1, hs 2, hs 3, hp]
  omega
set_option maxRecDepth 100000 in
set_option maxHeartbeats 4000000 in
theorem lp_S_part {p : Program} {l : Launch} {e : Env} {s : State} {m : MethodId} {args : Array Value} {below : List Frame} {meth : Method} {c : Code} {X : am_X} {Q : State → Prop} {h : am_H} {nx : Nat} {cl sl : Nat} {x : Nat} {A : Nat → Prop} {P : Tg → Nat} {M : MS}  {kk : Nat} {f w a z0 : Int} (F : am_Fx p s m args meth c y_S_part b_S_part 10 (some .long) [] X) (hC : RepC X x A P M h) (hI : RI M) (hN : NI M) (hf : 0 ≤ f ∧ f < M 1 0) (ry : 0 ≤ a ∧ a ≤ 9) (qv : (0 ≤ 20 * a + f ∧ 20 * a + f < 200) ∧ (20 * a + f) % 20 < M 21 ((20 * a + f) / 20)) (hcl : cl ≤ 4 ∧ sl ≤ 24) (hkk : (kk : Int) = ldf M f a) (hx : V p l e ({ frames := 9, cells := 4, slots := 24, locals := 157 }) s m args below meth c 10 X Q h nx (cl) (sl) 90 [some (.ref (P (0, 0))), some (iV f), some (iV w), some (iV a), some (.ref (P (6, f))), some (.ref (P (16, 20 * a + f))), some (iV (ldf M f a)), some (lV (z0 - sumI (fun w => sp_pbf M f w a) kk)), none, some (iV (kk : Int))] []) : ∀ (n k : Nat), kk < k + n → k ≤ kk → V p l e ({ frames := 9, cells := 4, slots := 24, locals := 157 }) s m args below meth c 10 X Q h nx (cl) (sl) 62 [some (.ref (P (0, 0))), some (iV f), some (iV w), some (iV a), some (.ref (P (6, f))), some (.ref (P (16, 20 * a + f))), some (iV (ldf M f a)), some (lV (z0 - sumI (fun w => sp_pbf M f w a) k)), none, some (iV (k : Int))] [] := by
  intro n
  induction n with
  | zero =>
    intro k hk hk2
    exact absurd hk (by omega)
  | succ n ih =>
    intro k hk hk2
    have hr := ldf_r hI (a := a) hf
    have q4 := hI.hlv f hf.1 hf.2
    refine v_iload (pc' := 64) F d_S_part_62 rfl rfl ?_
    refine v_iload (pc' := 66) F d_S_part_64 rfl rfl ?_
    refine v_icmp_ge (tgt := 90) (pc' := 69) F d_S_part_66 (by decide) rfl (by omega) (by omega) (fun c66 => ?_) (fun c66 => ?_)
    · obtain rfl : k = kk := by omega
      exact hx
    · refine v_lload (pc' := 71) F d_S_part_69 rfl rfl ?_
      refine v_aload (pc' := 73) F d_S_part_71 rfl rfl ?_
      refine v_aload (pc' := 75) F d_S_part_73 rfl rfl ?_
      refine v_iload (pc' := 77) F d_S_part_75 rfl rfl ?_
      refine v_iload_n (pc' := 78) (j := 3) F d_S_part_77 rfl rfl rfl ?_
      refine v_callSP (pc' := 81) F d_S_part_78 rfl cal_S_partByFloors wx_620 wx_621 (c_S_partByFloors l X _ _ _ _ _ _ _ _ _ hC hI hN (by omega) (by omega) qv (by omega)) rfl ⟨by decide, by decide, by show cl + 0 ≤ 4; omega, by show sl + 0 ≤ 24; omega⟩ (Nat.le_of_ble_eq_true rfl) rfl rfl ?_
      refine v_lsub (pc' := 82) F d_S_part_81 rfl ?_
      refine v_lstore_7 (pc' := 84) F d_S_part_82 rfl rfl (by decide) ?_
      refine v_iinc_9 (pc' := 87) F d_S_part_84 rfl rfl (by decide) ?_
      refine v_goto (tgt := 62) F d_S_part_87 (by decide) ?_
      have q9 := ih (k + 1) (by omega) (by omega)
      rw [show z0 - sumI (fun w => sp_pbf M f w a) (k + 1) = z0 - sumI (fun w => sp_pbf M f w a) k - sp_pbf M f (k : Int) a by show z0 - (_ + sp_pbf M f (k : Int) a) = _; omega] at q9
      exact q9
set_option maxRecDepth 100000 in
set_option maxHeartbeats 4000000 in
theorem c_S_part (l : Launch) (X : am_X) (h : am_H) (nx : Nat) (x : Nat) (A : Nat → Prop) (P : Tg → Nat) (M : MS) (f w a : Int) (ht : l.flags = pinnedFlags ++ [noTraceFlag]) (hC : RepC X x A P M h) (hI : RI M) (hN : NI M) (rf : -2147483648 ≤ f ∧ f < 2147483648) (rww : -2147483648 ≤ w ∧ w < 2147483648) (ra : -2147483648 ≤ a ∧ a < 2147483648) : Cn l X y_S_part ({ frames := 9, cells := 4, slots := 24, locals := 157 }) [.ref (P (0, 0)), iV f, iV w, iV a] h nx (rdpost lV (sp_partR M f w a) h nx) := by
  refine cn_of (k := 6) (L0 := [some (.ref (P (0, 0))), some (iV f), some (iV w), some (iV a), none, none, none, none, none, none]) rfl wx_614 (Nat.le_of_ble_eq_true rfl) rfl (fun p e s m args below meth c F => ?_)
  have q1 := hI.hfl
  have q7 := hI.hme
  refine v_aload_n (pc' := 1) (j := 0) F d_S_part_0 rfl rfl rfl ?_
  refine v_iload_n (pc' := 2) (j := 1) F d_S_part_1 rfl rfl rfl ?_
  refine v_callVR (pc' := 5) (C := zR_S) (T9 := zF_S) (N := 6) F d_S_part_2 rfl cal_S_flatAt wx_313 wx_315 wp_6 rfl (hC.t_top) (c_S_flatAt l X _ _ _ _ _ _ _ ht hC hI hN (by omega)) rfl ⟨by decide, by decide, by decide, by decide⟩ (Nat.le_of_ble_eq_true rfl) (fun n2 fs9 => ?_) (fun a2 => ?_)
  · exact v_out F (by decide) (by decide) (by rw [show sp_partR M f w a = (1, 0, M) from (if_neg (by omega)).trans (by rw [if_neg (by omega)])]; exact rdpost.thr)
  refine v_astore_4 (pc' := 7) F d_S_part_5 rfl rfl (by decide) ?_
  refine v_iload_n (pc' := 8) (j := 2) F d_S_part_7 rfl rfl rfl ?_
  refine v_iconst (pc' := 9) F d_S_part_8 rfl ?_
  refine v_aload (pc' := 11) F d_S_part_9 rfl rfl ?_
  have q4 := hI.hlv f (by omega) (by omega)
  refine v_getf (pc' := 14) (C := zR_F) (T := zF_F) (N := 10) (ref := "BillShares$Flat") F d_S_part_11 rfl zi_F rfl 4 (by decide) wx_194 (Or.inl rfl) (hC.t_fl (i := f) (by omega)) rfl ?_
  refine v_iconst (pc' := 15) F d_S_part_14 rfl ?_
  refine v_isub (pc' := 16) F d_S_part_15 rfl ?_
  refine v_callSR (pc' := 19) F d_S_part_16 rfl cal_S_checkBounds wx_86 wx_87 (c_S_checkBounds l X _ _ _ _ _ ht (by omega) (by omega) (by omega)) rfl ⟨by decide, by decide, by decide, by decide⟩ (Nat.le_of_ble_eq_true rfl) (fun n16 fs9 => ?_) (fun a16 => ?_)
  · exact v_out F (by decide) (by decide) (by rw [show sp_partR M f w a = (1, 0, M) from (if_neg (by omega)).trans (by rw [if_neg (by omega)])]; exact rdpost.thr)
  refine v_aload_n (pc' := 20) (j := 0) F d_S_part_19 rfl rfl rfl ?_
  refine v_aload (pc' := 22) F d_S_part_20 rfl rfl ?_
  refine v_iload_n (pc' := 23) (j := 3) F d_S_part_22 rfl rfl rfl ?_
  refine v_callVK (pc' := 26) (C := zR_S) (T9 := zF_S) (N := 6) F d_S_part_23 rfl cal_S_latestBill wx_595 wx_597 wp_15 rfl (hC.t_top) (c_S_latestBill l X _ _ _ _ _ _ _ _ ht hC hI hN (by omega) (by omega)) rfl ⟨by decide, by decide, by decide, by decide⟩ (Nat.le_of_ble_eq_true rfl) (fun n23 fs9 => ?_) (fun a23 => ?_)
  · exact v_out F (by decide) (by decide) (by rw [show sp_partR M f w a = (sp_lb M f a, 0, M) from (if_neg (by rw [sp_has_lb (by omega)]; omega)).trans (by rw [if_pos (by omega), sp_has_lb (by omega)])]; exact rdpost.thk n23)
  have qz := sp_lb_0 a23
  have qh := sp_has_lb (M := M) (f := f) (a := a) (by omega)
  have qv := bl_lv (M := M) (f := f) (a := a) (by omega) qz.1 qz.2.2
  have qs : sp_partR M f w a = (0, (if sp_days M f w a = 0 then 0 else sp_part M f w a), M) := if_pos (by omega)
  have hr := ldf_r hI (f := f) (a := a) (by omega)
  refine v_astore_5 (pc' := 28) F d_S_part_26 rfl rfl (by decide) ?_
  refine v_aload (pc' := 30) F d_S_part_28 rfl rfl ?_
  refine v_iload_n (pc' := 31) (j := 3) F d_S_part_30 rfl rfl rfl ?_
  refine v_callVP (pc' := 34) (C := zR_F) (T9 := zF_F) (N := 10) F d_S_part_31 rfl cal_F_lastDwellerIn wx_615 wx_616 wx_617 rfl (hC.t_fl (i := f) (by omega)) (c_F_lastDwellerIn l X _ _ _ _ _ _ _ _ hC hI.hfl hI.hlv hI.hsi (by omega) (by omega)) rfl ⟨by decide, by decide, by decide, by decide⟩ (Nat.le_of_ble_eq_true rfl) rfl rfl ?_
  refine v_topi (b := ldf M f a) rfl ?_
  refine v_istore_6 (pc' := 36) F d_S_part_34 rfl rfl (by decide) ?_
  refine v_iload_n (pc' := 37) (j := 2) F d_S_part_36 rfl rfl rfl ?_
  refine v_iload (pc' := 39) F d_S_part_37 rfl rfl ?_
  refine v_icmp_eq (tgt := 52) (pc' := 42) F d_S_part_39 (by decide) rfl (by omega) (by omega) (fun c39 => ?_) (fun c39 => ?_)
  · refine v_aload (pc' := 54) F d_S_part_52 rfl rfl ?_
    refine v_callVP (pc' := 57) (C := zR_B) (T9 := zF_B) (N := 3) F d_S_part_54 rfl cal_B_total wx_508 wx_509 wx_510 rfl (hC.t_bl (i := (20 * a + f)) qv) (c_B_total l X _ _ _ _ _ _ _ hC qv) rfl ⟨by decide, by decide, by decide, by decide⟩ (Nat.le_of_ble_eq_true rfl) rfl rfl ?_
    refine v_lstore_7 (pc' := 59) F d_S_part_57 rfl rfl (by decide) ?_
    refine v_iconst (pc' := 60) F d_S_part_59 rfl ?_
    refine v_istore_9 (pc' := 62) F d_S_part_60 rfl rfl (by decide) ?_
    rw [show sp_tot M (20 * a + f) = sp_tot M (20 * a + f) - sumI (fun w => sp_pbf M f w a) 0 by show _ = _ - 0; omega]
    refine lp_S_part (kk := (ldf M f a).toNat) F hC hI hN (by omega) (by omega) qv (by decide) (by omega) ?_ ((ldf M f a).toNat + 1) 0 (by omega) (by omega)
    refine v_lload (pc' := 92) F d_S_part_90 rfl rfl ?_
    exact v_lreturn F d_S_part_92 rfl (by decide) (by decide) (by rw [qs, show w = ldf M f a from c39, part_eq hI (by omega) (by omega), sp_tot_s]; exact Or.inl ⟨rfl, rfl, rfl, rfl⟩)
  · refine v_aload (pc' := 44) F d_S_part_42 rfl rfl ?_
    refine v_aload (pc' := 46) F d_S_part_44 rfl rfl ?_
    refine v_iload_n (pc' := 47) (j := 2) F d_S_part_46 rfl rfl rfl ?_
    refine v_iload_n (pc' := 48) (j := 3) F d_S_part_47 rfl rfl rfl ?_
    refine v_callSP (pc' := 51) F d_S_part_48 rfl cal_S_partByFloors wx_620 wx_621 (c_S_partByFloors l X _ _ _ _ _ _ _ _ _ hC hI hN (by omega) (by omega) qv (by omega)) rfl ⟨by decide, by decide, by decide, by decide⟩ (Nat.le_of_ble_eq_true rfl) rfl rfl ?_
    exact v_lreturn F d_S_part_51 rfl (by decide) (by decide) (by rw [qs, part_ne hI (by omega) (by omega) (by omega) (show w ≠ ldf M f a from c39)]; exact Or.inl ⟨rfl, rfl, rfl, rfl⟩)
