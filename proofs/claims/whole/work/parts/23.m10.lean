/-! byAreas, deal, byUses of the reference (written by wip/whole/mm10.py) -/
/-- the first n places of the field fid are g's -/
def setC (M : MS) (fid : Nat) (g : Int → Int) (n : Nat) : MS := fun a => if a = fid then (fun i => if 0 ≤ i ∧ i < (n : Int) then g i else M fid i) else M a
theorem setC_n {M : MS} {fid a : Nat} {g : Int → Int} {n : Nat} (h : a ≠ fid) : setC M fid g n a = M a := if_neg h
theorem setC_in {M : MS} {fid : Nat} {g : Int → Int} {n : Nat} {i : Int} (h : 0 ≤ i ∧ i < (n : Int)) : setC M fid g n fid i = g i := by
  show (if fid = fid then _ else _ : Int → Int) i = _
  rw [if_pos rfl]
  exact if_pos h
theorem setC_out {M : MS} {fid : Nat} {g : Int → Int} {n : Nat} {i : Int} (h : ¬ (0 ≤ i ∧ i < (n : Int))) : setC M fid g n fid i = M fid i := by
  show (if fid = fid then _ else _ : Int → Int) i = _
  rw [if_pos rfl]
  exact if_neg h
theorem setC_0 {M : MS} {fid : Nat} {g : Int → Int} : setC M fid g 0 = M := by
  funext a i
  by_cases h : a = fid
  · subst h; exact setC_out (by omega)
  · rw [setC_n h]
theorem setC_s {M : MS} {fid : Nat} {g : Int → Int} {k : Nat} : upM (setC M fid g k) fid (k : Int) (g (k : Int)) = setC M fid g (k + 1) := by
  funext a i
  by_cases h : a = fid
  · subst h
    by_cases hi : i = (k : Int)
    · subst hi
      rw [upM_ss, setC_in (by omega)]
    · rw [upM_sn hi]
      by_cases hk : 0 ≤ i ∧ i < (k : Int)
      · rw [setC_in hk, setC_in (by omega)]
      · rw [setC_out hk, setC_out (by omega)]
  · rw [upM_n h, setC_n h, setC_n h]
theorem setC_c {M : MS} {fid : Nat} {g g' : Int → Int} {n : Nat} : setC (setC M fid g n) fid g' n = setC M fid g' n := by
  funext a i
  by_cases h : a = fid
  · subst h
    by_cases hk : 0 ≤ i ∧ i < (n : Int)
    · rw [setC_in hk, setC_in hk]
    · rw [setC_out hk, setC_out hk, setC_out hk]
  · rw [setC_n h, setC_n h, setC_n h]
def sumI (g : Int → Int) : Nat → Int
  | 0 => 0
  | k + 1 => sumI g k + g (k : Int)
theorem sumI_r {g : Int → Int} {a b : Int} : ∀ {n : Nat}, (∀ k : Nat, k < n → a ≤ g (k : Int) ∧ g (k : Int) ≤ b) → a * (n : Int) ≤ sumI g n ∧ sumI g n ≤ b * (n : Int)
  | 0, _ => by simp [sumI]
  | n + 1, h => by
    have ih := sumI_r (g := g) (a := a) (b := b) (n := n) (fun k hk => h k (by omega))
    have hn := h n (by omega)
    unfold sumI
    have e1 : a * ((n + 1 : Nat) : Int) = a * (n : Int) + a := by rw [Int.natCast_succ, Int.mul_add, Int.mul_one]
    have e2 : b * ((n + 1 : Nat) : Int) = b * (n : Int) + b := by rw [Int.natCast_succ, Int.mul_add, Int.mul_one]
    omega
theorem sumI_c {g g' : Int → Int} : ∀ {n : Nat}, (∀ k : Nat, k < n → g (k : Int) = g' (k : Int)) → sumI g n = sumI g' n
  | 0, _ => rfl
  | n + 1, h => by
    show sumI g n + _ = sumI g' n + _
    rw [sumI_c (fun k hk => h k (by omega)), h n (by omega)]
set_option maxRecDepth 100000 in
set_option maxHeartbeats 4000000 in
theorem lp_M_byAreas {p : Program} {l : Launch} {e : Env} {s : State} {m : MethodId} {args : Array Value} {below : List Frame} {meth : Method} {c : Code} {X : am_X} {Q : State → Prop} {h : am_H} {nx : Nat} {y kk : Nat} {M : MS} (F : am_Fx p s m args meth c y_M_byAreas b_M_byAreas 2 ((Option.none : Option FieldType)) [] X) (hfl : 0 ≤ M 1 0 ∧ M 1 0 ≤ 20) (har : ∀ i : Int, 0 ≤ i → i < 20 → 0 ≤ M 2 i ∧ M 2 i ≤ 1000) (hkk : (kk : Int) = M 1 0) (hx : ∀ h9 : am_H, RepM y (setC M 26 (M 2) kk) h9 → MF y h h9 → V p l e ({ frames := 0, cells := 0, slots := 0, locals := 0 }) s m args below meth c 2 X Q h9 nx 0 0 29 [some (.ref y), some (iV (kk : Int))] []) : ∀ (n k : Nat), kk < k + n → k ≤ kk → ∀ h9 : am_H, RepM y (setC M 26 (M 2) k) h9 → MF y h h9 → V p l e ({ frames := 0, cells := 0, slots := 0, locals := 0 }) s m args below meth c 2 X Q h9 nx 0 0 2 [some (.ref y), some (iV (k : Int))] [] := by
  intro n
  induction n with
  | zero =>
    intro k hk hk2
    exact absurd hk (by omega)
  | succ n ih =>
    intro k hk hk2 h9 hM9 hF9
    refine v_iload_n (pc' := 3) (j := 1) F d_M_byAreas_2 rfl rfl rfl ?_
    refine v_aload_n (pc' := 4) (j := 0) F d_M_byAreas_3 rfl rfl rfl ?_
    refine v_getf (pc' := 7) (C := zR_M) (T := zF_M) (N := 28) (ref := "BillSharesModel") F d_M_byAreas_4 rfl zi_M rfl 1 (by decide) wx_662 (Or.inl rfl) hM9.1 rfl ?_
    refine v_topi (b := M 1 0) rfl ?_
    refine v_icmp_ge (tgt := 29) (pc' := 10) F d_M_byAreas_7 (by decide) rfl (by omega) (by omega) (fun c7 => ?_) (fun c7 => ?_)
    · obtain rfl : k = kk := by omega
      exact hx h9 hM9 hF9
    · refine v_aload_n (pc' := 11) (j := 0) F d_M_byAreas_10 rfl rfl rfl ?_
      refine v_getf (pc' := 14) (C := zR_M) (T := zF_M) (N := 28) (ref := "BillSharesModel") F d_M_byAreas_11 rfl zi_M rfl 26 (by decide) wx_687 (Or.inl rfl) hM9.1 rfl ?_
      refine v_iload_n (pc' := 15) (j := 1) F d_M_byAreas_14 rfl rfl rfl ?_
      refine v_aload_n (pc' := 16) (j := 0) F d_M_byAreas_15 rfl rfl rfl ?_
      refine v_getf (pc' := 19) (C := zR_M) (T := zF_M) (N := 28) (ref := "BillSharesModel") F d_M_byAreas_16 rfl zi_M rfl 2 (by decide) wx_663 (Or.inl rfl) hM9.1 rfl ?_
      refine v_iload_n (pc' := 20) (j := 1) F d_M_byAreas_19 rfl rfl rfl ?_
      refine mg_2 (pc' := 21) F hM9 d_M_byAreas_20 rfl (by omega) (by omega) ?_
      refine v_topi (b := M 2 (k : Int)) rfl ?_
      have q2 := har (k : Int) (by omega) (by omega)
      refine v_i2l (pc' := 22) F d_M_byAreas_21 rfl (by omega) ?_
      refine mp_26 (pc' := 23) F hM9 d_M_byAreas_22 rfl (by omega) (by omega) (fun h1 hM1 hF1 => ?_)
      refine v_iinc_1 (pc' := 26) F d_M_byAreas_23 rfl rfl (by decide) ?_
      refine v_goto (tgt := 2) F d_M_byAreas_26 (by decide) ?_
      rw [setC_s] at hM1
      exact ih (k + 1) (by omega) (by omega) _ hM1 ((hF9).tr hF1)
set_option maxRecDepth 100000 in
set_option maxHeartbeats 4000000 in
theorem c_M_byAreas (l : Launch) (X : am_X) (h : am_H) (nx : Nat) (y : Nat) (M : MS) (hM : RepM y M h) (hfl : 0 ≤ M 1 0 ∧ M 1 0 ≤ 20) (har : ∀ i : Int, 0 ≤ i → i < 20 → 0 ≤ M 2 i ∧ M 2 i ≤ 1000) : CnV l X y_M_byAreas ({ frames := 0, cells := 0, slots := 0, locals := 0 }) [.ref y] h nx y (setC M 26 (M 2) (M 1 0).toNat) := by
  refine cn_of (k := 1) (L0 := [some (.ref y), none]) rfl wx_827 (Nat.le_of_ble_eq_true rfl) rfl (fun p e s m args below meth c F => ?_)
  refine v_iconst (pc' := 1) F d_M_byAreas_0 rfl ?_
  refine v_istore_1 (pc' := 2) F d_M_byAreas_1 rfl rfl (by decide) ?_
  refine lp_M_byAreas (h := h) (kk := (M 1 0).toNat) F hfl har (by omega) (fun h9 hM9 hF9 => ?_) ((M 1 0).toNat + 1) 0 (by omega) (by omega) h (by rw [setC_0]; exact hM) MF.rf
  exact v_return F d_M_byAreas_29 rfl (Nat.le_refl _) (Nat.le_refl _) ⟨hM9, hF9, rfl, rfl⟩
def sp_all (M : MS) : Int := sumI (M 26) (M 1 0).toNat
def sp_g1 (M : MS) (p i : Int) : Int := p * M 26 i / sp_all M
def sp_left (M : MS) (p : Int) : Int := p - sumI (sp_g1 M p) (M 1 0).toNat
def sp_g2 (M : MS) (p i : Int) : Int := sp_g1 M p i + (if sp_before M i < sp_left M p then 1 else 0)
set_option maxRecDepth 100000 in
set_option maxHeartbeats 4000000 in
theorem lp1_M_deal {p : Program} {l : Launch} {e : Env} {s : State} {m : MethodId} {args : Array Value} {below : List Frame} {meth : Method} {c : Code} {X : am_X} {Q : State → Prop} {h : am_H} {nx : Nat} {y kk : Nat} {M : MS} {p0 : Int} (F : am_Fx p s m args meth c y_M_deal b_M_deal 8 ((Option.none : Option FieldType)) [] X) (hM : RepM y M h) (hfl : 0 ≤ M 1 0 ∧ M 1 0 ≤ 20) (hrk : ∀ i : Int, 0 ≤ i → i < 20 → 0 ≤ M 3 i ∧ M 3 i ≤ 99) (hnu : ∀ i : Int, 0 ≤ i → i < M 1 0 → 0 ≤ M 26 i ∧ M 26 i < 4611686018427387904) (hal : 0 < sp_all M ∧ sp_all M < 4611686018427387904) (rp : 0 ≤ p0 ∧ p0 < 2147483648) (hkk : (kk : Int) = M 1 0) (hx : V p l e ({ frames := 1, cells := 0, slots := 0, locals := 36 }) s m args below meth c 8 X Q h nx 0 0 30 [some (.ref y), some (lV p0), none, some (lV (sumI (M 26) kk)), none, some (iV (kk : Int)), none, none] []) : ∀ (n k : Nat), kk < k + n → k ≤ kk → V p l e ({ frames := 1, cells := 0, slots := 0, locals := 36 }) s m args below meth c 8 X Q h nx 0 0 5 [some (.ref y), some (lV p0), none, some (lV (sumI (M 26) k)), none, some (iV (k : Int)), none, none] [] := by
  intro n
  induction n with
  | zero =>
    intro k hk hk2
    exact absurd hk (by omega)
  | succ n ih =>
    intro k hk hk2
    refine v_iload (pc' := 7) F d_M_deal_5 rfl rfl ?_
    refine v_aload_n (pc' := 8) (j := 0) F d_M_deal_7 rfl rfl rfl ?_
    refine v_getf (pc' := 11) (C := zR_M) (T := zF_M) (N := 28) (ref := "BillSharesModel") F d_M_deal_8 rfl zi_M rfl 1 (by decide) wx_662 (Or.inl rfl) hM.1 rfl ?_
    refine v_icmp_ge (tgt := 30) (pc' := 14) F d_M_deal_11 (by decide) rfl (by omega) (by omega) (fun c11 => ?_) (fun c11 => ?_)
    · obtain rfl : k = kk := by omega
      exact hx
    · refine v_lload_n (pc' := 15) (j := 3) F d_M_deal_14 rfl rfl rfl ?_
      refine v_aload_n (pc' := 16) (j := 0) F d_M_deal_15 rfl rfl rfl ?_
      refine v_getf (pc' := 19) (C := zR_M) (T := zF_M) (N := 28) (ref := "BillSharesModel") F d_M_deal_16 rfl zi_M rfl 26 (by decide) wx_687 (Or.inl rfl) hM.1 rfl ?_
      refine v_iload (pc' := 21) F d_M_deal_19 rfl rfl ?_
      refine mg_26 (pc' := 22) F hM d_M_deal_21 rfl (by omega) (by omega) ?_
      refine v_ladd (pc' := 23) F d_M_deal_22 rfl ?_
      refine v_lstore_3 (pc' := 24) F d_M_deal_23 rfl rfl (by decide) ?_
      refine v_iinc_5 (pc' := 27) F d_M_deal_24 rfl rfl (by decide) ?_
      refine v_goto (tgt := 5) F d_M_deal_27 (by decide) ?_
      exact ih (k + 1) (by omega) (by omega)
set_option maxRecDepth 100000 in
set_option maxHeartbeats 4000000 in
theorem lp2_M_deal {p : Program} {l : Launch} {e : Env} {s : State} {m : MethodId} {args : Array Value} {below : List Frame} {meth : Method} {c : Code} {X : am_X} {Q : State → Prop} {h : am_H} {nx : Nat} {y kk : Nat} {M : MS} {p0 : Int} (F : am_Fx p s m args meth c y_M_deal b_M_deal 8 ((Option.none : Option FieldType)) [] X) (hfl : 0 ≤ M 1 0 ∧ M 1 0 ≤ 20) (hrk : ∀ i : Int, 0 ≤ i → i < 20 → 0 ≤ M 3 i ∧ M 3 i ≤ 99) (hnu : ∀ i : Int, 0 ≤ i → i < M 1 0 → 0 ≤ M 26 i ∧ M 26 i < 4611686018427387904) (hal : 0 < sp_all M ∧ sp_all M < 4611686018427387904) (rp : 0 ≤ p0 ∧ p0 < 2147483648) (hkk : (kk : Int) = M 1 0) (hx : ∀ h9 : am_H, RepM y (setC M 27 (sp_g1 M p0) kk) h9 → MF y h h9 → V p l e ({ frames := 1, cells := 0, slots := 0, locals := 36 }) s m args below meth c 8 X Q h9 nx 0 0 82 [some (.ref y), some (lV p0), none, some (lV (sp_all M)), none, some (lV (p0 - sumI (sp_g1 M p0) kk)), none, some (iV (kk : Int))] []) : ∀ (n k : Nat), kk < k + n → k ≤ kk → ∀ h9 : am_H, RepM y (setC M 27 (sp_g1 M p0) k) h9 → MF y h h9 → V p l e ({ frames := 1, cells := 0, slots := 0, locals := 36 }) s m args below meth c 8 X Q h9 nx 0 0 36 [some (.ref y), some (lV p0), none, some (lV (sp_all M)), none, some (lV (p0 - sumI (sp_g1 M p0) k)), none, some (iV (k : Int))] [] := by
  intro n
  induction n with
  | zero =>
    intro k hk hk2
    exact absurd hk (by omega)
  | succ n ih =>
    intro k hk hk2 h9 hM9 hF9
    refine v_iload (pc' := 38) F d_M_deal_36 rfl rfl ?_
    refine v_aload_n (pc' := 39) (j := 0) F d_M_deal_38 rfl rfl rfl ?_
    refine v_getf (pc' := 42) (C := zR_M) (T := zF_M) (N := 28) (ref := "BillSharesModel") F d_M_deal_39 rfl zi_M rfl 1 (by decide) wx_662 (Or.inl rfl) hM9.1 rfl ?_
    refine v_topi (b := M 1 0) rfl ?_
    refine v_icmp_ge (tgt := 82) (pc' := 45) F d_M_deal_42 (by decide) rfl (by omega) (by omega) (fun c42 => ?_) (fun c42 => ?_)
    · obtain rfl : k = kk := by omega
      exact hx h9 hM9 hF9
    · refine v_aload_n (pc' := 46) (j := 0) F d_M_deal_45 rfl rfl rfl ?_
      refine v_getf (pc' := 49) (C := zR_M) (T := zF_M) (N := 28) (ref := "BillSharesModel") F d_M_deal_46 rfl zi_M rfl 27 (by decide) wx_688 (Or.inl rfl) hM9.1 rfl ?_
      refine v_iload (pc' := 51) F d_M_deal_49 rfl rfl ?_
      refine v_lload_n (pc' := 52) (j := 1) F d_M_deal_51 rfl rfl rfl ?_
      refine v_aload_n (pc' := 53) (j := 0) F d_M_deal_52 rfl rfl rfl ?_
      refine v_getf (pc' := 56) (C := zR_M) (T := zF_M) (N := 28) (ref := "BillSharesModel") F d_M_deal_53 rfl zi_M rfl 26 (by decide) wx_687 (Or.inl rfl) hM9.1 rfl ?_
      refine v_iload (pc' := 58) F d_M_deal_56 rfl rfl ?_
      refine mg_26 (pc' := 59) F hM9 d_M_deal_58 rfl (by omega) (by omega) ?_
      refine v_topl (b := M 26 (k : Int)) rfl ?_
      have q2 := hnu (k : Int) (by omega) (by omega)
      refine v_lload_n (pc' := 60) (j := 3) F d_M_deal_59 rfl rfl rfl ?_
      refine v_callSP (pc' := 63) F d_M_deal_60 rfl cal_M_portion wx_832 wx_833 (c_M_portion l X _ _ _ _ _ rp (by omega) hal) rfl ⟨by decide, by decide, by decide, by decide⟩ (Nat.le_of_ble_eq_true rfl) rfl rfl ?_
      refine mp_27 (pc' := 64) F hM9 d_M_deal_63 rfl (by omega) (by omega) (fun h1 hM1 hF1 => ?_)
      refine v_lload (pc' := 66) F d_M_deal_64 rfl rfl ?_
      refine v_aload_n (pc' := 67) (j := 0) F d_M_deal_66 rfl rfl rfl ?_
      refine v_getf (pc' := 70) (C := zR_M) (T := zF_M) (N := 28) (ref := "BillSharesModel") F d_M_deal_67 rfl zi_M rfl 27 (by decide) wx_688 (Or.inl rfl) hM1.1 rfl ?_
      refine v_iload (pc' := 72) F d_M_deal_70 rfl rfl ?_
      refine mg_27 (pc' := 73) F hM1 d_M_deal_72 rfl (by omega) (by omega) ?_
      refine v_usl ?_
      refine v_topl (b := sp_g1 M p0 (k : Int)) rfl ?_
      refine v_lsub (pc' := 74) F d_M_deal_73 rfl ?_
      refine v_lstore_5 (pc' := 76) F d_M_deal_74 rfl rfl (by decide) ?_
      refine v_iinc_7 (pc' := 79) F d_M_deal_76 rfl rfl (by decide) ?_
      refine v_goto (tgt := 36) F d_M_deal_79 (by decide) ?_
      have q9 := ih (k + 1) (by omega) (by omega) _ (by rw [← setC_s]; exact hM1) ((hF9).tr hF1)
      rw [show p0 - sumI (sp_g1 M p0) (k + 1) = p0 - sumI (sp_g1 M p0) k - sp_g1 M p0 (k : Int) by show p0 - (_ + _) = _; omega] at q9
      exact q9
set_option maxRecDepth 100000 in
set_option maxHeartbeats 4000000 in
theorem lp3_M_deal {p : Program} {l : Launch} {e : Env} {s : State} {m : MethodId} {args : Array Value} {below : List Frame} {meth : Method} {c : Code} {X : am_X} {Q : State → Prop} {h : am_H} {nx : Nat} {y kk : Nat} {M : MS} {p0 : Int} (F : am_Fx p s m args meth c y_M_deal b_M_deal 8 ((Option.none : Option FieldType)) [] X) (hfl : 0 ≤ M 1 0 ∧ M 1 0 ≤ 20) (hrk : ∀ i : Int, 0 ≤ i → i < 20 → 0 ≤ M 3 i ∧ M 3 i ≤ 99) (hnu : ∀ i : Int, 0 ≤ i → i < M 1 0 → 0 ≤ M 26 i ∧ M 26 i < 4611686018427387904) (hal : 0 < sp_all M ∧ sp_all M < 4611686018427387904) (rp : 0 ≤ p0 ∧ p0 < 2147483648) (hlf : -9223372036854775808 ≤ sp_left M p0 ∧ sp_left M p0 < 9223372036854775808) (hkk : (kk : Int) = M 1 0) (hx : ∀ h9 : am_H, RepM y (setC (setC M 27 (sp_g1 M p0) (M 1 0).toNat) 27 (sp_g2 M p0) kk) h9 → MF y h h9 → V p l e ({ frames := 1, cells := 0, slots := 0, locals := 36 }) s m args below meth c 8 X Q h9 nx 0 0 128 [some (.ref y), some (lV p0), none, some (lV (sp_all M)), none, some (lV (sp_left M p0)), none, some (iV (kk : Int))] []) : ∀ (n k : Nat), kk < k + n → k ≤ kk → ∀ h9 : am_H, RepM y (setC (setC M 27 (sp_g1 M p0) (M 1 0).toNat) 27 (sp_g2 M p0) k) h9 → MF y h h9 → V p l e ({ frames := 1, cells := 0, slots := 0, locals := 36 }) s m args below meth c 8 X Q h9 nx 0 0 85 [some (.ref y), some (lV p0), none, some (lV (sp_all M)), none, some (lV (sp_left M p0)), none, some (iV (k : Int))] [] := by
  intro n
  induction n with
  | zero =>
    intro k hk hk2
    exact absurd hk (by omega)
  | succ n ih =>
    intro k hk hk2 h9 hM9 hF9
    refine v_iload (pc' := 87) F d_M_deal_85 rfl rfl ?_
    refine v_aload_n (pc' := 88) (j := 0) F d_M_deal_87 rfl rfl rfl ?_
    refine v_getf (pc' := 91) (C := zR_M) (T := zF_M) (N := 28) (ref := "BillSharesModel") F d_M_deal_88 rfl zi_M rfl 1 (by decide) wx_662 (Or.inl rfl) hM9.1 rfl ?_
    refine v_topi (b := M 1 0) rfl ?_
    refine v_icmp_ge (tgt := 128) (pc' := 94) F d_M_deal_91 (by decide) rfl (by omega) (by omega) (fun c91 => ?_) (fun c91 => ?_)
    · obtain rfl : k = kk := by omega
      exact hx h9 hM9 hF9
    · refine v_aload_n (pc' := 95) (j := 0) F d_M_deal_94 rfl rfl rfl ?_
      refine v_getf (pc' := 98) (C := zR_M) (T := zF_M) (N := 28) (ref := "BillSharesModel") F d_M_deal_95 rfl zi_M rfl 27 (by decide) wx_688 (Or.inl rfl) hM9.1 rfl ?_
      refine v_iload (pc' := 100) F d_M_deal_98 rfl rfl ?_
      refine v_dup2 (pc' := 101) F d_M_deal_100 rfl rfl rfl ?_
      refine mg_27 (pc' := 102) F hM9 d_M_deal_101 rfl (by omega) (by omega) ?_
      refine v_topl (b := sp_g1 M p0 (k : Int)) ((setC_out (by omega)).trans (setC_in (by omega))) ?_
      refine v_aload_n (pc' := 103) (j := 0) F d_M_deal_102 rfl rfl rfl ?_
      refine v_iload (pc' := 105) F d_M_deal_103 rfl rfl ?_
      refine v_callVP (pc' := 108) (C := zR_M) (T9 := zF_M) (N := 28) F d_M_deal_105 rfl cal_M_before wx_836 wx_838 wp_23 rfl hM9.1 (c_M_before l X _ _ _ _ _ hM9 hfl hrk (by omega)) rfl ⟨by decide, by decide, by decide, by decide⟩ (Nat.le_of_ble_eq_true rfl) rfl rfl ?_
      refine v_topi (b := sp_before M (k : Int)) rfl ?_
      have q3 := sp_bef_r (M 3) (k : Int) (M 1 0).toNat
      have q4 : sp_before M (k : Int) = sp_bef (M 3) (k : Int) (M 1 0).toNat := rfl
      refine v_i2l (pc' := 109) F d_M_deal_108 rfl (by omega) ?_
      refine v_lload (pc' := 111) F d_M_deal_109 rfl rfl ?_
      refine v_lc_ge (tgt := 119) (pc' := 115) F d_M_deal_111 d_M_deal_112 (by decide) rfl (by omega) (by omega) (fun c111 => ?_) (fun c111 => ?_)
      · refine v_lconst (pc' := 120) (z := 0) F d_M_deal_119 rfl (by decide) ?_
        refine v_ladd (pc' := 121) F d_M_deal_120 rfl ?_
        refine v_topl (b := sp_g2 M p0 (k : Int)) (by unfold sp_g2; first | rw [if_pos (by omega)] | rw [if_neg (by omega)]) ?_
        refine mp_27 (pc' := 122) F hM9 d_M_deal_121 rfl (by omega) (by omega) (fun h1 hM1 hF1 => ?_)
        refine v_iinc_7 (pc' := 125) F d_M_deal_122 rfl rfl (by decide) ?_
        refine v_goto (tgt := 85) F d_M_deal_125 (by decide) ?_
        exact ih (k + 1) (by omega) (by omega) _ (by rw [← setC_s]; exact hM1) ((hF9).tr hF1)
      · refine v_lconst (pc' := 116) (z := 1) F d_M_deal_115 rfl (by decide) ?_
        refine v_goto (tgt := 120) F d_M_deal_116 (by decide) ?_
        refine v_ladd (pc' := 121) F d_M_deal_120 rfl ?_
        refine v_topl (b := sp_g2 M p0 (k : Int)) (by unfold sp_g2; first | rw [if_pos (by omega)] | rw [if_neg (by omega)]) ?_
        refine mp_27 (pc' := 122) F hM9 d_M_deal_121 rfl (by omega) (by omega) (fun h2 hM2 hF2 => ?_)
        refine v_iinc_7 (pc' := 125) F d_M_deal_122 rfl rfl (by decide) ?_
        refine v_goto (tgt := 85) F d_M_deal_125 (by decide) ?_
        exact ih (k + 1) (by omega) (by omega) _ (by rw [← setC_s]; exact hM2) ((hF9).tr hF2)
set_option maxRecDepth 100000 in
set_option maxHeartbeats 4000000 in
theorem c_M_deal (l : Launch) (X : am_X) (h : am_H) (nx : Nat) (y : Nat) (M : MS) (p0 : Int) (hM : RepM y M h) (hfl : 0 ≤ M 1 0 ∧ M 1 0 ≤ 20) (hrk : ∀ i : Int, 0 ≤ i → i < 20 → 0 ≤ M 3 i ∧ M 3 i ≤ 99) (hnu : ∀ i : Int, 0 ≤ i → i < M 1 0 → 0 ≤ M 26 i ∧ M 26 i < 4611686018427387904) (hal : 0 < sp_all M ∧ sp_all M < 4611686018427387904) (rp : 0 ≤ p0 ∧ p0 < 2147483648) (hlf : -9223372036854775808 ≤ sp_left M p0 ∧ sp_left M p0 < 9223372036854775808) : CnV l X y_M_deal ({ frames := 1, cells := 0, slots := 0, locals := 36 }) [.ref y, lV p0] h nx y (setC M 27 (sp_g2 M p0) (M 1 0).toNat) := by
  refine cn_of (k := 5) (L0 := [some (.ref y), some (lV p0), none, none, none, none, none, none]) rfl wx_831 (Nat.le_of_ble_eq_true rfl) rfl (fun p e s m args below meth c F => ?_)
  refine v_lconst (pc' := 1) (z := 0) F d_M_deal_0 rfl (by decide) ?_
  refine v_lstore_3 (pc' := 2) F d_M_deal_1 rfl rfl (by decide) ?_
  refine v_iconst (pc' := 3) F d_M_deal_2 rfl ?_
  refine v_istore_5 (pc' := 5) F d_M_deal_3 rfl rfl (by decide) ?_
  have en : ((M 1 0).toNat : Int) = M 1 0 := by omega
  refine lp1_M_deal (kk := (M 1 0).toNat) F hM hfl hrk hnu hal rp en ?_ ((M 1 0).toNat + 1) 0 (by omega) (by omega)
  refine v_lload_n (pc' := 31) (j := 1) F d_M_deal_30 rfl rfl rfl ?_
  refine v_topl (b := p0 - sumI (sp_g1 M p0) 0) (by show p0 = p0 - 0; omega) ?_
  refine v_lstore_5 (pc' := 33) F d_M_deal_31 rfl rfl (by decide) ?_
  refine v_iconst (pc' := 34) F d_M_deal_33 rfl ?_
  refine v_istore_7 (pc' := 36) F d_M_deal_34 rfl rfl (by decide) ?_
  refine v_subL (L' := [some (.ref y), some (lV p0), none, some (lV (sp_all M)), none, some (lV (p0 - sumI (sp_g1 M p0) 0)), none, some (iV ((0 : Nat) : Int))]) (by (repeat' (first | exact trivial | exact rfl | refine And.intro ?_ ?_)); done) ?_
  refine lp2_M_deal (h := h) (kk := (M 1 0).toNat) F hfl hrk hnu hal rp en (fun h9 hM9 hF9 => ?_) ((M 1 0).toNat + 1) 0 (by omega) (by omega) h (by rw [setC_0]; exact hM) MF.rf
  refine v_iconst (pc' := 83) F d_M_deal_82 rfl ?_
  refine v_istore_7 (pc' := 85) F d_M_deal_83 rfl rfl (by decide) ?_
  exact lp3_M_deal (h := h) (kk := (M 1 0).toNat) F hfl hrk hnu hal rp hlf en (fun h8 hM8 hF8 => v_return F d_M_deal_128 rfl (Nat.le_refl _) (Nat.le_refl _) ⟨by rw [setC_c] at hM8; exact hM8, hF8, rfl, rfl⟩) ((M 1 0).toNat + 1) 0 (by omega) (by omega) h9 (by rw [setC_0]; exact hM9) hF9
