/-! weighByUse, shareOut, openBills, run of the class (written by wip/whole/cc12.py) -/
theorem tld_r (M : MS) (k a f : Int) : tld M k a f = 0 ∨ tld M k a f = 1 := by unfold tld; split <;> omega
theorem tld_t {M : MS} {k a f : Int} (h : sp_barred M f k a = 0) : tld M k a f = 1 := if_pos h
theorem tld_f {M : MS} {k a f : Int} (h : ¬ sp_barred M f k a = 0) : tld M k a f = 0 := if_neg h
theorem w1_t {M : MS} {k a f : Int} (h : sp_barred M f k a = 0) : w1 M k a f = sp_usedBy M f k (365 * a) (365 * a + 365) := if_pos h
theorem w1_f {M : MS} {k a f : Int} (h : ¬ sp_barred M f k a = 0) : w1 M k a f = M 29 f := if_neg h
theorem wu_1 {M : MS} {T W : Int → Int} {k : Nat} {t : Int} (ht : T (k : Int) = t) : upM (setC (setC M 28 T k) 29 W k) 28 (k : Int) t = setC (setC M 28 T (k + 1)) 29 W k := by
  rw [setC_cm (by decide), ← ht, setC_s]
theorem wu_t {M : MS} {T W : Int → Int} {k : Nat} {t w : Int} (ht : T (k : Int) = t) (hw : W (k : Int) = w) : upM (upM (setC (setC M 28 T k) 29 W k) 28 (k : Int) t) 29 (k : Int) w = setC (setC M 28 T (k + 1)) 29 W (k + 1) := by
  rw [wu_1 ht, ← hw, setC_s]
theorem wu_f {M : MS} {T W : Int → Int} {k : Nat} {t : Int} (ht : T (k : Int) = t) (hw : W (k : Int) = M 29 (k : Int)) : upM (setC (setC M 28 T k) 29 W k) 28 (k : Int) t = setC (setC M 28 T (k + 1)) 29 W (k + 1) := by
  rw [wu_1 ht]
  exact setC_keep ((congrFun (setC_n (by decide)) _).trans hw.symm)
theorem wu_o {M : MS} {T W : Int → Int} {k k' j : Nat} (h1 : j ≠ 28) (h2 : j ≠ 29) : setC (setC M 28 T k) 29 W k' j = M j := (setC_n h2).trans (setC_n h1)
theorem RI.w {M M' : MS} (hI : RI M) (h : ∀ j : Nat, j ≠ 28 → j ≠ 29 → j ≠ 30 → M' j = M j) : RI M' := hI.c (fun j _ hj => h j (by omega) (by omega) (by omega))
theorem NI.w {M M' : MS} (hN : NI M) (h : ∀ j : Nat, j ≠ 28 → j ≠ 29 → j ≠ 30 → M' j = M j) : NI M' := hN.c (fun j hj => h j (by omega) (by omega) (by omega))
set_option maxRecDepth 100000 in
set_option maxHeartbeats 4000000 in
theorem lpA_S_weighByUse {p : Program} {l : Launch} {e : Env} {s : State} {m : MethodId} {args : Array Value} {below : List Frame} {meth : Method} {c : Code} {X : am_X} {Q : State → Prop} {h : am_H} {nx : Nat} {x : Nat} {A : Nat → Prop} {P : Tg → Nat} {M : MS}  {k0 a : Int} (F : am_Fx p s m args meth c y_S_weighByUse b_S_weighByUse 9 ((Option.none : Option FieldType)) [] X) (hI : RI M) (hN : NI M) (hk0 : 0 ≤ k0 ∧ k0 ≤ 3) (ry : 0 ≤ a ∧ a ≤ 9) (hx : ∀ h9 : am_H, RepC X x A P (setC (setC M 28 (tld M k0 a) (M 1 0).toNat) 29 (w1 M k0 a) (M 1 0).toNat) h9 → OF A h h9 → V p l e ({ frames := 4, cells := 0, slots := 0, locals := 97 }) s m args below meth c 9 X Q h9 nx 0 0 106 [some (.ref (P (0, 0))), some (iV k0), some (iV a), some (lV (sumI (sp_u1 M k0 a) (M 1 0).toNat)), none, some (lV (sumI (sp_ua M k0 a) (M 1 0).toNat)), none, some (iV ((M 1 0).toNat : Int)), none] []) : ∀ (n k : Nat), (M 1 0).toNat < k + n → k ≤ (M 1 0).toNat → ∀ h9 : am_H, RepC X x A P (setC (setC M 28 (tld M k0 a) k) 29 (w1 M k0 a) k) h9 → OF A h h9 → V p l e ({ frames := 4, cells := 0, slots := 0, locals := 97 }) s m args below meth c 9 X Q h9 nx 0 0 8 [some (.ref (P (0, 0))), some (iV k0), some (iV a), some (lV (sumI (sp_u1 M k0 a) k)), none, some (lV (sumI (sp_ua M k0 a) k)), none, some (iV (k : Int)), none] [] := by
  intro n
  induction n with
  | zero =>
    intro k hk hk2
    exact absurd hk (by omega)
  | succ n ih =>
    intro k hk hk2 h9 hC9 hF9
    have q1 := hI.hfl
    refine v_iload (pc' := 10) F d_S_weighByUse_8 rfl rfl ?_
    refine v_aload_n (pc' := 11) (j := 0) F d_S_weighByUse_10 rfl rfl rfl ?_
    refine v_getf (pc' := 14) (C := zR_S) (T := zF_S) (N := 6) (ref := "BillShares") F d_S_weighByUse_11 rfl zi_S rfl 0 (by decide) wx_57 (Or.inl rfl) (hC9.t_top) rfl ?_
    refine v_callVP (pc' := 17) (C := zR_A) (T9 := zF_A) (N := 3) F d_S_weighByUse_14 rfl cal_A_size wx_156 wx_157 wx_158 rfl (hC9.t_ls (i := 0) ⟨by decide, by decide⟩) (c_size l X _ _ _ _ 0 (M 1 0) hC9 ⟨by decide, by decide⟩ hN.z0) rfl ⟨by decide, by decide, by decide, by decide⟩ (Nat.le_of_ble_eq_true rfl) rfl rfl ?_
    refine v_icmp_ge (tgt := 106) (pc' := 20) F d_S_weighByUse_17 (by decide) rfl (by omega) (by omega) (fun c17 => ?_) (fun c17 => ?_)
    · obtain rfl : k = (M 1 0).toNat := by omega
      exact v_subL (by (repeat' (first | exact trivial | exact rfl | refine And.intro ?_ ?_)); done) (hx h9 hC9 hF9)
    · refine v_aload_n (pc' := 21) (j := 0) F d_S_weighByUse_20 rfl rfl rfl ?_
      refine v_getf (pc' := 24) (C := zR_S) (T := zF_S) (N := 6) (ref := "BillShares") F d_S_weighByUse_21 rfl zi_S rfl 0 (by decide) wx_57 (Or.inl rfl) (hC9.t_top) rfl ?_
      refine v_iload (pc' := 26) F d_S_weighByUse_24 rfl rfl ?_
      refine v_callVP (pc' := 29) (C := zR_A) (T9 := zF_A) (N := 3) F d_S_weighByUse_26 rfl cal_A_get wx_283 wx_284 wx_285 rfl (hC9.t_ls (i := 0) ⟨by decide, by decide⟩) (c_get l X _ _ _ _ 0 (k : Int) hC9 ⟨by decide, by decide⟩ (hN.hcp 0 (by decide) (by decide)) (by show 0 ≤ (k : Int) ∧ (k : Int) < M 36 0; have := hN.z0; omega)) rfl ⟨by decide, by decide, by decide, by decide⟩ (Nat.le_of_ble_eq_true rfl) rfl rfl ?_
      refine v_cast (pc' := 32) (C := zR_F) (T9 := zF_F) (N := 10) F d_S_weighByUse_29 rfl wx_176 wx_915 rfl (hC9.t_fl (i := (k : Int)) (show 0 ≤ (k : Int) ∧ (k : Int) < M 1 0 by omega)) ?_
      refine v_astore_8 (pc' := 34) F d_S_weighByUse_32 rfl rfl (by decide) ?_
      refine v_aload (pc' := 36) F d_S_weighByUse_34 rfl rfl ?_
      refine v_aload (pc' := 38) F d_S_weighByUse_36 rfl rfl ?_
      refine v_iload_n (pc' := 39) (j := 1) F d_S_weighByUse_38 rfl rfl rfl ?_
      refine v_iload_n (pc' := 40) (j := 2) F d_S_weighByUse_39 rfl rfl rfl ?_
      refine v_callVP (pc' := 43) (C := zR_F) (T9 := zF_F) (N := 10) F d_S_weighByUse_40 rfl cal_F_whyBarred wx_539 wx_540 wx_541 rfl (hC9.t_fl (i := (k : Int)) (show 0 ≤ (k : Int) ∧ (k : Int) < M 1 0 by omega)) (c_F_whyBarred l X _ _ _ _ _ _ _ _ _ hC9 (hI.w (fun j z1 z2 z3 => wu_o z1 z2)) (hN.w (fun j z1 z2 z3 => wu_o z1 z2)) (show 0 ≤ (k : Int) ∧ (k : Int) < M 1 0 by omega) ry (by omega)) rfl ⟨by decide, by decide, by decide, by decide⟩ (Nat.le_of_ble_eq_true rfl) rfl rfl ?_
      refine v_topi (b := sp_barred M (k : Int) k0 a) rfl ?_
      have q3 := sp_barred_r M (k : Int) k0 a
      refine v_if_ne (tgt := 50) (pc' := 46) F d_S_weighByUse_43 (by decide) rfl (by omega) (fun c43 => ?_) (fun c43 => ?_)
      · refine v_iconst (pc' := 51) F d_S_weighByUse_50 rfl ?_
        refine cp_to (pc' := 54) F hC9 (f := (k : Int)) (show 0 ≤ (k : Int) ∧ (k : Int) < M 1 0 by omega) (by omega) d_S_weighByUse_51 rfl wx_199 (fun h1 hC1 hF1 => ?_)
        refine v_aload (pc' := 56) F d_S_weighByUse_54 rfl rfl ?_
        refine v_getf (pc' := 59) (C := zR_F) (T := zF_F) (N := 10) (ref := "BillShares$Flat") F d_S_weighByUse_56 rfl zi_F rfl 7 (by decide) wx_199 (Or.inl rfl) (hC1.t_fl (i := (k : Int)) (show 0 ≤ (k : Int) ∧ (k : Int) < M 1 0 by omega)) rfl ?_
        refine v_us ?_
        refine v_if_eq (tgt := 100) (pc' := 62) F d_S_weighByUse_59 (by decide) rfl (by omega) (fun c59 => ?_) (fun c59 => by exfalso; omega)
        refine v_iinc_7 (pc' := 103) F d_S_weighByUse_100 rfl rfl (by decide) ?_
        refine v_goto (tgt := 8) F d_S_weighByUse_103 (by decide) ?_
        first
        | exact v_subL (by (repeat' (first | exact trivial | exact rfl | refine And.intro ?_ ?_)); done) (ih (k + 1) (by omega) (by omega) _ (by rw [← wu_t (tld_t (by omega)) (w1_t (by omega))]; exact hC1) ((hF9).tr hF1))
        | (have e1 : (sumI (sp_u1 M k0 a) (k + 1)) = (sumI (sp_u1 M k0 a) k) := by show (sumI (sp_u1 M k0 a) k) + sp_u1 M k0 a (k : Int) = _; rw [show sp_u1 M k0 a (k : Int) = 0 from if_neg (by omega)]; omega
           have e2 : (sumI (sp_ua M k0 a) (k + 1)) = (sumI (sp_ua M k0 a) k) := by show (sumI (sp_ua M k0 a) k) + sp_ua M k0 a (k : Int) = _; rw [show sp_ua M k0 a (k : Int) = 0 from if_neg (by omega)]; omega
           have q9 := ih (k + 1) (by omega) (by omega) _ (by rw [← wu_f (tld_f (by omega)) (w1_f (by omega))]; exact hC1) ((hF9).tr hF1)
           rw [e1, e2] at q9
           exact v_subL (by (repeat' (first | exact trivial | exact rfl | refine And.intro ?_ ?_)); done) q9)
      · refine v_iconst (pc' := 47) F d_S_weighByUse_46 rfl ?_
        refine v_goto (tgt := 51) F d_S_weighByUse_47 (by decide) ?_
        refine cp_to (pc' := 54) F hC9 (f := (k : Int)) (show 0 ≤ (k : Int) ∧ (k : Int) < M 1 0 by omega) (by omega) d_S_weighByUse_51 rfl wx_199 (fun h2 hC2 hF2 => ?_)
        refine v_aload (pc' := 56) F d_S_weighByUse_54 rfl rfl ?_
        refine v_getf (pc' := 59) (C := zR_F) (T := zF_F) (N := 10) (ref := "BillShares$Flat") F d_S_weighByUse_56 rfl zi_F rfl 7 (by decide) wx_199 (Or.inl rfl) (hC2.t_fl (i := (k : Int)) (show 0 ≤ (k : Int) ∧ (k : Int) < M 1 0 by omega)) rfl ?_
        refine v_us ?_
        refine v_if_eq (tgt := 100) (pc' := 62) F d_S_weighByUse_59 (by decide) rfl (by omega) (fun c59 => by exfalso; omega) (fun c59 => ?_)
        refine v_aload (pc' := 64) F d_S_weighByUse_62 rfl rfl ?_
        refine v_aload (pc' := 66) F d_S_weighByUse_64 rfl rfl ?_
        refine v_iload_n (pc' := 67) (j := 1) F d_S_weighByUse_66 rfl rfl rfl ?_
        refine v_iload_n (pc' := 68) (j := 2) F d_S_weighByUse_67 rfl rfl rfl ?_
        refine v_callSP (pc' := 71) F d_S_weighByUse_68 rfl cal_S_startOf wx_556 wx_551 (c_S_startOf l X _ _ _) rfl ⟨by decide, by decide, by decide, by decide⟩ (Nat.le_of_ble_eq_true rfl) rfl rfl ?_
        refine v_iload_n (pc' := 72) (j := 2) F d_S_weighByUse_71 rfl rfl rfl ?_
        refine v_callSP (pc' := 75) F d_S_weighByUse_72 rfl cal_S_endOf wx_557 wx_554 (c_S_endOf l X _ _ _) rfl ⟨by decide, by decide, by decide, by decide⟩ (Nat.le_of_ble_eq_true rfl) rfl rfl ?_
        refine v_callVP (pc' := 78) (C := zR_F) (T9 := zF_F) (N := 10) F d_S_weighByUse_75 rfl cal_F_useBetween wx_558 wx_559 wx_560 rfl (hC2.t_fl (i := (k : Int)) (show 0 ≤ (k : Int) ∧ (k : Int) < M 1 0 by omega)) (c_F_useBetween l X _ _ _ _ _ _ _ _ _ _ hC2 (hI.w (fun j z1 z2 z3 => (upM_n z1).trans (wu_o z1 z2))) (hN.w (fun j z1 z2 z3 => (upM_n z1).trans (wu_o z1 z2))) (show 0 ≤ (k : Int) ∧ (k : Int) < M 1 0 by omega) (by omega) (by omega) (by omega)) rfl ⟨by decide, by decide, by decide, by decide⟩ (Nat.le_of_ble_eq_true rfl) rfl rfl ?_
        refine v_topl (b := sp_usedBy M (k : Int) k0 (365 * a) (365 * a + 365)) rfl ?_
        refine cp_we (pc' := 81) F hC2 (f := (k : Int)) (show 0 ≤ (k : Int) ∧ (k : Int) < M 1 0 by omega) d_S_weighByUse_78 rfl wx_200 (fun h3 hC3 hF3 => ?_)
        refine v_lload_n (pc' := 82) (j := 3) F d_S_weighByUse_81 rfl rfl rfl ?_
        refine v_aload (pc' := 84) F d_S_weighByUse_82 rfl rfl ?_
        refine v_getf (pc' := 87) (C := zR_F) (T := zF_F) (N := 10) (ref := "BillShares$Flat") F d_S_weighByUse_84 rfl zi_F rfl 8 (by decide) wx_200 (Or.inl rfl) (hC3.t_fl (i := (k : Int)) (show 0 ≤ (k : Int) ∧ (k : Int) < M 1 0 by omega)) rfl ?_
        refine v_usl ?_
        refine v_ladd (pc' := 88) F d_S_weighByUse_87 rfl ?_
        refine v_topl (b := (sumI (sp_u1 M k0 a) (k + 1))) (by show _ = (sumI (sp_u1 M k0 a) k) + sp_u1 M k0 a (k : Int); rw [show sp_u1 M k0 a (k : Int) = sp_usedBy M (k : Int) k0 (365 * a) (365 * a + 365) from if_pos (by omega)]) ?_
        refine v_lstore_3 (pc' := 89) F d_S_weighByUse_88 rfl rfl (by decide) ?_
        refine v_lload (pc' := 91) F d_S_weighByUse_89 rfl rfl ?_
        refine v_aload (pc' := 93) F d_S_weighByUse_91 rfl rfl ?_
        refine v_getf (pc' := 96) (C := zR_F) (T := zF_F) (N := 10) (ref := "BillShares$Flat") F d_S_weighByUse_93 rfl zi_F rfl 0 (by decide) wx_187 (Or.inl rfl) (hC3.t_fl (i := (k : Int)) (show 0 ≤ (k : Int) ∧ (k : Int) < M 1 0 by omega)) rfl ?_
        refine v_topi (b := M 2 (k : Int)) rfl ?_
        have q2 := hI.har (k : Int) (by omega) (by omega)
        refine v_i2l (pc' := 97) F d_S_weighByUse_96 rfl (by omega) ?_
        refine v_ladd (pc' := 98) F d_S_weighByUse_97 rfl ?_
        refine v_topl (b := (sumI (sp_ua M k0 a) (k + 1))) (by show _ = (sumI (sp_ua M k0 a) k) + sp_ua M k0 a (k : Int); rw [show sp_ua M k0 a (k : Int) = M 2 (k : Int) from if_pos (by omega)]) ?_
        refine v_lstore_5 (pc' := 100) F d_S_weighByUse_98 rfl rfl (by decide) ?_
        refine v_iinc_7 (pc' := 103) F d_S_weighByUse_100 rfl rfl (by decide) ?_
        refine v_goto (tgt := 8) F d_S_weighByUse_103 (by decide) ?_
        first
        | exact v_subL (by (repeat' (first | exact trivial | exact rfl | refine And.intro ?_ ?_)); done) (ih (k + 1) (by omega) (by omega) _ (by rw [← wu_t (tld_t (by omega)) (w1_t (by omega))]; exact hC3) ((((hF9).tr hF2)).tr hF3))
        | (have e1 : (sumI (sp_u1 M k0 a) (k + 1)) = (sumI (sp_u1 M k0 a) k) := by show (sumI (sp_u1 M k0 a) k) + sp_u1 M k0 a (k : Int) = _; rw [show sp_u1 M k0 a (k : Int) = 0 from if_neg (by omega)]; omega
           have e2 : (sumI (sp_ua M k0 a) (k + 1)) = (sumI (sp_ua M k0 a) k) := by show (sumI (sp_ua M k0 a) k) + sp_ua M k0 a (k : Int) = _; rw [show sp_ua M k0 a (k : Int) = 0 from if_neg (by omega)]; omega
           have q9 := ih (k + 1) (by omega) (by omega) _ (by rw [← wu_f (tld_f (by omega)) (w1_f (by omega))]; exact hC3) ((((hF9).tr hF2)).tr hF3)
           rw [e1, e2] at q9
           exact v_subL (by (repeat' (first | exact trivial | exact rfl | refine And.intro ?_ ?_)); done) q9)
theorem c_pu2 (l : Launch) (X : am_X) (h : am_H) (nx : Nat) {M : MS} {k0 a f : Int} (hI : RI M) (ry : 0 ≤ a ∧ a ≤ 9) (hf : 0 ≤ f ∧ f < M 1 0) (hb : ¬ sp_barred M f k0 a = 0) : CnP l X y_S_portion ({ frames := 0, cells := 0, slots := 0, locals := 0 }) [lV (M 2 f), lV (sp_usum M k0 a), lV (sp_uar M k0 a)] h nx (lV (sp_u2 M k0 a f)) := by
  have q1 := hI.hfl
  have q2 := hI.har f hf.1 (by omega)
  have q3 := sp_barred_r M f k0 a
  have q4 := sp_usum_t (k := k0) hI.hme hI.hrd hI.hda hI.hva hI.hgo hI.hmo hI.hab hI.hte hI.hfo ry
  have q5 : 0 ≤ sp_uar M k0 a ∧ sp_uar M k0 a ≤ 20000 := by
    have := sumI_r (g := sp_ua M k0 a) (a := 0) (b := 1000) (n := (M 1 0).toNat) (fun i hi => by have := hI.har (i : Int) (by omega) (by omega); unfold sp_ua; split <;> omega)
    have e : sp_uar M k0 a = sumI (sp_ua M k0 a) (M 1 0).toNat := rfl
    omega
  by_cases c : 0 < sp_uar M k0 a
  · rw [u2_f (by omega) c, Int.mul_comm]
    exact c_S_portion l X h nx _ _ _ (by omega) q4.1 c (by omega)
  · rw [u2_z (by omega) c]
    exact c_S_portionZ l X h nx _ _ _ (by omega)
set_option maxRecDepth 100000 in
set_option maxHeartbeats 4000000 in
theorem lpB_S_weighByUse {p : Program} {l : Launch} {e : Env} {s : State} {m : MethodId} {args : Array Value} {below : List Frame} {meth : Method} {c : Code} {X : am_X} {Q : State → Prop} {h : am_H} {nx : Nat} {x : Nat} {A : Nat → Prop} {P : Tg → Nat} {M : MS}  {k0 a : Int} (F : am_Fx p s m args meth c y_S_weighByUse b_S_weighByUse 9 ((Option.none : Option FieldType)) [] X) (hI : RI M) (hN : NI M) (hk0 : 0 ≤ k0 ∧ k0 ≤ 3) (ry : 0 ≤ a ∧ a ≤ 9) (hx : ∀ h9 : am_H, RepC X x A P (setC (setC (setC M 28 (tld M k0 a) (M 1 0).toNat) 29 (w1 M k0 a) (M 1 0).toNat) 29 (sp_u2 M k0 a) (M 1 0).toNat) h9 → OF A h h9 → V p l e ({ frames := 4, cells := 0, slots := 0, locals := 97 }) s m args below meth c 9 X Q h9 nx 0 0 166 [some (.ref (P (0, 0))), some (iV k0), some (iV a), some (lV (sp_usum M k0 a)), none, some (lV (sp_uar M k0 a)), none, some (iV ((M 1 0).toNat : Int)), none] []) : ∀ (n k : Nat), (M 1 0).toNat < k + n → k ≤ (M 1 0).toNat → ∀ h9 : am_H, RepC X x A P (setC (setC (setC M 28 (tld M k0 a) (M 1 0).toNat) 29 (w1 M k0 a) (M 1 0).toNat) 29 (sp_u2 M k0 a) k) h9 → OF A h h9 → V p l e ({ frames := 4, cells := 0, slots := 0, locals := 97 }) s m args below meth c 9 X Q h9 nx 0 0 109 [some (.ref (P (0, 0))), some (iV k0), some (iV a), some (lV (sp_usum M k0 a)), none, some (lV (sp_uar M k0 a)), none, some (iV (k : Int)), none] [] := by
  intro n
  induction n with
  | zero =>
    intro k hk hk2
    exact absurd hk (by omega)
  | succ n ih =>
    intro k hk hk2 h9 hC9 hF9
    have q1 := hI.hfl
    refine v_iload (pc' := 111) F d_S_weighByUse_109 rfl rfl ?_
    refine v_aload_n (pc' := 112) (j := 0) F d_S_weighByUse_111 rfl rfl rfl ?_
    refine v_getf (pc' := 115) (C := zR_S) (T := zF_S) (N := 6) (ref := "BillShares") F d_S_weighByUse_112 rfl zi_S rfl 0 (by decide) wx_57 (Or.inl rfl) (hC9.t_top) rfl ?_
    refine v_callVP (pc' := 118) (C := zR_A) (T9 := zF_A) (N := 3) F d_S_weighByUse_115 rfl cal_A_size wx_156 wx_157 wx_158 rfl (hC9.t_ls (i := 0) ⟨by decide, by decide⟩) (c_size l X _ _ _ _ 0 (M 1 0) hC9 ⟨by decide, by decide⟩ hN.z0) rfl ⟨by decide, by decide, by decide, by decide⟩ (Nat.le_of_ble_eq_true rfl) rfl rfl ?_
    refine v_icmp_ge (tgt := 166) (pc' := 121) F d_S_weighByUse_118 (by decide) rfl (by omega) (by omega) (fun c118 => ?_) (fun c118 => ?_)
    · obtain rfl : k = (M 1 0).toNat := by omega
      exact v_subL (by (repeat' (first | exact trivial | exact rfl | refine And.intro ?_ ?_)); done) (hx h9 hC9 hF9)
    · refine v_aload_n (pc' := 122) (j := 0) F d_S_weighByUse_121 rfl rfl rfl ?_
      refine v_getf (pc' := 125) (C := zR_S) (T := zF_S) (N := 6) (ref := "BillShares") F d_S_weighByUse_122 rfl zi_S rfl 0 (by decide) wx_57 (Or.inl rfl) (hC9.t_top) rfl ?_
      refine v_iload (pc' := 127) F d_S_weighByUse_125 rfl rfl ?_
      refine v_callVP (pc' := 130) (C := zR_A) (T9 := zF_A) (N := 3) F d_S_weighByUse_127 rfl cal_A_get wx_283 wx_284 wx_285 rfl (hC9.t_ls (i := 0) ⟨by decide, by decide⟩) (c_get l X _ _ _ _ 0 (k : Int) hC9 ⟨by decide, by decide⟩ (hN.hcp 0 (by decide) (by decide)) (by show 0 ≤ (k : Int) ∧ (k : Int) < M 36 0; have := hN.z0; omega)) rfl ⟨by decide, by decide, by decide, by decide⟩ (Nat.le_of_ble_eq_true rfl) rfl rfl ?_
      refine v_cast (pc' := 133) (C := zR_F) (T9 := zF_F) (N := 10) F d_S_weighByUse_130 rfl wx_176 wx_915 rfl (hC9.t_fl (i := (k : Int)) (show 0 ≤ (k : Int) ∧ (k : Int) < M 1 0 by omega)) ?_
      refine v_astore_8 (pc' := 135) F d_S_weighByUse_133 rfl rfl (by decide) ?_
      refine v_aload (pc' := 137) F d_S_weighByUse_135 rfl rfl ?_
      refine v_getf (pc' := 140) (C := zR_F) (T := zF_F) (N := 10) (ref := "BillShares$Flat") F d_S_weighByUse_137 rfl zi_F rfl 7 (by decide) wx_199 (Or.inl rfl) (hC9.t_fl (i := (k : Int)) (show 0 ≤ (k : Int) ∧ (k : Int) < M 1 0 by omega)) rfl ?_
      refine v_topi (b := tld M k0 a (k : Int)) (show setC M 28 (tld M k0 a) (M 1 0).toNat 28 (k : Int) = _ from setC_in (by omega)) ?_
      have q3 := tld_r M k0 a (k : Int)
      refine v_if_ne (tgt := 160) (pc' := 143) F d_S_weighByUse_140 (by decide) rfl (by omega) (fun c140 => ?_) (fun c140 => ?_)
      · refine v_iinc_7 (pc' := 163) F d_S_weighByUse_160 rfl rfl (by decide) ?_
        refine v_goto (tgt := 109) F d_S_weighByUse_163 (by decide) ?_
        first
        | exact v_subL (by (repeat' (first | exact trivial | exact rfl | refine And.intro ?_ ?_)); done) (ih (k + 1) (by omega) (by omega) _ (by rw [← setC_s]; exact hC9) hF9)
        | exact v_subL (by (repeat' (first | exact trivial | exact rfl | refine And.intro ?_ ?_)); done) (ih (k + 1) (by omega) (by omega) _ (by rw [← setC_keep ((setC_in (by omega)).trans (by have hb : sp_barred M (k : Int) k0 a = 0 := Decidable.by_contra (fun w => by have := tld_f w; omega); rw [w1_t hb, u2_t hb]))]; exact hC9) hF9)
      · refine v_aload (pc' := 145) F d_S_weighByUse_143 rfl rfl ?_
        refine v_aload (pc' := 147) F d_S_weighByUse_145 rfl rfl ?_
        refine v_getf (pc' := 150) (C := zR_F) (T := zF_F) (N := 10) (ref := "BillShares$Flat") F d_S_weighByUse_147 rfl zi_F rfl 0 (by decide) wx_187 (Or.inl rfl) (hC9.t_fl (i := (k : Int)) (show 0 ≤ (k : Int) ∧ (k : Int) < M 1 0 by omega)) rfl ?_
        refine v_topi (b := M 2 (k : Int)) rfl ?_
        have q2 := hI.har (k : Int) (by omega) (by omega)
        refine v_i2l (pc' := 151) F d_S_weighByUse_150 rfl (by omega) ?_
        refine v_lload_n (pc' := 152) (j := 3) F d_S_weighByUse_151 rfl rfl rfl ?_
        refine v_lload (pc' := 154) F d_S_weighByUse_152 rfl rfl ?_
        refine v_callSP (pc' := 157) F d_S_weighByUse_154 rfl cal_S_portion wx_517 wx_518 (c_pu2 l X _ _ hI ry (show 0 ≤ (k : Int) ∧ (k : Int) < M 1 0 by omega) (fun w => by have := tld_t w; omega)) rfl ⟨by decide, by decide, by decide, by decide⟩ (Nat.le_of_ble_eq_true rfl) rfl rfl ?_
        refine cp_we (pc' := 160) F hC9 (f := (k : Int)) (show 0 ≤ (k : Int) ∧ (k : Int) < M 1 0 by omega) d_S_weighByUse_157 rfl wx_200 (fun h1 hC1 hF1 => ?_)
        refine v_iinc_7 (pc' := 163) F d_S_weighByUse_160 rfl rfl (by decide) ?_
        refine v_goto (tgt := 109) F d_S_weighByUse_163 (by decide) ?_
        first
        | exact v_subL (by (repeat' (first | exact trivial | exact rfl | refine And.intro ?_ ?_)); done) (ih (k + 1) (by omega) (by omega) _ (by rw [← setC_s]; exact hC1) ((hF9).tr hF1))
        | exact v_subL (by (repeat' (first | exact trivial | exact rfl | refine And.intro ?_ ?_)); done) (ih (k + 1) (by omega) (by omega) _ (by rw [← setC_keep ((setC_in (by omega)).trans (by have hb : sp_barred M (k : Int) k0 a = 0 := Decidable.by_contra (fun w => by have := tld_f w; omega); rw [w1_t hb, u2_t hb]))]; exact hC1) ((hF9).tr hF1))
set_option maxRecDepth 100000 in
set_option maxHeartbeats 4000000 in
theorem tl_S_weighByUse {p : Program} {l : Launch} {e : Env} {s : State} {m : MethodId} {args : Array Value} {below : List Frame} {meth : Method} {c : Code} {X : am_X} {h : am_H} {nx : Nat} {x : Nat} {A : Nat → Prop} {P : Tg → Nat} {M : MS}  {k0 a u r i : Int} {h9 : am_H} (F : am_Fx p s m args meth c y_S_weighByUse b_S_weighByUse 9 none [] X) (hI : RI M) (hN : NI M) (hk0 : 0 ≤ k0 ∧ k0 ≤ 3) (ry : 0 ≤ a ∧ a ≤ 9) (hC9 : RepC X x A P (setC (setC M 28 (tld M k0 a) (M 1 0).toNat) 29 (sp_u2 M k0 a) (M 1 0).toNat) h9) (hF9 : OF A h h9) : V p l e ({ frames := 4, cells := 0, slots := 0, locals := 97 }) s m args below meth c 9 X (am_Q X below s 0 0 (fun o h' nx' => RepC X x A P (setC (setC M 28 (tld M k0 a) (M 1 0).toNat) 29 (sp_num M k0 a) (M 1 0).toNat) h' ∧ OF A h h' ∧ nx' = nx ∧ o = .returned none)) h9 nx 0 0 166 [some (.ref (P (0, 0))), some (iV k0), some (iV a), some (lV u), none, some (lV r), none, some (iV i), none] [] := by
  have q1 := hI.hfl
  have e0 := u2_0 (k := k0) hI ry
  have qs := sumI_r (g := sp_u2 M k0 a) (a := 0) (b := 23400000000000000) (n := (M 1 0).toNat) (fun i hi => (sp_u2_r hI.hfl hI.har hI.hme hI.hrd hI.hda hI.hva hI.hgo hI.hmo hI.hab hI.hte hI.hfo ry (by omega)).2)
  refine v_aload_n (pc' := 167) (j := 0) F d_S_weighByUse_166 rfl rfl rfl ?_
  refine v_callVP (pc' := 170) (C := zR_S) (T9 := zF_S) (N := 6) F d_S_weighByUse_167 rfl cal_S_sumOfWeights wx_531 wx_533 wp_13 rfl (hC9.t_top) (c_S_sumOfWeights l X _ _ _ _ _ _ hC9 (hI.w (fun j z1 z2 z3 => wu_o z1 z2)) (hN.w (fun j z1 z2 z3 => wu_o z1 z2))) rfl ⟨by decide, by decide, by decide, by decide⟩ (Nat.le_of_ble_eq_true rfl) rfl rfl ?_
  refine v_topl (b := sumI (sp_u2 M k0 a) (M 1 0).toNat) (show sumI ((setC (setC M 28 (tld M k0 a) (M 1 0).toNat) 29 (sp_u2 M k0 a) (M 1 0).toNat) 29) (M 1 0).toNat = _ from sumI_c (fun i hi => setC_in (by omega))) ?_
  refine v_lconst (pc' := 171) (z := 0) F d_S_weighByUse_170 rfl (by decide) ?_
  refine v_lc_ne (tgt := 179) (pc' := 175) F d_S_weighByUse_171 d_S_weighByUse_172 (by decide) rfl (by omega) (by omega) (fun c171 => ?_) (fun c171 => ?_)
  · exact v_return F d_S_weighByUse_179 rfl (Nat.le_refl _) (Nat.le_refl _) (by first | exact ⟨by rw [setC_g (g' := (sp_u2 M k0 a)) (fun f _ _ => num_n (fun w => by have := e0.mpr w; omega))]; exact hC9, hF9, rfl, rfl⟩ | exact ⟨by rw [setC_c] at hC8; rw [setC_g (g' := M 2) (fun f _ _ => num_z (e0.mp (by omega)))]; exact hC8, (hF9).tr hF8, rfl, rfl⟩)
  · refine v_aload_n (pc' := 176) (j := 0) F d_S_weighByUse_175 rfl rfl rfl ?_
    refine v_callV (pc' := 179) (C := zR_S) (T9 := zF_S) (N := 6) F d_S_weighByUse_176 rfl cal_S_weighByArea wx_523 wx_525 wp_11 rfl (hC9.t_top) (c_S_weighByArea l X _ _ _ _ _ _ hC9 (hI.w (fun j z1 z2 z3 => wu_o z1 z2)) (hN.w (fun j z1 z2 z3 => wu_o z1 z2))) rfl ⟨by decide, by decide, by decide, by decide⟩ (Nat.le_of_ble_eq_true rfl) (fun _ _ _ q => by cases q.2.2.2) (fun r9 h8 n8 q => ?_)
    obtain ⟨hC8, hF8, rfl, q9⟩ := q
    cases q9
    have hC8 : RepC X x A P (setC (setC (setC M 28 (tld M k0 a) (M 1 0).toNat) 29 (sp_u2 M k0 a) (M 1 0).toNat) 29 (M 2) (M 1 0).toNat) h8 := hC8
    exact v_return F d_S_weighByUse_179 rfl (Nat.le_refl _) (Nat.le_refl _) (by first | exact ⟨by rw [setC_g (g' := (sp_u2 M k0 a)) (fun f _ _ => num_n (fun w => by have := e0.mpr w; omega))]; exact hC9, hF9, rfl, rfl⟩ | exact ⟨by rw [setC_c] at hC8; rw [setC_g (g' := M 2) (fun f _ _ => num_z (e0.mp (by omega)))]; exact hC8, (hF9).tr hF8, rfl, rfl⟩)
set_option maxRecDepth 100000 in
set_option maxHeartbeats 4000000 in
theorem c_S_weighByUse (l : Launch) (X : am_X) (h : am_H) (nx : Nat) (x : Nat) (A : Nat → Prop) (P : Tg → Nat) (M : MS) (k0 a : Int) (hC : RepC X x A P M h) (hI : RI M) (hN : NI M) (hk0 : 0 ≤ k0 ∧ k0 ≤ 3) (ry : 0 ≤ a ∧ a ≤ 9) : Cn l X y_S_weighByUse ({ frames := 4, cells := 0, slots := 0, locals := 97 }) [.ref (P (0, 0)), iV k0, iV a] h nx (fun o h' nx' => RepC X x A P (setC (setC M 28 (tld M k0 a) (M 1 0).toNat) 29 (sp_num M k0 a) (M 1 0).toNat) h' ∧ OF A h h' ∧ nx' = nx ∧ o = .returned none) := by
  refine cn_of (k := 6) (L0 := [some (.ref (P (0, 0))), some (iV k0), some (iV a), none, none, none, none, none, none]) rfl wx_538 (Nat.le_of_ble_eq_true rfl) rfl (fun p e s m args below meth c F => ?_)
  refine v_lconst (pc' := 1) (z := 0) F d_S_weighByUse_0 rfl (by decide) ?_
  refine v_lstore_3 (pc' := 2) F d_S_weighByUse_1 rfl rfl (by decide) ?_
  refine v_lconst (pc' := 3) (z := 0) F d_S_weighByUse_2 rfl (by decide) ?_
  refine v_lstore_5 (pc' := 5) F d_S_weighByUse_3 rfl rfl (by decide) ?_
  refine v_iconst (pc' := 6) F d_S_weighByUse_5 rfl ?_
  refine v_istore_7 (pc' := 8) F d_S_weighByUse_6 rfl rfl (by decide) ?_
  refine lpA_S_weighByUse (h := h) F hI hN hk0 ry (fun h9 hC9 hF9 => ?_) ((M 1 0).toNat + 1) 0 (by omega) (by omega) _ (by rw [setC_0, setC_0]; exact hC) OF.rf
  refine v_iconst (pc' := 107) F d_S_weighByUse_106 rfl ?_
  refine v_istore_7 (pc' := 109) F d_S_weighByUse_107 rfl rfl (by decide) ?_
  exact lpB_S_weighByUse (h := h) F hI hN hk0 ry (fun h8 hC8 hF8 => tl_S_weighByUse (h := h) F hI hN hk0 ry (by rw [setC_c] at hC8; exact hC8) hF8) ((M 1 0).toNat + 1) 0 (by omega) (by omega) _ (by rw [setC_0]; exact hC9) hF9
set_option maxRecDepth 100000 in
set_option maxHeartbeats 4000000 in
theorem lpA_S_shareOut {p : Program} {l : Launch} {e : Env} {s : State} {m : MethodId} {args : Array Value} {below : List Frame} {meth : Method} {c : Code} {X : am_X} {Q : State → Prop} {h : am_H} {nx : Nat} {x : Nat} {A : Nat → Prop} {P : Tg → Nat} {M : MS}  {k0 a c0 b0 : Int} {t0 : Int → Int} (F : am_Fx p s m args meth c y_S_shareOut b_S_shareOut 9 ((Option.none : Option FieldType)) [] X) (hI : RI M) (hN : NI M) (hk0 : 0 ≤ k0 ∧ k0 ≤ 3) (ry : 0 ≤ a ∧ a ≤ 9) (h21 : M 21 a = M 1 0) (hn : 0 < M 1 0) (hx : ∀ h9 : am_H, RepC X x A P (set4 (sh2 M k0 a) 23 a k0 ((sh2 M k0 a) 30) (M 1 0).toNat) h9 → OF A h h9 → V p l e ({ frames := 5, cells := 0, slots := 0, locals := 125 }) s m args below meth c 9 X Q h9 nx 0 0 90 [some (.ref (P (0, 0))), some (iV k0), some (iV a), some (lV c0), none, some (lV b0), none, some (iV ((M 1 0).toNat : Int)), none] []) : ∀ (n k : Nat), (M 1 0).toNat < k + n → k ≤ (M 1 0).toNat → ∀ h9 : am_H, RepC X x A P (set4 (sh2 M k0 a) 23 a k0 ((sh2 M k0 a) 30) k) h9 → OF A h h9 → V p l e ({ frames := 5, cells := 0, slots := 0, locals := 125 }) s m args below meth c 9 X Q h9 nx 0 0 42 [some (.ref (P (0, 0))), some (iV k0), some (iV a), some (lV c0), none, some (lV b0), none, some (iV (k : Int)), none] [] := by
  intro n
  induction n with
  | zero =>
    intro k hk hk2
    exact absurd hk (by omega)
  | succ n ih =>
    intro k hk hk2 h9 hC9 hF9
    have q1 := hI.hfl
    refine v_iload (pc' := 44) F d_S_shareOut_42 rfl rfl ?_
    refine v_aload_n (pc' := 45) (j := 0) F d_S_shareOut_44 rfl rfl rfl ?_
    refine v_getf (pc' := 48) (C := zR_S) (T := zF_S) (N := 6) (ref := "BillShares") F d_S_shareOut_45 rfl zi_S rfl 0 (by decide) wx_57 (Or.inl rfl) (hC9.t_top) rfl ?_
    refine v_callVP (pc' := 51) (C := zR_A) (T9 := zF_A) (N := 3) F d_S_shareOut_48 rfl cal_A_size wx_156 wx_157 wx_158 rfl (hC9.t_ls (i := 0) ⟨by decide, by decide⟩) (c_size l X _ _ _ _ 0 (M 1 0) hC9 ⟨by decide, by decide⟩ hN.z0) rfl ⟨by decide, by decide, by decide, by decide⟩ (Nat.le_of_ble_eq_true rfl) rfl rfl ?_
    refine v_icmp_ge (tgt := 90) (pc' := 54) F d_S_shareOut_51 (by decide) rfl (by omega) (by omega) (fun c51 => ?_) (fun c51 => ?_)
    · obtain rfl : k = (M 1 0).toNat := by omega
      exact v_subL (by (repeat' (first | exact trivial | exact rfl | refine And.intro ?_ ?_)); done) (hx h9 hC9 hF9)
    · refine v_aload_n (pc' := 55) (j := 0) F d_S_shareOut_54 rfl rfl rfl ?_
      refine v_getf (pc' := 58) (C := zR_S) (T := zF_S) (N := 6) (ref := "BillShares") F d_S_shareOut_55 rfl zi_S rfl 0 (by decide) wx_57 (Or.inl rfl) (hC9.t_top) rfl ?_
      refine v_iload (pc' := 60) F d_S_shareOut_58 rfl rfl ?_
      refine v_callVP (pc' := 63) (C := zR_A) (T9 := zF_A) (N := 3) F d_S_shareOut_60 rfl cal_A_get wx_283 wx_284 wx_285 rfl (hC9.t_ls (i := 0) ⟨by decide, by decide⟩) (c_get l X _ _ _ _ 0 (k : Int) hC9 ⟨by decide, by decide⟩ (hN.hcp 0 (by decide) (by decide)) (by show 0 ≤ (k : Int) ∧ (k : Int) < M 36 0; have := hN.z0; omega)) rfl ⟨by decide, by decide, by decide, by decide⟩ (Nat.le_of_ble_eq_true rfl) rfl rfl ?_
      refine v_cast (pc' := 66) (C := zR_F) (T9 := zF_F) (N := 10) F d_S_shareOut_63 rfl wx_176 wx_915 rfl (hC9.t_fl (i := (k : Int)) (show 0 ≤ (k : Int) ∧ (k : Int) < M 1 0 by omega)) ?_
      refine v_astore_8 (pc' := 68) F d_S_shareOut_66 rfl rfl (by decide) ?_
      refine v_aload (pc' := 70) F d_S_shareOut_68 rfl rfl ?_
      refine v_iload_n (pc' := 71) (j := 2) F d_S_shareOut_70 rfl rfl rfl ?_
      refine v_callVP (pc' := 74) (C := zR_F) (T9 := zF_F) (N := 10) F d_S_shareOut_71 rfl cal_F_billOf wx_486 wx_487 wx_488 rfl (hC9.t_fl (i := (k : Int)) (show 0 ≤ (k : Int) ∧ (k : Int) < M 1 0 by omega)) (c_F_billOfE l X _ _ _ _ _ _ (k : Int) a hC9 (show 0 ≤ (k : Int) ∧ (k : Int) < M 1 0 by omega) ry (show (k : Int) < M 21 a by omega)) rfl ⟨by decide, by decide, by decide, by decide⟩ (Nat.le_of_ble_eq_true rfl) rfl rfl ?_
      refine v_getf (pc' := 77) (C := zR_B) (T := zF_B) (N := 3) (ref := "BillShares$Bill") F d_S_shareOut_74 rfl zi_B rfl 0 (by decide) wx_496 (Or.inl rfl) (hC9.t_bl (i := (20 * a + (k : Int))) (show (0 ≤ 20 * a + (k : Int) ∧ 20 * a + (k : Int) < 200) ∧ (20 * a + (k : Int)) % 20 < M 21 ((20 * a + (k : Int)) / 20) from bl_lv (by omega) ry (by omega))) rfl ?_
      refine v_iload_n (pc' := 78) (j := 1) F d_S_shareOut_77 rfl rfl rfl ?_
      refine v_aload (pc' := 80) F d_S_shareOut_78 rfl rfl ?_
      refine v_getf (pc' := 83) (C := zR_F) (T := zF_F) (N := 10) (ref := "BillShares$Flat") F d_S_shareOut_80 rfl zi_F rfl 9 (by decide) wx_201 (Or.inl rfl) (hC9.t_fl (i := (k : Int)) (show 0 ≤ (k : Int) ∧ (k : Int) < M 1 0 by omega)) rfl ?_
      refine v_topl (b := (sh2 M k0 a) 30 (k : Int)) rfl ?_
      refine cp_bb (pc' := 84) F hC9 (f := (20 * a + (k : Int))) (show (0 ≤ 20 * a + (k : Int) ∧ 20 * a + (k : Int) < 200) ∧ (20 * a + (k : Int)) % 20 < M 21 ((20 * a + (k : Int)) / 20) from bl_lv (by omega) ry (by omega)) d_S_shareOut_83 rfl (by omega) (by omega) (fun h1 hC1 hF1 => ?_)
      refine v_iinc_7 (pc' := 87) F d_S_shareOut_84 rfl rfl (by decide) ?_
      refine v_goto (tgt := 42) F d_S_shareOut_87 (by decide) ?_
      exact v_subL (by (repeat' (first | exact trivial | exact rfl | refine And.intro ?_ ?_)); done) (ih (k + 1) (by omega) (by omega) _ (by rw [← set4_s hk0, show 80 * a + 4 * (k : Int) + k0 = 4 * (20 * a + (k : Int)) + k0 by omega]; exact hC1) ((hF9).tr hF1))
set_option maxRecDepth 100000 in
set_option maxHeartbeats 4000000 in
theorem lpB_S_shareOut {p : Program} {l : Launch} {e : Env} {s : State} {m : MethodId} {args : Array Value} {below : List Frame} {meth : Method} {c : Code} {X : am_X} {Q : State → Prop} {h : am_H} {nx : Nat} {x : Nat} {A : Nat → Prop} {P : Tg → Nat} {M : MS}  {k0 a c0 b0 : Int} {t0 : Int → Int} (F : am_Fx p s m args meth c y_S_shareOut b_S_shareOut 9 ((Option.none : Option FieldType)) [] X) (hI : RI M) (hN : NI M) (hk0 : 0 ≤ k0 ∧ k0 ≤ 3) (ry : 0 ≤ a ∧ a ≤ 9) (h21 : M 21 a = M 1 0) (hn : 0 < M 1 0) (hx : ∀ h9 : am_H, RepC X x A P (set4 (sh5 M k0 a t0) 24 a k0 ((sh5 M k0 a t0) 30) (M 1 0).toNat) h9 → OF A h h9 → V p l e ({ frames := 5, cells := 0, slots := 0, locals := 125 }) s m args below meth c 9 X Q h9 nx 0 0 155 [some (.ref (P (0, 0))), some (iV k0), some (iV a), some (lV c0), none, some (lV b0), none, some (iV ((M 1 0).toNat : Int)), none] []) : ∀ (n k : Nat), (M 1 0).toNat < k + n → k ≤ (M 1 0).toNat → ∀ h9 : am_H, RepC X x A P (set4 (sh5 M k0 a t0) 24 a k0 ((sh5 M k0 a t0) 30) k) h9 → OF A h h9 → V p l e ({ frames := 5, cells := 0, slots := 0, locals := 125 }) s m args below meth c 9 X Q h9 nx 0 0 107 [some (.ref (P (0, 0))), some (iV k0), some (iV a), some (lV c0), none, some (lV b0), none, some (iV (k : Int)), none] [] := by
  intro n
  induction n with
  | zero =>
    intro k hk hk2
    exact absurd hk (by omega)
  | succ n ih =>
    intro k hk hk2 h9 hC9 hF9
    have q1 := hI.hfl
    refine v_iload (pc' := 109) F d_S_shareOut_107 rfl rfl ?_
    refine v_aload_n (pc' := 110) (j := 0) F d_S_shareOut_109 rfl rfl rfl ?_
    refine v_getf (pc' := 113) (C := zR_S) (T := zF_S) (N := 6) (ref := "BillShares") F d_S_shareOut_110 rfl zi_S rfl 0 (by decide) wx_57 (Or.inl rfl) (hC9.t_top) rfl ?_
    refine v_callVP (pc' := 116) (C := zR_A) (T9 := zF_A) (N := 3) F d_S_shareOut_113 rfl cal_A_size wx_156 wx_157 wx_158 rfl (hC9.t_ls (i := 0) ⟨by decide, by decide⟩) (c_size l X _ _ _ _ 0 (M 1 0) hC9 ⟨by decide, by decide⟩ hN.z0) rfl ⟨by decide, by decide, by decide, by decide⟩ (Nat.le_of_ble_eq_true rfl) rfl rfl ?_
    refine v_icmp_ge (tgt := 155) (pc' := 119) F d_S_shareOut_116 (by decide) rfl (by omega) (by omega) (fun c116 => ?_) (fun c116 => ?_)
    · obtain rfl : k = (M 1 0).toNat := by omega
      exact v_subL (by (repeat' (first | exact trivial | exact rfl | refine And.intro ?_ ?_)); done) (hx h9 hC9 hF9)
    · refine v_aload_n (pc' := 120) (j := 0) F d_S_shareOut_119 rfl rfl rfl ?_
      refine v_getf (pc' := 123) (C := zR_S) (T := zF_S) (N := 6) (ref := "BillShares") F d_S_shareOut_120 rfl zi_S rfl 0 (by decide) wx_57 (Or.inl rfl) (hC9.t_top) rfl ?_
      refine v_iload (pc' := 125) F d_S_shareOut_123 rfl rfl ?_
      refine v_callVP (pc' := 128) (C := zR_A) (T9 := zF_A) (N := 3) F d_S_shareOut_125 rfl cal_A_get wx_283 wx_284 wx_285 rfl (hC9.t_ls (i := 0) ⟨by decide, by decide⟩) (c_get l X _ _ _ _ 0 (k : Int) hC9 ⟨by decide, by decide⟩ (hN.hcp 0 (by decide) (by decide)) (by show 0 ≤ (k : Int) ∧ (k : Int) < M 36 0; have := hN.z0; omega)) rfl ⟨by decide, by decide, by decide, by decide⟩ (Nat.le_of_ble_eq_true rfl) rfl rfl ?_
      refine v_cast (pc' := 131) (C := zR_F) (T9 := zF_F) (N := 10) F d_S_shareOut_128 rfl wx_176 wx_915 rfl (hC9.t_fl (i := (k : Int)) (show 0 ≤ (k : Int) ∧ (k : Int) < M 1 0 by omega)) ?_
      refine v_astore_8 (pc' := 133) F d_S_shareOut_131 rfl rfl (by decide) ?_
      refine v_aload (pc' := 135) F d_S_shareOut_133 rfl rfl ?_
      refine v_iload_n (pc' := 136) (j := 2) F d_S_shareOut_135 rfl rfl rfl ?_
      refine v_callVP (pc' := 139) (C := zR_F) (T9 := zF_F) (N := 10) F d_S_shareOut_136 rfl cal_F_billOf wx_486 wx_487 wx_488 rfl (hC9.t_fl (i := (k : Int)) (show 0 ≤ (k : Int) ∧ (k : Int) < M 1 0 by omega)) (c_F_billOfE l X _ _ _ _ _ _ (k : Int) a hC9 (show 0 ≤ (k : Int) ∧ (k : Int) < M 1 0 by omega) ry (show (k : Int) < M 21 a by omega)) rfl ⟨by decide, by decide, by decide, by decide⟩ (Nat.le_of_ble_eq_true rfl) rfl rfl ?_
      refine v_getf (pc' := 142) (C := zR_B) (T := zF_B) (N := 3) (ref := "BillShares$Bill") F d_S_shareOut_139 rfl zi_B rfl 1 (by decide) wx_498 (Or.inl rfl) (hC9.t_bl (i := (20 * a + (k : Int))) (show (0 ≤ 20 * a + (k : Int) ∧ 20 * a + (k : Int) < 200) ∧ (20 * a + (k : Int)) % 20 < M 21 ((20 * a + (k : Int)) / 20) from bl_lv (by omega) ry (by omega))) rfl ?_
      refine v_iload_n (pc' := 143) (j := 1) F d_S_shareOut_142 rfl rfl rfl ?_
      refine v_aload (pc' := 145) F d_S_shareOut_143 rfl rfl ?_
      refine v_getf (pc' := 148) (C := zR_F) (T := zF_F) (N := 10) (ref := "BillShares$Flat") F d_S_shareOut_145 rfl zi_F rfl 9 (by decide) wx_201 (Or.inl rfl) (hC9.t_fl (i := (k : Int)) (show 0 ≤ (k : Int) ∧ (k : Int) < M 1 0 by omega)) rfl ?_
      refine v_topl (b := (sh5 M k0 a t0) 30 (k : Int)) rfl ?_
      refine cp_bu (pc' := 149) F hC9 (f := (20 * a + (k : Int))) (show (0 ≤ 20 * a + (k : Int) ∧ 20 * a + (k : Int) < 200) ∧ (20 * a + (k : Int)) % 20 < M 21 ((20 * a + (k : Int)) / 20) from bl_lv (by omega) ry (by omega)) d_S_shareOut_148 rfl (by omega) (by omega) (fun h1 hC1 hF1 => ?_)
      refine v_iinc_7 (pc' := 152) F d_S_shareOut_149 rfl rfl (by decide) ?_
      refine v_goto (tgt := 107) F d_S_shareOut_152 (by decide) ?_
      exact v_subL (by (repeat' (first | exact trivial | exact rfl | refine And.intro ?_ ?_)); done) (ih (k + 1) (by omega) (by omega) _ (by rw [← set4_s hk0, show 80 * a + 4 * (k : Int) + k0 = 4 * (20 * a + (k : Int)) + k0 by omega]; exact hC1) ((hF9).tr hF1))
theorem sh4_29 {M : MS} {k0 a f : Int} {t : Int → Int} (hf : 0 ≤ f ∧ f < (((M 1 0).toNat : Nat) : Int)) : sh4 M k0 a t 29 f = sp_num M k0 a f := by
  unfold sh4
  rw [setC_in hf, sh3_num]
theorem sh3_RI {M : MS} {k0 a : Int} (hI : RI M) (hk0 : 0 ≤ k0 ∧ k0 ≤ 3) (ry : 0 ≤ a ∧ a ≤ 9) (h21 : M 21 a = M 1 0) (hn : 0 < M 1 0) : RI (sh3 M k0 a) := by
  have hK := hI.kind (k0 := k0) ry hk0 h21 hn
  have e3 : sh3 M k0 a = set4 (sh2 M k0 a) 23 a k0 (sp_gb M k0 a) (M 1 0).toNat := set4_g (fun f z1 z2 => sh2_30 ⟨z1, z2⟩)
  have e23 : sh3 M k0 a 23 = sp_kind M k0 a 23 := by
    rw [e3]
    funext i
    unfold sp_kind
    rw [set4_s', set4_n (show 23 ≠ 24 by decide), set4_s']
    rfl
  have h23 : ∀ i : Int, 0 ≤ i → i < 800 → 0 ≤ sh3 M k0 a 23 i ∧ sh3 M k0 a 23 i ≤ 1000000001 := fun i z0 z1 => by rw [e23]; exact (hK.hbp i z0 z1).1
  have z23 : ∀ y i k : Int, 0 ≤ y → y ≤ 9 → M 21 y ≤ i → i < 20 → 0 ≤ k → k ≤ 3 → sh3 M k0 a 23 (80 * y + 4 * i + k) = 0 := fun y i k z0 z1 z2 z3 z4 z5 => by rw [e23]; exact (hK.hzz y i k z0 z1 z2 z3 z4 z5).1
  exact ⟨hI.hfl, hI.har, hI.ha1, hI.hrk, hI.hlv, hI.hsi, hI.hme, hI.hfo, hI.hab, hI.hte, hI.hrd, hI.hda, hI.hva, hI.hgo, hI.hrn, hI.hmo, hI.hcs, hI.hbs, hI.hed, hI.hth, hI.htb, fun i z0 z1 => ⟨h23 i z0 z1, (hI.hbp i z0 z1).2⟩, hI.hf8, hI.hsm, hI.hs0, hI.hgv, hI.ht1, fun y i k z0 z1 z2 z3 z4 z5 => ⟨z23 y i k z0 z1 z2 z3 z4 z5, (hI.hzz y i k z0 z1 z2 z3 z4 z5).2⟩, hI.hr0, hI.hl0, hI.hp0, hI.hd0⟩
set_option maxRecDepth 100000 in
set_option maxHeartbeats 4000000 in
theorem c_S_shareOut (l : Launch) (X : am_X) (h : am_H) (nx : Nat) (x : Nat) (A : Nat → Prop) (P : Tg → Nat) (M : MS) (k0 a : Int) (hC : RepC X x A P M h) (hI : RI M) (hN : NI M) (hk0 : 0 ≤ k0 ∧ k0 ≤ 3) (ry : 0 ≤ a ∧ a ≤ 9) (h21 : M 21 a = M 1 0) (hn : 0 < M 1 0) : Cn l X y_S_shareOut ({ frames := 5, cells := 0, slots := 0, locals := 125 }) [.ref (P (0, 0)), iV k0, iV a] h nx (fun o h' nx' => (∃ M' : MS, RepC X x A P M' h' ∧ ∀ j : Nat, j ≠ 28 → j ≠ 29 → j ≠ 30 → M' j = sp_kind M k0 a j) ∧ OF A h h' ∧ nx' = nx ∧ o = .returned none) := by
  refine cn_of (k := 6) (L0 := [some (.ref (P (0, 0))), some (iV k0), some (iV a), none, none, none, none, none, none]) rfl wx_515 (Nat.le_of_ble_eq_true rfl) rfl (fun p e s m args below meth c F => ?_)
  have q1 := hI.hfl
  have qf := sp_first_r (k := k0) (a := a) hI.hcs hI.hbs hk0 ry
  have qc := hI.hcs (4 * a + k0) (by omega) (by omega)
  have qb := hI.hbs k0 (by omega) (by omega)
  have qa := sumI_r (g := M 2) (a := 1) (b := 1000) (n := (M 1 0).toNat) (fun j hj => ⟨hI.ha1 (j : Int) (by omega) (by omega), (hI.har (j : Int) (by omega) (by omega)).2⟩)
  have qn := sp_num_s (k := k0) hI.hfl hI.har hI.ha1 hI.hme hI.hrd hI.hda hI.hva hI.hgo hI.hmo hI.hab hI.hte hI.hfo ry hn
  have qm : ∀ f : Int, 0 ≤ f → f < M 1 0 → 0 ≤ sp_num M k0 a f ∧ sp_num M k0 a f ≤ 23400000000000000 := fun f z0 z1 => sp_num_r hI.hfl hI.har hI.hme hI.hrd hI.hda hI.hva hI.hgo hI.hmo hI.hab hI.hte hI.hfo ry ⟨z0, z1⟩
  refine v_aload_n (pc' := 1) (j := 0) F d_S_shareOut_0 rfl rfl rfl ?_
  refine v_getf (pc' := 4) (C := zR_S) (T := zF_S) (N := 6) (ref := "BillShares") F d_S_shareOut_1 rfl zi_S rfl 3 (by decide) wx_60 (Or.inl rfl) (hC.t_top) rfl ?_
  refine v_iload_n (pc' := 5) (j := 1) F d_S_shareOut_4 rfl rfl rfl ?_
  refine v_bipush (pc' := 7) F d_S_shareOut_5 rfl (by decide) ?_
  refine v_imul (pc' := 8) F d_S_shareOut_7 rfl ?_
  refine v_iload_n (pc' := 9) (j := 2) F d_S_shareOut_8 rfl rfl rfl ?_
  refine v_iadd (pc' := 10) F d_S_shareOut_9 rfl ?_
  refine cg_cost (pc' := 11) F hC (by omega) d_S_shareOut_10 rfl ?_
  refine v_i2l (pc' := 12) F d_S_shareOut_11 rfl (by omega) ?_
  refine v_lstore_3 (pc' := 13) F d_S_shareOut_12 rfl rfl (by decide) ?_
  refine v_lload_n (pc' := 14) (j := 3) F d_S_shareOut_13 rfl rfl rfl ?_
  refine v_aload_n (pc' := 15) (j := 0) F d_S_shareOut_14 rfl rfl rfl ?_
  refine v_getf (pc' := 18) (C := zR_S) (T := zF_S) (N := 6) (ref := "BillShares") F d_S_shareOut_15 rfl zi_S rfl 4 (by decide) wx_61 (Or.inl rfl) (hC.t_top) rfl ?_
  refine v_iload_n (pc' := 19) (j := 1) F d_S_shareOut_18 rfl rfl rfl ?_
  refine cg_bas (pc' := 20) F hC d_S_shareOut_19 rfl (by omega) (by omega) ?_
  refine v_i2l (pc' := 21) F d_S_shareOut_20 rfl (by omega) ?_
  refine v_ldc2 (pc' := 24) (z := 100) F d_S_shareOut_21 rfl wx_516 (by decide) ?_
  refine v_callSP (pc' := 27) F d_S_shareOut_24 rfl cal_S_portion wx_517 wx_518 (c_S_portion l X _ _ (M 18 (4 * a + k0)) (M 19 k0) 100 (by omega) (by omega) (by omega) (by omega)) rfl ⟨by decide, by decide, by decide, by decide⟩ (Nat.le_of_ble_eq_true rfl) rfl rfl ?_
  refine v_topl (b := sp_first M k0 a) rfl ?_
  refine v_lstore_5 (pc' := 29) F d_S_shareOut_27 rfl rfl (by decide) ?_
  refine v_aload_n (pc' := 30) (j := 0) F d_S_shareOut_29 rfl rfl rfl ?_
  refine v_callV (pc' := 33) (C := zR_S) (T9 := zF_S) (N := 6) F d_S_shareOut_30 rfl cal_S_weighByArea wx_523 wx_525 wp_11 rfl (hC.t_top) (c_S_weighByArea l X _ _ _ _ _ _ hC hI hN) rfl ⟨by decide, by decide, by decide, by decide⟩ (Nat.le_of_ble_eq_true rfl) (fun _ _ _ q => by cases q.2.2.2) (fun r9 h1 n1 q => ?_)
  obtain ⟨hC1, hF1, rfl, q9⟩ := q
  cases q9
  refine v_aload_n (pc' := 34) (j := 0) F d_S_shareOut_33 rfl rfl rfl ?_
  refine v_lload (pc' := 36) F d_S_shareOut_34 rfl rfl ?_
  refine v_callV (pc' := 39) (C := zR_S) (T9 := zF_S) (N := 6) F d_S_shareOut_36 rfl cal_S_dealOut wx_527 wx_529 wp_12 rfl (hC1.t_top) (c_S_dealOut l X _ _ _ _ _ _ (sp_first M k0 a) hC1 (hI.w (fun j z1 z2 z3 => setC_n z2)) (hN.w (fun j z1 z2 z3 => setC_n z2)) (fun f z0 z1 => by have z2 : f < M 1 0 := z1; rw [setC_in (by omega)]; have := hI.har f z0 (by omega); omega) (by have e : sumI (setC M 29 (M 2) (M 1 0).toNat 29) (M 1 0).toNat = sumI (M 2) (M 1 0).toNat := sumI_c (fun i hi => setC_in (by omega)); show 0 < sumI (setC M 29 (M 2) (M 1 0).toNat 29) (M 1 0).toNat ∧ sumI (setC M 29 (M 2) (M 1 0).toNat 29) (M 1 0).toNat ≤ 468000000000000000; rw [e]; omega) (by omega)) rfl ⟨by decide, by decide, by decide, by decide⟩ (Nat.le_of_ble_eq_true rfl) (fun _ _ _ q => by cases q.2.2.2) (fun r9 h2 n2 q => ?_)
  obtain ⟨hC2, hF2, rfl, q9⟩ := q
  cases q9
  refine v_iconst (pc' := 40) F d_S_shareOut_39 rfl ?_
  refine v_istore_7 (pc' := 42) F d_S_shareOut_40 rfl rfl (by decide) ?_
  refine lpA_S_shareOut (h := h) (t0 := fun _ => 0) F hI hN hk0 ry h21 hn (fun h9 hC9 hF9 => ?_) ((M 1 0).toNat + 1) 0 (by omega) (by omega) _ (by rw [set4_0]; exact hC2) ((OF.rf.tr hF1).tr hF2)
  have hI3 : RI (sh3 M k0 a) := sh3_RI hI hk0 ry h21 hn
  have hN3 : NI (sh3 M k0 a) := hN.c (fun j hj => (set4_n (by omega)).trans ((setC_n (by omega)).trans (setC_n (by omega))))
  refine v_aload_n (pc' := 91) (j := 0) F d_S_shareOut_90 rfl rfl rfl ?_
  refine v_iload_n (pc' := 92) (j := 1) F d_S_shareOut_91 rfl rfl rfl ?_
  refine v_iload_n (pc' := 93) (j := 2) F d_S_shareOut_92 rfl rfl rfl ?_
  refine v_callV (pc' := 96) (C := zR_S) (T9 := zF_S) (N := 6) F d_S_shareOut_93 rfl cal_S_weighByUse wx_535 wx_537 wp_14 rfl (hC9.t_top) (c_S_weighByUse l X _ _ _ _ _ (sh3 M k0 a) k0 a hC9 hI3 hN3 hk0 ry) rfl ⟨by decide, by decide, by decide, by decide⟩ (Nat.le_of_ble_eq_true rfl) (fun _ _ _ q => by cases q.2.2.2) (fun r9 h3 n3 q => ?_)
  obtain ⟨hC3, hF3, rfl, q9⟩ := q
  cases q9
  refine v_aload_n (pc' := 97) (j := 0) F d_S_shareOut_96 rfl rfl rfl ?_
  refine v_lload_n (pc' := 98) (j := 3) F d_S_shareOut_97 rfl rfl rfl ?_
  refine v_lload (pc' := 100) F d_S_shareOut_98 rfl rfl ?_
  refine v_lsub (pc' := 101) F d_S_shareOut_100 rfl ?_
  refine v_callV (pc' := 104) (C := zR_S) (T9 := zF_S) (N := 6) F d_S_shareOut_101 rfl cal_S_dealOut wx_527 wx_529 wp_12 rfl (hC3.t_top) (c_S_dealOut l X _ _ _ _ _ (sh4 M k0 a (tld (sh3 M k0 a) k0 a)) (M 18 (4 * a + k0) - sp_first M k0 a) hC3 (hI3.w (fun j z1 z2 z3 => wu_o z1 z2)) (hN3.w (fun j z1 z2 z3 => wu_o z1 z2)) (fun f z0 z1 => by have z2 : f < M 1 0 := z1; rw [sh4_29 ⟨z0, by omega⟩]; exact qm f z0 z2) (by have e : sumI ((sh4 M k0 a (tld (sh3 M k0 a) k0 a)) 29) (M 1 0).toNat = sumI (sp_num M k0 a) (M 1 0).toNat := sumI_c (fun i hi => sh4_29 (by omega)); show 0 < sumI ((sh4 M k0 a (tld (sh3 M k0 a) k0 a)) 29) (M 1 0).toNat ∧ sumI ((sh4 M k0 a (tld (sh3 M k0 a) k0 a)) 29) (M 1 0).toNat ≤ 468000000000000000; rw [e]; exact qn) (by omega)) rfl ⟨by decide, by decide, by decide, by decide⟩ (Nat.le_of_ble_eq_true rfl) (fun _ _ _ q => by cases q.2.2.2) (fun r9 h4 n4 q => ?_)
  obtain ⟨hC4, hF4, rfl, q9⟩ := q
  cases q9
  refine v_iconst (pc' := 105) F d_S_shareOut_104 rfl ?_
  refine v_istore_7 (pc' := 107) F d_S_shareOut_105 rfl rfl (by decide) ?_
  refine lpB_S_shareOut (h := h) (t0 := tld (sh3 M k0 a) k0 a) F hI hN hk0 ry h21 hn (fun h8 hC8 hF8 => ?_) ((M 1 0).toNat + 1) 0 (by omega) (by omega) _ (by rw [set4_0]; exact hC4) ((hF9.tr hF3).tr hF4)
  exact v_return F d_S_shareOut_155 rfl (Nat.le_refl _) (Nat.le_refl _) ⟨⟨_, hC8, sh6_x M k0 a _⟩, hF8, rfl, rfl⟩
