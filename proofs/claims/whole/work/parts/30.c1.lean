/-! portion, small methods of the class's meters, flats and bills (written by wip/whole/cc1.py) -/
theorem po_oct (p : Int) (q : Nat) : p / 2 ^ (3 * q) = 8 * (p / 2 ^ (3 * (q + 1))) + p / 2 ^ (3 * q) % 2 ^ 3 := by
  have e : p / 2 ^ (3 * (q + 1)) = p / 2 ^ (3 * q) / 8 := by
    have h0 : (0 : Int) < 2 ^ (3 * q) := Int.pow_pos (by decide)
    rw [show 3 * (q + 1) = 3 * q + 3 by omega, Int.pow_add, Int.ediv_ediv, if_neg (by omega)]
    simp
  rw [e]
  have : (2 : Int) ^ 3 = 8 := by decide
  rw [this]
  omega
theorem po_8 {S L P D n w q r : Int} (h : S * w + L = P * n) (h2 : w * q + r = L * 8 + n * D) : (S * 8 + q) * w + r = (8 * P + D) * n := by grind
theorem po_fin {S L p n w : Int} (hw : 0 < w) (h : S * w + L = p * n) (h2 : 0 ≤ L) (h3 : L < w) : S = p * n / w := by
  rw [← h, Int.add_comm, Int.add_mul_ediv_right _ _ (by omega), Int.ediv_eq_zero_of_lt h2 h3]
  omega
set_option maxRecDepth 100000 in
set_option maxHeartbeats 4000000 in
theorem lp_S_portion {p : Program} {l : Launch} {e : Env} {s : State} {m : MethodId} {args : Array Value} {below : List Frame} {meth : Method} {c : Code} {X : am_X} {Q : State → Prop} {h : am_H} {nx : Nat} {p0 n0 al : Int} (F : am_Fx p s m args meth c y_S_portion b_S_portion 13 (some .long) [] X) (rp : 0 ≤ p0 ∧ p0 < 1073741824) (rn : 0 ≤ n0) (ral : 0 < al) (rb : 8 * al + 7 * n0 < 9223372036854775808) (hx : ∀ S : Int, S = p0 * n0 / al → ∀ z, V p l e ({ frames := 0, cells := 0, slots := 0, locals := 0 }) s m args below meth c 13 X Q h nx 0 0 85 [some (lV p0), none, some (lV n0), none, some (lV al), none, some (lV S), none, some (lV z), none, some (iV (-3)), none, none] []) : ∀ r : Nat, r ≤ 10 → ∀ S Lf : Int, S * al + Lf = p0 / 2 ^ (3 * r) * n0 → 0 ≤ Lf → Lf < al → V p l e ({ frames := 0, cells := 0, slots := 0, locals := 0 }) s m args below meth c 13 X Q h nx 0 0 34 [some (lV p0), none, some (lV n0), none, some (lV al), none, some (lV S), none, some (lV Lf), none, some (iV (3 * (r : Int) - 3)), none, none] [] := by
  intro r
  induction r with
  | zero =>
    intro hr S Lf h1 h2 h3
    rw [show (3 * 0 : Nat) = 0 from rfl, Int.pow_zero, Int.ediv_one] at h1
    refine v_iload (pc' := 36) F d_S_portion_34 rfl rfl ?_
    refine v_if_lt (tgt := 85) (pc' := 39) F d_S_portion_36 (by decide) rfl (by omega) (fun c36 => ?_) (fun c36 => ?_)
    · exact hx S (po_fin ral h1 h2 h3) Lf
    · exact absurd (show 3 * ((0 : Nat) : Int) - 3 < 0 by omega) c36
  | succ q ih =>
    intro hr S Lf h1 h2 h3
    have hb := po_oct p0 q
    have hq : 0 ≤ p0 / 2 ^ (3 * q) ∧ p0 / 2 ^ (3 * q) ≤ p0 := ⟨Int.ediv_nonneg rp.1 (Int.le_of_lt (Int.pow_pos (by decide))), Int.ediv_le_self _ rp.1⟩
    have hD : 0 ≤ p0 / 2 ^ (3 * q) % 2 ^ 3 ∧ p0 / 2 ^ (3 * q) % 2 ^ 3 ≤ 7 := by have e8 : (2 : Int) ^ 3 = 8 := (by decide); rw [e8]; omega
    have hm := am_mul_r (x := n0) (y := p0 / 2 ^ (3 * q) % 2 ^ 3) (a := n0) (b := 7) (by omega) hD rn
    have hm0 : 0 ≤ n0 * (p0 / 2 ^ (3 * q) % 2 ^ 3) := Int.mul_nonneg rn hD.1
    have hs0 : 0 ≤ Lf * 8 + n0 * (p0 / 2 ^ (3 * q) % 2 ^ 3) := by omega
    have ht := Int.mul_tdiv_add_tmod (Lf * 8 + n0 * (p0 / 2 ^ (3 * q) % 2 ^ 3)) al
    have ht1 := Int.tmod_lt_of_pos (Lf * 8 + n0 * (p0 / 2 ^ (3 * q) % 2 ^ 3)) ral
    have ht2 := Int.tmod_nonneg al hs0
    refine v_iload (pc' := 36) F d_S_portion_34 rfl rfl ?_
    refine v_if_lt (tgt := 85) (pc' := 39) F d_S_portion_36 (by decide) rfl (by omega) (fun c36 => ?_) (fun c36 => ?_)
    · exact absurd c36 (by omega)
    · refine v_lload (pc' := 41) F d_S_portion_39 rfl rfl ?_
      refine v_ldc2 (pc' := 44) (z := 8) F d_S_portion_41 rfl wx_521 (by decide) ?_
      refine v_lmul (pc' := 45) F d_S_portion_44 rfl ?_
      refine v_lload_n (pc' := 46) (j := 2) F d_S_portion_45 rfl rfl rfl ?_
      refine v_lload_n (pc' := 47) (j := 0) F d_S_portion_46 rfl rfl rfl ?_
      refine v_iload (pc' := 49) F d_S_portion_47 rfl rfl ?_
      refine v_lshr (pc' := 50) F (3 * q) d_S_portion_49 rfl (by omega) (by omega) (by omega) ?_
      refine v_ldc2 (pc' := 53) (z := 7) F d_S_portion_50 rfl wx_522 (by decide) ?_
      refine v_land (pc' := 54) F 3 d_S_portion_53 rfl (by omega) (by decide) ?_
      refine v_lmul (pc' := 55) F d_S_portion_54 rfl ?_
      refine v_ladd (pc' := 56) F d_S_portion_55 rfl ?_
      refine v_lstore_11 (pc' := 58) F d_S_portion_56 rfl rfl (by decide) ?_
      refine v_lload (pc' := 60) F d_S_portion_58 rfl rfl ?_
      refine v_ldc2 (pc' := 63) (z := 8) F d_S_portion_60 rfl wx_521 (by decide) ?_
      refine v_lmul (pc' := 64) F d_S_portion_63 rfl ?_
      refine v_lload (pc' := 66) F d_S_portion_64 rfl rfl ?_
      refine v_lload (pc' := 68) F d_S_portion_66 rfl rfl ?_
      refine v_ldiv (pc' := 69) F d_S_portion_68 rfl (by omega) (by omega) (by omega) ?_
      refine v_ladd (pc' := 70) F d_S_portion_69 rfl ?_
      refine v_lstore_6 (pc' := 72) F d_S_portion_70 rfl rfl (by decide) ?_
      refine v_lload (pc' := 74) F d_S_portion_72 rfl rfl ?_
      refine v_lload (pc' := 76) F d_S_portion_74 rfl rfl ?_
      refine v_lrem (pc' := 77) F d_S_portion_76 rfl (by omega) (by omega) (by omega) ?_
      refine v_lstore_8 (pc' := 79) F d_S_portion_77 rfl rfl (by decide) ?_
      refine v_iinc_10 (pc' := 82) F d_S_portion_79 rfl rfl (by decide) ?_
      refine v_goto (tgt := 34) F d_S_portion_82 (by decide) ?_
      rw [show (3 * ((q + 1 : Nat) : Int) - 3 + -3) = 3 * (q : Int) - 3 by omega]
      exact v_subL (by (repeat' (first | exact trivial | exact rfl | refine And.intro ?_ ?_)); done) (ih (by omega) _ _ ((po_8 h1 ht).trans (congrArg (fun z => z * n0) hb.symm)) ht2 ht1)
set_option maxRecDepth 100000 in
set_option maxHeartbeats 4000000 in
theorem c_S_portion (l : Launch) (X : am_X) (h : am_H) (nx : Nat) (p0 n0 al : Int) (rp : 0 ≤ p0 ∧ p0 < 1073741824) (rn : 0 ≤ n0) (ral : 0 < al) (rb : 8 * al + 7 * n0 < 9223372036854775808) : CnP l X y_S_portion ({ frames := 0, cells := 0, slots := 0, locals := 0 }) [lV p0, lV n0, lV al] h nx (lV (p0 * n0 / al)) := by
  refine cn_of (k := 7) (L0 := [some (lV p0), none, some (lV n0), none, some (lV al), none, none, none, none, none, none, none, none]) rfl wx_519 (Nat.le_of_ble_eq_true rfl) rfl (fun p e s m args below meth c F => ?_)
  refine v_lload (pc' := 2) F d_S_portion_0 rfl rfl ?_
  refine v_lconst (pc' := 3) (z := 0) F d_S_portion_2 rfl (by decide) ?_
  refine v_lc_gt (tgt := 9) (pc' := 7) F d_S_portion_3 d_S_portion_4 (by decide) rfl (by omega) (by omega) (fun c3 => ?_) (fun c3 => ?_)
  · refine v_lload_n (pc' := 10) (j := 2) F d_S_portion_9 rfl rfl rfl ?_
    refine v_ldc2 (pc' := 13) (z := 8589934591) F d_S_portion_10 rfl wx_520 (by decide) ?_
    refine v_lc_gt (tgt := 24) (pc' := 17) F d_S_portion_13 d_S_portion_14 (by decide) rfl (by omega) (by omega) (fun c13 => ?_) (fun c13 => ?_)
    · refine v_lconst (pc' := 25) (z := 0) F d_S_portion_24 rfl (by decide) ?_
      refine v_lstore_6 (pc' := 27) F d_S_portion_25 rfl rfl (by decide) ?_
      refine v_lconst (pc' := 28) (z := 0) F d_S_portion_27 rfl (by decide) ?_
      refine v_lstore_8 (pc' := 30) F d_S_portion_28 rfl rfl (by decide) ?_
      refine v_bipush (pc' := 32) F d_S_portion_30 rfl (by decide) ?_
      refine v_istore_10 (pc' := 34) F d_S_portion_32 rfl rfl (by decide) ?_
      exact lp_S_portion F rp rn ral rb (fun S hS z => (by
        refine v_lload (pc' := 87) F d_S_portion_85 rfl rfl ?_
        exact v_lreturn F d_S_portion_87 rfl (Nat.le_refl _) (Nat.le_refl _) ⟨by rw [hS], rfl, rfl⟩)) 10 (by omega) 0 0 (by rw [show p0 / 2 ^ (3 * 10) = 0 from Int.ediv_eq_zero_of_lt rp.1 (by omega)]; simp) (by omega) (by omega)
    · refine v_lload_n (pc' := 18) (j := 0) F d_S_portion_17 rfl rfl rfl ?_
      refine v_lload_n (pc' := 19) (j := 2) F d_S_portion_18 rfl rfl rfl ?_
      have hm := am_mul_r (x := p0) (y := n0) (a := 1073741823) (b := 8589934591) (by omega) (by omega) (by omega)
      refine v_lmul (pc' := 20) F d_S_portion_19 rfl ?_
      refine v_lload (pc' := 22) F d_S_portion_20 rfl rfl ?_
      refine v_ldiv (pc' := 23) F d_S_portion_22 rfl (by omega) (by omega) (by omega) ?_
      exact v_lreturn F d_S_portion_23 rfl (Nat.le_refl _) (Nat.le_refl _) ⟨by rw [Int.tdiv_eq_ediv_of_nonneg (Int.mul_nonneg rp.1 rn)], rfl, rfl⟩
  · exfalso; omega
set_option maxRecDepth 100000 in
set_option maxHeartbeats 4000000 in
theorem c_S_portionP (l : Launch) (X : am_X) (h : am_H) (nx : Nat) (p0 n0 al : Int) (rn : 0 ≤ n0 ∧ n0 ≤ 8589934591) (ral : 0 < al ∧ al < 9223372036854775808) (rb : -9223372036854775808 < p0 * n0 ∧ p0 * n0 < 9223372036854775808) : CnP l X y_S_portion ({ frames := 0, cells := 0, slots := 0, locals := 0 }) [lV p0, lV n0, lV al] h nx (lV ((p0 * n0).tdiv al)) := by
  refine cn_of (k := 7) (L0 := [some (lV p0), none, some (lV n0), none, some (lV al), none, none, none, none, none, none, none, none]) rfl wx_519 (Nat.le_of_ble_eq_true rfl) rfl (fun p e s m args below meth c F => ?_)
  refine v_lload (pc' := 2) F d_S_portion_0 rfl rfl ?_
  refine v_lconst (pc' := 3) (z := 0) F d_S_portion_2 rfl (by decide) ?_
  refine v_lc_gt (tgt := 9) (pc' := 7) F d_S_portion_3 d_S_portion_4 (by decide) rfl (by omega) (by omega) (fun c3 => ?_) (fun c3 => ?_)
  · refine v_lload_n (pc' := 10) (j := 2) F d_S_portion_9 rfl rfl rfl ?_
    refine v_ldc2 (pc' := 13) (z := 8589934591) F d_S_portion_10 rfl wx_520 (by decide) ?_
    refine v_lc_gt (tgt := 24) (pc' := 17) F d_S_portion_13 d_S_portion_14 (by decide) rfl (by omega) (by omega) (fun c13 => ?_) (fun c13 => ?_)
    · exfalso; omega
    · refine v_lload_n (pc' := 18) (j := 0) F d_S_portion_17 rfl rfl rfl ?_
      refine v_lload_n (pc' := 19) (j := 2) F d_S_portion_18 rfl rfl rfl ?_
      refine v_lmul (pc' := 20) F d_S_portion_19 rfl ?_
      refine v_lload (pc' := 22) F d_S_portion_20 rfl rfl ?_
      refine v_ldiv (pc' := 23) F d_S_portion_22 rfl (by omega) (by omega) (by omega) ?_
      exact v_lreturn F d_S_portion_23 rfl (Nat.le_refl _) (Nat.le_refl _) ⟨rfl, rfl, rfl⟩
  · exfalso; omega
set_option maxRecDepth 100000 in
set_option maxHeartbeats 4000000 in
theorem c_S_portionZ (l : Launch) (X : am_X) (h : am_H) (nx : Nat) (p0 n0 al : Int) (ral : -9223372036854775808 ≤ al ∧ al ≤ 0) : CnP l X y_S_portion ({ frames := 0, cells := 0, slots := 0, locals := 0 }) [lV p0, lV n0, lV al] h nx (lV 0) := by
  refine cn_of (k := 7) (L0 := [some (lV p0), none, some (lV n0), none, some (lV al), none, none, none, none, none, none, none, none]) rfl wx_519 (Nat.le_of_ble_eq_true rfl) rfl (fun p e s m args below meth c F => ?_)
  refine v_lload (pc' := 2) F d_S_portion_0 rfl rfl ?_
  refine v_lconst (pc' := 3) (z := 0) F d_S_portion_2 rfl (by decide) ?_
  refine v_lc_gt (tgt := 9) (pc' := 7) F d_S_portion_3 d_S_portion_4 (by decide) rfl (by omega) (by omega) (fun c3 => ?_) (fun c3 => ?_)
  · exfalso; omega
  · refine v_lconst (pc' := 8) (z := 0) F d_S_portion_7 rfl (by decide) ?_
    exact v_lreturn F d_S_portion_8 rfl (Nat.le_refl _) (Nat.le_refl _) ⟨rfl, rfl, rfl⟩
set_option maxRecDepth 100000 in
set_option maxHeartbeats 4000000 in
theorem c_S_startOf (l : Launch) (X : am_X) (h : am_H) (nx : Nat) (a : Int)  : CnP l X y_S_startOf ({ frames := 0, cells := 0, slots := 0, locals := 0 }) [iV a] h nx (iV (365 * a)) := by
  refine cn_of (k := 0) (L0 := [some (iV a)]) rfl wx_552 (Nat.le_of_ble_eq_true rfl) rfl (fun p e s m args below meth c F => ?_)
  refine v_sipush (pc' := 3) F d_S_startOf_0 rfl (by decide) ?_
  refine v_iload_n (pc' := 4) (j := 0) F d_S_startOf_3 rfl rfl rfl ?_
  refine v_imul (pc' := 5) F d_S_startOf_4 rfl ?_
  exact v_ireturn F rfl d_S_startOf_5 rfl rfl (Nat.le_refl _) (Nat.le_refl _) ⟨rfl, rfl, rfl⟩
set_option maxRecDepth 100000 in
set_option maxHeartbeats 4000000 in
theorem c_S_endOf (l : Launch) (X : am_X) (h : am_H) (nx : Nat) (a : Int)  : CnP l X y_S_endOf ({ frames := 0, cells := 0, slots := 0, locals := 0 }) [iV a] h nx (iV (365 * a + 365)) := by
  refine cn_of (k := 0) (L0 := [some (iV a)]) rfl wx_555 (Nat.le_of_ble_eq_true rfl) rfl (fun p e s m args below meth c F => ?_)
  refine v_sipush (pc' := 3) F d_S_endOf_0 rfl (by decide) ?_
  refine v_iload_n (pc' := 4) (j := 0) F d_S_endOf_3 rfl rfl rfl ?_
  refine v_iconst (pc' := 5) F d_S_endOf_4 rfl ?_
  refine v_iadd (pc' := 6) F d_S_endOf_5 rfl ?_
  refine v_imul (pc' := 7) F d_S_endOf_6 rfl ?_
  refine v_topi (b := 365 * a + 365) (by omega) ?_
  exact v_ireturn F rfl d_S_endOf_7 rfl rfl (Nat.le_refl _) (Nat.le_refl _) ⟨rfl, rfl, rfl⟩
set_option maxRecDepth 100000 in
set_option maxHeartbeats 4000000 in
theorem c_T_valueBehind (l : Launch) (X : am_X) (h : am_H) (nx : Nat) (x : Nat) (A : Nat → Prop) (P : Tg → Nat) (M : MS) (f k : Int) (hC : RepC X x A P M h) (hme : 0 ≤ M 7 0 ∧ M 7 0 ≤ 60) (hrd : ∀ f : Int, 0 ≤ f → f < M 7 0 → 0 ≤ M 13 f ∧ M 13 f ≤ 40) (hgo : ∀ i : Int, 0 ≤ i → i < 2400 → 0 ≤ M 16 i ∧ M 16 i ≤ 10000000) (hst : ∀ f k : Int, 0 ≤ f → f < M 7 0 → 0 ≤ k → k < M 13 f → (M 17 (40 * f + k) = 0 ∧ M 33 (40 * f + k) = -1 ∧ M 16 (40 * f + k) = M 15 (40 * f + k)) ∨ (M 17 (40 * f + k) = 1 ∧ M 33 (40 * f + k) = M 16 (40 * f + k))) (hf : 0 ≤ f ∧ f < M 7 0) (hk : 0 ≤ k ∧ k < M 13 f) : CnP l X y_T_valueBehind ({ frames := 0, cells := 0, slots := 0, locals := 0 }) [.ref (P (12, f)), iV k] h nx (iV (M 16 (40 * f + k))) := by
  refine cn_of (k := 0) (L0 := [some (.ref (P (12, f))), some (iV k)]) rfl wx_383 (Nat.le_of_ble_eq_true rfl) rfl (fun p e s m args below meth c F => ?_)
  have q0 := hrd f hf.1 hf.2
  have q := hst f k hf.1 hf.2 hk.1 hk.2
  have q2 := hgo (40 * f + k) (by omega) (by omega)
  refine v_aload_n (pc' := 1) (j := 0) F d_T_valueBehind_0 rfl rfl rfl ?_
  refine v_getf (pc' := 4) (C := zR_T) (T := zF_T) (N := 8) (ref := "BillShares$Meter") F d_T_valueBehind_1 rfl zi_T rfl 7 (by decide) wx_341 (Or.inl rfl) (hC.t_mt (i := f) hf) rfl ?_
  refine v_iload_n (pc' := 5) (j := 1) F d_T_valueBehind_4 rfl rfl rfl ?_
  refine cg_st (pc' := 6) F hC (f := f) hf d_T_valueBehind_5 rfl (by omega) (by omega) ?_
  refine v_iconst (pc' := 7) F d_T_valueBehind_6 rfl ?_
  refine v_icmp_ne (tgt := 19) (pc' := 10) F d_T_valueBehind_7 (by decide) rfl (by omega) (by omega) (fun c7 => ?_) (fun c7 => ?_)
  · refine v_aload_n (pc' := 20) (j := 0) F d_T_valueBehind_19 rfl rfl rfl ?_
    refine v_getf (pc' := 23) (C := zR_T) (T := zF_T) (N := 8) (ref := "BillShares$Meter") F d_T_valueBehind_20 rfl zi_T rfl 7 (by decide) wx_341 (Or.inl rfl) (hC.t_mt (i := f) hf) rfl ?_
    refine v_iload_n (pc' := 24) (j := 1) F d_T_valueBehind_23 rfl rfl rfl ?_
    refine cg_st (pc' := 25) F hC (f := f) hf d_T_valueBehind_24 rfl (by omega) (by omega) ?_
    refine v_topi (b := M 16 (40 * f + k)) (by omega) ?_
    exact v_ireturn F rfl d_T_valueBehind_25 rfl rfl (Nat.le_refl _) (Nat.le_refl _) ⟨rfl, rfl, rfl⟩
  · refine v_aload_n (pc' := 11) (j := 0) F d_T_valueBehind_10 rfl rfl rfl ?_
    refine v_getf (pc' := 14) (C := zR_T) (T := zF_T) (N := 8) (ref := "BillShares$Meter") F d_T_valueBehind_11 rfl zi_T rfl 6 (by decide) wx_340 (Or.inl rfl) (hC.t_mt (i := f) hf) rfl ?_
    refine v_iload_n (pc' := 15) (j := 1) F d_T_valueBehind_14 rfl rfl rfl ?_
    refine cg_vl (pc' := 16) F hC (f := f) hf d_T_valueBehind_15 rfl (by omega) (by omega) ?_
    refine v_goto (tgt := 25) F d_T_valueBehind_16 (by decide) ?_
    refine v_topi (b := M 16 (40 * f + k)) (by omega) ?_
    exact v_ireturn F rfl d_T_valueBehind_25 rfl rfl (Nat.le_refl _) (Nat.le_refl _) ⟨rfl, rfl, rfl⟩
set_option maxRecDepth 100000 in
set_option maxHeartbeats 4000000 in
theorem c_T_mayEndWith (l : Launch) (X : am_X) (h : am_H) (nx : Nat) (x : Nat) (A : Nat → Prop) (P : Tg → Nat) (M : MS) (f d v : Int) (hC : RepC X x A P M h) (hme : 0 ≤ M 7 0 ∧ M 7 0 ≤ 60) (hrd : ∀ f : Int, 0 ≤ f → f < M 7 0 → 0 ≤ M 13 f ∧ M 13 f ≤ 40) (hda : ∀ i : Int, 0 ≤ i → i < 2400 → 0 ≤ M 14 i ∧ M 14 i ≤ 3649) (hgo : ∀ i : Int, 0 ≤ i → i < 2400 → 0 ≤ M 16 i ∧ M 16 i ≤ 10000000) (hst : ∀ f k : Int, 0 ≤ f → f < M 7 0 → 0 ≤ k → k < M 13 f → (M 17 (40 * f + k) = 0 ∧ M 33 (40 * f + k) = -1 ∧ M 16 (40 * f + k) = M 15 (40 * f + k)) ∨ (M 17 (40 * f + k) = 1 ∧ M 33 (40 * f + k) = M 16 (40 * f + k))) (hf : 0 ≤ f ∧ f < M 7 0) (rd : -2147483648 ≤ d ∧ d < 2147483648) (rv : -2147483648 ≤ v ∧ v < 2147483648) : CnP l X y_T_mayEndWith ({ frames := 1, cells := 0, slots := 0, locals := 21 }) [.ref (P (12, f)), iV d, iV v] h nx (iV (bI (M 13 f = 0 ∨ (M 14 (40 * f + M 13 f - 1) < d ∧ M 16 (40 * f + M 13 f - 1) ≤ v)))) := by
  refine cn_of (k := 0) (L0 := [some (.ref (P (12, f))), some (iV d), some (iV v)]) rfl wx_379 (Nat.le_of_ble_eq_true rfl) rfl (fun p e s m args below meth c F => ?_)
  have q0 := hrd f hf.1 hf.2
  refine v_aload_n (pc' := 1) (j := 0) F d_T_mayEndWith_0 rfl rfl rfl ?_
  refine v_getf (pc' := 4) (C := zR_T) (T := zF_T) (N := 8) (ref := "BillShares$Meter") F d_T_mayEndWith_1 rfl zi_T rfl 4 (by decide) wx_337 (Or.inl rfl) (hC.t_mt (i := f) hf) rfl ?_
  refine v_if_eq (tgt := 36) (pc' := 7) F d_T_mayEndWith_4 (by decide) rfl (by omega) (fun c4 => ?_) (fun c4 => ?_)
  · refine v_iconst (pc' := 37) F d_T_mayEndWith_36 rfl ?_
    refine v_goto (tgt := 41) F d_T_mayEndWith_37 (by decide) ?_
    exact v_ireturn F rfl d_T_mayEndWith_41 rfl rfl (Nat.le_refl _) (Nat.le_refl _) ⟨by first | rw [bI_t (by omega)] | rw [bI_f (by omega)], rfl, rfl⟩
  · refine v_iload_n (pc' := 8) (j := 1) F d_T_mayEndWith_7 rfl rfl rfl ?_
    refine v_aload_n (pc' := 9) (j := 0) F d_T_mayEndWith_8 rfl rfl rfl ?_
    refine v_getf (pc' := 12) (C := zR_T) (T := zF_T) (N := 8) (ref := "BillShares$Meter") F d_T_mayEndWith_9 rfl zi_T rfl 5 (by decide) wx_339 (Or.inl rfl) (hC.t_mt (i := f) hf) rfl ?_
    refine v_aload_n (pc' := 13) (j := 0) F d_T_mayEndWith_12 rfl rfl rfl ?_
    refine v_getf (pc' := 16) (C := zR_T) (T := zF_T) (N := 8) (ref := "BillShares$Meter") F d_T_mayEndWith_13 rfl zi_T rfl 4 (by decide) wx_337 (Or.inl rfl) (hC.t_mt (i := f) hf) rfl ?_
    refine v_iconst (pc' := 17) F d_T_mayEndWith_16 rfl ?_
    refine v_isub (pc' := 18) F d_T_mayEndWith_17 rfl ?_
    refine cg_dy (pc' := 19) F hC (f := f) hf d_T_mayEndWith_18 rfl (by omega) (by omega) ?_
    refine v_topi (b := M 14 (40 * f + M 13 f - 1)) (by rw [show 40 * f + (M 13 f - 1) = 40 * f + M 13 f - 1 by omega]) ?_
    have q2 := hda (40 * f + M 13 f - 1) (by omega) (by omega)
    refine v_icmp_le (tgt := 40) (pc' := 22) F d_T_mayEndWith_19 (by decide) rfl (by omega) (by omega) (fun c19 => ?_) (fun c19 => ?_)
    · refine v_iconst (pc' := 41) F d_T_mayEndWith_40 rfl ?_
      exact v_ireturn F rfl d_T_mayEndWith_41 rfl rfl (Nat.le_refl _) (Nat.le_refl _) ⟨by first | rw [bI_t (by omega)] | rw [bI_f (by omega)], rfl, rfl⟩
    · refine v_iload_n (pc' := 23) (j := 2) F d_T_mayEndWith_22 rfl rfl rfl ?_
      refine v_aload_n (pc' := 24) (j := 0) F d_T_mayEndWith_23 rfl rfl rfl ?_
      refine v_aload_n (pc' := 25) (j := 0) F d_T_mayEndWith_24 rfl rfl rfl ?_
      refine v_getf (pc' := 28) (C := zR_T) (T := zF_T) (N := 8) (ref := "BillShares$Meter") F d_T_mayEndWith_25 rfl zi_T rfl 4 (by decide) wx_337 (Or.inl rfl) (hC.t_mt (i := f) hf) rfl ?_
      refine v_iconst (pc' := 29) F d_T_mayEndWith_28 rfl ?_
      refine v_isub (pc' := 30) F d_T_mayEndWith_29 rfl ?_
      refine v_callVP (pc' := 33) (C := zR_T) (T9 := zF_T) (N := 8) F d_T_mayEndWith_30 rfl cal_T_valueBehind wx_380 wx_381 wx_382 rfl (hC.t_mt (i := f) hf) (c_T_valueBehind l X _ _ _ _ _ _ _ _ hC hme hrd hgo hst hf (by omega)) rfl ⟨by decide, by decide, by decide, by decide⟩ (Nat.le_of_ble_eq_true rfl) rfl rfl ?_
      refine v_topi (b := M 16 (40 * f + M 13 f - 1)) (by rw [show 40 * f + (M 13 f - 1) = 40 * f + M 13 f - 1 by omega]) ?_
      have q3 := hgo (40 * f + M 13 f - 1) (by omega) (by omega)
      refine v_icmp_lt (tgt := 40) (pc' := 36) F d_T_mayEndWith_33 (by decide) rfl (by omega) (by omega) (fun c33 => ?_) (fun c33 => ?_)
      · refine v_iconst (pc' := 41) F d_T_mayEndWith_40 rfl ?_
        exact v_ireturn F rfl d_T_mayEndWith_41 rfl rfl (Nat.le_refl _) (Nat.le_refl _) ⟨by first | rw [bI_t (by omega)] | rw [bI_f (by omega)], rfl, rfl⟩
      · refine v_iconst (pc' := 37) F d_T_mayEndWith_36 rfl ?_
        refine v_goto (tgt := 41) F d_T_mayEndWith_37 (by decide) ?_
        exact v_ireturn F rfl d_T_mayEndWith_41 rfl rfl (Nat.le_refl _) (Nat.le_refl _) ⟨by first | rw [bI_t (by omega)] | rw [bI_f (by omega)], rfl, rfl⟩
set_option maxRecDepth 100000 in
set_option maxHeartbeats 4000000 in
theorem c_T_fits (l : Launch) (X : am_X) (h : am_H) (nx : Nat) (x : Nat) (A : Nat → Prop) (P : Tg → Nat) (M : MS) (f i v : Int) (hC : RepC X x A P M h) (hme : 0 ≤ M 7 0 ∧ M 7 0 ≤ 60) (hrd : ∀ f : Int, 0 ≤ f → f < M 7 0 → 0 ≤ M 13 f ∧ M 13 f ≤ 40) (hva : ∀ i : Int, 0 ≤ i → i < 2400 → 0 ≤ M 15 i ∧ M 15 i ≤ 10000000) (hgo : ∀ i : Int, 0 ≤ i → i < 2400 → 0 ≤ M 16 i ∧ M 16 i ≤ 10000000) (hst : ∀ f k : Int, 0 ≤ f → f < M 7 0 → 0 ≤ k → k < M 13 f → (M 17 (40 * f + k) = 0 ∧ M 33 (40 * f + k) = -1 ∧ M 16 (40 * f + k) = M 15 (40 * f + k)) ∨ (M 17 (40 * f + k) = 1 ∧ M 33 (40 * f + k) = M 16 (40 * f + k))) (hf : 0 ≤ f ∧ f < M 7 0) (hi : 0 ≤ i ∧ i < M 13 f) (rv : -2147483648 ≤ v ∧ v < 2147483648) : CnP l X y_T_fits ({ frames := 1, cells := 0, slots := 0, locals := 21 }) [.ref (P (12, f)), iV i, iV v] h nx (iV (bI ((i = 0 ∨ M 16 (40 * f + i - 1) ≤ v) ∧ (M 13 f ≤ i + 1 ∨ ¬ M 17 (40 * f + i) = 0 ∨ v ≤ M 15 (40 * f + i + 1))))) := by
  refine cn_of (k := 2) (L0 := [some (.ref (P (12, f))), some (iV i), some (iV v), none, none]) rfl wx_411 (Nat.le_of_ble_eq_true rfl) rfl (fun p e s m args below meth c F => ?_)
  have q0 := hrd f hf.1 hf.2
  have q := hst f i hf.1 hf.2 hi.1 hi.2
  have q2 := hgo (40 * f + i) (by omega) (by omega)
  refine v_iload_n (pc' := 1) (j := 1) F d_T_fits_0 rfl rfl rfl ?_
  refine v_if_eq (tgt := 15) (pc' := 4) F d_T_fits_1 (by decide) rfl (by omega) (fun c1 => ?_) (fun c1 => ?_)
  · refine v_iconst (pc' := 16) F d_T_fits_15 rfl ?_
    refine v_goto (tgt := 20) F d_T_fits_16 (by decide) ?_
    refine v_istore_3 (pc' := 21) F d_T_fits_20 rfl rfl (by decide) ?_
    refine v_iload_n (pc' := 22) (j := 1) F d_T_fits_21 rfl rfl rfl ?_
    refine v_iconst (pc' := 23) F d_T_fits_22 rfl ?_
    refine v_iadd (pc' := 24) F d_T_fits_23 rfl ?_
    refine v_aload_n (pc' := 25) (j := 0) F d_T_fits_24 rfl rfl rfl ?_
    refine v_getf (pc' := 28) (C := zR_T) (T := zF_T) (N := 8) (ref := "BillShares$Meter") F d_T_fits_25 rfl zi_T rfl 4 (by decide) wx_337 (Or.inl rfl) (hC.t_mt (i := f) hf) rfl ?_
    refine v_icmp_ge (tgt := 53) (pc' := 31) F d_T_fits_28 (by decide) rfl (by omega) (by omega) (fun c28 => ?_) (fun c28 => ?_)
    · refine v_iconst (pc' := 54) F d_T_fits_53 rfl ?_
      refine v_goto (tgt := 58) F d_T_fits_54 (by decide) ?_
      refine v_istore_4 (pc' := 60) F d_T_fits_58 rfl rfl (by decide) ?_
      refine v_iload_n (pc' := 61) (j := 3) F d_T_fits_60 rfl rfl rfl ?_
      refine v_if_eq (tgt := 73) (pc' := 64) F d_T_fits_61 (by decide) rfl (by omega) (fun c61 => by exfalso; omega) (fun c61 => ?_)
      refine v_iload (pc' := 66) F d_T_fits_64 rfl rfl ?_
      refine v_if_eq (tgt := 73) (pc' := 69) F d_T_fits_66 (by decide) rfl (by omega) (fun c66 => by exfalso; omega) (fun c66 => ?_)
      refine v_iconst (pc' := 70) F d_T_fits_69 rfl ?_
      refine v_goto (tgt := 74) F d_T_fits_70 (by decide) ?_
      exact v_ireturn F rfl d_T_fits_74 rfl rfl (Nat.le_refl _) (Nat.le_refl _) ⟨by first | rw [bI_t (by omega)] | rw [bI_f (by omega)], rfl, rfl⟩
    · refine v_aload_n (pc' := 32) (j := 0) F d_T_fits_31 rfl rfl rfl ?_
      refine v_getf (pc' := 35) (C := zR_T) (T := zF_T) (N := 8) (ref := "BillShares$Meter") F d_T_fits_32 rfl zi_T rfl 7 (by decide) wx_341 (Or.inl rfl) (hC.t_mt (i := f) hf) rfl ?_
      refine v_iload_n (pc' := 36) (j := 1) F d_T_fits_35 rfl rfl rfl ?_
      refine cg_st (pc' := 37) F hC (f := f) hf d_T_fits_36 rfl (by omega) (by omega) ?_
      refine v_iconst (pc' := 38) F d_T_fits_37 rfl ?_
      refine v_icmp_ne (tgt := 53) (pc' := 41) F d_T_fits_38 (by decide) rfl (by omega) (by omega) (fun c38 => ?_) (fun c38 => ?_)
      · refine v_iconst (pc' := 54) F d_T_fits_53 rfl ?_
        refine v_goto (tgt := 58) F d_T_fits_54 (by decide) ?_
        refine v_istore_4 (pc' := 60) F d_T_fits_58 rfl rfl (by decide) ?_
        refine v_iload_n (pc' := 61) (j := 3) F d_T_fits_60 rfl rfl rfl ?_
        refine v_if_eq (tgt := 73) (pc' := 64) F d_T_fits_61 (by decide) rfl (by omega) (fun c61 => by exfalso; omega) (fun c61 => ?_)
        refine v_iload (pc' := 66) F d_T_fits_64 rfl rfl ?_
        refine v_if_eq (tgt := 73) (pc' := 69) F d_T_fits_66 (by decide) rfl (by omega) (fun c66 => by exfalso; omega) (fun c66 => ?_)
        refine v_iconst (pc' := 70) F d_T_fits_69 rfl ?_
        refine v_goto (tgt := 74) F d_T_fits_70 (by decide) ?_
        exact v_ireturn F rfl d_T_fits_74 rfl rfl (Nat.le_refl _) (Nat.le_refl _) ⟨by first | rw [bI_t (by omega)] | rw [bI_f (by omega)], rfl, rfl⟩
      · refine v_iload_n (pc' := 42) (j := 2) F d_T_fits_41 rfl rfl rfl ?_
        refine v_aload_n (pc' := 43) (j := 0) F d_T_fits_42 rfl rfl rfl ?_
        refine v_getf (pc' := 46) (C := zR_T) (T := zF_T) (N := 8) (ref := "BillShares$Meter") F d_T_fits_43 rfl zi_T rfl 6 (by decide) wx_340 (Or.inl rfl) (hC.t_mt (i := f) hf) rfl ?_
        refine v_iload_n (pc' := 47) (j := 1) F d_T_fits_46 rfl rfl rfl ?_
        refine v_iconst (pc' := 48) F d_T_fits_47 rfl ?_
        refine v_iadd (pc' := 49) F d_T_fits_48 rfl ?_
        refine cg_vl (pc' := 50) F hC (f := f) hf d_T_fits_49 rfl (by omega) (by omega) ?_
        refine v_topi (b := M 15 (40 * f + i + 1)) (by rw [show 40 * f + (i + 1) = 40 * f + i + 1 by omega]) ?_
        have q4 := hva (40 * f + i + 1) (by omega) (by omega)
        refine v_icmp_gt (tgt := 57) (pc' := 53) F d_T_fits_50 (by decide) rfl (by omega) (by omega) (fun c50 => ?_) (fun c50 => ?_)
        · refine v_iconst (pc' := 58) F d_T_fits_57 rfl ?_
          refine v_istore_4 (pc' := 60) F d_T_fits_58 rfl rfl (by decide) ?_
          refine v_iload_n (pc' := 61) (j := 3) F d_T_fits_60 rfl rfl rfl ?_
          refine v_if_eq (tgt := 73) (pc' := 64) F d_T_fits_61 (by decide) rfl (by omega) (fun c61 => by exfalso; omega) (fun c61 => ?_)
          refine v_iload (pc' := 66) F d_T_fits_64 rfl rfl ?_
          refine v_if_eq (tgt := 73) (pc' := 69) F d_T_fits_66 (by decide) rfl (by omega) (fun c66 => ?_) (fun c66 => by exfalso; omega)
          refine v_iconst (pc' := 74) F d_T_fits_73 rfl ?_
          exact v_ireturn F rfl d_T_fits_74 rfl rfl (Nat.le_refl _) (Nat.le_refl _) ⟨by first | rw [bI_t (by omega)] | rw [bI_f (by omega)], rfl, rfl⟩
        · refine v_iconst (pc' := 54) F d_T_fits_53 rfl ?_
          refine v_goto (tgt := 58) F d_T_fits_54 (by decide) ?_
          refine v_istore_4 (pc' := 60) F d_T_fits_58 rfl rfl (by decide) ?_
          refine v_iload_n (pc' := 61) (j := 3) F d_T_fits_60 rfl rfl rfl ?_
          refine v_if_eq (tgt := 73) (pc' := 64) F d_T_fits_61 (by decide) rfl (by omega) (fun c61 => by exfalso; omega) (fun c61 => ?_)
          refine v_iload (pc' := 66) F d_T_fits_64 rfl rfl ?_
          refine v_if_eq (tgt := 73) (pc' := 69) F d_T_fits_66 (by decide) rfl (by omega) (fun c66 => by exfalso; omega) (fun c66 => ?_)
          refine v_iconst (pc' := 70) F d_T_fits_69 rfl ?_
          refine v_goto (tgt := 74) F d_T_fits_70 (by decide) ?_
          exact v_ireturn F rfl d_T_fits_74 rfl rfl (Nat.le_refl _) (Nat.le_refl _) ⟨by first | rw [bI_t (by omega)] | rw [bI_f (by omega)], rfl, rfl⟩
  · refine v_iload_n (pc' := 5) (j := 2) F d_T_fits_4 rfl rfl rfl ?_
    refine v_aload_n (pc' := 6) (j := 0) F d_T_fits_5 rfl rfl rfl ?_
    refine v_iload_n (pc' := 7) (j := 1) F d_T_fits_6 rfl rfl rfl ?_
    refine v_iconst (pc' := 8) F d_T_fits_7 rfl ?_
    refine v_isub (pc' := 9) F d_T_fits_8 rfl ?_
    refine v_callVP (pc' := 12) (C := zR_T) (T9 := zF_T) (N := 8) F d_T_fits_9 rfl cal_T_valueBehind wx_380 wx_381 wx_382 rfl (hC.t_mt (i := f) hf) (c_T_valueBehind l X _ _ _ _ _ _ _ _ hC hme hrd hgo hst hf (by omega)) rfl ⟨by decide, by decide, by decide, by decide⟩ (Nat.le_of_ble_eq_true rfl) rfl rfl ?_
    refine v_topi (b := M 16 (40 * f + i - 1)) (by rw [show 40 * f + (i - 1) = 40 * f + i - 1 by omega]) ?_
    have q3 := hgo (40 * f + i - 1) (by omega) (by omega)
    refine v_icmp_lt (tgt := 19) (pc' := 15) F d_T_fits_12 (by decide) rfl (by omega) (by omega) (fun c12 => ?_) (fun c12 => ?_)
    · refine v_iconst (pc' := 20) F d_T_fits_19 rfl ?_
      refine v_istore_3 (pc' := 21) F d_T_fits_20 rfl rfl (by decide) ?_
      refine v_iload_n (pc' := 22) (j := 1) F d_T_fits_21 rfl rfl rfl ?_
      refine v_iconst (pc' := 23) F d_T_fits_22 rfl ?_
      refine v_iadd (pc' := 24) F d_T_fits_23 rfl ?_
      refine v_aload_n (pc' := 25) (j := 0) F d_T_fits_24 rfl rfl rfl ?_
      refine v_getf (pc' := 28) (C := zR_T) (T := zF_T) (N := 8) (ref := "BillShares$Meter") F d_T_fits_25 rfl zi_T rfl 4 (by decide) wx_337 (Or.inl rfl) (hC.t_mt (i := f) hf) rfl ?_
      refine v_icmp_ge (tgt := 53) (pc' := 31) F d_T_fits_28 (by decide) rfl (by omega) (by omega) (fun c28 => ?_) (fun c28 => ?_)
      · refine v_iconst (pc' := 54) F d_T_fits_53 rfl ?_
        refine v_goto (tgt := 58) F d_T_fits_54 (by decide) ?_
        refine v_istore_4 (pc' := 60) F d_T_fits_58 rfl rfl (by decide) ?_
        refine v_iload_n (pc' := 61) (j := 3) F d_T_fits_60 rfl rfl rfl ?_
        refine v_if_eq (tgt := 73) (pc' := 64) F d_T_fits_61 (by decide) rfl (by omega) (fun c61 => ?_) (fun c61 => by exfalso; omega)
        refine v_iconst (pc' := 74) F d_T_fits_73 rfl ?_
        exact v_ireturn F rfl d_T_fits_74 rfl rfl (Nat.le_refl _) (Nat.le_refl _) ⟨by first | rw [bI_t (by omega)] | rw [bI_f (by omega)], rfl, rfl⟩
      · refine v_aload_n (pc' := 32) (j := 0) F d_T_fits_31 rfl rfl rfl ?_
        refine v_getf (pc' := 35) (C := zR_T) (T := zF_T) (N := 8) (ref := "BillShares$Meter") F d_T_fits_32 rfl zi_T rfl 7 (by decide) wx_341 (Or.inl rfl) (hC.t_mt (i := f) hf) rfl ?_
        refine v_iload_n (pc' := 36) (j := 1) F d_T_fits_35 rfl rfl rfl ?_
        refine cg_st (pc' := 37) F hC (f := f) hf d_T_fits_36 rfl (by omega) (by omega) ?_
        refine v_iconst (pc' := 38) F d_T_fits_37 rfl ?_
        refine v_icmp_ne (tgt := 53) (pc' := 41) F d_T_fits_38 (by decide) rfl (by omega) (by omega) (fun c38 => ?_) (fun c38 => ?_)
        · refine v_iconst (pc' := 54) F d_T_fits_53 rfl ?_
          refine v_goto (tgt := 58) F d_T_fits_54 (by decide) ?_
          refine v_istore_4 (pc' := 60) F d_T_fits_58 rfl rfl (by decide) ?_
          refine v_iload_n (pc' := 61) (j := 3) F d_T_fits_60 rfl rfl rfl ?_
          refine v_if_eq (tgt := 73) (pc' := 64) F d_T_fits_61 (by decide) rfl (by omega) (fun c61 => ?_) (fun c61 => by exfalso; omega)
          refine v_iconst (pc' := 74) F d_T_fits_73 rfl ?_
          exact v_ireturn F rfl d_T_fits_74 rfl rfl (Nat.le_refl _) (Nat.le_refl _) ⟨by first | rw [bI_t (by omega)] | rw [bI_f (by omega)], rfl, rfl⟩
        · refine v_iload_n (pc' := 42) (j := 2) F d_T_fits_41 rfl rfl rfl ?_
          refine v_aload_n (pc' := 43) (j := 0) F d_T_fits_42 rfl rfl rfl ?_
          refine v_getf (pc' := 46) (C := zR_T) (T := zF_T) (N := 8) (ref := "BillShares$Meter") F d_T_fits_43 rfl zi_T rfl 6 (by decide) wx_340 (Or.inl rfl) (hC.t_mt (i := f) hf) rfl ?_
          refine v_iload_n (pc' := 47) (j := 1) F d_T_fits_46 rfl rfl rfl ?_
          refine v_iconst (pc' := 48) F d_T_fits_47 rfl ?_
          refine v_iadd (pc' := 49) F d_T_fits_48 rfl ?_
          refine cg_vl (pc' := 50) F hC (f := f) hf d_T_fits_49 rfl (by omega) (by omega) ?_
          refine v_topi (b := M 15 (40 * f + i + 1)) (by rw [show 40 * f + (i + 1) = 40 * f + i + 1 by omega]) ?_
          have q4 := hva (40 * f + i + 1) (by omega) (by omega)
          refine v_icmp_gt (tgt := 57) (pc' := 53) F d_T_fits_50 (by decide) rfl (by omega) (by omega) (fun c50 => ?_) (fun c50 => ?_)
          · refine v_iconst (pc' := 58) F d_T_fits_57 rfl ?_
            refine v_istore_4 (pc' := 60) F d_T_fits_58 rfl rfl (by decide) ?_
            refine v_iload_n (pc' := 61) (j := 3) F d_T_fits_60 rfl rfl rfl ?_
            refine v_if_eq (tgt := 73) (pc' := 64) F d_T_fits_61 (by decide) rfl (by omega) (fun c61 => ?_) (fun c61 => by exfalso; omega)
            refine v_iconst (pc' := 74) F d_T_fits_73 rfl ?_
            exact v_ireturn F rfl d_T_fits_74 rfl rfl (Nat.le_refl _) (Nat.le_refl _) ⟨by first | rw [bI_t (by omega)] | rw [bI_f (by omega)], rfl, rfl⟩
          · refine v_iconst (pc' := 54) F d_T_fits_53 rfl ?_
            refine v_goto (tgt := 58) F d_T_fits_54 (by decide) ?_
            refine v_istore_4 (pc' := 60) F d_T_fits_58 rfl rfl (by decide) ?_
            refine v_iload_n (pc' := 61) (j := 3) F d_T_fits_60 rfl rfl rfl ?_
            refine v_if_eq (tgt := 73) (pc' := 64) F d_T_fits_61 (by decide) rfl (by omega) (fun c61 => ?_) (fun c61 => by exfalso; omega)
            refine v_iconst (pc' := 74) F d_T_fits_73 rfl ?_
            exact v_ireturn F rfl d_T_fits_74 rfl rfl (Nat.le_refl _) (Nat.le_refl _) ⟨by first | rw [bI_t (by omega)] | rw [bI_f (by omega)], rfl, rfl⟩
    · refine v_iconst (pc' := 16) F d_T_fits_15 rfl ?_
      refine v_goto (tgt := 20) F d_T_fits_16 (by decide) ?_
      refine v_istore_3 (pc' := 21) F d_T_fits_20 rfl rfl (by decide) ?_
      refine v_iload_n (pc' := 22) (j := 1) F d_T_fits_21 rfl rfl rfl ?_
      refine v_iconst (pc' := 23) F d_T_fits_22 rfl ?_
      refine v_iadd (pc' := 24) F d_T_fits_23 rfl ?_
      refine v_aload_n (pc' := 25) (j := 0) F d_T_fits_24 rfl rfl rfl ?_
      refine v_getf (pc' := 28) (C := zR_T) (T := zF_T) (N := 8) (ref := "BillShares$Meter") F d_T_fits_25 rfl zi_T rfl 4 (by decide) wx_337 (Or.inl rfl) (hC.t_mt (i := f) hf) rfl ?_
      refine v_icmp_ge (tgt := 53) (pc' := 31) F d_T_fits_28 (by decide) rfl (by omega) (by omega) (fun c28 => ?_) (fun c28 => ?_)
      · refine v_iconst (pc' := 54) F d_T_fits_53 rfl ?_
        refine v_goto (tgt := 58) F d_T_fits_54 (by decide) ?_
        refine v_istore_4 (pc' := 60) F d_T_fits_58 rfl rfl (by decide) ?_
        refine v_iload_n (pc' := 61) (j := 3) F d_T_fits_60 rfl rfl rfl ?_
        refine v_if_eq (tgt := 73) (pc' := 64) F d_T_fits_61 (by decide) rfl (by omega) (fun c61 => by exfalso; omega) (fun c61 => ?_)
        refine v_iload (pc' := 66) F d_T_fits_64 rfl rfl ?_
        refine v_if_eq (tgt := 73) (pc' := 69) F d_T_fits_66 (by decide) rfl (by omega) (fun c66 => by exfalso; omega) (fun c66 => ?_)
        refine v_iconst (pc' := 70) F d_T_fits_69 rfl ?_
        refine v_goto (tgt := 74) F d_T_fits_70 (by decide) ?_
        exact v_ireturn F rfl d_T_fits_74 rfl rfl (Nat.le_refl _) (Nat.le_refl _) ⟨by first | rw [bI_t (by omega)] | rw [bI_f (by omega)], rfl, rfl⟩
      · refine v_aload_n (pc' := 32) (j := 0) F d_T_fits_31 rfl rfl rfl ?_
        refine v_getf (pc' := 35) (C := zR_T) (T := zF_T) (N := 8) (ref := "BillShares$Meter") F d_T_fits_32 rfl zi_T rfl 7 (by decide) wx_341 (Or.inl rfl) (hC.t_mt (i := f) hf) rfl ?_
        refine v_iload_n (pc' := 36) (j := 1) F d_T_fits_35 rfl rfl rfl ?_
        refine cg_st (pc' := 37) F hC (f := f) hf d_T_fits_36 rfl (by omega) (by omega) ?_
        refine v_iconst (pc' := 38) F d_T_fits_37 rfl ?_
        refine v_icmp_ne (tgt := 53) (pc' := 41) F d_T_fits_38 (by decide) rfl (by omega) (by omega) (fun c38 => ?_) (fun c38 => ?_)
        · refine v_iconst (pc' := 54) F d_T_fits_53 rfl ?_
          refine v_goto (tgt := 58) F d_T_fits_54 (by decide) ?_
          refine v_istore_4 (pc' := 60) F d_T_fits_58 rfl rfl (by decide) ?_
          refine v_iload_n (pc' := 61) (j := 3) F d_T_fits_60 rfl rfl rfl ?_
          refine v_if_eq (tgt := 73) (pc' := 64) F d_T_fits_61 (by decide) rfl (by omega) (fun c61 => by exfalso; omega) (fun c61 => ?_)
          refine v_iload (pc' := 66) F d_T_fits_64 rfl rfl ?_
          refine v_if_eq (tgt := 73) (pc' := 69) F d_T_fits_66 (by decide) rfl (by omega) (fun c66 => by exfalso; omega) (fun c66 => ?_)
          refine v_iconst (pc' := 70) F d_T_fits_69 rfl ?_
          refine v_goto (tgt := 74) F d_T_fits_70 (by decide) ?_
          exact v_ireturn F rfl d_T_fits_74 rfl rfl (Nat.le_refl _) (Nat.le_refl _) ⟨by first | rw [bI_t (by omega)] | rw [bI_f (by omega)], rfl, rfl⟩
        · refine v_iload_n (pc' := 42) (j := 2) F d_T_fits_41 rfl rfl rfl ?_
          refine v_aload_n (pc' := 43) (j := 0) F d_T_fits_42 rfl rfl rfl ?_
          refine v_getf (pc' := 46) (C := zR_T) (T := zF_T) (N := 8) (ref := "BillShares$Meter") F d_T_fits_43 rfl zi_T rfl 6 (by decide) wx_340 (Or.inl rfl) (hC.t_mt (i := f) hf) rfl ?_
          refine v_iload_n (pc' := 47) (j := 1) F d_T_fits_46 rfl rfl rfl ?_
          refine v_iconst (pc' := 48) F d_T_fits_47 rfl ?_
          refine v_iadd (pc' := 49) F d_T_fits_48 rfl ?_
          refine cg_vl (pc' := 50) F hC (f := f) hf d_T_fits_49 rfl (by omega) (by omega) ?_
          refine v_topi (b := M 15 (40 * f + i + 1)) (by rw [show 40 * f + (i + 1) = 40 * f + i + 1 by omega]) ?_
          have q4 := hva (40 * f + i + 1) (by omega) (by omega)
          refine v_icmp_gt (tgt := 57) (pc' := 53) F d_T_fits_50 (by decide) rfl (by omega) (by omega) (fun c50 => ?_) (fun c50 => ?_)
          · refine v_iconst (pc' := 58) F d_T_fits_57 rfl ?_
            refine v_istore_4 (pc' := 60) F d_T_fits_58 rfl rfl (by decide) ?_
            refine v_iload_n (pc' := 61) (j := 3) F d_T_fits_60 rfl rfl rfl ?_
            refine v_if_eq (tgt := 73) (pc' := 64) F d_T_fits_61 (by decide) rfl (by omega) (fun c61 => by exfalso; omega) (fun c61 => ?_)
            refine v_iload (pc' := 66) F d_T_fits_64 rfl rfl ?_
            refine v_if_eq (tgt := 73) (pc' := 69) F d_T_fits_66 (by decide) rfl (by omega) (fun c66 => ?_) (fun c66 => by exfalso; omega)
            refine v_iconst (pc' := 74) F d_T_fits_73 rfl ?_
            exact v_ireturn F rfl d_T_fits_74 rfl rfl (Nat.le_refl _) (Nat.le_refl _) ⟨by first | rw [bI_t (by omega)] | rw [bI_f (by omega)], rfl, rfl⟩
          · refine v_iconst (pc' := 54) F d_T_fits_53 rfl ?_
            refine v_goto (tgt := 58) F d_T_fits_54 (by decide) ?_
            refine v_istore_4 (pc' := 60) F d_T_fits_58 rfl rfl (by decide) ?_
            refine v_iload_n (pc' := 61) (j := 3) F d_T_fits_60 rfl rfl rfl ?_
            refine v_if_eq (tgt := 73) (pc' := 64) F d_T_fits_61 (by decide) rfl (by omega) (fun c61 => by exfalso; omega) (fun c61 => ?_)
            refine v_iload (pc' := 66) F d_T_fits_64 rfl rfl ?_
            refine v_if_eq (tgt := 73) (pc' := 69) F d_T_fits_66 (by decide) rfl (by omega) (fun c66 => by exfalso; omega) (fun c66 => ?_)
            refine v_iconst (pc' := 70) F d_T_fits_69 rfl ?_
            refine v_goto (tgt := 74) F d_T_fits_70 (by decide) ?_
            exact v_ireturn F rfl d_T_fits_74 rfl rfl (Nat.le_refl _) (Nat.le_refl _) ⟨by first | rw [bI_t (by omega)] | rw [bI_f (by omega)], rfl, rfl⟩
theorem mo_lt {M : MS} (hmo : ∀ f k : Int, 0 ≤ f → f < M 7 0 → 0 ≤ k → k + 1 < M 13 f → M 14 (40 * f + k) < M 14 (40 * f + 1 + k) ∧ M 16 (40 * f + k) ≤ M 15 (40 * f + 1 + k)) {f : Int} (hf : 0 ≤ f ∧ f < M 7 0) (j : Int) (hj : 0 ≤ j) : ∀ n : Nat, j + 1 + (n : Int) < M 13 f → M 14 (40 * f + j) < M 14 (40 * f + (j + 1 + (n : Int)))
  | 0, h => by
    have := (hmo f j hf.1 hf.2 hj (by omega)).1
    rw [show 40 * f + (j + 1 + ((0 : Nat) : Int)) = 40 * f + 1 + j by omega]
    exact this
  | n + 1, h => by
    have h1 := mo_lt hmo hf j hj n (by omega)
    have h2 := (hmo f (j + 1 + (n : Int)) hf.1 hf.2 (by omega) (by omega)).1
    rw [show 40 * f + (j + 1 + ((n + 1 : Nat) : Int)) = 40 * f + 1 + (j + 1 + (n : Int)) by omega]
    omega
theorem mo_l {M : MS} (hmo : ∀ f k : Int, 0 ≤ f → f < M 7 0 → 0 ≤ k → k + 1 < M 13 f → M 14 (40 * f + k) < M 14 (40 * f + 1 + k) ∧ M 16 (40 * f + k) ≤ M 15 (40 * f + 1 + k)) {f : Int} (hf : 0 ≤ f ∧ f < M 7 0) {j k : Int} (hj : 0 ≤ j) (hk : j < k) (hn : k < M 13 f) : M 14 (40 * f + j) < M 14 (40 * f + k) := by
  have := mo_lt hmo hf j hj (k - j - 1).toNat (by omega)
  rw [show j + 1 + ((k - j - 1).toNat : Int) = k by omega] at this
  exact this
theorem sp_fst_t {D : Int → Int} {f a : Int} (h : D (40 * f) ≤ 365 * a) : ∀ n : Nat, 0 < n → sp_fst D f a n = 1
  | 0, h0 => absurd h0 (by omega)
  | 1, _ => sp_fst_1 (Or.inr (by rw [show 40 * f + ((0 : Nat) : Int) = 40 * f by omega]; exact h))
  | n + 2, _ => sp_fst_1 (Or.inl (by rw [sp_fst_t h (n + 1) (by omega)]; decide))
theorem sp_fst_f {D : Int → Int} {f a : Int} : ∀ n : Nat, (∀ k : Nat, k < n → 365 * a < D (40 * f + (k : Int))) → sp_fst D f a n = 0
  | 0, _ => rfl
  | n + 1, h => sp_fst_0 (sp_fst_f n (fun k hk => h k (by omega))) (by have := h n (by omega); omega)
theorem sp_lst_t {D : Int → Int} {f a : Int} {n : Nat} (h : 365 * a + 365 ≤ D (40 * f + (n : Int))) : sp_lst D f a (n + 1) = 1 := sp_lst_1 (Or.inr h)
theorem sp_lst_f {D : Int → Int} {f a : Int} : ∀ n : Nat, (∀ k : Nat, k < n → D (40 * f + (k : Int)) < 365 * a + 365) → sp_lst D f a n = 0
  | 0, _ => rfl
  | n + 1, h => sp_lst_0 (sp_lst_f n (fun k hk => h k (by omega))) (by have := h n (by omega); omega)
theorem sp_why_c {M : MS} (hme : 0 ≤ M 7 0 ∧ M 7 0 ≤ 60) (hrd : ∀ f : Int, 0 ≤ f → f < M 7 0 → 0 ≤ M 13 f ∧ M 13 f ≤ 40) (hmo : ∀ f k : Int, 0 ≤ f → f < M 7 0 → 0 ≤ k → k + 1 < M 13 f → M 14 (40 * f + k) < M 14 (40 * f + 1 + k) ∧ M 16 (40 * f + k) ≤ M 15 (40 * f + 1 + k)) {f a : Int} (hf : 0 ≤ f ∧ f < M 7 0) : sp_why M f a = if M 13 f = 0 ∨ 365 * a < M 14 (40 * f) ∨ M 14 (40 * f + M 13 f - 1) < 365 * a + 365 then 2 else if M 12 f < 365 * a + 365 then 3 else 0 := by
  have q0 := hrd f hf.1 hf.2
  unfold sp_why
  by_cases h0 : M 13 f = 0
  · rw [if_pos (Or.inl h0), if_pos (Or.inl (by rw [h0]; rfl))]
  · have e1 : sp_fst (M 14) f a (M 13 f).toNat = 0 ↔ 365 * a < M 14 (40 * f) := by
      constructor
      · intro h
        refine Classical.byContradiction fun hn => ?_
        rw [sp_fst_t (by omega) _ (by omega)] at h
        cases h
      · intro h
        refine sp_fst_f _ (fun k hk => ?_)
        by_cases hk0 : k = 0
        · subst hk0; rw [show 40 * f + ((0 : Nat) : Int) = 40 * f by omega]; exact h
        · have := mo_l hmo hf (j := 0) (k := (k : Int)) (by omega) (by omega) (by omega)
          rw [Int.add_zero] at this
          omega
    have e2 : sp_lst (M 14) f a (M 13 f).toNat = 0 ↔ M 14 (40 * f + M 13 f - 1) < 365 * a + 365 := by
      have en : (M 13 f).toNat = (M 13 f - 1).toNat + 1 := by omega
      have ee : 40 * f + ((M 13 f - 1).toNat : Int) = 40 * f + M 13 f - 1 := by omega
      constructor
      · intro h
        refine Classical.byContradiction fun hn => ?_
        rw [en, sp_lst_t (by rw [ee]; omega)] at h
        cases h
      · intro h
        refine sp_lst_f _ (fun k hk => ?_)
        by_cases hk0 : (k : Int) = M 13 f - 1
        · rw [hk0, show 40 * f + (M 13 f - 1) = 40 * f + M 13 f - 1 by omega]; exact h
        · have := mo_l hmo hf (j := (k : Int)) (k := M 13 f - 1) (by omega) (by omega) (by omega)
          rw [show 40 * f + (M 13 f - 1) = 40 * f + M 13 f - 1 by omega] at this
          omega
    by_cases hc : 365 * a < M 14 (40 * f) ∨ M 14 (40 * f + M 13 f - 1) < 365 * a + 365
    · rw [if_pos (Or.inr hc), if_pos (hc.elim (fun q => Or.inl (e1.mpr q)) (fun q => Or.inr (e2.mpr q)))]
    · rw [if_neg (show ¬ (M 13 f = 0 ∨ 365 * a < M 14 (40 * f) ∨ M 14 (40 * f + M 13 f - 1) < 365 * a + 365) by omega), if_neg (show ¬ (sp_fst (M 14) f a (M 13 f).toNat = 0 ∨ sp_lst (M 14) f a (M 13 f).toNat = 0) from fun q => hc (q.elim (fun q => Or.inl (e1.mp q)) (fun q => Or.inr (e2.mp q))))]
set_option maxRecDepth 100000 in
set_option maxHeartbeats 4000000 in
theorem c_T_whyBarred (l : Launch) (X : am_X) (h : am_H) (nx : Nat) (x : Nat) (A : Nat → Prop) (P : Tg → Nat) (M : MS) (f a : Int) (hC : RepC X x A P M h) (hme : 0 ≤ M 7 0 ∧ M 7 0 ≤ 60) (hrd : ∀ f : Int, 0 ≤ f → f < M 7 0 → 0 ≤ M 13 f ∧ M 13 f ≤ 40) (hda : ∀ i : Int, 0 ≤ i → i < 2400 → 0 ≤ M 14 i ∧ M 14 i ≤ 3649) (hmo : ∀ f k : Int, 0 ≤ f → f < M 7 0 → 0 ≤ k → k + 1 < M 13 f → M 14 (40 * f + k) < M 14 (40 * f + 1 + k) ∧ M 16 (40 * f + k) ≤ M 15 (40 * f + 1 + k)) (hte : ∀ i : Int, 0 ≤ i → i < 60 → 0 ≤ M 12 i ∧ M 12 i ≤ 3649) (hf : 0 ≤ f ∧ f < M 7 0) (ry : 0 ≤ a ∧ a ≤ 9) : CnP l X y_T_whyBarred ({ frames := 1, cells := 0, slots := 0, locals := 20 }) [.ref (P (12, f)), iV a] h nx (iV (sp_why M f a)) := by
  refine cn_of (k := 0) (L0 := [some (.ref (P (12, f))), some (iV a)]) rfl wx_549 (Nat.le_of_ble_eq_true rfl) rfl (fun p e s m args below meth c F => ?_)
  have q0 := hrd f hf.1 hf.2
  have q1 := hte f (by omega) (by omega)
  refine v_aload_n (pc' := 1) (j := 0) F d_T_whyBarred_0 rfl rfl rfl ?_
  refine v_getf (pc' := 4) (C := zR_T) (T := zF_T) (N := 8) (ref := "BillShares$Meter") F d_T_whyBarred_1 rfl zi_T rfl 4 (by decide) wx_337 (Or.inl rfl) (hC.t_mt (i := f) hf) rfl ?_
  refine v_if_eq (tgt := 38) (pc' := 7) F d_T_whyBarred_4 (by decide) rfl (by omega) (fun c4 => ?_) (fun c4 => ?_)
  · refine v_iconst (pc' := 39) F d_T_whyBarred_38 rfl ?_
    exact v_ireturn F rfl d_T_whyBarred_39 rfl rfl (Nat.le_refl _) (Nat.le_refl _) ⟨by rw [sp_why_c hme hrd hmo hf]; first | rw [if_pos (by omega)] | rw [if_neg (by omega), if_pos (by omega)] | rw [if_neg (by omega), if_neg (by omega)], rfl, rfl⟩
  · refine v_aload_n (pc' := 8) (j := 0) F d_T_whyBarred_7 rfl rfl rfl ?_
    refine v_getf (pc' := 11) (C := zR_T) (T := zF_T) (N := 8) (ref := "BillShares$Meter") F d_T_whyBarred_8 rfl zi_T rfl 5 (by decide) wx_339 (Or.inl rfl) (hC.t_mt (i := f) hf) rfl ?_
    refine v_iconst (pc' := 12) F d_T_whyBarred_11 rfl ?_
    refine cg_dy (pc' := 13) F hC (f := f) hf d_T_whyBarred_12 rfl (by omega) (by omega) ?_
    refine v_topi (b := M 14 (40 * f)) (by rw [Int.add_zero]) ?_
    have q2 := hda (40 * f) (by omega) (by omega)
    refine v_iload_n (pc' := 14) (j := 1) F d_T_whyBarred_13 rfl rfl rfl ?_
    refine v_callSNP (pc' := 17) F d_T_whyBarred_14 rfl cal_S_startOf wx_550 wx_551 (c_S_startOf l X _ _ _) rfl ⟨by decide, by decide, by decide, by decide⟩ (Nat.le_of_ble_eq_true rfl) rfl rfl ?_
    refine v_icmp_gt (tgt := 38) (pc' := 20) F d_T_whyBarred_17 (by decide) rfl (by omega) (by omega) (fun c17 => ?_) (fun c17 => ?_)
    · refine v_iconst (pc' := 39) F d_T_whyBarred_38 rfl ?_
      exact v_ireturn F rfl d_T_whyBarred_39 rfl rfl (Nat.le_refl _) (Nat.le_refl _) ⟨by rw [sp_why_c hme hrd hmo hf]; first | rw [if_pos (by omega)] | rw [if_neg (by omega), if_pos (by omega)] | rw [if_neg (by omega), if_neg (by omega)], rfl, rfl⟩
    · refine v_aload_n (pc' := 21) (j := 0) F d_T_whyBarred_20 rfl rfl rfl ?_
      refine v_getf (pc' := 24) (C := zR_T) (T := zF_T) (N := 8) (ref := "BillShares$Meter") F d_T_whyBarred_21 rfl zi_T rfl 5 (by decide) wx_339 (Or.inl rfl) (hC.t_mt (i := f) hf) rfl ?_
      refine v_aload_n (pc' := 25) (j := 0) F d_T_whyBarred_24 rfl rfl rfl ?_
      refine v_getf (pc' := 28) (C := zR_T) (T := zF_T) (N := 8) (ref := "BillShares$Meter") F d_T_whyBarred_25 rfl zi_T rfl 4 (by decide) wx_337 (Or.inl rfl) (hC.t_mt (i := f) hf) rfl ?_
      refine v_iconst (pc' := 29) F d_T_whyBarred_28 rfl ?_
      refine v_isub (pc' := 30) F d_T_whyBarred_29 rfl ?_
      refine cg_dy (pc' := 31) F hC (f := f) hf d_T_whyBarred_30 rfl (by omega) (by omega) ?_
      refine v_topi (b := M 14 (40 * f + M 13 f - 1)) (by rw [show 40 * f + (M 13 f - 1) = 40 * f + M 13 f - 1 by omega]) ?_
      have q3 := hda (40 * f + M 13 f - 1) (by omega) (by omega)
      refine v_iload_n (pc' := 32) (j := 1) F d_T_whyBarred_31 rfl rfl rfl ?_
      refine v_callSNP (pc' := 35) F d_T_whyBarred_32 rfl cal_S_endOf wx_553 wx_554 (c_S_endOf l X _ _ _) rfl ⟨by decide, by decide, by decide, by decide⟩ (Nat.le_of_ble_eq_true rfl) rfl rfl ?_
      refine v_icmp_ge (tgt := 40) (pc' := 38) F d_T_whyBarred_35 (by decide) rfl (by omega) (by omega) (fun c35 => ?_) (fun c35 => ?_)
      · refine v_aload_n (pc' := 41) (j := 0) F d_T_whyBarred_40 rfl rfl rfl ?_
        refine v_getf (pc' := 44) (C := zR_T) (T := zF_T) (N := 8) (ref := "BillShares$Meter") F d_T_whyBarred_41 rfl zi_T rfl 3 (by decide) wx_335 (Or.inl rfl) (hC.t_mt (i := f) hf) rfl ?_
        refine v_iload_n (pc' := 45) (j := 1) F d_T_whyBarred_44 rfl rfl rfl ?_
        refine v_callSNP (pc' := 48) F d_T_whyBarred_45 rfl cal_S_endOf wx_553 wx_554 (c_S_endOf l X _ _ _) rfl ⟨by decide, by decide, by decide, by decide⟩ (Nat.le_of_ble_eq_true rfl) rfl rfl ?_
        refine v_icmp_ge (tgt := 55) (pc' := 51) F d_T_whyBarred_48 (by decide) rfl (by omega) (by omega) (fun c48 => ?_) (fun c48 => ?_)
        · refine v_iconst (pc' := 56) F d_T_whyBarred_55 rfl ?_
          exact v_ireturn F rfl d_T_whyBarred_56 rfl rfl (Nat.le_refl _) (Nat.le_refl _) ⟨by rw [sp_why_c hme hrd hmo hf]; first | rw [if_pos (by omega)] | rw [if_neg (by omega), if_pos (by omega)] | rw [if_neg (by omega), if_neg (by omega)], rfl, rfl⟩
        · refine v_iconst (pc' := 52) F d_T_whyBarred_51 rfl ?_
          refine v_goto (tgt := 56) F d_T_whyBarred_52 (by decide) ?_
          exact v_ireturn F rfl d_T_whyBarred_56 rfl rfl (Nat.le_refl _) (Nat.le_refl _) ⟨by rw [sp_why_c hme hrd hmo hf]; first | rw [if_pos (by omega)] | rw [if_neg (by omega), if_pos (by omega)] | rw [if_neg (by omega), if_neg (by omega)], rfl, rfl⟩
      · refine v_iconst (pc' := 39) F d_T_whyBarred_38 rfl ?_
        exact v_ireturn F rfl d_T_whyBarred_39 rfl rfl (Nat.le_refl _) (Nat.le_refl _) ⟨by rw [sp_why_c hme hrd hmo hf]; first | rw [if_pos (by omega)] | rw [if_neg (by omega), if_pos (by omega)] | rw [if_neg (by omega), if_neg (by omega)], rfl, rfl⟩
theorem pt_lo {D V G : Int → Int} {lo hi d : Int} (h1 : D lo < D hi) (h : d ≤ D lo) : sp_pt D V G lo hi d = 0 := by
  have e : sp_cl d (D lo) (D hi) = D lo := by unfold sp_cl; (repeat split) <;> omega
  unfold sp_pt
  rw [e, Int.sub_self, Int.mul_zero, Int.zero_tdiv]
theorem pt_hi {D V G : Int → Int} {lo hi d : Int} (h1 : D lo < D hi) (h : D hi ≤ d) : sp_pt D V G lo hi d = V hi - G lo := by
  have e : sp_cl d (D lo) (D hi) = D hi := by unfold sp_cl; (repeat split) <;> omega
  unfold sp_pt
  rw [e, Int.mul_tdiv_cancel _ (by omega)]
theorem pt_mid {D V G : Int → Int} {lo hi d : Int} (h1 : D lo < d) (h : d < D hi) : sp_pt D V G lo hi d = ((V hi - G lo) * (d - D lo)).tdiv (D hi - D lo) := by
  have e : sp_cl d (D lo) (D hi) = d := by unfold sp_cl; rw [if_neg (by omega), if_neg (by omega)]
  unfold sp_pt
  rw [e]
set_option maxRecDepth 100000 in
set_option maxHeartbeats 4000000 in
theorem c_T_comesTo (l : Launch) (X : am_X) (h : am_H) (nx : Nat) (x : Nat) (A : Nat → Prop) (P : Tg → Nat) (M : MS) (f k d : Int) (hC : RepC X x A P M h) (hme : 0 ≤ M 7 0 ∧ M 7 0 ≤ 60) (hrd : ∀ f : Int, 0 ≤ f → f < M 7 0 → 0 ≤ M 13 f ∧ M 13 f ≤ 40) (hda : ∀ i : Int, 0 ≤ i → i < 2400 → 0 ≤ M 14 i ∧ M 14 i ≤ 3649) (hva : ∀ i : Int, 0 ≤ i → i < 2400 → 0 ≤ M 15 i ∧ M 15 i ≤ 10000000) (hgo : ∀ i : Int, 0 ≤ i → i < 2400 → 0 ≤ M 16 i ∧ M 16 i ≤ 10000000) (hst : ∀ f k : Int, 0 ≤ f → f < M 7 0 → 0 ≤ k → k < M 13 f → (M 17 (40 * f + k) = 0 ∧ M 33 (40 * f + k) = -1 ∧ M 16 (40 * f + k) = M 15 (40 * f + k)) ∨ (M 17 (40 * f + k) = 1 ∧ M 33 (40 * f + k) = M 16 (40 * f + k))) (hmo : ∀ f k : Int, 0 ≤ f → f < M 7 0 → 0 ≤ k → k + 1 < M 13 f → M 14 (40 * f + k) < M 14 (40 * f + 1 + k) ∧ M 16 (40 * f + k) ≤ M 15 (40 * f + 1 + k)) (hf : 0 ≤ f ∧ f < M 7 0) (hk : 0 ≤ k ∧ k + 1 < M 13 f) (rd : 0 ≤ d ∧ d ≤ 3650) : CnP l X y_T_comesTo ({ frames := 1, cells := 0, slots := 0, locals := 21 }) [.ref (P (12, f)), iV k, iV d] h nx (lV (sp_pt (M 14) (M 15) (M 16) (40 * f + k) (40 * f + 1 + k) d)) := by
  refine cn_of (k := 2) (L0 := [some (.ref (P (12, f))), some (iV k), some (iV d), none, none]) rfl wx_569 (Nat.le_of_ble_eq_true rfl) rfl (fun p e s m args below meth c F => ?_)
  have q0 := hrd f hf.1 hf.2
  have q2 := hmo f k hf.1 hf.2 hk.1 hk.2
  have q3 := hda (40 * f + k) (by omega) (by omega)
  have q4 := hda (40 * f + 1 + k) (by omega) (by omega)
  have q5 := hva (40 * f + 1 + k) (by omega) (by omega)
  have q6 := hgo (40 * f + k) (by omega) (by omega)
  refine v_aload_n (pc' := 1) (j := 0) F d_T_comesTo_0 rfl rfl rfl ?_
  refine v_getf (pc' := 4) (C := zR_T) (T := zF_T) (N := 8) (ref := "BillShares$Meter") F d_T_comesTo_1 rfl zi_T rfl 6 (by decide) wx_340 (Or.inl rfl) (hC.t_mt (i := f) hf) rfl ?_
  refine v_iload_n (pc' := 5) (j := 1) F d_T_comesTo_4 rfl rfl rfl ?_
  refine v_iconst (pc' := 6) F d_T_comesTo_5 rfl ?_
  refine v_iadd (pc' := 7) F d_T_comesTo_6 rfl ?_
  refine cg_vl (pc' := 8) F hC (f := f) hf d_T_comesTo_7 rfl (by omega) (by omega) ?_
  refine v_topi (b := M 15 (40 * f + 1 + k)) (by rw [show 40 * f + (k + 1) = 40 * f + 1 + k by omega]) ?_
  refine v_aload_n (pc' := 9) (j := 0) F d_T_comesTo_8 rfl rfl rfl ?_
  refine v_iload_n (pc' := 10) (j := 1) F d_T_comesTo_9 rfl rfl rfl ?_
  refine v_callVP (pc' := 13) (C := zR_T) (T9 := zF_T) (N := 8) F d_T_comesTo_10 rfl cal_T_valueBehind wx_380 wx_381 wx_382 rfl (hC.t_mt (i := f) hf) (c_T_valueBehind l X _ _ _ _ _ _ _ _ hC hme hrd hgo hst hf (by omega)) rfl ⟨by decide, by decide, by decide, by decide⟩ (Nat.le_of_ble_eq_true rfl) rfl rfl ?_
  refine v_isub (pc' := 14) F d_T_comesTo_13 rfl ?_
  refine v_i2l (pc' := 15) F d_T_comesTo_14 rfl (by omega) ?_
  refine v_lstore_3 (pc' := 16) F d_T_comesTo_15 rfl rfl (by decide) ?_
  refine v_iload_n (pc' := 17) (j := 2) F d_T_comesTo_16 rfl rfl rfl ?_
  refine v_aload_n (pc' := 18) (j := 0) F d_T_comesTo_17 rfl rfl rfl ?_
  refine v_getf (pc' := 21) (C := zR_T) (T := zF_T) (N := 8) (ref := "BillShares$Meter") F d_T_comesTo_18 rfl zi_T rfl 5 (by decide) wx_339 (Or.inl rfl) (hC.t_mt (i := f) hf) rfl ?_
  refine v_iload_n (pc' := 22) (j := 1) F d_T_comesTo_21 rfl rfl rfl ?_
  refine cg_dy (pc' := 23) F hC (f := f) hf d_T_comesTo_22 rfl (by omega) (by omega) ?_
  refine v_icmp_gt (tgt := 28) (pc' := 26) F d_T_comesTo_23 (by decide) rfl (by omega) (by omega) (fun c23 => ?_) (fun c23 => ?_)
  · refine v_iload_n (pc' := 29) (j := 2) F d_T_comesTo_28 rfl rfl rfl ?_
    refine v_aload_n (pc' := 30) (j := 0) F d_T_comesTo_29 rfl rfl rfl ?_
    refine v_getf (pc' := 33) (C := zR_T) (T := zF_T) (N := 8) (ref := "BillShares$Meter") F d_T_comesTo_30 rfl zi_T rfl 5 (by decide) wx_339 (Or.inl rfl) (hC.t_mt (i := f) hf) rfl ?_
    refine v_iload_n (pc' := 34) (j := 1) F d_T_comesTo_33 rfl rfl rfl ?_
    refine v_iconst (pc' := 35) F d_T_comesTo_34 rfl ?_
    refine v_iadd (pc' := 36) F d_T_comesTo_35 rfl ?_
    refine cg_dy (pc' := 37) F hC (f := f) hf d_T_comesTo_36 rfl (by omega) (by omega) ?_
    refine v_topi (b := M 14 (40 * f + 1 + k)) (by rw [show 40 * f + (k + 1) = 40 * f + 1 + k by omega]) ?_
    refine v_icmp_lt (tgt := 42) (pc' := 40) F d_T_comesTo_37 (by decide) rfl (by omega) (by omega) (fun c37 => ?_) (fun c37 => ?_)
    · refine v_lload_n (pc' := 43) (j := 3) F d_T_comesTo_42 rfl rfl rfl ?_
      refine v_iload_n (pc' := 44) (j := 2) F d_T_comesTo_43 rfl rfl rfl ?_
      refine v_aload_n (pc' := 45) (j := 0) F d_T_comesTo_44 rfl rfl rfl ?_
      refine v_getf (pc' := 48) (C := zR_T) (T := zF_T) (N := 8) (ref := "BillShares$Meter") F d_T_comesTo_45 rfl zi_T rfl 5 (by decide) wx_339 (Or.inl rfl) (hC.t_mt (i := f) hf) rfl ?_
      refine v_iload_n (pc' := 49) (j := 1) F d_T_comesTo_48 rfl rfl rfl ?_
      refine cg_dy (pc' := 50) F hC (f := f) hf d_T_comesTo_49 rfl (by omega) (by omega) ?_
      refine v_isub (pc' := 51) F d_T_comesTo_50 rfl ?_
      refine v_i2l (pc' := 52) F d_T_comesTo_51 rfl (by omega) ?_
      have q7 := am_mul_r (x := M 15 (40 * f + 1 + k) - M 16 (40 * f + k)) (y := d - M 14 (40 * f + k)) (a := 10000000) (b := 3650) (by omega) (by omega) (by omega)
      refine v_lmul (pc' := 53) F d_T_comesTo_52 rfl ?_
      refine v_aload_n (pc' := 54) (j := 0) F d_T_comesTo_53 rfl rfl rfl ?_
      refine v_getf (pc' := 57) (C := zR_T) (T := zF_T) (N := 8) (ref := "BillShares$Meter") F d_T_comesTo_54 rfl zi_T rfl 5 (by decide) wx_339 (Or.inl rfl) (hC.t_mt (i := f) hf) rfl ?_
      refine v_iload_n (pc' := 58) (j := 1) F d_T_comesTo_57 rfl rfl rfl ?_
      refine v_iconst (pc' := 59) F d_T_comesTo_58 rfl ?_
      refine v_iadd (pc' := 60) F d_T_comesTo_59 rfl ?_
      refine cg_dy (pc' := 61) F hC (f := f) hf d_T_comesTo_60 rfl (by omega) (by omega) ?_
      refine v_topi (b := M 14 (40 * f + 1 + k)) (by rw [show 40 * f + (k + 1) = 40 * f + 1 + k by omega]) ?_
      refine v_aload_n (pc' := 62) (j := 0) F d_T_comesTo_61 rfl rfl rfl ?_
      refine v_getf (pc' := 65) (C := zR_T) (T := zF_T) (N := 8) (ref := "BillShares$Meter") F d_T_comesTo_62 rfl zi_T rfl 5 (by decide) wx_339 (Or.inl rfl) (hC.t_mt (i := f) hf) rfl ?_
      refine v_iload_n (pc' := 66) (j := 1) F d_T_comesTo_65 rfl rfl rfl ?_
      refine cg_dy (pc' := 67) F hC (f := f) hf d_T_comesTo_66 rfl (by omega) (by omega) ?_
      refine v_isub (pc' := 68) F d_T_comesTo_67 rfl ?_
      refine v_i2l (pc' := 69) F d_T_comesTo_68 rfl (by omega) ?_
      refine v_ldiv (pc' := 70) F d_T_comesTo_69 rfl (by omega) (by omega) (by omega) ?_
      exact v_lreturn F d_T_comesTo_70 rfl (Nat.le_refl _) (Nat.le_refl _) ⟨by rw [pt_mid (by omega) (by omega)], rfl, rfl⟩
    · refine v_lload_n (pc' := 41) (j := 3) F d_T_comesTo_40 rfl rfl rfl ?_
      exact v_lreturn F d_T_comesTo_41 rfl (Nat.le_refl _) (Nat.le_refl _) ⟨by rw [pt_hi q2.1 (by omega)], rfl, rfl⟩
  · refine v_lconst (pc' := 27) (z := 0) F d_T_comesTo_26 rfl (by decide) ?_
    exact v_lreturn F d_T_comesTo_27 rfl (Nat.le_refl _) (Nat.le_refl _) ⟨by rw [pt_lo q2.1 (by omega)], rfl, rfl⟩
set_option maxRecDepth 100000 in
set_option maxHeartbeats 4000000 in
theorem lp_T_useBetween {p : Program} {l : Launch} {e : Env} {s : State} {m : MethodId} {args : Array Value} {below : List Frame} {meth : Method} {c : Code} {X : am_X} {Q : State → Prop} {h : am_H} {nx : Nat} {x : Nat} {A : Nat → Prop} {P : Tg → Nat} {M : MS} {kk : Nat} {f g t : Int} (F : am_Fx p s m args meth c y_T_useBetween b_T_useBetween 6 ((Option.some FieldType.long)) [] X) (hC : RepC X x A P M h) (hme : 0 ≤ M 7 0 ∧ M 7 0 ≤ 60) (hrd : ∀ f : Int, 0 ≤ f → f < M 7 0 → 0 ≤ M 13 f ∧ M 13 f ≤ 40) (hda : ∀ i : Int, 0 ≤ i → i < 2400 → 0 ≤ M 14 i ∧ M 14 i ≤ 3649) (hva : ∀ i : Int, 0 ≤ i → i < 2400 → 0 ≤ M 15 i ∧ M 15 i ≤ 10000000) (hgo : ∀ i : Int, 0 ≤ i → i < 2400 → 0 ≤ M 16 i ∧ M 16 i ≤ 10000000) (hst : ∀ f k : Int, 0 ≤ f → f < M 7 0 → 0 ≤ k → k < M 13 f → (M 17 (40 * f + k) = 0 ∧ M 33 (40 * f + k) = -1 ∧ M 16 (40 * f + k) = M 15 (40 * f + k)) ∨ (M 17 (40 * f + k) = 1 ∧ M 33 (40 * f + k) = M 16 (40 * f + k))) (hmo : ∀ f k : Int, 0 ≤ f → f < M 7 0 → 0 ≤ k → k + 1 < M 13 f → M 14 (40 * f + k) < M 14 (40 * f + 1 + k) ∧ M 16 (40 * f + k) ≤ M 15 (40 * f + 1 + k)) (hf : 0 ≤ f ∧ f < M 7 0) (rg : 0 ≤ g ∧ g ≤ 3650) (rt : 0 ≤ t ∧ t ≤ 3650) (hkk : (kk : Int) = if M 13 f = 0 then 0 else M 13 f - 1) (hx : V p l e ({ frames := 2, cells := 0, slots := 0, locals := 45 }) s m args below meth c 6 X Q h nx 0 0 40 [some (.ref (P (12, f))), some (iV g), some (iV t), some (lV (sp_told (M 14) (M 15) (M 16) f g t kk)), none, some (iV (kk : Int))] []) : ∀ (n k : Nat), kk < k + n → k ≤ kk → V p l e ({ frames := 2, cells := 0, slots := 0, locals := 45 }) s m args below meth c 6 X Q h nx 0 0 5 [some (.ref (P (12, f))), some (iV g), some (iV t), some (lV (sp_told (M 14) (M 15) (M 16) f g t k)), none, some (iV (k : Int))] [] := by
  intro n
  induction n with
  | zero =>
    intro k hk hk2
    exact absurd hk (by omega)
  | succ n ih =>
    intro k hk hk2
    have q1 := hrd f hf.1 hf.2
    refine v_iload (pc' := 7) F d_T_useBetween_5 rfl rfl ?_
    refine v_iconst (pc' := 8) F d_T_useBetween_7 rfl ?_
    refine v_iadd (pc' := 9) F d_T_useBetween_8 rfl ?_
    refine v_aload_n (pc' := 10) (j := 0) F d_T_useBetween_9 rfl rfl rfl ?_
    refine v_getf (pc' := 13) (C := zR_T) (T := zF_T) (N := 8) (ref := "BillShares$Meter") F d_T_useBetween_10 rfl zi_T rfl 4 (by decide) wx_337 (Or.inl rfl) (hC.t_mt (i := f) hf) rfl ?_
    refine v_icmp_ge (tgt := 40) (pc' := 16) F d_T_useBetween_13 (by decide) rfl (by omega) (by omega) (fun c13 => ?_) (fun c13 => ?_)
    · obtain rfl : k = kk := by split at hkk <;> omega
      exact hx
    · refine v_lload_n (pc' := 17) (j := 3) F d_T_useBetween_16 rfl rfl rfl ?_
      refine v_aload_n (pc' := 18) (j := 0) F d_T_useBetween_17 rfl rfl rfl ?_
      refine v_iload (pc' := 20) F d_T_useBetween_18 rfl rfl ?_
      refine v_iload_n (pc' := 21) (j := 2) F d_T_useBetween_20 rfl rfl rfl ?_
      refine v_callVP (pc' := 24) (C := zR_T) (T9 := zF_T) (N := 8) F d_T_useBetween_21 rfl cal_T_comesTo wx_566 wx_567 wx_568 rfl (hC.t_mt (i := f) hf) (c_T_comesTo l X _ _ _ _ _ _ _ _ _ hC hme hrd hda hva hgo hst hmo hf (by omega) (by omega)) rfl ⟨by decide, by decide, by decide, by decide⟩ (Nat.le_of_ble_eq_true rfl) rfl rfl ?_
      refine v_aload_n (pc' := 25) (j := 0) F d_T_useBetween_24 rfl rfl rfl ?_
      refine v_iload (pc' := 27) F d_T_useBetween_25 rfl rfl ?_
      refine v_iload_n (pc' := 28) (j := 1) F d_T_useBetween_27 rfl rfl rfl ?_
      refine v_callVP (pc' := 31) (C := zR_T) (T9 := zF_T) (N := 8) F d_T_useBetween_28 rfl cal_T_comesTo wx_566 wx_567 wx_568 rfl (hC.t_mt (i := f) hf) (c_T_comesTo l X _ _ _ _ _ _ _ _ _ hC hme hrd hda hva hgo hst hmo hf (by omega) (by omega)) rfl ⟨by decide, by decide, by decide, by decide⟩ (Nat.le_of_ble_eq_true rfl) rfl rfl ?_
      refine v_lsub (pc' := 32) F d_T_useBetween_31 rfl ?_
      refine v_ladd (pc' := 33) F d_T_useBetween_32 rfl ?_
      refine v_lstore_3 (pc' := 34) F d_T_useBetween_33 rfl rfl (by decide) ?_
      refine v_iinc_5 (pc' := 37) F d_T_useBetween_34 rfl rfl (by decide) ?_
      refine v_goto (tgt := 5) F d_T_useBetween_37 (by decide) ?_
      have e9 : sp_told (M 14) (M 15) (M 16) f g t (k + 1) = sp_told (M 14) (M 15) (M 16) f g t k + (sp_pt (M 14) (M 15) (M 16) (40 * f + (k : Int)) (40 * f + 1 + (k : Int)) t - sp_pt (M 14) (M 15) (M 16) (40 * f + (k : Int)) (40 * f + 1 + (k : Int)) g) := rfl
      have q9 := ih (k + 1) (by split at hkk <;> omega) (by split at hkk <;> omega)
      rw [e9] at q9
      exact q9
set_option maxRecDepth 100000 in
set_option maxHeartbeats 4000000 in
theorem c_T_useBetween (l : Launch) (X : am_X) (h : am_H) (nx : Nat) (x : Nat) (A : Nat → Prop) (P : Tg → Nat) (M : MS) (f g t : Int) (hC : RepC X x A P M h) (hme : 0 ≤ M 7 0 ∧ M 7 0 ≤ 60) (hrd : ∀ f : Int, 0 ≤ f → f < M 7 0 → 0 ≤ M 13 f ∧ M 13 f ≤ 40) (hda : ∀ i : Int, 0 ≤ i → i < 2400 → 0 ≤ M 14 i ∧ M 14 i ≤ 3649) (hva : ∀ i : Int, 0 ≤ i → i < 2400 → 0 ≤ M 15 i ∧ M 15 i ≤ 10000000) (hgo : ∀ i : Int, 0 ≤ i → i < 2400 → 0 ≤ M 16 i ∧ M 16 i ≤ 10000000) (hst : ∀ f k : Int, 0 ≤ f → f < M 7 0 → 0 ≤ k → k < M 13 f → (M 17 (40 * f + k) = 0 ∧ M 33 (40 * f + k) = -1 ∧ M 16 (40 * f + k) = M 15 (40 * f + k)) ∨ (M 17 (40 * f + k) = 1 ∧ M 33 (40 * f + k) = M 16 (40 * f + k))) (hmo : ∀ f k : Int, 0 ≤ f → f < M 7 0 → 0 ≤ k → k + 1 < M 13 f → M 14 (40 * f + k) < M 14 (40 * f + 1 + k) ∧ M 16 (40 * f + k) ≤ M 15 (40 * f + 1 + k)) (hab : ∀ f : Int, 0 ≤ f → f < M 7 0 → (1 ≤ M 10 f ∧ M 10 f ≤ 1000) ∧ (1 ≤ M 11 f ∧ M 11 f ≤ 1000)) (hf : 0 ≤ f ∧ f < M 7 0) (rg : 0 ≤ g ∧ g ≤ 3650) (rt : 0 ≤ t ∧ t ≤ 3650) : CnP l X y_T_useBetween ({ frames := 2, cells := 0, slots := 0, locals := 45 }) [.ref (P (12, f)), iV g, iV t] h nx (lV (sp_use M f g t)) := by
  refine cn_of (k := 3) (L0 := [some (.ref (P (12, f))), some (iV g), some (iV t), none, none, none]) rfl wx_565 (Nat.le_of_ble_eq_true rfl) rfl (fun p e s m args below meth c F => ?_)
  have q1 := hrd f hf.1 hf.2
  have q0 := hab f hf.1 hf.2
  refine v_lconst (pc' := 1) (z := 0) F d_T_useBetween_0 rfl (by decide) ?_
  refine v_lstore_3 (pc' := 2) F d_T_useBetween_1 rfl rfl (by decide) ?_
  refine v_iconst (pc' := 3) F d_T_useBetween_2 rfl ?_
  refine v_istore_5 (pc' := 5) F d_T_useBetween_3 rfl rfl (by decide) ?_
  refine lp_T_useBetween (kk := (M 13 f - 1).toNat) F hC hme hrd hda hva hgo hst hmo hf rg rt (by split <;> omega) ?_ ((M 13 f - 1).toNat + 1) 0 (by omega) (by omega)
  have z1 := sp_told_r (D := M 14) (V := M 15) (G := M 16) (f := f) (g := g) (t := t) (n := (M 13 f - 1).toNat) (fun k hk => ?_)
  · have z2 := am_mul_r (x := sp_told (M 14) (M 15) (M 16) f g t (M 13 f - 1).toNat) (y := M 10 f) (a := 390000000) (b := 1000) (by omega) (by omega) (by omega)
    refine v_lload_n (pc' := 41) (j := 3) F d_T_useBetween_40 rfl rfl rfl ?_
    refine v_aload_n (pc' := 42) (j := 0) F d_T_useBetween_41 rfl rfl rfl ?_
    refine v_getf (pc' := 45) (C := zR_T) (T := zF_T) (N := 8) (ref := "BillShares$Meter") F d_T_useBetween_42 rfl zi_T rfl 1 (by decide) wx_333 (Or.inl rfl) (hC.t_mt (i := f) hf) rfl ?_
    refine v_i2l (pc' := 46) F d_T_useBetween_45 rfl (by omega) ?_
    refine v_aload_n (pc' := 47) (j := 0) F d_T_useBetween_46 rfl rfl rfl ?_
    refine v_getf (pc' := 50) (C := zR_T) (T := zF_T) (N := 8) (ref := "BillShares$Meter") F d_T_useBetween_47 rfl zi_T rfl 2 (by decide) wx_334 (Or.inl rfl) (hC.t_mt (i := f) hf) rfl ?_
    refine v_i2l (pc' := 51) F d_T_useBetween_50 rfl (by omega) ?_
    refine v_callSNP (pc' := 54) F d_T_useBetween_51 rfl cal_S_portion wx_570 wx_518 (c_S_portionP l X _ _ _ _ _ (by omega) (by omega) (by omega)) rfl ⟨by decide, by decide, by decide, by decide⟩ (Nat.le_of_ble_eq_true rfl) rfl rfl ?_
    exact v_lreturn F d_T_useBetween_54 rfl (Nat.le_refl _) (Nat.le_refl _) ⟨rfl, rfl, rfl⟩
  · have z2 := hmo f (k : Int) hf.1 hf.2 (by omega) (by omega)
    have z3 := hva (40 * f + 1 + (k : Int)) (by omega) (by omega)
    have z4 := hgo (40 * f + (k : Int)) (by omega) (by omega)
    exact ⟨z2.1, by omega, by omega⟩
set_option maxRecDepth 100000 in
set_option maxHeartbeats 4000000 in
theorem c_F_movedIn (l : Launch) (X : am_X) (h : am_H) (nx : Nat) (x : Nat) (A : Nat → Prop) (P : Tg → Nat) (M : MS) (f w : Int) (hC : RepC X x A P M h) (hfl : 0 ≤ M 1 0 ∧ M 1 0 ≤ 20) (hlv : ∀ f : Int, 0 ≤ f → f < M 1 0 → 1 ≤ M 4 f ∧ M 4 f ≤ 12) (hf : 0 ≤ f ∧ f < M 1 0) (rww : -2147483648 ≤ w ∧ w < 2147483648) : CnP l X y_F_movedIn ({ frames := 0, cells := 0, slots := 0, locals := 0 }) [.ref (P (6, f)), iV w] h nx (iV (if 0 ≤ w ∧ w < M 4 f then M 5 (12 * f + w) else 0)) := by
  refine cn_of (k := 0) (L0 := [some (.ref (P (6, f))), some (iV w)]) rfl wx_456 (Nat.le_of_ble_eq_true rfl) rfl (fun p e s m args below meth c F => ?_)
  have q0 := hlv f hf.1 hf.2
  refine v_iload_n (pc' := 1) (j := 1) F d_F_movedIn_0 rfl rfl rfl ?_
  refine v_if_lt (tgt := 21) (pc' := 4) F d_F_movedIn_1 (by decide) rfl (by omega) (fun c1 => ?_) (fun c1 => ?_)
  · refine v_iconst (pc' := 22) F d_F_movedIn_21 rfl ?_
    exact v_ireturn F rfl d_F_movedIn_22 rfl rfl (Nat.le_refl _) (Nat.le_refl _) ⟨by first | rw [if_pos (by omega)] | rw [if_neg (by omega)], rfl, rfl⟩
  · refine v_iload_n (pc' := 5) (j := 1) F d_F_movedIn_4 rfl rfl rfl ?_
    refine v_aload_n (pc' := 6) (j := 0) F d_F_movedIn_5 rfl rfl rfl ?_
    refine v_getf (pc' := 9) (C := zR_F) (T := zF_F) (N := 10) (ref := "BillShares$Flat") F d_F_movedIn_6 rfl zi_F rfl 4 (by decide) wx_193 (Or.inl rfl) (hC.t_fl (i := f) hf) rfl ?_
    refine v_icmp_ge (tgt := 21) (pc' := 12) F d_F_movedIn_9 (by decide) rfl (by omega) (by omega) (fun c9 => ?_) (fun c9 => ?_)
    · refine v_iconst (pc' := 22) F d_F_movedIn_21 rfl ?_
      exact v_ireturn F rfl d_F_movedIn_22 rfl rfl (Nat.le_refl _) (Nat.le_refl _) ⟨by first | rw [if_pos (by omega)] | rw [if_neg (by omega)], rfl, rfl⟩
    · refine v_aload_n (pc' := 13) (j := 0) F d_F_movedIn_12 rfl rfl rfl ?_
      refine v_getf (pc' := 16) (C := zR_F) (T := zF_F) (N := 10) (ref := "BillShares$Flat") F d_F_movedIn_13 rfl zi_F rfl 3 (by decide) wx_192 (Or.inl rfl) (hC.t_fl (i := f) hf) rfl ?_
      refine v_iload_n (pc' := 17) (j := 1) F d_F_movedIn_16 rfl rfl rfl ?_
      refine cg_mv (pc' := 18) F hC (f := f) hf d_F_movedIn_17 rfl (by omega) (by omega) ?_
      refine v_goto (tgt := 22) F d_F_movedIn_18 (by decide) ?_
      exact v_ireturn F rfl d_F_movedIn_22 rfl rfl (Nat.le_refl _) (Nat.le_refl _) ⟨by first | rw [if_pos (by omega)] | rw [if_neg (by omega)], rfl, rfl⟩
set_option maxRecDepth 100000 in
set_option maxHeartbeats 4000000 in
theorem c_F_latestMove (l : Launch) (X : am_X) (h : am_H) (nx : Nat) (x : Nat) (A : Nat → Prop) (P : Tg → Nat) (M : MS) (f : Int) (hC : RepC X x A P M h) (hfl : 0 ≤ M 1 0 ∧ M 1 0 ≤ 20) (hlv : ∀ f : Int, 0 ≤ f → f < M 1 0 → 1 ≤ M 4 f ∧ M 4 f ≤ 12) (hf : 0 ≤ f ∧ f < M 1 0) : CnP l X y_F_latestMove ({ frames := 1, cells := 0, slots := 0, locals := 21 }) [.ref (P (6, f))] h nx (iV (M 5 (12 * f + M 4 f - 1))) := by
  refine cn_of (k := 0) (L0 := [some (.ref (P (6, f)))]) rfl wx_452 (Nat.le_of_ble_eq_true rfl) rfl (fun p e s m args below meth c F => ?_)
  have q0 := hlv f hf.1 hf.2
  refine v_aload_n (pc' := 1) (j := 0) F d_F_latestMove_0 rfl rfl rfl ?_
  refine v_aload_n (pc' := 2) (j := 0) F d_F_latestMove_1 rfl rfl rfl ?_
  refine v_getf (pc' := 5) (C := zR_F) (T := zF_F) (N := 10) (ref := "BillShares$Flat") F d_F_latestMove_2 rfl zi_F rfl 4 (by decide) wx_193 (Or.inl rfl) (hC.t_fl (i := f) hf) rfl ?_
  refine v_iconst (pc' := 6) F d_F_latestMove_5 rfl ?_
  refine v_isub (pc' := 7) F d_F_latestMove_6 rfl ?_
  refine v_callVP (pc' := 10) (C := zR_F) (T9 := zF_F) (N := 10) F d_F_latestMove_7 rfl cal_F_movedIn wx_453 wx_454 wx_455 rfl (hC.t_fl (i := f) hf) (c_F_movedIn l X _ _ _ _ _ _ _ _ hC hfl hlv hf (by omega)) rfl ⟨by decide, by decide, by decide, by decide⟩ (Nat.le_of_ble_eq_true rfl) rfl rfl ?_
  exact v_ireturn F rfl d_F_latestMove_10 rfl rfl (Nat.le_refl _) (Nat.le_refl _) ⟨by rw [if_pos (by omega), show 12 * f + (M 4 f - 1) = 12 * f + M 4 f - 1 by omega], rfl, rfl⟩
set_option maxRecDepth 100000 in
set_option maxHeartbeats 4000000 in
theorem c_F_movedOut (l : Launch) (X : am_X) (h : am_H) (nx : Nat) (x : Nat) (A : Nat → Prop) (P : Tg → Nat) (M : MS) (f w : Int) (hC : RepC X x A P M h) (hfl : 0 ≤ M 1 0 ∧ M 1 0 ≤ 20) (hlv : ∀ f : Int, 0 ≤ f → f < M 1 0 → 1 ≤ M 4 f ∧ M 4 f ≤ 12) (hf : 0 ≤ f ∧ f < M 1 0) (hw : 0 ≤ w ∧ w < 2147483647) : CnP l X y_F_movedOut ({ frames := 1, cells := 0, slots := 0, locals := 21 }) [.ref (P (6, f)), iV w] h nx (iV (if w + 1 < M 4 f then M 5 (12 * f + (w + 1)) else 3650)) := by
  refine cn_of (k := 0) (L0 := [some (.ref (P (6, f))), some (iV w)]) rfl wx_628 (Nat.le_of_ble_eq_true rfl) rfl (fun p e s m args below meth c F => ?_)
  have q0 := hlv f hf.1 hf.2
  refine v_iload_n (pc' := 1) (j := 1) F d_F_movedOut_0 rfl rfl rfl ?_
  refine v_iconst (pc' := 2) F d_F_movedOut_1 rfl ?_
  refine v_iadd (pc' := 3) F d_F_movedOut_2 rfl ?_
  refine v_aload_n (pc' := 4) (j := 0) F d_F_movedOut_3 rfl rfl rfl ?_
  refine v_getf (pc' := 7) (C := zR_F) (T := zF_F) (N := 10) (ref := "BillShares$Flat") F d_F_movedOut_4 rfl zi_F rfl 4 (by decide) wx_193 (Or.inl rfl) (hC.t_fl (i := f) hf) rfl ?_
  refine v_icmp_ge (tgt := 20) (pc' := 10) F d_F_movedOut_7 (by decide) rfl (by omega) (by omega) (fun c7 => ?_) (fun c7 => ?_)
  · refine v_sipush (pc' := 23) F d_F_movedOut_20 rfl (by decide) ?_
    exact v_ireturn F rfl d_F_movedOut_23 rfl rfl (Nat.le_refl _) (Nat.le_refl _) ⟨by first | rw [if_neg (by omega)] | rw [if_pos (show w + 1 < M 4 f by omega), if_pos (by omega)], rfl, rfl⟩
  · refine v_aload_n (pc' := 11) (j := 0) F d_F_movedOut_10 rfl rfl rfl ?_
    refine v_iload_n (pc' := 12) (j := 1) F d_F_movedOut_11 rfl rfl rfl ?_
    refine v_iconst (pc' := 13) F d_F_movedOut_12 rfl ?_
    refine v_iadd (pc' := 14) F d_F_movedOut_13 rfl ?_
    refine v_callVP (pc' := 17) (C := zR_F) (T9 := zF_F) (N := 10) F d_F_movedOut_14 rfl cal_F_movedIn wx_453 wx_454 wx_455 rfl (hC.t_fl (i := f) hf) (c_F_movedIn l X _ _ _ _ _ _ _ _ hC hfl hlv hf (by omega)) rfl ⟨by decide, by decide, by decide, by decide⟩ (Nat.le_of_ble_eq_true rfl) rfl rfl ?_
    refine v_goto (tgt := 23) F d_F_movedOut_17 (by decide) ?_
    exact v_ireturn F rfl d_F_movedOut_23 rfl rfl (Nat.le_refl _) (Nat.le_refl _) ⟨by first | rw [if_neg (by omega)] | rw [if_pos (show w + 1 < M 4 f by omega), if_pos (by omega)], rfl, rfl⟩
/-- the last one in a flat who has moved in before the day E -/
def sp_ld (S : Int → Int) (E : Int) : Nat → Int
  | 0 => 0
  | k + 1 => if S ((k : Int) + 1) < E then (k : Int) + 1 else sp_ld S E k
theorem sp_ld_r (S : Int → Int) (E : Int) : ∀ k : Nat, 0 ≤ sp_ld S E k ∧ sp_ld S E k ≤ (k : Int)
  | 0 => by simp [sp_ld]
  | k + 1 => by
    have := sp_ld_r S E k
    unfold sp_ld
    split <;> omega
set_option maxRecDepth 100000 in
set_option maxHeartbeats 4000000 in
theorem lp_F_lastDwellerIn {p : Program} {l : Launch} {e : Env} {s : State} {m : MethodId} {args : Array Value} {below : List Frame} {meth : Method} {c : Code} {X : am_X} {Q : State → Prop} {h : am_H} {nx : Nat} {x : Nat} {A : Nat → Prop} {P : Tg → Nat} {M : MS} {kk : Nat} {f a : Int} (F : am_Fx p s m args meth c y_F_lastDwellerIn b_F_lastDwellerIn 4 ((Option.some FieldType.int)) [] X) (hC : RepC X x A P M h) (hfl : 0 ≤ M 1 0 ∧ M 1 0 ≤ 20) (hlv : ∀ f : Int, 0 ≤ f → f < M 1 0 → 1 ≤ M 4 f ∧ M 4 f ≤ 12) (hsi : ∀ i : Int, 0 ≤ i → i < 240 → 0 ≤ M 5 i ∧ M 5 i ≤ 3649) (hf : 0 ≤ f ∧ f < M 1 0) (ry : 0 ≤ a ∧ a ≤ 9) (hkk : (kk : Int) = M 4 f - 1) (hx : V p l e ({ frames := 1, cells := 0, slots := 0, locals := 20 }) s m args below meth c 4 X Q h nx 0 0 33 [some (.ref (P (6, f))), some (iV a), some (iV (sp_ld (fun w => M 5 (12 * f + w)) (365 * a + 365) kk)), some (iV ((kk : Int) + 1))] []) : ∀ (n k : Nat), kk < k + n → k ≤ kk → V p l e ({ frames := 1, cells := 0, slots := 0, locals := 20 }) s m args below meth c 4 X Q h nx 0 0 4 [some (.ref (P (6, f))), some (iV a), some (iV (sp_ld (fun w => M 5 (12 * f + w)) (365 * a + 365) k)), some (iV ((k : Int) + 1))] [] := by
  intro n
  induction n with
  | zero =>
    intro k hk hk2
    exact absurd hk (by omega)
  | succ n ih =>
    intro k hk hk2
    have q1 := hlv f hf.1 hf.2
    have q2 := sp_ld_r (fun w => M 5 (12 * f + w)) (365 * a + 365) k
    refine v_iload_n (pc' := 5) (j := 3) F d_F_lastDwellerIn_4 rfl rfl rfl ?_
    refine v_aload_n (pc' := 6) (j := 0) F d_F_lastDwellerIn_5 rfl rfl rfl ?_
    refine v_getf (pc' := 9) (C := zR_F) (T := zF_F) (N := 10) (ref := "BillShares$Flat") F d_F_lastDwellerIn_6 rfl zi_F rfl 4 (by decide) wx_193 (Or.inl rfl) (hC.t_fl (i := f) hf) rfl ?_
    refine v_icmp_ge (tgt := 33) (pc' := 12) F d_F_lastDwellerIn_9 (by decide) rfl (by omega) (by omega) (fun c9 => ?_) (fun c9 => ?_)
    · obtain rfl : k = kk := by omega
      exact hx
    · refine v_aload_n (pc' := 13) (j := 0) F d_F_lastDwellerIn_12 rfl rfl rfl ?_
      refine v_getf (pc' := 16) (C := zR_F) (T := zF_F) (N := 10) (ref := "BillShares$Flat") F d_F_lastDwellerIn_13 rfl zi_F rfl 3 (by decide) wx_192 (Or.inl rfl) (hC.t_fl (i := f) hf) rfl ?_
      refine v_iload_n (pc' := 17) (j := 3) F d_F_lastDwellerIn_16 rfl rfl rfl ?_
      refine cg_mv (pc' := 18) F hC (f := f) hf d_F_lastDwellerIn_17 rfl (by omega) (by omega) ?_
      have q3 := hsi (12 * f + ((k : Int) + 1)) (by omega) (by omega)
      refine v_iload_n (pc' := 19) (j := 1) F d_F_lastDwellerIn_18 rfl rfl rfl ?_
      refine v_callSNP (pc' := 22) F d_F_lastDwellerIn_19 rfl cal_S_endOf wx_619 wx_554 (c_S_endOf l X _ _ _) rfl ⟨by decide, by decide, by decide, by decide⟩ (Nat.le_of_ble_eq_true rfl) rfl rfl ?_
      refine v_icmp_ge (tgt := 27) (pc' := 25) F d_F_lastDwellerIn_22 (by decide) rfl (by omega) (by omega) (fun c22 => ?_) (fun c22 => ?_)
      · refine v_iinc_3 (pc' := 30) F d_F_lastDwellerIn_27 rfl rfl (by decide) ?_
        refine v_goto (tgt := 4) F d_F_lastDwellerIn_30 (by decide) ?_
        have q9 := ih (k + 1) (by omega) (by omega)
        rw [show ((k + 1 : Nat) : Int) + 1 = (k : Int) + 1 + 1 by omega] at q9
        first | rw [show sp_ld (fun w => M 5 (12 * f + w)) (365 * a + 365) (k + 1) = (k : Int) + 1 from if_pos (show M 5 (12 * f + ((k : Int) + 1)) < 365 * a + 365 by omega)] at q9 | rw [show sp_ld (fun w => M 5 (12 * f + w)) (365 * a + 365) (k + 1) = sp_ld (fun w => M 5 (12 * f + w)) (365 * a + 365) k from if_neg (show ¬ M 5 (12 * f + ((k : Int) + 1)) < 365 * a + 365 by omega)] at q9
        exact q9
      · refine v_iload_n (pc' := 26) (j := 3) F d_F_lastDwellerIn_25 rfl rfl rfl ?_
        refine v_istore_2 (pc' := 27) F d_F_lastDwellerIn_26 rfl rfl (by decide) ?_
        refine v_iinc_3 (pc' := 30) F d_F_lastDwellerIn_27 rfl rfl (by decide) ?_
        refine v_goto (tgt := 4) F d_F_lastDwellerIn_30 (by decide) ?_
        have q9 := ih (k + 1) (by omega) (by omega)
        rw [show ((k + 1 : Nat) : Int) + 1 = (k : Int) + 1 + 1 by omega] at q9
        first | rw [show sp_ld (fun w => M 5 (12 * f + w)) (365 * a + 365) (k + 1) = (k : Int) + 1 from if_pos (show M 5 (12 * f + ((k : Int) + 1)) < 365 * a + 365 by omega)] at q9 | rw [show sp_ld (fun w => M 5 (12 * f + w)) (365 * a + 365) (k + 1) = sp_ld (fun w => M 5 (12 * f + w)) (365 * a + 365) k from if_neg (show ¬ M 5 (12 * f + ((k : Int) + 1)) < 365 * a + 365 by omega)] at q9
        exact q9
set_option maxRecDepth 100000 in
set_option maxHeartbeats 4000000 in
theorem c_F_lastDwellerIn (l : Launch) (X : am_X) (h : am_H) (nx : Nat) (x : Nat) (A : Nat → Prop) (P : Tg → Nat) (M : MS) (f a : Int) (hC : RepC X x A P M h) (hfl : 0 ≤ M 1 0 ∧ M 1 0 ≤ 20) (hlv : ∀ f : Int, 0 ≤ f → f < M 1 0 → 1 ≤ M 4 f ∧ M 4 f ≤ 12) (hsi : ∀ i : Int, 0 ≤ i → i < 240 → 0 ≤ M 5 i ∧ M 5 i ≤ 3649) (hf : 0 ≤ f ∧ f < M 1 0) (ry : 0 ≤ a ∧ a ≤ 9) : CnP l X y_F_lastDwellerIn ({ frames := 1, cells := 0, slots := 0, locals := 20 }) [.ref (P (6, f)), iV a] h nx (iV (sp_ld (fun w => M 5 (12 * f + w)) (365 * a + 365) (M 4 f - 1).toNat)) := by
  refine cn_of (k := 2) (L0 := [some (.ref (P (6, f))), some (iV a), none, none]) rfl wx_618 (Nat.le_of_ble_eq_true rfl) rfl (fun p e s m args below meth c F => ?_)
  have q0 := hlv f hf.1 hf.2
  refine v_iconst (pc' := 1) F d_F_lastDwellerIn_0 rfl ?_
  refine v_istore_2 (pc' := 2) F d_F_lastDwellerIn_1 rfl rfl (by decide) ?_
  refine v_iconst (pc' := 3) F d_F_lastDwellerIn_2 rfl ?_
  refine v_istore_3 (pc' := 4) F d_F_lastDwellerIn_3 rfl rfl (by decide) ?_
  refine lp_F_lastDwellerIn (kk := (M 4 f - 1).toNat) F hC hfl hlv hsi hf ry (by omega) ?_ ((M 4 f - 1).toNat + 1) 0 (by omega) (by omega)
  refine v_iload_n (pc' := 34) (j := 2) F d_F_lastDwellerIn_33 rfl rfl rfl ?_
  exact v_ireturn F rfl d_F_lastDwellerIn_34 rfl rfl (Nat.le_refl _) (Nat.le_refl _) ⟨rfl, rfl, rfl⟩
def sp_tot (M : MS) (b : Int) : Int := 0 + (M 23 (4 * b + 0) + M 24 (4 * b + 0)) + (M 23 (4 * b + (0 + 1)) + M 24 (4 * b + (0 + 1))) + (M 23 (4 * b + (0 + 1 + 1)) + M 24 (4 * b + (0 + 1 + 1))) + (M 23 (4 * b + (0 + 1 + 1 + 1)) + M 24 (4 * b + (0 + 1 + 1 + 1)))
theorem sp_tot_s (M : MS) (f a : Int) : sp_tot M (20 * a + f) = sp_share M f a := by
  unfold sp_tot sp_share sp_line
  rw [show 4 * (20 * a + f) + 0 = 80 * a + 4 * f + 0 by omega, show 4 * (20 * a + f) + (0 + 1) = 80 * a + 4 * f + 1 by omega, show 4 * (20 * a + f) + (0 + 1 + 1) = 80 * a + 4 * f + 2 by omega, show 4 * (20 * a + f) + (0 + 1 + 1 + 1) = 80 * a + 4 * f + 3 by omega]
  omega
set_option maxRecDepth 100000 in
set_option maxHeartbeats 4000000 in
theorem c_B_total (l : Launch) (X : am_X) (h : am_H) (nx : Nat) (x : Nat) (A : Nat → Prop) (P : Tg → Nat) (M : MS) (b : Int) (hC : RepC X x A P M h) (hb : (0 ≤ b ∧ b < 200) ∧ b % 20 < M 21 (b / 20)) : CnP l X y_B_total ({ frames := 0, cells := 0, slots := 0, locals := 0 }) [.ref (P (16, b))] h nx (lV (sp_tot M b)) := by
  refine cn_of (k := 3) (L0 := [some (.ref (P (16, b))), none, none, none]) rfl wx_511 (Nat.le_of_ble_eq_true rfl) rfl (fun p e s m args below meth c F => ?_)
  refine v_lconst (pc' := 1) (z := 0) F d_B_total_0 rfl (by decide) ?_
  refine v_lstore_1 (pc' := 2) F d_B_total_1 rfl rfl (by decide) ?_
  refine v_iconst (pc' := 3) F d_B_total_2 rfl ?_
  refine v_istore_3 (pc' := 4) F d_B_total_3 rfl rfl (by decide) ?_
  refine v_iload_n (pc' := 5) (j := 3) F d_B_total_4 rfl rfl rfl ?_
  refine v_iconst (pc' := 6) F d_B_total_5 rfl ?_
  refine v_icmp_ge (tgt := 31) (pc' := 9) F d_B_total_6 (by decide) rfl (by omega) (by omega) (fun c6 => by exfalso; omega) (fun c6 => ?_)
  refine v_lload_n (pc' := 10) (j := 1) F d_B_total_9 rfl rfl rfl ?_
  refine v_aload_n (pc' := 11) (j := 0) F d_B_total_10 rfl rfl rfl ?_
  refine v_getf (pc' := 14) (C := zR_B) (T := zF_B) (N := 3) (ref := "BillShares$Bill") F d_B_total_11 rfl zi_B rfl 0 (by decide) wx_495 (Or.inl rfl) (hC.t_bl (i := b) hb) rfl ?_
  refine v_iload_n (pc' := 15) (j := 3) F d_B_total_14 rfl rfl rfl ?_
  refine cg_bb (pc' := 16) F hC (f := b) hb d_B_total_15 rfl (by omega) (by omega) ?_
  refine v_aload_n (pc' := 17) (j := 0) F d_B_total_16 rfl rfl rfl ?_
  refine v_getf (pc' := 20) (C := zR_B) (T := zF_B) (N := 3) (ref := "BillShares$Bill") F d_B_total_17 rfl zi_B rfl 1 (by decide) wx_497 (Or.inl rfl) (hC.t_bl (i := b) hb) rfl ?_
  refine v_iload_n (pc' := 21) (j := 3) F d_B_total_20 rfl rfl rfl ?_
  refine cg_bu (pc' := 22) F hC (f := b) hb d_B_total_21 rfl (by omega) (by omega) ?_
  refine v_ladd (pc' := 23) F d_B_total_22 rfl ?_
  refine v_ladd (pc' := 24) F d_B_total_23 rfl ?_
  refine v_lstore_1 (pc' := 25) F d_B_total_24 rfl rfl (by decide) ?_
  refine v_iinc_3 (pc' := 28) F d_B_total_25 rfl rfl (by decide) ?_
  refine v_goto (tgt := 4) F d_B_total_28 (by decide) ?_
  refine v_iload_n (pc' := 5) (j := 3) F d_B_total_4 rfl rfl rfl ?_
  refine v_iconst (pc' := 6) F d_B_total_5 rfl ?_
  refine v_icmp_ge (tgt := 31) (pc' := 9) F d_B_total_6 (by decide) rfl (by omega) (by omega) (fun c6 => by exfalso; omega) (fun c6 => ?_)
  refine v_lload_n (pc' := 10) (j := 1) F d_B_total_9 rfl rfl rfl ?_
  refine v_aload_n (pc' := 11) (j := 0) F d_B_total_10 rfl rfl rfl ?_
  refine v_getf (pc' := 14) (C := zR_B) (T := zF_B) (N := 3) (ref := "BillShares$Bill") F d_B_total_11 rfl zi_B rfl 0 (by decide) wx_495 (Or.inl rfl) (hC.t_bl (i := b) hb) rfl ?_
  refine v_iload_n (pc' := 15) (j := 3) F d_B_total_14 rfl rfl rfl ?_
  refine cg_bb (pc' := 16) F hC (f := b) hb d_B_total_15 rfl (by omega) (by omega) ?_
  refine v_aload_n (pc' := 17) (j := 0) F d_B_total_16 rfl rfl rfl ?_
  refine v_getf (pc' := 20) (C := zR_B) (T := zF_B) (N := 3) (ref := "BillShares$Bill") F d_B_total_17 rfl zi_B rfl 1 (by decide) wx_497 (Or.inl rfl) (hC.t_bl (i := b) hb) rfl ?_
  refine v_iload_n (pc' := 21) (j := 3) F d_B_total_20 rfl rfl rfl ?_
  refine cg_bu (pc' := 22) F hC (f := b) hb d_B_total_21 rfl (by omega) (by omega) ?_
  refine v_ladd (pc' := 23) F d_B_total_22 rfl ?_
  refine v_ladd (pc' := 24) F d_B_total_23 rfl ?_
  refine v_lstore_1 (pc' := 25) F d_B_total_24 rfl rfl (by decide) ?_
  refine v_iinc_3 (pc' := 28) F d_B_total_25 rfl rfl (by decide) ?_
  refine v_goto (tgt := 4) F d_B_total_28 (by decide) ?_
  refine v_iload_n (pc' := 5) (j := 3) F d_B_total_4 rfl rfl rfl ?_
  refine v_iconst (pc' := 6) F d_B_total_5 rfl ?_
  refine v_icmp_ge (tgt := 31) (pc' := 9) F d_B_total_6 (by decide) rfl (by omega) (by omega) (fun c6 => by exfalso; omega) (fun c6 => ?_)
  refine v_lload_n (pc' := 10) (j := 1) F d_B_total_9 rfl rfl rfl ?_
  refine v_aload_n (pc' := 11) (j := 0) F d_B_total_10 rfl rfl rfl ?_
  refine v_getf (pc' := 14) (C := zR_B) (T := zF_B) (N := 3) (ref := "BillShares$Bill") F d_B_total_11 rfl zi_B rfl 0 (by decide) wx_495 (Or.inl rfl) (hC.t_bl (i := b) hb) rfl ?_
  refine v_iload_n (pc' := 15) (j := 3) F d_B_total_14 rfl rfl rfl ?_
  refine cg_bb (pc' := 16) F hC (f := b) hb d_B_total_15 rfl (by omega) (by omega) ?_
  refine v_aload_n (pc' := 17) (j := 0) F d_B_total_16 rfl rfl rfl ?_
  refine v_getf (pc' := 20) (C := zR_B) (T := zF_B) (N := 3) (ref := "BillShares$Bill") F d_B_total_17 rfl zi_B rfl 1 (by decide) wx_497 (Or.inl rfl) (hC.t_bl (i := b) hb) rfl ?_
  refine v_iload_n (pc' := 21) (j := 3) F d_B_total_20 rfl rfl rfl ?_
  refine cg_bu (pc' := 22) F hC (f := b) hb d_B_total_21 rfl (by omega) (by omega) ?_
  refine v_ladd (pc' := 23) F d_B_total_22 rfl ?_
  refine v_ladd (pc' := 24) F d_B_total_23 rfl ?_
  refine v_lstore_1 (pc' := 25) F d_B_total_24 rfl rfl (by decide) ?_
  refine v_iinc_3 (pc' := 28) F d_B_total_25 rfl rfl (by decide) ?_
  refine v_goto (tgt := 4) F d_B_total_28 (by decide) ?_
  refine v_iload_n (pc' := 5) (j := 3) F d_B_total_4 rfl rfl rfl ?_
  refine v_iconst (pc' := 6) F d_B_total_5 rfl ?_
  refine v_icmp_ge (tgt := 31) (pc' := 9) F d_B_total_6 (by decide) rfl (by omega) (by omega) (fun c6 => by exfalso; omega) (fun c6 => ?_)
  refine v_lload_n (pc' := 10) (j := 1) F d_B_total_9 rfl rfl rfl ?_
  refine v_aload_n (pc' := 11) (j := 0) F d_B_total_10 rfl rfl rfl ?_
  refine v_getf (pc' := 14) (C := zR_B) (T := zF_B) (N := 3) (ref := "BillShares$Bill") F d_B_total_11 rfl zi_B rfl 0 (by decide) wx_495 (Or.inl rfl) (hC.t_bl (i := b) hb) rfl ?_
  refine v_iload_n (pc' := 15) (j := 3) F d_B_total_14 rfl rfl rfl ?_
  refine cg_bb (pc' := 16) F hC (f := b) hb d_B_total_15 rfl (by omega) (by omega) ?_
  refine v_aload_n (pc' := 17) (j := 0) F d_B_total_16 rfl rfl rfl ?_
  refine v_getf (pc' := 20) (C := zR_B) (T := zF_B) (N := 3) (ref := "BillShares$Bill") F d_B_total_17 rfl zi_B rfl 1 (by decide) wx_497 (Or.inl rfl) (hC.t_bl (i := b) hb) rfl ?_
  refine v_iload_n (pc' := 21) (j := 3) F d_B_total_20 rfl rfl rfl ?_
  refine cg_bu (pc' := 22) F hC (f := b) hb d_B_total_21 rfl (by omega) (by omega) ?_
  refine v_ladd (pc' := 23) F d_B_total_22 rfl ?_
  refine v_ladd (pc' := 24) F d_B_total_23 rfl ?_
  refine v_lstore_1 (pc' := 25) F d_B_total_24 rfl rfl (by decide) ?_
  refine v_iinc_3 (pc' := 28) F d_B_total_25 rfl rfl (by decide) ?_
  refine v_goto (tgt := 4) F d_B_total_28 (by decide) ?_
  refine v_iload_n (pc' := 5) (j := 3) F d_B_total_4 rfl rfl rfl ?_
  refine v_iconst (pc' := 6) F d_B_total_5 rfl ?_
  refine v_icmp_ge (tgt := 31) (pc' := 9) F d_B_total_6 (by decide) rfl (by omega) (by omega) (fun c6 => ?_) (fun c6 => by exfalso; omega)
  refine v_lload_n (pc' := 32) (j := 1) F d_B_total_31 rfl rfl rfl ?_
  exact v_lreturn F d_B_total_32 rfl (Nat.le_refl _) (Nat.le_refl _) ⟨rfl, rfl, rfl⟩
set_option maxRecDepth 100000 in
set_option maxHeartbeats 4000000 in
theorem c_T_append (l : Launch) (X : am_X) (h : am_H) (nx : Nat) (x : Nat) (A : Nat → Prop) (P : Tg → Nat) (M : MS) (f d v s0 : Int) (hC : RepC X x A P M h) (hme : 0 ≤ M 7 0 ∧ M 7 0 ≤ 60) (hrd : ∀ f : Int, 0 ≤ f → f < M 7 0 → 0 ≤ M 13 f ∧ M 13 f ≤ 40) (hf : 0 ≤ f ∧ f < M 7 0) (hn : M 13 f < 40) : Cn l X y_T_append ({ frames := 0, cells := 0, slots := 0, locals := 0 }) [.ref (P (12, f)), iV d, iV v, iV s0] h nx (fun o h' nx' => RepC X x A P (upM (upM (upM (upM M 14 (40 * f + M 13 f) d) 15 (40 * f + M 13 f) v) 33 (40 * f + M 13 f) s0) 13 f (M 13 f + 1)) h' ∧ OF A h h' ∧ nx' = nx ∧ o = .returned (some (iV (M 13 f + 1)))) := by
  refine cn_of (k := 0) (L0 := [some (.ref (P (12, f))), some (iV d), some (iV v), some (iV s0)]) rfl wx_389 (Nat.le_of_ble_eq_true rfl) rfl (fun p e s m args below meth c F => ?_)
  have q0 := hrd f hf.1 hf.2
  refine v_aload_n (pc' := 1) (j := 0) F d_T_append_0 rfl rfl rfl ?_
  refine v_getf (pc' := 4) (C := zR_T) (T := zF_T) (N := 8) (ref := "BillShares$Meter") F d_T_append_1 rfl zi_T rfl 4 (by decide) wx_337 (Or.inl rfl) (hC.t_mt (i := f) hf) rfl ?_
  refine v_aload_n (pc' := 5) (j := 0) F d_T_append_4 rfl rfl rfl ?_
  refine v_getf (pc' := 8) (C := zR_T) (T := zF_T) (N := 8) (ref := "BillShares$Meter") F d_T_append_5 rfl zi_T rfl 5 (by decide) wx_339 (Or.inl rfl) (hC.t_mt (i := f) hf) rfl ?_
  refine v_alen (pc' := 9) (ai := 0) (ty := .int) F d_T_append_8 rfl (by decide) (hC.t_dy (i := f) hf) ?_
  refine v_topi (b := 40) rfl ?_
  refine v_icmp_ge (tgt := 52) (pc' := 12) F d_T_append_9 (by decide) rfl (by omega) (by omega) (fun c9 => ?_) (fun c9 => ?_)
  · exfalso; omega
  · refine v_aload_n (pc' := 13) (j := 0) F d_T_append_12 rfl rfl rfl ?_
    refine v_getf (pc' := 16) (C := zR_T) (T := zF_T) (N := 8) (ref := "BillShares$Meter") F d_T_append_13 rfl zi_T rfl 5 (by decide) wx_339 (Or.inl rfl) (hC.t_mt (i := f) hf) rfl ?_
    refine v_aload_n (pc' := 17) (j := 0) F d_T_append_16 rfl rfl rfl ?_
    refine v_getf (pc' := 20) (C := zR_T) (T := zF_T) (N := 8) (ref := "BillShares$Meter") F d_T_append_17 rfl zi_T rfl 4 (by decide) wx_337 (Or.inl rfl) (hC.t_mt (i := f) hf) rfl ?_
    refine v_iload_n (pc' := 21) (j := 1) F d_T_append_20 rfl rfl rfl ?_
    refine cp_dy (pc' := 22) F hC (f := f) hf d_T_append_21 rfl (by omega) (by omega) (fun h1 hC1 hF1 => ?_)
    refine v_aload_n (pc' := 23) (j := 0) F d_T_append_22 rfl rfl rfl ?_
    refine v_getf (pc' := 26) (C := zR_T) (T := zF_T) (N := 8) (ref := "BillShares$Meter") F d_T_append_23 rfl zi_T rfl 6 (by decide) wx_340 (Or.inl rfl) (hC1.t_mt (i := f) hf) rfl ?_
    refine v_aload_n (pc' := 27) (j := 0) F d_T_append_26 rfl rfl rfl ?_
    refine v_getf (pc' := 30) (C := zR_T) (T := zF_T) (N := 8) (ref := "BillShares$Meter") F d_T_append_27 rfl zi_T rfl 4 (by decide) wx_337 (Or.inl rfl) (hC1.t_mt (i := f) hf) rfl ?_
    refine v_un (by decide) ?_
    refine v_iload_n (pc' := 31) (j := 2) F d_T_append_30 rfl rfl rfl ?_
    refine cp_vl (pc' := 32) F hC1 (f := f) hf d_T_append_31 rfl (by omega) (by omega) (fun h2 hC2 hF2 => ?_)
    refine v_aload_n (pc' := 33) (j := 0) F d_T_append_32 rfl rfl rfl ?_
    refine v_getf (pc' := 36) (C := zR_T) (T := zF_T) (N := 8) (ref := "BillShares$Meter") F d_T_append_33 rfl zi_T rfl 7 (by decide) wx_341 (Or.inl rfl) (hC2.t_mt (i := f) hf) rfl ?_
    refine v_aload_n (pc' := 37) (j := 0) F d_T_append_36 rfl rfl rfl ?_
    refine v_getf (pc' := 40) (C := zR_T) (T := zF_T) (N := 8) (ref := "BillShares$Meter") F d_T_append_37 rfl zi_T rfl 4 (by decide) wx_337 (Or.inl rfl) (hC2.t_mt (i := f) hf) rfl ?_
    refine v_un (by decide) ?_
    refine v_un (by decide) ?_
    refine v_iload_n (pc' := 41) (j := 3) F d_T_append_40 rfl rfl rfl ?_
    refine cp_st (pc' := 42) F hC2 (f := f) hf d_T_append_41 rfl (by omega) (by omega) (fun h3 hC3 hF3 => ?_)
    refine v_aload_n (pc' := 43) (j := 0) F d_T_append_42 rfl rfl rfl ?_
    refine v_dup (pc' := 44) F d_T_append_43 rfl rfl ?_
    refine v_getf (pc' := 47) (C := zR_T) (T := zF_T) (N := 8) (ref := "BillShares$Meter") F d_T_append_44 rfl zi_T rfl 4 (by decide) wx_337 (Or.inl rfl) (hC3.t_mt (i := f) hf) rfl ?_
    refine v_un (by decide) ?_
    refine v_un (by decide) ?_
    refine v_un (by decide) ?_
    refine v_iconst (pc' := 48) F d_T_append_47 rfl ?_
    refine v_iadd (pc' := 49) F d_T_append_48 rfl ?_
    refine cp_re (pc' := 52) F hC3 (f := f) hf d_T_append_49 rfl wx_337 (fun h4 hC4 hF4 => ?_)
    refine v_aload_n (pc' := 53) (j := 0) F d_T_append_52 rfl rfl rfl ?_
    refine v_getf (pc' := 56) (C := zR_T) (T := zF_T) (N := 8) (ref := "BillShares$Meter") F d_T_append_53 rfl zi_T rfl 4 (by decide) wx_337 (Or.inl rfl) (hC4.t_mt (i := f) hf) rfl ?_
    refine v_us ?_
    exact v_ireturn F rfl d_T_append_56 rfl rfl (Nat.le_refl _) (Nat.le_refl _) ⟨hC4, ((((((((OF.rf).tr hF1)).tr hF2)).tr hF3)).tr hF4), rfl, rfl⟩
set_option maxRecDepth 100000 in
set_option maxHeartbeats 4000000 in
theorem c_F_takeIn (l : Launch) (X : am_X) (h : am_H) (nx : Nat) (x : Nat) (A : Nat → Prop) (P : Tg → Nat) (M : MS) (f d : Int) (hC : RepC X x A P M h) (hfl : 0 ≤ M 1 0 ∧ M 1 0 ≤ 20) (hlv : ∀ f : Int, 0 ≤ f → f < M 1 0 → 1 ≤ M 4 f ∧ M 4 f ≤ 12) (hf : 0 ≤ f ∧ f < M 1 0) (hn : M 4 f < 12) : Cn l X y_F_takeIn ({ frames := 0, cells := 0, slots := 0, locals := 0 }) [.ref (P (6, f)), iV d] h nx (fun o h' nx' => RepC X x A P (upM (upM M 5 (12 * f + M 4 f) d) 4 f (M 4 f + 1)) h' ∧ OF A h h' ∧ nx' = nx ∧ o = .returned (some (iV (M 4 f + 1 - 1)))) := by
  refine cn_of (k := 0) (L0 := [some (.ref (P (6, f))), some (iV d)]) rfl wx_462 (Nat.le_of_ble_eq_true rfl) rfl (fun p e s m args below meth c F => ?_)
  have q0 := hlv f hf.1 hf.2
  refine v_aload_n (pc' := 1) (j := 0) F d_F_takeIn_0 rfl rfl rfl ?_
  refine v_getf (pc' := 4) (C := zR_F) (T := zF_F) (N := 10) (ref := "BillShares$Flat") F d_F_takeIn_1 rfl zi_F rfl 4 (by decide) wx_193 (Or.inl rfl) (hC.t_fl (i := f) hf) rfl ?_
  refine v_aload_n (pc' := 5) (j := 0) F d_F_takeIn_4 rfl rfl rfl ?_
  refine v_getf (pc' := 8) (C := zR_F) (T := zF_F) (N := 10) (ref := "BillShares$Flat") F d_F_takeIn_5 rfl zi_F rfl 3 (by decide) wx_192 (Or.inl rfl) (hC.t_fl (i := f) hf) rfl ?_
  refine v_alen (pc' := 9) (ai := 0) (ty := .int) F d_F_takeIn_8 rfl (by decide) (hC.t_mv (i := f) hf) ?_
  refine v_topi (b := 12) rfl ?_
  refine v_icmp_ge (tgt := 32) (pc' := 12) F d_F_takeIn_9 (by decide) rfl (by omega) (by omega) (fun c9 => ?_) (fun c9 => ?_)
  · exfalso; omega
  · refine v_aload_n (pc' := 13) (j := 0) F d_F_takeIn_12 rfl rfl rfl ?_
    refine v_getf (pc' := 16) (C := zR_F) (T := zF_F) (N := 10) (ref := "BillShares$Flat") F d_F_takeIn_13 rfl zi_F rfl 3 (by decide) wx_192 (Or.inl rfl) (hC.t_fl (i := f) hf) rfl ?_
    refine v_aload_n (pc' := 17) (j := 0) F d_F_takeIn_16 rfl rfl rfl ?_
    refine v_getf (pc' := 20) (C := zR_F) (T := zF_F) (N := 10) (ref := "BillShares$Flat") F d_F_takeIn_17 rfl zi_F rfl 4 (by decide) wx_193 (Or.inl rfl) (hC.t_fl (i := f) hf) rfl ?_
    refine v_iload_n (pc' := 21) (j := 1) F d_F_takeIn_20 rfl rfl rfl ?_
    refine cp_mv (pc' := 22) F hC (f := f) hf d_F_takeIn_21 rfl (by omega) (by omega) (fun h1 hC1 hF1 => ?_)
    refine v_aload_n (pc' := 23) (j := 0) F d_F_takeIn_22 rfl rfl rfl ?_
    refine v_dup (pc' := 24) F d_F_takeIn_23 rfl rfl ?_
    refine v_getf (pc' := 27) (C := zR_F) (T := zF_F) (N := 10) (ref := "BillShares$Flat") F d_F_takeIn_24 rfl zi_F rfl 4 (by decide) wx_193 (Or.inl rfl) (hC1.t_fl (i := f) hf) rfl ?_
    refine v_un (by decide) ?_
    refine v_iconst (pc' := 28) F d_F_takeIn_27 rfl ?_
    refine v_iadd (pc' := 29) F d_F_takeIn_28 rfl ?_
    refine cp_dw (pc' := 32) F hC1 (f := f) hf d_F_takeIn_29 rfl wx_193 (fun h2 hC2 hF2 => ?_)
    refine v_aload_n (pc' := 33) (j := 0) F d_F_takeIn_32 rfl rfl rfl ?_
    refine v_getf (pc' := 36) (C := zR_F) (T := zF_F) (N := 10) (ref := "BillShares$Flat") F d_F_takeIn_33 rfl zi_F rfl 4 (by decide) wx_193 (Or.inl rfl) (hC2.t_fl (i := f) hf) rfl ?_
    refine v_us ?_
    refine v_iconst (pc' := 37) F d_F_takeIn_36 rfl ?_
    refine v_isub (pc' := 38) F d_F_takeIn_37 rfl ?_
    exact v_ireturn F rfl d_F_takeIn_38 rfl rfl (Nat.le_refl _) (Nat.le_refl _) ⟨hC2, ((((OF.rf).tr hF1)).tr hF2), rfl, rfl⟩
set_option maxRecDepth 100000 in
set_option maxHeartbeats 4000000 in
theorem c_T_replaceValue (l : Launch) (X : am_X) (h : am_H) (nx : Nat) (x : Nat) (A : Nat → Prop) (P : Tg → Nat) (M : MS) (f i v : Int) (hC : RepC X x A P M h) (hme : 0 ≤ M 7 0 ∧ M 7 0 ≤ 60) (hrd : ∀ f : Int, 0 ≤ f → f < M 7 0 → 0 ≤ M 13 f ∧ M 13 f ≤ 40) (hf : 0 ≤ f ∧ f < M 7 0) (hi : 0 ≤ i ∧ i < M 13 f) : Cn l X y_T_replaceValue ({ frames := 0, cells := 0, slots := 0, locals := 0 }) [.ref (P (12, f)), iV i, iV v] h nx (fun o h' nx' => RepC X x A P (upM M 15 (40 * f + i) v) h' ∧ OF A h h' ∧ nx' = nx ∧ o = .returned (some (iV (M 15 (40 * f + i))))) := by
  refine cn_of (k := 1) (L0 := [some (.ref (P (12, f))), some (iV i), some (iV v), none]) rfl wx_416 (Nat.le_of_ble_eq_true rfl) rfl (fun p e s m args below meth c F => ?_)
  have q0 := hrd f hf.1 hf.2
  refine v_aload_n (pc' := 1) (j := 0) F d_T_replaceValue_0 rfl rfl rfl ?_
  refine v_getf (pc' := 4) (C := zR_T) (T := zF_T) (N := 8) (ref := "BillShares$Meter") F d_T_replaceValue_1 rfl zi_T rfl 6 (by decide) wx_340 (Or.inl rfl) (hC.t_mt (i := f) hf) rfl ?_
  refine v_iload_n (pc' := 5) (j := 1) F d_T_replaceValue_4 rfl rfl rfl ?_
  refine cg_vl (pc' := 6) F hC (f := f) hf d_T_replaceValue_5 rfl (by omega) (by omega) ?_
  refine v_istore_3 (pc' := 7) F d_T_replaceValue_6 rfl rfl (by decide) ?_
  refine v_aload_n (pc' := 8) (j := 0) F d_T_replaceValue_7 rfl rfl rfl ?_
  refine v_getf (pc' := 11) (C := zR_T) (T := zF_T) (N := 8) (ref := "BillShares$Meter") F d_T_replaceValue_8 rfl zi_T rfl 6 (by decide) wx_340 (Or.inl rfl) (hC.t_mt (i := f) hf) rfl ?_
  refine v_iload_n (pc' := 12) (j := 1) F d_T_replaceValue_11 rfl rfl rfl ?_
  refine v_iload_n (pc' := 13) (j := 2) F d_T_replaceValue_12 rfl rfl rfl ?_
  refine cp_vl (pc' := 14) F hC (f := f) hf d_T_replaceValue_13 rfl (by omega) (by omega) (fun h1 hC1 hF1 => ?_)
  refine v_iload_n (pc' := 15) (j := 3) F d_T_replaceValue_14 rfl rfl rfl ?_
  exact v_ireturn F rfl d_T_replaceValue_15 rfl rfl (Nat.le_refl _) (Nat.le_refl _) ⟨hC1, ((OF.rf).tr hF1), rfl, rfl⟩
