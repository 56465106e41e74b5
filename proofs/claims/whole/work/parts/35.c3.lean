/-! latestBill, indexOfDay, whyBarred and useBetween of a flat, parts by floors (written by wip/whole/cc3.py) -/
theorem cnt_ex {F : Int → Int} {f : Int} : ∀ (n : Nat) (j : Int), 0 ≤ j → j < cntf F f n → ∃ i : Nat, i < n ∧ F (i : Int) = f ∧ cntf F f i = j
  | 0, j, h0, h1 => by simp [cntf] at h1; omega
  | n + 1, j, h0, h1 => by
    by_cases hj : j < cntf F f n
    · obtain ⟨i, a, b, c⟩ := cnt_ex n j h0 hj
      exact ⟨i, by omega, b, c⟩
    · unfold cntf at h1
      by_cases hq : F (n : Int) = f
      · rw [if_pos hq] at h1
        exact ⟨n, by omega, hq, by omega⟩
      · rw [if_neg hq] at h1; omega
theorem NI.mt {M : MS} (hN : NI M) (hI : RI M) {f j : Int} (hf : 0 ≤ f ∧ f < M 1 0) (h0 : 0 ≤ j) (h1 : j < M 35 f) : 0 ≤ M 34 (60 * f + j) ∧ M 34 (60 * f + j) < M 7 0 := by
  rw [hN.hcn f hf.1 hf.2] at h1
  obtain ⟨i, a, b, c⟩ := cnt_ex _ j h0 h1
  have e := hN.hmf i (by omega)
  rw [b, c] at e
  rw [e]
  omega
theorem NI.c60 {M : MS} (hN : NI M) (hI : RI M) {f : Int} (hf : 0 ≤ f ∧ f < M 1 0) : 0 ≤ M 35 f ∧ M 35 f ≤ 60 := by
  have q := cntf_r (M 8) f (M 7 0).toNat
  have q2 := hI.hme
  rw [hN.hcn f hf.1 hf.2]
  omega
/-- as sp_bar and sp_used, over a flat's own list of meters -/
def cbar (g K W : Int → Int) (k : Int) : Nat → Int
  | 0 => 1
  | i + 1 => if 2 ≤ cbar g K W k i then cbar g K W k i else if K (g (i : Int)) = k then W (g (i : Int)) else cbar g K W k i
def csum (g K U : Int → Int) (k : Int) : Nat → Int
  | 0 => 0
  | i + 1 => csum g K U k i + (if K (g (i : Int)) = k then U (g (i : Int)) else 0)
theorem cbar_s {g K W : Int → Int} {k : Int} {i : Nat} (h : 2 ≤ cbar g K W k i) : ∀ n : Nat, i ≤ n → cbar g K W k n = cbar g K W k i
  | 0, hn => by rw [show i = 0 by omega]
  | n + 1, hn => by
    by_cases hi : i = n + 1
    · rw [hi]
    · have e := cbar_s h n (by omega)
      show (if 2 ≤ cbar g K W k n then cbar g K W k n else _) = _
      rw [if_pos (by omega), e]
theorem cbar_eq {M : MS} (hN : NI M) {f : Int} {K W : Int → Int} {k : Int} : ∀ n : Nat, (n : Int) ≤ M 7 0 → cbar (fun j => M 34 (60 * f + j)) K W k (cntf (M 8) f n).toNat = sp_bar (M 8) K W f k n
  | 0, _ => rfl
  | n + 1, hn => by
    have ih := cbar_eq hN (f := f) (K := K) (W := W) (k := k) n (by omega)
    have r := cntf_r (M 8) f n
    show cbar _ K W k (cntf (M 8) f n + (if M 8 (n : Int) = f then 1 else 0)).toNat = (if 2 ≤ sp_bar (M 8) K W f k n then sp_bar (M 8) K W f k n else if M 8 (n : Int) = f ∧ K (n : Int) = k then W (n : Int) else sp_bar (M 8) K W f k n)
    by_cases hq : M 8 (n : Int) = f
    · have e := hN.hmf n (by omega)
      rw [hq] at e
      rw [if_pos hq, show (cntf (M 8) f n + 1).toNat = (cntf (M 8) f n).toNat + 1 by omega]
      show (if 2 ≤ cbar _ K W k (cntf (M 8) f n).toNat then cbar _ K W k (cntf (M 8) f n).toNat else if K (M 34 (60 * f + (((cntf (M 8) f n).toNat : Nat) : Int))) = k then W (M 34 (60 * f + (((cntf (M 8) f n).toNat : Nat) : Int))) else cbar _ K W k (cntf (M 8) f n).toNat) = _
      rw [ih, Int.toNat_of_nonneg r.1, e]
      by_cases h2 : 2 ≤ sp_bar (M 8) K W f k n
      · rw [if_pos h2, if_pos h2]
      · rw [if_neg h2, if_neg h2]
        by_cases hk : K (n : Int) = k
        · rw [if_pos hk, if_pos ⟨hq, hk⟩]
        · rw [if_neg hk, if_neg (fun z => hk z.2)]
    · rw [if_neg hq, Int.add_zero, ih]
      by_cases h2 : 2 ≤ sp_bar (M 8) K W f k n
      · rw [if_pos h2]
      · rw [if_neg h2, if_neg (fun z => hq z.1)]
theorem csum_eq {M : MS} (hN : NI M) {f : Int} {K U : Int → Int} {k : Int} : ∀ n : Nat, (n : Int) ≤ M 7 0 → csum (fun j => M 34 (60 * f + j)) K U k (cntf (M 8) f n).toNat = sp_used (M 8) K U f k n
  | 0, _ => rfl
  | n + 1, hn => by
    have ih := csum_eq hN (f := f) (K := K) (U := U) (k := k) n (by omega)
    have r := cntf_r (M 8) f n
    show csum _ K U k (cntf (M 8) f n + (if M 8 (n : Int) = f then 1 else 0)).toNat = sp_used (M 8) K U f k n + (if M 8 (n : Int) = f ∧ K (n : Int) = k then U (n : Int) else 0)
    by_cases hq : M 8 (n : Int) = f
    · have e := hN.hmf n (by omega)
      rw [hq] at e
      rw [if_pos hq, show (cntf (M 8) f n + 1).toNat = (cntf (M 8) f n).toNat + 1 by omega]
      show csum _ K U k (cntf (M 8) f n).toNat + (if K (M 34 (60 * f + (((cntf (M 8) f n).toNat : Nat) : Int))) = k then U (M 34 (60 * f + (((cntf (M 8) f n).toNat : Nat) : Int))) else 0) = _
      rw [ih, Int.toNat_of_nonneg r.1, e]
      by_cases hk : K (n : Int) = k
      · rw [if_pos hk, if_pos ⟨hq, hk⟩]
      · rw [if_neg hk, if_neg (fun z => hk z.2)]
    · rw [if_neg hq, Int.add_zero, ih, if_neg (fun z => hq z.1), Int.add_zero]
theorem cbar_all {M : MS} (hN : NI M) (hI : RI M) {f k a : Int} (hf : 0 ≤ f ∧ f < M 1 0) : cbar (fun j => M 34 (60 * f + j)) (M 9) (fun i => sp_why M i a) k (M 35 f).toNat = sp_barred M f k a := by
  have q := hI.hme
  rw [hN.hcn f hf.1 hf.2]
  exact cbar_eq hN _ (by omega)
theorem csum_all {M : MS} (hN : NI M) (hI : RI M) {f k g t : Int} (hf : 0 ≤ f ∧ f < M 1 0) : csum (fun j => M 34 (60 * f + j)) (M 9) (fun i => sp_use M i g t) k (M 35 f).toNat = sp_usedBy M f k g t := by
  have q := hI.hme
  rw [hN.hcn f hf.1 hf.2]
  exact csum_eq hN _ (by omega)
set_option maxRecDepth 100000 in
set_option maxHeartbeats 4000000 in
theorem lp_F_whyBarred {p : Program} {l : Launch} {e : Env} {s : State} {m : MethodId} {args : Array Value} {below : List Frame} {meth : Method} {c : Code} {X : am_X} {h : am_H} {nx : Nat} {x : Nat} {A : Nat → Prop} {P : Tg → Nat} {M : MS}  {f k0 a : Int} (F : am_Fx p s m args meth c y_F_whyBarred b_F_whyBarred 7 (some .int) [] X) (hC : RepC X x A P M h) (hI : RI M) (hN : NI M) (hf : 0 ≤ f ∧ f < M 1 0) (ry : 0 ≤ a ∧ a ≤ 9) (rk : -2147483648 ≤ k0 ∧ k0 < 2147483648) : ∀ (n k : Nat), (M 35 f).toNat < k + n → k ≤ (M 35 f).toNat → (0 ≤ (cbar (fun j => M 34 (60 * f + j)) (M 9) (fun i => sp_why M i a) k0 k) ∧ (cbar (fun j => M 34 (60 * f + j)) (M 9) (fun i => sp_why M i a) k0 k) < 2) → V p l e ({ frames := 3, cells := 0, slots := 0, locals := 64 }) s m args below meth c 7 X (am_Q X below s 0 0 (fun o h' nx' => o = .returned (some (iV (sp_barred M f k0 a))) ∧ h' = h ∧ nx' = nx)) h nx 0 0 5 [some (.ref (P (6, f))), some (iV k0), some (iV a), some (iV (1 - (cbar (fun j => M 34 (60 * f + j)) (M 9) (fun i => sp_why M i a) k0 k))), some (iV (k : Int)), none, none] [] := by
  intro n
  induction n with
  | zero =>
    intro k hk hk2
    exact absurd hk (by omega)
  | succ n ih =>
    intro k hk hk2 hcb
    have qc := hN.c60 hI hf
    refine v_iload (pc' := 7) F d_F_whyBarred_5 rfl rfl ?_
    refine v_aload_n (pc' := 8) (j := 0) F d_F_whyBarred_7 rfl rfl rfl ?_
    refine v_getf (pc' := 11) (C := zR_F) (T := zF_F) (N := 10) (ref := "BillShares$Flat") F d_F_whyBarred_8 rfl zi_F rfl 2 (by decide) wx_190 (Or.inl rfl) (hC.t_fl (i := f) hf) rfl ?_
    refine v_callVP (pc' := 14) (C := zR_A) (T9 := zF_A) (N := 3) F d_F_whyBarred_11 rfl cal_A_size wx_543 wx_157 wx_158 rfl (hC.t_fm (i := f) hf) (c_sizef l X _ _ _ _ _ hC hf) rfl ⟨by decide, by decide, by decide, by decide⟩ (Nat.le_of_ble_eq_true rfl) rfl rfl ?_
    refine v_icmp_ge (tgt := 64) (pc' := 17) F d_F_whyBarred_14 (by decide) rfl (by omega) (by omega) (fun c14 => ?_) (fun c14 => ?_)
    · obtain rfl : k = (M 35 f).toNat := by omega
      refine v_iload_n (pc' := 65) (j := 3) F d_F_whyBarred_64 rfl rfl rfl ?_
      refine v_if_eq (tgt := 72) (pc' := 68) F d_F_whyBarred_65 (by decide) rfl (by omega) (fun c65 => ?_) (fun c65 => ?_)
      · refine v_iconst (pc' := 73) F d_F_whyBarred_72 rfl ?_
        exact v_ireturn F rfl d_F_whyBarred_73 rfl rfl (Nat.le_refl _) (Nat.le_refl _) ⟨by rw [← cbar_all hN hI hf]; first | rw [show (cbar (fun j => M 34 (60 * f + j)) (M 9) (fun i => sp_why M i a) k0 (M 35 f).toNat) = 0 by omega] | rw [show (cbar (fun j => M 34 (60 * f + j)) (M 9) (fun i => sp_why M i a) k0 (M 35 f).toNat) = 1 by omega], rfl, rfl⟩
      · refine v_iconst (pc' := 69) F d_F_whyBarred_68 rfl ?_
        refine v_goto (tgt := 73) F d_F_whyBarred_69 (by decide) ?_
        exact v_ireturn F rfl d_F_whyBarred_73 rfl rfl (Nat.le_refl _) (Nat.le_refl _) ⟨by rw [← cbar_all hN hI hf]; first | rw [show (cbar (fun j => M 34 (60 * f + j)) (M 9) (fun i => sp_why M i a) k0 (M 35 f).toNat) = 0 by omega] | rw [show (cbar (fun j => M 34 (60 * f + j)) (M 9) (fun i => sp_why M i a) k0 (M 35 f).toNat) = 1 by omega], rfl, rfl⟩
    · have hg := hN.mt hI hf (show 0 ≤ (k : Int) by omega) (show (k : Int) < M 35 f by omega)
      have qk := hI.hfo (M 34 (60 * f + (k : Int))) hg.1 (by have := hI.hme; omega)
      have qw := sp_why_r M (M 34 (60 * f + (k : Int))) a
      refine v_aload_n (pc' := 18) (j := 0) F d_F_whyBarred_17 rfl rfl rfl ?_
      refine v_getf (pc' := 21) (C := zR_F) (T := zF_F) (N := 10) (ref := "BillShares$Flat") F d_F_whyBarred_18 rfl zi_F rfl 2 (by decide) wx_190 (Or.inl rfl) (hC.t_fl (i := f) hf) rfl ?_
      refine v_iload (pc' := 23) F d_F_whyBarred_21 rfl rfl ?_
      refine v_callVP (pc' := 26) (C := zR_A) (T9 := zF_A) (N := 3) F d_F_whyBarred_23 rfl cal_A_get wx_544 wx_284 wx_285 rfl (hC.t_fm (i := f) hf) (c_getf l X _ _ _ _ _ _ hC hf (hN.hfc f hf.1 hf.2) (by omega)) rfl ⟨by decide, by decide, by decide, by decide⟩ (Nat.le_of_ble_eq_true rfl) rfl rfl ?_
      refine v_cast (pc' := 29) (C := zR_T) (T9 := zF_T) (N := 8) F d_F_whyBarred_26 rfl wx_545 wx_916 rfl (hC.t_mt (i := (M 34 (60 * f + (k : Int)))) hg) ?_
      refine v_astore_5 (pc' := 31) F d_F_whyBarred_29 rfl rfl (by decide) ?_
      refine v_aload (pc' := 33) F d_F_whyBarred_31 rfl rfl ?_
      refine v_getf (pc' := 36) (C := zR_T) (T := zF_T) (N := 8) (ref := "BillShares$Meter") F d_F_whyBarred_33 rfl zi_T rfl 0 (by decide) wx_332 (Or.inl rfl) (hC.t_mt (i := (M 34 (60 * f + (k : Int)))) hg) rfl ?_
      refine v_iload_n (pc' := 37) (j := 1) F d_F_whyBarred_36 rfl rfl rfl ?_
      refine v_icmp_ne (tgt := 58) (pc' := 40) F d_F_whyBarred_37 (by decide) rfl (by omega) (by omega) (fun c37 => ?_) (fun c37 => ?_)
      · refine v_iinc_4 (pc' := 61) F d_F_whyBarred_58 rfl rfl (by decide) ?_
        refine v_goto (tgt := 5) F d_F_whyBarred_61 (by decide) ?_
        have q9 := fun z => ih (k + 1) (by omega) (by omega) z
        first | (have e2 : cbar (fun j => M 34 (60 * f + j)) (M 9) (fun i => sp_why M i a) k0 (k + 1) = sp_why M (M 34 (60 * f + (k : Int))) a := (if_neg (show ¬ 2 ≤ (cbar (fun j => M 34 (60 * f + j)) (M 9) (fun i => sp_why M i a) k0 k) by omega)).trans (if_pos (show M 9 (M 34 (60 * f + (k : Int))) = k0 by omega)); have q8 := q9 (by rw [e2]; omega); rw [show (1 : Int) - cbar (fun j => M 34 (60 * f + j)) (M 9) (fun i => sp_why M i a) k0 (k + 1) = 1 by rw [e2]; omega] at q8; exact v_subL (by (repeat' (first | exact trivial | exact rfl | refine And.intro ?_ ?_)); done) q8) | (have e2 : cbar (fun j => M 34 (60 * f + j)) (M 9) (fun i => sp_why M i a) k0 (k + 1) = (cbar (fun j => M 34 (60 * f + j)) (M 9) (fun i => sp_why M i a) k0 k) := (if_neg (show ¬ 2 ≤ (cbar (fun j => M 34 (60 * f + j)) (M 9) (fun i => sp_why M i a) k0 k) by omega)).trans (if_neg (show ¬ M 9 (M 34 (60 * f + (k : Int))) = k0 by omega)); have q8 := q9 (by rw [e2]; omega); rw [e2] at q8; exact v_subL (by (repeat' (first | exact trivial | exact rfl | refine And.intro ?_ ?_)); done) q8)
      · refine v_iconst (pc' := 41) F d_F_whyBarred_40 rfl ?_
        refine v_istore_3 (pc' := 42) F d_F_whyBarred_41 rfl rfl (by decide) ?_
        refine v_aload (pc' := 44) F d_F_whyBarred_42 rfl rfl ?_
        refine v_iload_n (pc' := 45) (j := 2) F d_F_whyBarred_44 rfl rfl rfl ?_
        refine v_callVP (pc' := 48) (C := zR_T) (T9 := zF_T) (N := 8) F d_F_whyBarred_45 rfl cal_T_whyBarred wx_546 wx_547 wx_548 rfl (hC.t_mt (i := (M 34 (60 * f + (k : Int)))) hg) (c_T_whyBarred l X _ _ _ _ _ _ _ _ hC hI.hme hI.hrd hI.hda hI.hmo hI.hte hg ry) rfl ⟨by decide, by decide, by decide, by decide⟩ (Nat.le_of_ble_eq_true rfl) rfl rfl ?_
        refine v_istore_6 (pc' := 50) F d_F_whyBarred_48 rfl rfl (by decide) ?_
        refine v_iload (pc' := 52) F d_F_whyBarred_50 rfl rfl ?_
        refine v_if_eq (tgt := 58) (pc' := 55) F d_F_whyBarred_52 (by decide) rfl (by omega) (fun c52 => ?_) (fun c52 => ?_)
        · refine v_iinc_4 (pc' := 61) F d_F_whyBarred_58 rfl rfl (by decide) ?_
          refine v_goto (tgt := 5) F d_F_whyBarred_61 (by decide) ?_
          have q9 := fun z => ih (k + 1) (by omega) (by omega) z
          first | (have e2 : cbar (fun j => M 34 (60 * f + j)) (M 9) (fun i => sp_why M i a) k0 (k + 1) = sp_why M (M 34 (60 * f + (k : Int))) a := (if_neg (show ¬ 2 ≤ (cbar (fun j => M 34 (60 * f + j)) (M 9) (fun i => sp_why M i a) k0 k) by omega)).trans (if_pos (show M 9 (M 34 (60 * f + (k : Int))) = k0 by omega)); have q8 := q9 (by rw [e2]; omega); rw [show (1 : Int) - cbar (fun j => M 34 (60 * f + j)) (M 9) (fun i => sp_why M i a) k0 (k + 1) = 1 by rw [e2]; omega] at q8; exact v_subL (by (repeat' (first | exact trivial | exact rfl | refine And.intro ?_ ?_)); done) q8) | (have e2 : cbar (fun j => M 34 (60 * f + j)) (M 9) (fun i => sp_why M i a) k0 (k + 1) = (cbar (fun j => M 34 (60 * f + j)) (M 9) (fun i => sp_why M i a) k0 k) := (if_neg (show ¬ 2 ≤ (cbar (fun j => M 34 (60 * f + j)) (M 9) (fun i => sp_why M i a) k0 k) by omega)).trans (if_neg (show ¬ M 9 (M 34 (60 * f + (k : Int))) = k0 by omega)); have q8 := q9 (by rw [e2]; omega); rw [e2] at q8; exact v_subL (by (repeat' (first | exact trivial | exact rfl | refine And.intro ?_ ?_)); done) q8)
        · refine v_iload (pc' := 57) F d_F_whyBarred_55 rfl rfl ?_
          exact v_ireturn F rfl d_F_whyBarred_57 rfl rfl (Nat.le_refl _) (Nat.le_refl _) ⟨by have e2 : cbar (fun j => M 34 (60 * f + j)) (M 9) (fun i => sp_why M i a) k0 (k + 1) = sp_why M (M 34 (60 * f + (k : Int))) a := (if_neg (show ¬ 2 ≤ (cbar (fun j => M 34 (60 * f + j)) (M 9) (fun i => sp_why M i a) k0 k) by omega)).trans (if_pos (show M 9 (M 34 (60 * f + (k : Int))) = k0 by omega)); rw [← cbar_all hN hI hf, cbar_s (i := k + 1) (by rw [e2]; omega) _ (by omega), e2], rfl, rfl⟩
set_option maxRecDepth 100000 in
set_option maxHeartbeats 4000000 in
theorem c_F_whyBarred (l : Launch) (X : am_X) (h : am_H) (nx : Nat) (x : Nat) (A : Nat → Prop) (P : Tg → Nat) (M : MS) (f k0 a : Int) (hC : RepC X x A P M h) (hI : RI M) (hN : NI M) (hf : 0 ≤ f ∧ f < M 1 0) (ry : 0 ≤ a ∧ a ≤ 9) (rk : -2147483648 ≤ k0 ∧ k0 < 2147483648) : CnP l X y_F_whyBarred ({ frames := 3, cells := 0, slots := 0, locals := 64 }) [.ref (P (6, f)), iV k0, iV a] h nx (iV (sp_barred M f k0 a)) := by
  refine cn_of (k := 4) (L0 := [some (.ref (P (6, f))), some (iV k0), some (iV a), none, none, none, none]) rfl wx_542 (Nat.le_of_ble_eq_true rfl) rfl (fun p e s m args below meth c F => ?_)
  refine v_iconst (pc' := 1) F d_F_whyBarred_0 rfl ?_
  refine v_istore_3 (pc' := 2) F d_F_whyBarred_1 rfl rfl (by decide) ?_
  refine v_iconst (pc' := 3) F d_F_whyBarred_2 rfl ?_
  refine v_istore_4 (pc' := 5) F d_F_whyBarred_3 rfl rfl (by decide) ?_
  exact lp_F_whyBarred F hC hI hN hf ry rk ((M 35 f).toNat + 1) 0 (by omega) (by omega) (show (0 : Int) ≤ 1 ∧ (1 : Int) < 2 by omega)
set_option maxRecDepth 100000 in
set_option maxHeartbeats 4000000 in
theorem lp_F_useBetween {p : Program} {l : Launch} {e : Env} {s : State} {m : MethodId} {args : Array Value} {below : List Frame} {meth : Method} {c : Code} {X : am_X} {Q : State → Prop} {h : am_H} {nx : Nat} {x : Nat} {A : Nat → Prop} {P : Tg → Nat} {M : MS} {kk : Nat} {f k0 g t : Int} (F : am_Fx p s m args meth c y_F_useBetween b_F_useBetween 8 ((Option.some FieldType.long)) [] X) (hC : RepC X x A P M h) (hI : RI M) (hN : NI M) (hf : 0 ≤ f ∧ f < M 1 0) (rg : 0 ≤ g ∧ g ≤ 3650) (rt : 0 ≤ t ∧ t ≤ 3650) (rk : -2147483648 ≤ k0 ∧ k0 < 2147483648) (hkk : (kk : Int) = M 35 f) (hx : V p l e ({ frames := 3, cells := 0, slots := 0, locals := 70 }) s m args below meth c 8 X Q h nx 0 0 59 [some (.ref (P (6, f))), some (iV k0), some (iV g), some (iV t), some (lV (csum (fun j => M 34 (60 * f + j)) (M 9) (fun i => sp_use M i g t) k0 kk)), none, some (iV (kk : Int)), none] []) : ∀ (n k : Nat), kk < k + n → k ≤ kk → V p l e ({ frames := 3, cells := 0, slots := 0, locals := 70 }) s m args below meth c 8 X Q h nx 0 0 6 [some (.ref (P (6, f))), some (iV k0), some (iV g), some (iV t), some (lV (csum (fun j => M 34 (60 * f + j)) (M 9) (fun i => sp_use M i g t) k0 k)), none, some (iV (k : Int)), none] [] := by
  intro n
  induction n with
  | zero =>
    intro k hk hk2
    exact absurd hk (by omega)
  | succ n ih =>
    intro k hk hk2
    have qc := hN.c60 hI hf
    refine v_iload (pc' := 8) F d_F_useBetween_6 rfl rfl ?_
    refine v_aload_n (pc' := 9) (j := 0) F d_F_useBetween_8 rfl rfl rfl ?_
    refine v_getf (pc' := 12) (C := zR_F) (T := zF_F) (N := 10) (ref := "BillShares$Flat") F d_F_useBetween_9 rfl zi_F rfl 2 (by decide) wx_190 (Or.inl rfl) (hC.t_fl (i := f) hf) rfl ?_
    refine v_callVP (pc' := 15) (C := zR_A) (T9 := zF_A) (N := 3) F d_F_useBetween_12 rfl cal_A_size wx_543 wx_157 wx_158 rfl (hC.t_fm (i := f) hf) (c_sizef l X _ _ _ _ _ hC hf) rfl ⟨by decide, by decide, by decide, by decide⟩ (Nat.le_of_ble_eq_true rfl) rfl rfl ?_
    refine v_icmp_ge (tgt := 59) (pc' := 18) F d_F_useBetween_15 (by decide) rfl (by omega) (by omega) (fun c15 => ?_) (fun c15 => ?_)
    · obtain rfl : k = kk := by omega
      exact v_subL (by (repeat' (first | exact trivial | exact rfl | refine And.intro ?_ ?_)); done) hx
    · have hg := hN.mt hI hf (show 0 ≤ (k : Int) by omega) (show (k : Int) < M 35 f by omega)
      have qk := hI.hfo (M 34 (60 * f + (k : Int))) hg.1 (by have := hI.hme; omega)
      refine v_aload_n (pc' := 19) (j := 0) F d_F_useBetween_18 rfl rfl rfl ?_
      refine v_getf (pc' := 22) (C := zR_F) (T := zF_F) (N := 10) (ref := "BillShares$Flat") F d_F_useBetween_19 rfl zi_F rfl 2 (by decide) wx_190 (Or.inl rfl) (hC.t_fl (i := f) hf) rfl ?_
      refine v_iload (pc' := 24) F d_F_useBetween_22 rfl rfl ?_
      refine v_callVP (pc' := 27) (C := zR_A) (T9 := zF_A) (N := 3) F d_F_useBetween_24 rfl cal_A_get wx_544 wx_284 wx_285 rfl (hC.t_fm (i := f) hf) (c_getf l X _ _ _ _ _ _ hC hf (hN.hfc f hf.1 hf.2) (by omega)) rfl ⟨by decide, by decide, by decide, by decide⟩ (Nat.le_of_ble_eq_true rfl) rfl rfl ?_
      refine v_cast (pc' := 30) (C := zR_T) (T9 := zF_T) (N := 8) F d_F_useBetween_27 rfl wx_545 wx_916 rfl (hC.t_mt (i := (M 34 (60 * f + (k : Int)))) hg) ?_
      refine v_astore_7 (pc' := 32) F d_F_useBetween_30 rfl rfl (by decide) ?_
      refine v_aload (pc' := 34) F d_F_useBetween_32 rfl rfl ?_
      refine v_getf (pc' := 37) (C := zR_T) (T := zF_T) (N := 8) (ref := "BillShares$Meter") F d_F_useBetween_34 rfl zi_T rfl 0 (by decide) wx_332 (Or.inl rfl) (hC.t_mt (i := (M 34 (60 * f + (k : Int)))) hg) rfl ?_
      refine v_iload_n (pc' := 38) (j := 1) F d_F_useBetween_37 rfl rfl rfl ?_
      refine v_icmp_ne (tgt := 53) (pc' := 41) F d_F_useBetween_38 (by decide) rfl (by omega) (by omega) (fun c38 => ?_) (fun c38 => ?_)
      · refine v_iinc_6 (pc' := 56) F d_F_useBetween_53 rfl rfl (by decide) ?_
        refine v_goto (tgt := 6) F d_F_useBetween_56 (by decide) ?_
        have q9 := ih (k + 1) (by omega) (by omega)
        have e3 : csum (fun j => M 34 (60 * f + j)) (M 9) (fun i => sp_use M i g t) k0 (k + 1) = (csum (fun j => M 34 (60 * f + j)) (M 9) (fun i => sp_use M i g t) k0 k) + (if M 9 (M 34 (60 * f + (k : Int))) = k0 then sp_use M (M 34 (60 * f + (k : Int))) g t else 0) := rfl
        first | (rw [if_pos (show M 9 (M 34 (60 * f + (k : Int))) = k0 by omega)] at e3; rw [e3] at q9; exact v_subL (by (repeat' (first | exact trivial | exact rfl | refine And.intro ?_ ?_)); done) q9) | (rw [if_neg (show ¬ M 9 (M 34 (60 * f + (k : Int))) = k0 by omega), Int.add_zero] at e3; rw [e3] at q9; exact v_subL (by (repeat' (first | exact trivial | exact rfl | refine And.intro ?_ ?_)); done) q9)
      · refine v_lload (pc' := 43) F d_F_useBetween_41 rfl rfl ?_
        refine v_aload (pc' := 45) F d_F_useBetween_43 rfl rfl ?_
        refine v_iload_n (pc' := 46) (j := 2) F d_F_useBetween_45 rfl rfl rfl ?_
        refine v_iload_n (pc' := 47) (j := 3) F d_F_useBetween_46 rfl rfl rfl ?_
        refine v_callVP (pc' := 50) (C := zR_T) (T9 := zF_T) (N := 8) F d_F_useBetween_47 rfl cal_T_useBetween wx_562 wx_563 wx_564 rfl (hC.t_mt (i := (M 34 (60 * f + (k : Int)))) hg) (c_T_useBetween l X _ _ _ _ _ _ _ _ _ hC hI.hme hI.hrd hI.hda hI.hva hI.hgo hN.hst hI.hmo hI.hab hg (by omega) (by omega)) rfl ⟨by decide, by decide, by decide, by decide⟩ (Nat.le_of_ble_eq_true rfl) rfl rfl ?_
        refine v_ladd (pc' := 51) F d_F_useBetween_50 rfl ?_
        refine v_lstore_4 (pc' := 53) F d_F_useBetween_51 rfl rfl (by decide) ?_
        refine v_iinc_6 (pc' := 56) F d_F_useBetween_53 rfl rfl (by decide) ?_
        refine v_goto (tgt := 6) F d_F_useBetween_56 (by decide) ?_
        have q9 := ih (k + 1) (by omega) (by omega)
        have e3 : csum (fun j => M 34 (60 * f + j)) (M 9) (fun i => sp_use M i g t) k0 (k + 1) = (csum (fun j => M 34 (60 * f + j)) (M 9) (fun i => sp_use M i g t) k0 k) + (if M 9 (M 34 (60 * f + (k : Int))) = k0 then sp_use M (M 34 (60 * f + (k : Int))) g t else 0) := rfl
        first | (rw [if_pos (show M 9 (M 34 (60 * f + (k : Int))) = k0 by omega)] at e3; rw [e3] at q9; exact v_subL (by (repeat' (first | exact trivial | exact rfl | refine And.intro ?_ ?_)); done) q9) | (rw [if_neg (show ¬ M 9 (M 34 (60 * f + (k : Int))) = k0 by omega), Int.add_zero] at e3; rw [e3] at q9; exact v_subL (by (repeat' (first | exact trivial | exact rfl | refine And.intro ?_ ?_)); done) q9)
set_option maxRecDepth 100000 in
set_option maxHeartbeats 4000000 in
theorem c_F_useBetween (l : Launch) (X : am_X) (h : am_H) (nx : Nat) (x : Nat) (A : Nat → Prop) (P : Tg → Nat) (M : MS) (f k0 g t : Int) (hC : RepC X x A P M h) (hI : RI M) (hN : NI M) (hf : 0 ≤ f ∧ f < M 1 0) (rg : 0 ≤ g ∧ g ≤ 3650) (rt : 0 ≤ t ∧ t ≤ 3650) (rk : -2147483648 ≤ k0 ∧ k0 < 2147483648) : CnP l X y_F_useBetween ({ frames := 3, cells := 0, slots := 0, locals := 70 }) [.ref (P (6, f)), iV k0, iV g, iV t] h nx (lV (sp_usedBy M f k0 g t)) := by
  refine cn_of (k := 4) (L0 := [some (.ref (P (6, f))), some (iV k0), some (iV g), some (iV t), none, none, none, none]) rfl wx_561 (Nat.le_of_ble_eq_true rfl) rfl (fun p e s m args below meth c F => ?_)
  have qc := hN.c60 hI hf
  refine v_lconst (pc' := 1) (z := 0) F d_F_useBetween_0 rfl (by decide) ?_
  refine v_lstore_4 (pc' := 3) F d_F_useBetween_1 rfl rfl (by decide) ?_
  refine v_iconst (pc' := 4) F d_F_useBetween_3 rfl ?_
  refine v_istore_6 (pc' := 6) F d_F_useBetween_4 rfl rfl (by decide) ?_
  refine lp_F_useBetween (kk := (M 35 f).toNat) F hC hI hN hf rg rt rk (by omega) ?_ ((M 35 f).toNat + 1) 0 (by omega) (by omega)
  refine v_lload (pc' := 61) F d_F_useBetween_59 rfl rfl ?_
  exact v_lreturn F d_F_useBetween_61 rfl (Nat.le_refl _) (Nat.le_refl _) ⟨by rw [csum_all hN hI hf], rfl, rfl⟩
def sp_upb (M : MS) (f c k a g t : Int) : Int := if sp_ally M f k a = 0 then c * (t - g) / 365 else c * sp_usedBy M f k g t / sp_ally M f k a
set_option maxRecDepth 100000 in
set_option maxHeartbeats 4000000 in
theorem c_S_usedPartBetween (l : Launch) (X : am_X) (h : am_H) (nx : Nat) (x : Nat) (A : Nat → Prop) (P : Tg → Nat) (M : MS) (f c0 k0 a g t : Int) (hC : RepC X x A P M h) (hI : RI M) (hN : NI M) (hf : 0 ≤ f ∧ f < M 1 0) (ry : 0 ≤ a ∧ a ≤ 9) (rk : 0 ≤ k0 ∧ k0 ≤ 3) (rc : 0 ≤ c0 ∧ c0 ≤ 1000000001) (rg : 0 ≤ g ∧ g ≤ t) (rt : t ≤ 3650 ∧ t - g ≤ 365) : CnP l X y_S_usedPartBetween ({ frames := 4, cells := 0, slots := 0, locals := 97 }) [.ref (P (6, f)), lV c0, iV k0, iV a, iV g, iV t] h nx (lV (sp_upb M f c0 k0 a g t)) := by
  refine cn_of (k := 2) (L0 := [some (.ref (P (6, f))), some (lV c0), none, some (iV k0), some (iV a), some (iV g), some (iV t), none, none]) rfl wx_633 (Nat.le_of_ble_eq_true rfl) rfl (fun p e s m args below meth c F => ?_)
  have qb := sp_barred_r M f k0 a
  have qu := sp_usedBy_r (f := f) (k := k0) (g := 365 * a) (t := 365 * a + 365) hI.hme hI.hrd hI.hda hI.hva hI.hgo hI.hmo hI.hab hI.hte hI.hfo (by omega)
  have qv := sp_usedBy_r (f := f) (k := k0) (g := g) (t := t) hI.hme hI.hrd hI.hda hI.hva hI.hgo hI.hmo hI.hab hI.hte hI.hfo (by omega)
  refine v_aload_n (pc' := 1) (j := 0) F d_S_usedPartBetween_0 rfl rfl rfl ?_
  refine v_iload_n (pc' := 2) (j := 3) F d_S_usedPartBetween_1 rfl rfl rfl ?_
  refine v_iload (pc' := 4) F d_S_usedPartBetween_2 rfl rfl ?_
  refine v_callVP (pc' := 7) (C := zR_F) (T9 := zF_F) (N := 10) F d_S_usedPartBetween_4 rfl cal_F_whyBarred wx_539 wx_540 wx_541 rfl (hC.t_fl (i := f) hf) (c_F_whyBarred l X _ _ _ _ _ _ _ _ _ hC hI hN hf ry (by omega)) rfl ⟨by decide, by decide, by decide, by decide⟩ (Nat.le_of_ble_eq_true rfl) rfl rfl ?_
  refine v_if_ne (tgt := 50) (pc' := 10) F d_S_usedPartBetween_7 (by decide) rfl (by omega) (fun c7 => ?_) (fun c7 => ?_)
  · refine v_lload_n (pc' := 51) (j := 1) F d_S_usedPartBetween_50 rfl rfl rfl ?_
    refine v_iload (pc' := 53) F d_S_usedPartBetween_51 rfl rfl ?_
    refine v_iload (pc' := 55) F d_S_usedPartBetween_53 rfl rfl ?_
    refine v_isub (pc' := 56) F d_S_usedPartBetween_55 rfl ?_
    refine v_i2l (pc' := 57) F d_S_usedPartBetween_56 rfl (by omega) ?_
    refine v_ldc2 (pc' := 60) (z := 365) F d_S_usedPartBetween_57 rfl wx_630 (by decide) ?_
    refine v_callSP (pc' := 63) F d_S_usedPartBetween_60 rfl cal_S_portion wx_517 wx_518 (c_S_portion l X _ _ _ _ _ (by omega) (by omega) (by omega) (by omega)) rfl ⟨by decide, by decide, by decide, by decide⟩ (Nat.le_of_ble_eq_true rfl) rfl rfl ?_
    exact v_lreturn F d_S_usedPartBetween_63 rfl (Nat.le_refl _) (Nat.le_refl _) ⟨by unfold sp_upb; (first | rw [show sp_ally M f k0 a = 0 from (if_pos (by omega))] | rw [show sp_ally M f k0 a = sp_usedBy M f k0 (365 * a) (365 * a + 365) from if_neg (by omega)]); (first | rw [if_pos rfl] | rw [if_pos (by omega)] | rw [if_neg (by omega)]), rfl, rfl⟩
  · refine v_aload_n (pc' := 11) (j := 0) F d_S_usedPartBetween_10 rfl rfl rfl ?_
    refine v_iload_n (pc' := 12) (j := 3) F d_S_usedPartBetween_11 rfl rfl rfl ?_
    refine v_iload (pc' := 14) F d_S_usedPartBetween_12 rfl rfl ?_
    refine v_callSP (pc' := 17) F d_S_usedPartBetween_14 rfl cal_S_startOf wx_556 wx_551 (c_S_startOf l X _ _ _) rfl ⟨by decide, by decide, by decide, by decide⟩ (Nat.le_of_ble_eq_true rfl) rfl rfl ?_
    refine v_iload (pc' := 19) F d_S_usedPartBetween_17 rfl rfl ?_
    refine v_callSP (pc' := 22) F d_S_usedPartBetween_19 rfl cal_S_endOf wx_557 wx_554 (c_S_endOf l X _ _ _) rfl ⟨by decide, by decide, by decide, by decide⟩ (Nat.le_of_ble_eq_true rfl) rfl rfl ?_
    refine v_callVP (pc' := 25) (C := zR_F) (T9 := zF_F) (N := 10) F d_S_usedPartBetween_22 rfl cal_F_useBetween wx_558 wx_559 wx_560 rfl (hC.t_fl (i := f) hf) (c_F_useBetween l X _ _ _ _ _ _ _ _ _ _ hC hI hN hf (by omega) (by omega) (by omega)) rfl ⟨by decide, by decide, by decide, by decide⟩ (Nat.le_of_ble_eq_true rfl) rfl rfl ?_
    refine v_lstore_7 (pc' := 27) F d_S_usedPartBetween_25 rfl rfl (by decide) ?_
    refine v_lload (pc' := 29) F d_S_usedPartBetween_27 rfl rfl ?_
    refine v_lconst (pc' := 30) (z := 0) F d_S_usedPartBetween_29 rfl (by decide) ?_
    refine v_lc_le (tgt := 50) (pc' := 34) F d_S_usedPartBetween_30 d_S_usedPartBetween_31 (by decide) rfl (by omega) (by omega) (fun c30 => ?_) (fun c30 => ?_)
    · refine v_lload_n (pc' := 51) (j := 1) F d_S_usedPartBetween_50 rfl rfl rfl ?_
      refine v_iload (pc' := 53) F d_S_usedPartBetween_51 rfl rfl ?_
      refine v_iload (pc' := 55) F d_S_usedPartBetween_53 rfl rfl ?_
      refine v_isub (pc' := 56) F d_S_usedPartBetween_55 rfl ?_
      refine v_i2l (pc' := 57) F d_S_usedPartBetween_56 rfl (by omega) ?_
      refine v_ldc2 (pc' := 60) (z := 365) F d_S_usedPartBetween_57 rfl wx_630 (by decide) ?_
      refine v_callSP (pc' := 63) F d_S_usedPartBetween_60 rfl cal_S_portion wx_517 wx_518 (c_S_portion l X _ _ _ _ _ (by omega) (by omega) (by omega) (by omega)) rfl ⟨by decide, by decide, by decide, by decide⟩ (Nat.le_of_ble_eq_true rfl) rfl rfl ?_
      exact v_lreturn F d_S_usedPartBetween_63 rfl (Nat.le_refl _) (Nat.le_refl _) ⟨by unfold sp_upb; (first | rw [show sp_ally M f k0 a = 0 from (if_pos (by omega))] | rw [show sp_ally M f k0 a = sp_usedBy M f k0 (365 * a) (365 * a + 365) from if_neg (by omega)]); (first | rw [if_pos rfl] | rw [if_pos (by omega)] | rw [if_neg (by omega)]), rfl, rfl⟩
    · refine v_lload_n (pc' := 35) (j := 1) F d_S_usedPartBetween_34 rfl rfl rfl ?_
      refine v_aload_n (pc' := 36) (j := 0) F d_S_usedPartBetween_35 rfl rfl rfl ?_
      refine v_iload_n (pc' := 37) (j := 3) F d_S_usedPartBetween_36 rfl rfl rfl ?_
      refine v_iload (pc' := 39) F d_S_usedPartBetween_37 rfl rfl ?_
      refine v_iload (pc' := 41) F d_S_usedPartBetween_39 rfl rfl ?_
      refine v_callVP (pc' := 44) (C := zR_F) (T9 := zF_F) (N := 10) F d_S_usedPartBetween_41 rfl cal_F_useBetween wx_558 wx_559 wx_560 rfl (hC.t_fl (i := f) hf) (c_F_useBetween l X _ _ _ _ _ _ _ _ _ _ hC hI hN hf (by omega) (by omega) (by omega)) rfl ⟨by decide, by decide, by decide, by decide⟩ (Nat.le_of_ble_eq_true rfl) rfl rfl ?_
      refine v_lload (pc' := 46) F d_S_usedPartBetween_44 rfl rfl ?_
      refine v_callSP (pc' := 49) F d_S_usedPartBetween_46 rfl cal_S_portion wx_517 wx_518 (c_S_portion l X _ _ _ _ _ (by omega) (by omega) (by omega) (by omega)) rfl ⟨by decide, by decide, by decide, by decide⟩ (Nat.le_of_ble_eq_true rfl) rfl rfl ?_
      exact v_lreturn F d_S_usedPartBetween_49 rfl (Nat.le_refl _) (Nat.le_refl _) ⟨by unfold sp_upb; (first | rw [show sp_ally M f k0 a = 0 from (if_pos (by omega))] | rw [show sp_ally M f k0 a = sp_usedBy M f k0 (365 * a) (365 * a + 365) from if_neg (by omega)]); (first | rw [if_pos rfl] | rw [if_pos (by omega)] | rw [if_neg (by omega)]), rfl, rfl⟩
def sp_lo (M : MS) (f w a : Int) : Int := if M 5 (12 * f + w) < 365 * a then 365 * a else M 5 (12 * f + w)
def sp_hi (M : MS) (f w a : Int) : Int := if 365 * a + 365 < (if w + 1 < M 4 f then M 5 (12 * f + (w + 1)) else 3650) then 365 * a + 365 else (if w + 1 < M 4 f then M 5 (12 * f + (w + 1)) else 3650)
def sp_pbk (M : MS) (f w a k : Int) : Int := M 23 (4 * (20 * a + f) + k) * (sp_hi M f w a - sp_lo M f w a) / 365 + sp_upb M f (M 24 (4 * (20 * a + f) + k)) k a (sp_lo M f w a) (sp_hi M f w a)
def sp_pbf (M : MS) (f w a : Int) : Int := if sp_hi M f w a ≤ sp_lo M f w a then 0 else sp_pbk M f w a 0 + sp_pbk M f w a 1 + sp_pbk M f w a 2 + sp_pbk M f w a 3
theorem v_subS {p : Program} {l : Launch} {e : Env} {R : Room} {s : State} {m : MethodId} {args : Array Value} {below : List Frame} {meth : Method} {c : Code} {nL : Nat} {X : am_X} {Q : State → Prop} {h : am_H} {nx cells slots pc : Nat} {L : List (Option Value)} {st st' : List Value} (hs : st = st') (k : V p l e R s m args below meth c nL X Q h nx cells slots pc L st') : V p l e R s m args below meth c nL X Q h nx cells slots pc L st := by rw [hs]; exact k
theorem sp_lohi {M : MS} (hI : RI M) {f w a : Int} (hf : 0 ≤ f ∧ f < M 1 0) (ry : 0 ≤ a ∧ a ≤ 9) (hw : 0 ≤ w ∧ w < M 4 f) : (365 * a ≤ sp_lo M f w a ∧ sp_lo M f w a ≤ 3649) ∧ (0 ≤ sp_hi M f w a ∧ sp_hi M f w a ≤ 365 * a + 365) := by
  have q1 := hI.hlv f hf.1 hf.2
  have q0 := hI.hfl
  have q2 := hI.hsi (12 * f + w) (by omega) (by omega)
  have q3 : w + 1 < M 4 f → 0 ≤ M 5 (12 * f + (w + 1)) ∧ M 5 (12 * f + (w + 1)) ≤ 3649 := fun z => hI.hsi (12 * f + (w + 1)) (by omega) (by omega)
  unfold sp_lo sp_hi
  refine ⟨by split <;> omega, ?_⟩
  by_cases hq : w + 1 < M 4 f
  · have := q3 hq
    rw [if_pos hq]
    split <;> omega
  · rw [if_neg hq]
    split <;> omega
set_option maxRecDepth 100000 in
set_option maxHeartbeats 4000000 in
theorem c_S_partByFloors (l : Launch) (X : am_X) (h : am_H) (nx : Nat) (x : Nat) (A : Nat → Prop) (P : Tg → Nat) (M : MS) (f w a : Int) (hC : RepC X x A P M h) (hI : RI M) (hN : NI M) (hf : 0 ≤ f ∧ f < M 1 0) (ry : 0 ≤ a ∧ a ≤ 9) (hb : (0 ≤ 20 * a + f ∧ 20 * a + f < 200) ∧ (20 * a + f) % 20 < M 21 ((20 * a + f) / 20)) (hw : 0 ≤ w ∧ w < M 4 f) : CnP l X y_S_partByFloors ({ frames := 5, cells := 0, slots := 0, locals := 125 }) [.ref (P (6, f)), .ref (P (16, 20 * a + f)), iV w, iV a] h nx (lV (sp_pbf M f w a)) := by
  refine cn_of (k := 5) (L0 := [some (.ref (P (6, f))), some (.ref (P (16, 20 * a + f))), some (iV w), some (iV a), none, none, none, none, none]) rfl wx_622 (Nat.le_of_ble_eq_true rfl) rfl (fun p e s m args below meth c F => ?_)
  have q1 := hI.hlv f hf.1 hf.2
  have q0 := hI.hfl
  have q2 := hI.hsi (12 * f + w) (by omega) (by omega)
  have q3 : w + 1 < M 4 f → 0 ≤ M 5 (12 * f + (w + 1)) ∧ M 5 (12 * f + (w + 1)) ≤ 3649 := fun z => hI.hsi (12 * f + (w + 1)) (by omega) (by omega)
  have q4 := sp_lohi hI hf ry hw
  have qp0 := hI.hbp (4 * (20 * a + f) + (0)) (by omega) (by omega)
  have qp1 := hI.hbp (4 * (20 * a + f) + (0 + 1)) (by omega) (by omega)
  have qp2 := hI.hbp (4 * (20 * a + f) + (0 + 1 + 1)) (by omega) (by omega)
  have qp3 := hI.hbp (4 * (20 * a + f) + (0 + 1 + 1 + 1)) (by omega) (by omega)
  refine v_aload_n (pc' := 1) (j := 0) F d_S_partByFloors_0 rfl rfl rfl ?_
  refine v_iload_n (pc' := 2) (j := 2) F d_S_partByFloors_1 rfl rfl rfl ?_
  refine v_callVP (pc' := 5) (C := zR_F) (T9 := zF_F) (N := 10) F d_S_partByFloors_2 rfl cal_F_movedIn wx_623 wx_454 wx_455 rfl (hC.t_fl (i := f) hf) (c_F_movedIn l X _ _ _ _ _ _ _ _ hC hI.hfl hI.hlv hf (by omega)) rfl ⟨by decide, by decide, by decide, by decide⟩ (Nat.le_of_ble_eq_true rfl) rfl rfl ?_
  refine v_iload_n (pc' := 6) (j := 3) F d_S_partByFloors_5 rfl rfl rfl ?_
  refine v_callSP (pc' := 9) F d_S_partByFloors_6 rfl cal_S_startOf wx_556 wx_551 (c_S_startOf l X _ _ _) rfl ⟨by decide, by decide, by decide, by decide⟩ (Nat.le_of_ble_eq_true rfl) rfl rfl ?_
  refine v_subS (st' := [iV (365 * a), iV (M 5 (12 * f + w))]) (by rw [if_pos (by omega)]) ?_
  refine v_mmax (pc' := 12) F d_S_partByFloors_9 rfl wx_624 (by decide) (Nat.le_of_ble_eq_true rfl) (by decide) (by decide) (by omega) (by omega) ?_
  refine v_topi (b := sp_lo M f w a) rfl ?_
  refine v_istore_4 (pc' := 14) F d_S_partByFloors_12 rfl rfl (by decide) ?_
  refine v_aload_n (pc' := 15) (j := 0) F d_S_partByFloors_14 rfl rfl rfl ?_
  refine v_iload_n (pc' := 16) (j := 2) F d_S_partByFloors_15 rfl rfl rfl ?_
  refine v_callVP (pc' := 19) (C := zR_F) (T9 := zF_F) (N := 10) F d_S_partByFloors_16 rfl cal_F_movedOut wx_625 wx_626 wx_627 rfl (hC.t_fl (i := f) hf) (c_F_movedOut l X _ _ _ _ _ _ _ _ hC hI.hfl hI.hlv hf (by omega)) rfl ⟨by decide, by decide, by decide, by decide⟩ (Nat.le_of_ble_eq_true rfl) rfl rfl ?_
  refine v_iload_n (pc' := 20) (j := 3) F d_S_partByFloors_19 rfl rfl rfl ?_
  refine v_callSP (pc' := 23) F d_S_partByFloors_20 rfl cal_S_endOf wx_557 wx_554 (c_S_endOf l X _ _ _) rfl ⟨by decide, by decide, by decide, by decide⟩ (Nat.le_of_ble_eq_true rfl) rfl rfl ?_
  refine v_mmin (pc' := 26) F d_S_partByFloors_23 rfl wx_629 (by decide) (Nat.le_of_ble_eq_true rfl) (by decide) (by decide) (by omega) (by omega) ?_
  refine v_topi (b := sp_hi M f w a) rfl ?_
  refine v_istore_5 (pc' := 28) F d_S_partByFloors_26 rfl rfl (by decide) ?_
  refine v_iload (pc' := 30) F d_S_partByFloors_28 rfl rfl ?_
  refine v_iload (pc' := 32) F d_S_partByFloors_30 rfl rfl ?_
  refine v_icmp_gt (tgt := 37) (pc' := 35) F d_S_partByFloors_32 (by decide) rfl (by omega) (by omega) (fun c32 => ?_) (fun c32 => ?_)
  · refine v_lconst (pc' := 38) (z := 0) F d_S_partByFloors_37 rfl (by decide) ?_
    refine v_lstore_6 (pc' := 40) F d_S_partByFloors_38 rfl rfl (by decide) ?_
    refine v_iconst (pc' := 41) F d_S_partByFloors_40 rfl ?_
    refine v_istore_8 (pc' := 43) F d_S_partByFloors_41 rfl rfl (by decide) ?_
    refine v_iload (pc' := 45) F d_S_partByFloors_43 rfl rfl ?_
    refine v_iconst (pc' := 46) F d_S_partByFloors_45 rfl ?_
    refine v_icmp_ge (tgt := 102) (pc' := 49) F d_S_partByFloors_46 (by decide) rfl (by omega) (by omega) (fun c46 => by exfalso; omega) (fun c46 => ?_)
    refine v_lload (pc' := 51) F d_S_partByFloors_49 rfl rfl ?_
    refine v_aload_n (pc' := 52) (j := 1) F d_S_partByFloors_51 rfl rfl rfl ?_
    refine v_getf (pc' := 55) (C := zR_B) (T := zF_B) (N := 3) (ref := "BillShares$Bill") F d_S_partByFloors_52 rfl zi_B rfl 0 (by decide) wx_496 (Or.inl rfl) (hC.t_bl (i := (20 * a + f)) hb) rfl ?_
    refine v_iload (pc' := 57) F d_S_partByFloors_55 rfl rfl ?_
    refine cg_bb (pc' := 58) F hC (f := (20 * a + f)) hb d_S_partByFloors_57 rfl (by omega) (by omega) ?_
    refine v_iload (pc' := 60) F d_S_partByFloors_58 rfl rfl ?_
    refine v_iload (pc' := 62) F d_S_partByFloors_60 rfl rfl ?_
    refine v_isub (pc' := 63) F d_S_partByFloors_62 rfl ?_
    refine v_i2l (pc' := 64) F d_S_partByFloors_63 rfl (by omega) ?_
    refine v_ldc2 (pc' := 67) (z := 365) F d_S_partByFloors_64 rfl wx_630 (by decide) ?_
    refine v_callSP (pc' := 70) F d_S_partByFloors_67 rfl cal_S_portion wx_517 wx_518 (c_S_portion l X _ _ _ _ _ (by omega) (by omega) (by omega) (by omega)) rfl ⟨by decide, by decide, by decide, by decide⟩ (Nat.le_of_ble_eq_true rfl) rfl rfl ?_
    refine v_ladd (pc' := 71) F d_S_partByFloors_70 rfl ?_
    refine v_lstore_6 (pc' := 73) F d_S_partByFloors_71 rfl rfl (by decide) ?_
    refine v_lload (pc' := 75) F d_S_partByFloors_73 rfl rfl ?_
    refine v_aload_n (pc' := 76) (j := 0) F d_S_partByFloors_75 rfl rfl rfl ?_
    refine v_aload_n (pc' := 77) (j := 1) F d_S_partByFloors_76 rfl rfl rfl ?_
    refine v_getf (pc' := 80) (C := zR_B) (T := zF_B) (N := 3) (ref := "BillShares$Bill") F d_S_partByFloors_77 rfl zi_B rfl 1 (by decide) wx_498 (Or.inl rfl) (hC.t_bl (i := (20 * a + f)) hb) rfl ?_
    refine v_iload (pc' := 82) F d_S_partByFloors_80 rfl rfl ?_
    refine cg_bu (pc' := 83) F hC (f := (20 * a + f)) hb d_S_partByFloors_82 rfl (by omega) (by omega) ?_
    refine v_iload (pc' := 85) F d_S_partByFloors_83 rfl rfl ?_
    refine v_iload_n (pc' := 86) (j := 3) F d_S_partByFloors_85 rfl rfl rfl ?_
    refine v_iload (pc' := 88) F d_S_partByFloors_86 rfl rfl ?_
    refine v_iload (pc' := 90) F d_S_partByFloors_88 rfl rfl ?_
    refine v_callSP (pc' := 93) F d_S_partByFloors_90 rfl cal_S_usedPartBetween wx_631 wx_632 (c_S_usedPartBetween l X _ _ _ _ _ _ _ _ _ _ _ _ hC hI hN hf ry (by omega) (by omega) (by omega) (by omega)) rfl ⟨by decide, by decide, by decide, by decide⟩ (Nat.le_of_ble_eq_true rfl) rfl rfl ?_
    refine v_ladd (pc' := 94) F d_S_partByFloors_93 rfl ?_
    refine v_lstore_6 (pc' := 96) F d_S_partByFloors_94 rfl rfl (by decide) ?_
    refine v_iinc_8 (pc' := 99) F d_S_partByFloors_96 rfl rfl (by decide) ?_
    refine v_goto (tgt := 43) F d_S_partByFloors_99 (by decide) ?_
    refine v_iload (pc' := 45) F d_S_partByFloors_43 rfl rfl ?_
    refine v_iconst (pc' := 46) F d_S_partByFloors_45 rfl ?_
    refine v_icmp_ge (tgt := 102) (pc' := 49) F d_S_partByFloors_46 (by decide) rfl (by omega) (by omega) (fun c46 => by exfalso; omega) (fun c46 => ?_)
    refine v_lload (pc' := 51) F d_S_partByFloors_49 rfl rfl ?_
    refine v_aload_n (pc' := 52) (j := 1) F d_S_partByFloors_51 rfl rfl rfl ?_
    refine v_getf (pc' := 55) (C := zR_B) (T := zF_B) (N := 3) (ref := "BillShares$Bill") F d_S_partByFloors_52 rfl zi_B rfl 0 (by decide) wx_496 (Or.inl rfl) (hC.t_bl (i := (20 * a + f)) hb) rfl ?_
    refine v_iload (pc' := 57) F d_S_partByFloors_55 rfl rfl ?_
    refine cg_bb (pc' := 58) F hC (f := (20 * a + f)) hb d_S_partByFloors_57 rfl (by omega) (by omega) ?_
    refine v_iload (pc' := 60) F d_S_partByFloors_58 rfl rfl ?_
    refine v_iload (pc' := 62) F d_S_partByFloors_60 rfl rfl ?_
    refine v_isub (pc' := 63) F d_S_partByFloors_62 rfl ?_
    refine v_i2l (pc' := 64) F d_S_partByFloors_63 rfl (by omega) ?_
    refine v_ldc2 (pc' := 67) (z := 365) F d_S_partByFloors_64 rfl wx_630 (by decide) ?_
    refine v_callSP (pc' := 70) F d_S_partByFloors_67 rfl cal_S_portion wx_517 wx_518 (c_S_portion l X _ _ _ _ _ (by omega) (by omega) (by omega) (by omega)) rfl ⟨by decide, by decide, by decide, by decide⟩ (Nat.le_of_ble_eq_true rfl) rfl rfl ?_
    refine v_ladd (pc' := 71) F d_S_partByFloors_70 rfl ?_
    refine v_lstore_6 (pc' := 73) F d_S_partByFloors_71 rfl rfl (by decide) ?_
    refine v_lload (pc' := 75) F d_S_partByFloors_73 rfl rfl ?_
    refine v_aload_n (pc' := 76) (j := 0) F d_S_partByFloors_75 rfl rfl rfl ?_
    refine v_aload_n (pc' := 77) (j := 1) F d_S_partByFloors_76 rfl rfl rfl ?_
    refine v_getf (pc' := 80) (C := zR_B) (T := zF_B) (N := 3) (ref := "BillShares$Bill") F d_S_partByFloors_77 rfl zi_B rfl 1 (by decide) wx_498 (Or.inl rfl) (hC.t_bl (i := (20 * a + f)) hb) rfl ?_
    refine v_iload (pc' := 82) F d_S_partByFloors_80 rfl rfl ?_
    refine cg_bu (pc' := 83) F hC (f := (20 * a + f)) hb d_S_partByFloors_82 rfl (by omega) (by omega) ?_
    refine v_iload (pc' := 85) F d_S_partByFloors_83 rfl rfl ?_
    refine v_iload_n (pc' := 86) (j := 3) F d_S_partByFloors_85 rfl rfl rfl ?_
    refine v_iload (pc' := 88) F d_S_partByFloors_86 rfl rfl ?_
    refine v_iload (pc' := 90) F d_S_partByFloors_88 rfl rfl ?_
    refine v_callSP (pc' := 93) F d_S_partByFloors_90 rfl cal_S_usedPartBetween wx_631 wx_632 (c_S_usedPartBetween l X _ _ _ _ _ _ _ _ _ _ _ _ hC hI hN hf ry (by omega) (by omega) (by omega) (by omega)) rfl ⟨by decide, by decide, by decide, by decide⟩ (Nat.le_of_ble_eq_true rfl) rfl rfl ?_
    refine v_ladd (pc' := 94) F d_S_partByFloors_93 rfl ?_
    refine v_lstore_6 (pc' := 96) F d_S_partByFloors_94 rfl rfl (by decide) ?_
    refine v_iinc_8 (pc' := 99) F d_S_partByFloors_96 rfl rfl (by decide) ?_
    refine v_goto (tgt := 43) F d_S_partByFloors_99 (by decide) ?_
    refine v_iload (pc' := 45) F d_S_partByFloors_43 rfl rfl ?_
    refine v_iconst (pc' := 46) F d_S_partByFloors_45 rfl ?_
    refine v_icmp_ge (tgt := 102) (pc' := 49) F d_S_partByFloors_46 (by decide) rfl (by omega) (by omega) (fun c46 => by exfalso; omega) (fun c46 => ?_)
    refine v_lload (pc' := 51) F d_S_partByFloors_49 rfl rfl ?_
    refine v_aload_n (pc' := 52) (j := 1) F d_S_partByFloors_51 rfl rfl rfl ?_
    refine v_getf (pc' := 55) (C := zR_B) (T := zF_B) (N := 3) (ref := "BillShares$Bill") F d_S_partByFloors_52 rfl zi_B rfl 0 (by decide) wx_496 (Or.inl rfl) (hC.t_bl (i := (20 * a + f)) hb) rfl ?_
    refine v_iload (pc' := 57) F d_S_partByFloors_55 rfl rfl ?_
    refine cg_bb (pc' := 58) F hC (f := (20 * a + f)) hb d_S_partByFloors_57 rfl (by omega) (by omega) ?_
    refine v_iload (pc' := 60) F d_S_partByFloors_58 rfl rfl ?_
    refine v_iload (pc' := 62) F d_S_partByFloors_60 rfl rfl ?_
    refine v_isub (pc' := 63) F d_S_partByFloors_62 rfl ?_
    refine v_i2l (pc' := 64) F d_S_partByFloors_63 rfl (by omega) ?_
    refine v_ldc2 (pc' := 67) (z := 365) F d_S_partByFloors_64 rfl wx_630 (by decide) ?_
    refine v_callSP (pc' := 70) F d_S_partByFloors_67 rfl cal_S_portion wx_517 wx_518 (c_S_portion l X _ _ _ _ _ (by omega) (by omega) (by omega) (by omega)) rfl ⟨by decide, by decide, by decide, by decide⟩ (Nat.le_of_ble_eq_true rfl) rfl rfl ?_
    refine v_ladd (pc' := 71) F d_S_partByFloors_70 rfl ?_
    refine v_lstore_6 (pc' := 73) F d_S_partByFloors_71 rfl rfl (by decide) ?_
    refine v_lload (pc' := 75) F d_S_partByFloors_73 rfl rfl ?_
    refine v_aload_n (pc' := 76) (j := 0) F d_S_partByFloors_75 rfl rfl rfl ?_
    refine v_aload_n (pc' := 77) (j := 1) F d_S_partByFloors_76 rfl rfl rfl ?_
    refine v_getf (pc' := 80) (C := zR_B) (T := zF_B) (N := 3) (ref := "BillShares$Bill") F d_S_partByFloors_77 rfl zi_B rfl 1 (by decide) wx_498 (Or.inl rfl) (hC.t_bl (i := (20 * a + f)) hb) rfl ?_
    refine v_iload (pc' := 82) F d_S_partByFloors_80 rfl rfl ?_
    refine cg_bu (pc' := 83) F hC (f := (20 * a + f)) hb d_S_partByFloors_82 rfl (by omega) (by omega) ?_
    refine v_iload (pc' := 85) F d_S_partByFloors_83 rfl rfl ?_
    refine v_iload_n (pc' := 86) (j := 3) F d_S_partByFloors_85 rfl rfl rfl ?_
    refine v_iload (pc' := 88) F d_S_partByFloors_86 rfl rfl ?_
    refine v_iload (pc' := 90) F d_S_partByFloors_88 rfl rfl ?_
    refine v_callSP (pc' := 93) F d_S_partByFloors_90 rfl cal_S_usedPartBetween wx_631 wx_632 (c_S_usedPartBetween l X _ _ _ _ _ _ _ _ _ _ _ _ hC hI hN hf ry (by omega) (by omega) (by omega) (by omega)) rfl ⟨by decide, by decide, by decide, by decide⟩ (Nat.le_of_ble_eq_true rfl) rfl rfl ?_
    refine v_ladd (pc' := 94) F d_S_partByFloors_93 rfl ?_
    refine v_lstore_6 (pc' := 96) F d_S_partByFloors_94 rfl rfl (by decide) ?_
    refine v_iinc_8 (pc' := 99) F d_S_partByFloors_96 rfl rfl (by decide) ?_
    refine v_goto (tgt := 43) F d_S_partByFloors_99 (by decide) ?_
    refine v_iload (pc' := 45) F d_S_partByFloors_43 rfl rfl ?_
    refine v_iconst (pc' := 46) F d_S_partByFloors_45 rfl ?_
    refine v_icmp_ge (tgt := 102) (pc' := 49) F d_S_partByFloors_46 (by decide) rfl (by omega) (by omega) (fun c46 => by exfalso; omega) (fun c46 => ?_)
    refine v_lload (pc' := 51) F d_S_partByFloors_49 rfl rfl ?_
    refine v_aload_n (pc' := 52) (j := 1) F d_S_partByFloors_51 rfl rfl rfl ?_
    refine v_getf (pc' := 55) (C := zR_B) (T := zF_B) (N := 3) (ref := "BillShares$Bill") F d_S_partByFloors_52 rfl zi_B rfl 0 (by decide) wx_496 (Or.inl rfl) (hC.t_bl (i := (20 * a + f)) hb) rfl ?_
    refine v_iload (pc' := 57) F d_S_partByFloors_55 rfl rfl ?_
    refine cg_bb (pc' := 58) F hC (f := (20 * a + f)) hb d_S_partByFloors_57 rfl (by omega) (by omega) ?_
    refine v_iload (pc' := 60) F d_S_partByFloors_58 rfl rfl ?_
    refine v_iload (pc' := 62) F d_S_partByFloors_60 rfl rfl ?_
    refine v_isub (pc' := 63) F d_S_partByFloors_62 rfl ?_
    refine v_i2l (pc' := 64) F d_S_partByFloors_63 rfl (by omega) ?_
    refine v_ldc2 (pc' := 67) (z := 365) F d_S_partByFloors_64 rfl wx_630 (by decide) ?_
    refine v_callSP (pc' := 70) F d_S_partByFloors_67 rfl cal_S_portion wx_517 wx_518 (c_S_portion l X _ _ _ _ _ (by omega) (by omega) (by omega) (by omega)) rfl ⟨by decide, by decide, by decide, by decide⟩ (Nat.le_of_ble_eq_true rfl) rfl rfl ?_
    refine v_ladd (pc' := 71) F d_S_partByFloors_70 rfl ?_
    refine v_lstore_6 (pc' := 73) F d_S_partByFloors_71 rfl rfl (by decide) ?_
    refine v_lload (pc' := 75) F d_S_partByFloors_73 rfl rfl ?_
    refine v_aload_n (pc' := 76) (j := 0) F d_S_partByFloors_75 rfl rfl rfl ?_
    refine v_aload_n (pc' := 77) (j := 1) F d_S_partByFloors_76 rfl rfl rfl ?_
    refine v_getf (pc' := 80) (C := zR_B) (T := zF_B) (N := 3) (ref := "BillShares$Bill") F d_S_partByFloors_77 rfl zi_B rfl 1 (by decide) wx_498 (Or.inl rfl) (hC.t_bl (i := (20 * a + f)) hb) rfl ?_
    refine v_iload (pc' := 82) F d_S_partByFloors_80 rfl rfl ?_
    refine cg_bu (pc' := 83) F hC (f := (20 * a + f)) hb d_S_partByFloors_82 rfl (by omega) (by omega) ?_
    refine v_iload (pc' := 85) F d_S_partByFloors_83 rfl rfl ?_
    refine v_iload_n (pc' := 86) (j := 3) F d_S_partByFloors_85 rfl rfl rfl ?_
    refine v_iload (pc' := 88) F d_S_partByFloors_86 rfl rfl ?_
    refine v_iload (pc' := 90) F d_S_partByFloors_88 rfl rfl ?_
    refine v_callSP (pc' := 93) F d_S_partByFloors_90 rfl cal_S_usedPartBetween wx_631 wx_632 (c_S_usedPartBetween l X _ _ _ _ _ _ _ _ _ _ _ _ hC hI hN hf ry (by omega) (by omega) (by omega) (by omega)) rfl ⟨by decide, by decide, by decide, by decide⟩ (Nat.le_of_ble_eq_true rfl) rfl rfl ?_
    refine v_ladd (pc' := 94) F d_S_partByFloors_93 rfl ?_
    refine v_lstore_6 (pc' := 96) F d_S_partByFloors_94 rfl rfl (by decide) ?_
    refine v_iinc_8 (pc' := 99) F d_S_partByFloors_96 rfl rfl (by decide) ?_
    refine v_goto (tgt := 43) F d_S_partByFloors_99 (by decide) ?_
    refine v_iload (pc' := 45) F d_S_partByFloors_43 rfl rfl ?_
    refine v_iconst (pc' := 46) F d_S_partByFloors_45 rfl ?_
    refine v_icmp_ge (tgt := 102) (pc' := 49) F d_S_partByFloors_46 (by decide) rfl (by omega) (by omega) (fun c46 => ?_) (fun c46 => by exfalso; omega)
    refine v_lload (pc' := 104) F d_S_partByFloors_102 rfl rfl ?_
    exact v_lreturn F d_S_partByFloors_104 rfl (Nat.le_refl _) (Nat.le_refl _) ⟨by unfold sp_pbf; rw [if_neg (by omega)]; unfold sp_pbk; simp only [Int.zero_add, Int.reduceAdd, Int.add_assoc], rfl, rfl⟩
  · refine v_lconst (pc' := 36) (z := 0) F d_S_partByFloors_35 rfl (by decide) ?_
    exact v_lreturn F d_S_partByFloors_36 rfl (Nat.le_refl _) (Nat.le_refl _) ⟨by unfold sp_pbf; rw [if_pos (by omega)], rfl, rfl⟩
/-- returns r where the code is 0, else throws a new object of the class that the code names -/
def kpost (code : Int) (r : Option Value) (h : am_H) (nx : Nat) : Outcome → am_H → Nat → Prop := fun o h' nx' => (code = 0 ∧ o = .returned r ∧ h' = h ∧ nx' = nx) ∨ (code ≠ 0 ∧ ∃ fs : List Value, o = .threw nx ∧ h' = am_up h nx (.inr ((5 + code).toNat, fs)) ∧ nx' = nx + 1)
theorem kpost.thr {code k : Int} {r : Option Value} {h : am_H} {nx : Nat} {fs : List Value} (hc : code = k) (hk : k ≠ 0) : kpost code r h nx (.threw nx) (am_up h nx (.inr ((5 + k).toNat, fs))) (nx + 1) := by
  subst hc
  exact Or.inr ⟨hk, fs, rfl, rfl, rfl⟩
theorem v_topv {p : Program} {l : Launch} {e : Env} {R : Room} {s : State} {m : MethodId} {args : Array Value} {below : List Frame} {meth : Method} {c : Code} {nL : Nat} {X : am_X} {Q : State → Prop} {h : am_H} {nx cells slots pc : Nat} {L : List (Option Value)} {st : List Value} {a b : Value} (hab : a = b) (k : V p l e R s m args below meth c nL X Q h nx cells slots pc L (b :: st)) : V p l e R s m args below meth c nL X Q h nx cells slots pc L (a :: st) := by rw [hab]; exact k
section NUL
variable {p : Program} {l : Launch} {e : Env} {R : Room} {s : State} {m : MethodId} {args : Array Value} {below : List Frame} {meth : Method} {c : Code} {nL : Nat} {X : am_X} {Q : State → Prop}
variable {cc : ByteArray} {y : MethodName} {ret : Option FieldType} {et : List (Nat × Nat × Nat × Nat)} {h : am_H} {nx cells slots pc pc' : Nat} {L : List (Option Value)} {st : List Value}
theorem v_aload_nN (F : am_Fx p s m args meth c y cc nL ret et X) {i : Fin 4} {j : Nat} (d : decode cc pc = .ok (.aload_n i, 1)) (hp : pc + 1 = pc') (hi : (i : Nat) = j) (hv : L[j]? = some (some .null)) (k : V p l e R s m args below meth c nL X Q h nx cells slots pc' L (.null :: st)) : V p l e R s m args below meth c nL X Q h nx cells slots pc L st := by
  subst hp
  intro H locs ls hR hL hl
  exact lv_aload_nN F.1 F.2.1 d hi (hl.2.2 _ _ hv) (k H locs ls hR hL hl)
theorem v_astoreN_3 (F : am_Fx p s m args meth c y cc nL ret et X) {x0 x1 x2 x3 : Option Value} {T : List (Option Value)} (d : decode cc pc = .ok (.astore_n 3, 1)) (hp : pc + 1 = pc') (hn : am_nl (x0 :: x1 :: x2 :: x3 :: T) 3 = true) (hb : 3 < nL) (k : V p l e R s m args below meth c nL X Q h nx cells slots pc' (x0 :: x1 :: x2 :: some .null :: T) st) : V p l e R s m args below meth c nL X Q h nx cells slots pc (x0 :: x1 :: x2 :: x3 :: T) (.null :: st) := by
  subst hp
  intro H locs ls hR hL hl
  obtain ⟨ls', e', h'⟩ := am_store1 (v := .null) hl hb rfl hn
  intro T hT X
  obtain ⟨t, a, b⟩ := k H locs ls' hR hL h' T hT X
  refine ⟨t, ?_, b⟩
  jvm_step X.here [X.here.top, ↓top_set X.here.top, F.1, F.2.1, d, e', Value.isRef]
  exact a
end NUL
def sp_lb (M : MS) (f a : Int) : Int := if 0 ≤ a ∧ a ≤ 9 then (if M 20 a = 0 then 2 else if f < M 21 a then 0 else 1) else 1
theorem sp_lb_r (M : MS) (f a : Int) : sp_lb M f a = 0 ∨ sp_lb M f a = 1 ∨ sp_lb M f a = 2 := by
  unfold sp_lb
  (repeat' split) <;> simp
theorem sp_lb_0 {M : MS} {f a : Int} (h : sp_lb M f a = 0) : (0 ≤ a ∧ a ≤ 9) ∧ ¬ M 20 a = 0 ∧ f < M 21 a := by
  unfold sp_lb at h
  (repeat' split at h) <;> omega
set_option maxRecDepth 100000 in
set_option maxHeartbeats 4000000 in
theorem c_S_latestBill (l : Launch) (X : am_X) (h : am_H) (nx : Nat) (x : Nat) (A : Nat → Prop) (P : Tg → Nat) (M : MS) (f a : Int) (ht : l.flags = pinnedFlags ++ [noTraceFlag]) (hC : RepC X x A P M h) (hI : RI M) (hN : NI M) (hf : 0 ≤ f ∧ f < M 1 0) (ra : -2147483648 ≤ a ∧ a < 2147483648) : Cn l X y_S_latestBill ({ frames := 8, cells := 2, slots := 12, locals := 134 }) [.ref (P (0, 0)), .ref (P (6, f)), iV a] h nx (kpost (sp_lb M f a) (some (.ref (P (16, 20 * a + f)))) h nx) := by
  refine cn_of (k := 1) (L0 := [some (.ref (P (0, 0))), some (.ref (P (6, f))), some (iV a), none]) rfl wx_598 (Nat.le_of_ble_eq_true rfl) rfl (fun p e s m args below meth c F => ?_)
  have q0 := hI.hfl
  by_cases hq : f < M 21 a
  · refine v_iload_n (pc' := 1) (j := 2) F d_S_latestBill_0 rfl rfl rfl ?_
    refine v_callSR (pc' := 4) F d_S_latestBill_1 rfl cal_S_checkYear wx_431 wx_432 (c_S_checkYear l X _ _ _ ht (by omega)) rfl ⟨by decide, by decide, by decide, by decide⟩ (Nat.le_of_ble_eq_true rfl) (fun n1 fs9 => ?_) (fun a1 => ?_)
    · exact v_out F (by decide) (by decide) (kpost.thr (k := 1) (by unfold sp_lb; (repeat' split) <;> omega) (by decide))
    refine v_aload_n (pc' := 5) (j := 0) F d_S_latestBill_4 rfl rfl rfl ?_
    refine v_getf (pc' := 8) (C := zR_S) (T := zF_S) (N := 6) (ref := "BillShares") F d_S_latestBill_5 rfl zi_S rfl 5 (by decide) wx_62 (Or.inl rfl) (hC.t_top) rfl ?_
    refine v_iload_n (pc' := 9) (j := 2) F d_S_latestBill_8 rfl rfl rfl ?_
    refine cg_eds (pc' := 10) F hC d_S_latestBill_9 rfl (by omega) (by omega) ?_
    have q1 := hI.hed a (by omega) (by omega)
    refine v_if_ne (tgt := 23) (pc' := 13) F d_S_latestBill_10 (by decide) rfl (by omega) (fun c10 => ?_) (fun c10 => ?_)
    · refine v_aload_n (pc' := 24) (j := 1) F d_S_latestBill_23 rfl rfl rfl ?_
      refine v_getf (pc' := 27) (C := zR_F) (T := zF_F) (N := 10) (ref := "BillShares$Flat") F d_S_latestBill_24 rfl zi_F rfl 6 (by decide) wx_198 (Or.inl rfl) (hC.t_fl (i := f) hf) rfl ?_
      refine v_iload_n (pc' := 28) (j := 2) F d_S_latestBill_27 rfl rfl rfl ?_
      refine cg_bs (pc' := 29) F hC (f := f) hf d_S_latestBill_28 rfl (by omega) (by omega) ?_
      refine v_topv (if_pos hq) ?_
      refine v_astore_3 (pc' := 30) F d_S_latestBill_29 rfl rfl (by decide) ?_
      refine v_aload_n (pc' := 31) (j := 3) F d_S_latestBill_30 rfl rfl rfl ?_
      refine v_ifnonnull (tgt := 44) F d_S_latestBill_31 (by decide) ?_
      refine v_aload_n (pc' := 45) (j := 3) F d_S_latestBill_44 rfl rfl rfl ?_
      exact v_areturn F d_S_latestBill_45 rfl (Or.inl ⟨_, rfl⟩) (Or.inr ⟨_, rfl⟩) (by decide) (by decide) (Or.inl ⟨by unfold sp_lb; (repeat' split) <;> omega, rfl, rfl, rfl⟩)
    · refine v_newE (pc' := 22) (C := zR_IS) (T9 := zF_IS) (ci := 7) F ht am_exIS rfl wx_160 wx_161 wx_11 zi_IS wx_599 d_S_latestBill_13 d_S_latestBill_16 d_S_latestBill_17 d_S_latestBill_19 rfl (by decide) (by decide) (by decide) (Nat.le_of_ble_eq_true rfl) (fun fs9 => ?_)
      refine v_athrow F d_S_latestBill_22 ?_
      exact v_out F (by decide) (by decide) (kpost.thr (k := 2) (by unfold sp_lb; (repeat' split) <;> omega) (by decide))
  · refine v_iload_n (pc' := 1) (j := 2) F d_S_latestBill_0 rfl rfl rfl ?_
    refine v_callSR (pc' := 4) F d_S_latestBill_1 rfl cal_S_checkYear wx_431 wx_432 (c_S_checkYear l X _ _ _ ht (by omega)) rfl ⟨by decide, by decide, by decide, by decide⟩ (Nat.le_of_ble_eq_true rfl) (fun n1 fs9 => ?_) (fun a1 => ?_)
    · exact v_out F (by decide) (by decide) (kpost.thr (k := 1) (by unfold sp_lb; (repeat' split) <;> omega) (by decide))
    refine v_aload_n (pc' := 5) (j := 0) F d_S_latestBill_4 rfl rfl rfl ?_
    refine v_getf (pc' := 8) (C := zR_S) (T := zF_S) (N := 6) (ref := "BillShares") F d_S_latestBill_5 rfl zi_S rfl 5 (by decide) wx_62 (Or.inl rfl) (hC.t_top) rfl ?_
    refine v_iload_n (pc' := 9) (j := 2) F d_S_latestBill_8 rfl rfl rfl ?_
    refine cg_eds (pc' := 10) F hC d_S_latestBill_9 rfl (by omega) (by omega) ?_
    have q1 := hI.hed a (by omega) (by omega)
    refine v_if_ne (tgt := 23) (pc' := 13) F d_S_latestBill_10 (by decide) rfl (by omega) (fun c10 => ?_) (fun c10 => ?_)
    · refine v_aload_n (pc' := 24) (j := 1) F d_S_latestBill_23 rfl rfl rfl ?_
      refine v_getf (pc' := 27) (C := zR_F) (T := zF_F) (N := 10) (ref := "BillShares$Flat") F d_S_latestBill_24 rfl zi_F rfl 6 (by decide) wx_198 (Or.inl rfl) (hC.t_fl (i := f) hf) rfl ?_
      refine v_iload_n (pc' := 28) (j := 2) F d_S_latestBill_27 rfl rfl rfl ?_
      refine cg_bs (pc' := 29) F hC (f := f) hf d_S_latestBill_28 rfl (by omega) (by omega) ?_
      refine v_topv (if_neg hq) ?_
      refine v_astoreN_3 (pc' := 30) F d_S_latestBill_29 rfl rfl (by decide) ?_
      refine v_aload_nN (pc' := 31) (j := 3) F d_S_latestBill_30 rfl rfl rfl ?_
      refine v_ifnonnullN (pc' := 34) F d_S_latestBill_31 rfl ?_
      refine v_newE (pc' := 43) (C := zR_IA) (T9 := zF_IA) (ci := 6) F ht am_exIA rfl wx_89 wx_90 wx_10 zi_IA wx_600 d_S_latestBill_34 d_S_latestBill_37 d_S_latestBill_38 d_S_latestBill_40 rfl (by decide) (by decide) (by decide) (Nat.le_of_ble_eq_true rfl) (fun fs9 => ?_)
      refine v_athrow F d_S_latestBill_43 ?_
      exact v_out F (by decide) (by decide) (kpost.thr (k := 1) (by unfold sp_lb; (repeat' split) <;> omega) (by decide))
    · refine v_newE (pc' := 22) (C := zR_IS) (T9 := zF_IS) (ci := 7) F ht am_exIS rfl wx_160 wx_161 wx_11 zi_IS wx_599 d_S_latestBill_13 d_S_latestBill_16 d_S_latestBill_17 d_S_latestBill_19 rfl (by decide) (by decide) (by decide) (Nat.le_of_ble_eq_true rfl) (fun fs9 => ?_)
      refine v_athrow F d_S_latestBill_22 ?_
      exact v_out F (by decide) (by decide) (kpost.thr (k := 2) (by unfold sp_lb; (repeat' split) <;> omega) (by decide))
