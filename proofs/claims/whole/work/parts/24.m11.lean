/-! bounds of uses; byUses of the reference (written by wip/whole/mm11.py) -/
theorem sp_cl_m {g t a b : Int} (h : g ≤ t) (hab : a ≤ b) : sp_cl g a b ≤ sp_cl t a b := by
  unfold sp_cl
  split <;> split <;> (try split) <;> (try split) <;> omega
theorem sp_pt_m {D V G : Int → Int} {lo hi g t : Int} (h : g ≤ t) (h1 : D lo < D hi) (h2 : 0 ≤ V hi - G lo) : sp_pt D V G lo hi g ≤ sp_pt D V G lo hi t := by
  have hc1 := sp_cl_r (d := g) (Int.le_of_lt h1)
  have hc2 := sp_cl_r (d := t) (Int.le_of_lt h1)
  have hm := sp_cl_m h (Int.le_of_lt h1)
  unfold sp_pt
  have e1 : 0 ≤ (V hi - G lo) * (sp_cl g (D lo) (D hi) - D lo) := Int.mul_nonneg h2 (by omega)
  have e2 : 0 ≤ (V hi - G lo) * (sp_cl t (D lo) (D hi) - D lo) := Int.mul_nonneg h2 (by omega)
  rw [Int.tdiv_eq_ediv_of_nonneg e1, Int.tdiv_eq_ediv_of_nonneg e2]
  exact Int.ediv_le_ediv (by omega) (Int.mul_le_mul_of_nonneg_left (by omega) h2)
theorem sp_told_n {D V G : Int → Int} {f g t : Int} (hgt : g ≤ t) : ∀ {n : Nat}, (∀ k : Nat, k < n → D (40 * f + (k : Int)) < D (40 * f + 1 + (k : Int)) ∧ 0 ≤ V (40 * f + 1 + (k : Int)) - G (40 * f + (k : Int))) → 0 ≤ sp_told D V G f g t n
  | 0, _ => by simp [sp_told]
  | n + 1, h => by
    have ih := sp_told_n (D := D) (V := V) (G := G) (f := f) hgt (n := n) (fun k hk => h k (by omega))
    have hn := h n (by omega)
    have p1 := sp_pt_m hgt hn.1 hn.2
    unfold sp_told
    omega
theorem sp_use_r {M : MS} {f g t : Int} (hme : 0 ≤ M 7 0 ∧ M 7 0 ≤ 60) (hrd : ∀ f : Int, 0 ≤ f → f < M 7 0 → 0 ≤ M 13 f ∧ M 13 f ≤ 40) (hda : ∀ i : Int, 0 ≤ i → i < 2400 → 0 ≤ M 14 i ∧ M 14 i ≤ 3649) (hva : ∀ i : Int, 0 ≤ i → i < 2400 → 0 ≤ M 15 i ∧ M 15 i ≤ 10000000) (hgo : ∀ i : Int, 0 ≤ i → i < 2400 → 0 ≤ M 16 i ∧ M 16 i ≤ 10000000) (hmo : ∀ f k : Int, 0 ≤ f → f < M 7 0 → 0 ≤ k → k + 1 < M 13 f → M 14 (40 * f + k) < M 14 (40 * f + 1 + k) ∧ M 16 (40 * f + k) ≤ M 15 (40 * f + 1 + k)) (hab : ∀ f : Int, 0 ≤ f → f < M 7 0 → (1 ≤ M 10 f ∧ M 10 f ≤ 1000) ∧ (1 ≤ M 11 f ∧ M 11 f ≤ 1000)) (hte : ∀ i : Int, 0 ≤ i → i < 60 → 0 ≤ M 12 i ∧ M 12 i ≤ 3649) (hfo : ∀ i : Int, 0 ≤ i → i < 60 → (0 ≤ M 8 i ∧ M 8 i ≤ 20) ∧ (0 ≤ M 9 i ∧ M 9 i ≤ 3)) (hf : 0 ≤ f ∧ f < M 7 0) (hgt : g ≤ t) : 0 ≤ sp_use M f g t ∧ sp_use M f g t ≤ 390000000000 := by
  have q1 := hrd f hf.1 hf.2
  have q2 := hab f hf.1 hf.2
  have q3 := sp_told_r (D := M 14) (V := M 15) (G := M 16) (f := f) (g := g) (t := t) (n := (M 13 f - 1).toNat) (fun k hk => by
    have z1 := hmo f (k : Int) hf.1 hf.2 (by omega) (by omega)
    have z2 := hva (40 * f + 1 + (k : Int)) (by omega) (by omega)
    have z3 := hgo (40 * f + (k : Int)) (by omega) (by omega)
    omega)
  have q4 := sp_told_n (D := M 14) (V := M 15) (G := M 16) (f := f) hgt (n := (M 13 f - 1).toNat) (fun k hk => by
    have z1 := hmo f (k : Int) hf.1 hf.2 (by omega) (by omega)
    omega)
  have q5 := am_mul_r (x := sp_told (M 14) (M 15) (M 16) f g t (M 13 f - 1).toNat) (y := M 10 f) (a := 390000000) (b := 1000) (by omega) (by omega) (by omega)
  have q6 : 0 ≤ sp_told (M 14) (M 15) (M 16) f g t (M 13 f - 1).toNat * M 10 f := Int.mul_nonneg q4 (by omega)
  unfold sp_use
  rw [Int.tdiv_eq_ediv_of_nonneg q6]
  refine ⟨Int.ediv_nonneg q6 (by omega), ?_⟩
  refine Int.le_trans (Int.ediv_le_self _ q6) (by omega)
theorem sp_used_r {F K U : Int → Int} {f k b : Int} (hb : 0 ≤ b) : ∀ {n : Nat}, (∀ i : Nat, i < n → 0 ≤ U (i : Int) ∧ U (i : Int) ≤ b) → 0 ≤ sp_used F K U f k n ∧ sp_used F K U f k n ≤ b * (n : Int)
  | 0, _ => by simp [sp_used]
  | n + 1, h => by
    have ih := sp_used_r (F := F) (K := K) (U := U) (f := f) (k := k) hb (n := n) (fun i hi => h i (by omega))
    have hn := h n (by omega)
    have e2 : b * ((n + 1 : Nat) : Int) = b * (n : Int) + b := by rw [Int.natCast_succ, Int.mul_add, Int.mul_one]
    unfold sp_used
    split <;> omega
theorem sp_usedBy_r {M : MS} {f k g t : Int} (hme : 0 ≤ M 7 0 ∧ M 7 0 ≤ 60) (hrd : ∀ f : Int, 0 ≤ f → f < M 7 0 → 0 ≤ M 13 f ∧ M 13 f ≤ 40) (hda : ∀ i : Int, 0 ≤ i → i < 2400 → 0 ≤ M 14 i ∧ M 14 i ≤ 3649) (hva : ∀ i : Int, 0 ≤ i → i < 2400 → 0 ≤ M 15 i ∧ M 15 i ≤ 10000000) (hgo : ∀ i : Int, 0 ≤ i → i < 2400 → 0 ≤ M 16 i ∧ M 16 i ≤ 10000000) (hmo : ∀ f k : Int, 0 ≤ f → f < M 7 0 → 0 ≤ k → k + 1 < M 13 f → M 14 (40 * f + k) < M 14 (40 * f + 1 + k) ∧ M 16 (40 * f + k) ≤ M 15 (40 * f + 1 + k)) (hab : ∀ f : Int, 0 ≤ f → f < M 7 0 → (1 ≤ M 10 f ∧ M 10 f ≤ 1000) ∧ (1 ≤ M 11 f ∧ M 11 f ≤ 1000)) (hte : ∀ i : Int, 0 ≤ i → i < 60 → 0 ≤ M 12 i ∧ M 12 i ≤ 3649) (hfo : ∀ i : Int, 0 ≤ i → i < 60 → (0 ≤ M 8 i ∧ M 8 i ≤ 20) ∧ (0 ≤ M 9 i ∧ M 9 i ≤ 3)) (hgt : g ≤ t) : 0 ≤ sp_usedBy M f k g t ∧ sp_usedBy M f k g t ≤ 23400000000000 := by
  have h := sp_used_r (F := M 8) (K := M 9) (U := fun i => sp_use M i g t) (f := f) (k := k) (b := 390000000000) (by omega) (n := (M 7 0).toNat) (fun i hi => sp_use_r hme hrd hda hva hgo hmo hab hte hfo (by omega) hgt)
  unfold sp_usedBy
  omega
def sp_u1 (M : MS) (k a f : Int) : Int := if sp_barred M f k a = 0 then sp_usedBy M f k (365 * a) (365 * a + 365) else 0
def sp_ua (M : MS) (k a f : Int) : Int := if sp_barred M f k a = 0 then M 2 f else 0
def sp_usum (M : MS) (k a : Int) : Int := sumI (sp_u1 M k a) (M 1 0).toNat
def sp_uar (M : MS) (k a : Int) : Int := sumI (sp_ua M k a) (M 1 0).toNat
def sp_u2 (M : MS) (k a f : Int) : Int := if 0 < sp_barred M f k a ∧ 0 < sp_uar M k a then sp_usum M k a * M 2 f / sp_uar M k a else sp_u1 M k a f
def sp_num (M : MS) (k a f : Int) : Int := if sp_usum M k a = 0 then M 2 f else sp_u2 M k a f
theorem sp_u1_r {M : MS} {k a f : Int} (hme : 0 ≤ M 7 0 ∧ M 7 0 ≤ 60) (hrd : ∀ f : Int, 0 ≤ f → f < M 7 0 → 0 ≤ M 13 f ∧ M 13 f ≤ 40) (hda : ∀ i : Int, 0 ≤ i → i < 2400 → 0 ≤ M 14 i ∧ M 14 i ≤ 3649) (hva : ∀ i : Int, 0 ≤ i → i < 2400 → 0 ≤ M 15 i ∧ M 15 i ≤ 10000000) (hgo : ∀ i : Int, 0 ≤ i → i < 2400 → 0 ≤ M 16 i ∧ M 16 i ≤ 10000000) (hmo : ∀ f k : Int, 0 ≤ f → f < M 7 0 → 0 ≤ k → k + 1 < M 13 f → M 14 (40 * f + k) < M 14 (40 * f + 1 + k) ∧ M 16 (40 * f + k) ≤ M 15 (40 * f + 1 + k)) (hab : ∀ f : Int, 0 ≤ f → f < M 7 0 → (1 ≤ M 10 f ∧ M 10 f ≤ 1000) ∧ (1 ≤ M 11 f ∧ M 11 f ≤ 1000)) (hte : ∀ i : Int, 0 ≤ i → i < 60 → 0 ≤ M 12 i ∧ M 12 i ≤ 3649) (hfo : ∀ i : Int, 0 ≤ i → i < 60 → (0 ≤ M 8 i ∧ M 8 i ≤ 20) ∧ (0 ≤ M 9 i ∧ M 9 i ≤ 3)) (ry : 0 ≤ a ∧ a ≤ 9) : 0 ≤ sp_u1 M k a f ∧ sp_u1 M k a f ≤ 23400000000000 := by
  have q := sp_usedBy_r (f := f) (k := k) (g := 365 * a) (t := 365 * a + 365) hme hrd hda hva hgo hmo hab hte hfo (by omega)
  unfold sp_u1
  split <;> omega
theorem sp_usum_r {M : MS} {k a : Int} (hfl : 0 ≤ M 1 0 ∧ M 1 0 ≤ 20) (hme : 0 ≤ M 7 0 ∧ M 7 0 ≤ 60) (hrd : ∀ f : Int, 0 ≤ f → f < M 7 0 → 0 ≤ M 13 f ∧ M 13 f ≤ 40) (hda : ∀ i : Int, 0 ≤ i → i < 2400 → 0 ≤ M 14 i ∧ M 14 i ≤ 3649) (hva : ∀ i : Int, 0 ≤ i → i < 2400 → 0 ≤ M 15 i ∧ M 15 i ≤ 10000000) (hgo : ∀ i : Int, 0 ≤ i → i < 2400 → 0 ≤ M 16 i ∧ M 16 i ≤ 10000000) (hmo : ∀ f k : Int, 0 ≤ f → f < M 7 0 → 0 ≤ k → k + 1 < M 13 f → M 14 (40 * f + k) < M 14 (40 * f + 1 + k) ∧ M 16 (40 * f + k) ≤ M 15 (40 * f + 1 + k)) (hab : ∀ f : Int, 0 ≤ f → f < M 7 0 → (1 ≤ M 10 f ∧ M 10 f ≤ 1000) ∧ (1 ≤ M 11 f ∧ M 11 f ≤ 1000)) (hte : ∀ i : Int, 0 ≤ i → i < 60 → 0 ≤ M 12 i ∧ M 12 i ≤ 3649) (hfo : ∀ i : Int, 0 ≤ i → i < 60 → (0 ≤ M 8 i ∧ M 8 i ≤ 20) ∧ (0 ≤ M 9 i ∧ M 9 i ≤ 3)) (ry : 0 ≤ a ∧ a ≤ 9) : 0 ≤ sp_usum M k a ∧ sp_usum M k a ≤ 468000000000000 := by
  have q := sumI_r (g := sp_u1 M k a) (a := 0) (b := 23400000000000) (n := (M 1 0).toNat) (fun i _ => sp_u1_r hme hrd hda hva hgo hmo hab hte hfo ry)
  unfold sp_usum
  omega
theorem sp_uar_r {M : MS} {k a : Int} (hfl : 0 ≤ M 1 0 ∧ M 1 0 ≤ 20) (har : ∀ i : Int, 0 ≤ i → i < 20 → 0 ≤ M 2 i ∧ M 2 i ≤ 1000) : 0 ≤ sp_uar M k a ∧ sp_uar M k a ≤ 20000 := by
  have q := sumI_r (g := sp_ua M k a) (a := 0) (b := 1000) (n := (M 1 0).toNat) (fun i hi => by
    have z := har (i : Int) (by omega) (by omega)
    unfold sp_ua
    split <;> omega)
  unfold sp_uar
  omega
set_option maxRecDepth 100000 in
set_option maxHeartbeats 4000000 in
theorem lp1_M_byUses {p : Program} {l : Launch} {e : Env} {s : State} {m : MethodId} {args : Array Value} {below : List Frame} {meth : Method} {c : Code} {X : am_X} {Q : State → Prop} {h : am_H} {nx : Nat} {y kk : Nat} {M : MS} {k0 a : Int} (F : am_Fx p s m args meth c y_M_byUses b_M_byUses 9 ((Option.none : Option FieldType)) [] X) (hfl : 0 ≤ M 1 0 ∧ M 1 0 ≤ 20) (har : ∀ i : Int, 0 ≤ i → i < 20 → 0 ≤ M 2 i ∧ M 2 i ≤ 1000) (hme : 0 ≤ M 7 0 ∧ M 7 0 ≤ 60) (hrd : ∀ f : Int, 0 ≤ f → f < M 7 0 → 0 ≤ M 13 f ∧ M 13 f ≤ 40) (hda : ∀ i : Int, 0 ≤ i → i < 2400 → 0 ≤ M 14 i ∧ M 14 i ≤ 3649) (hva : ∀ i : Int, 0 ≤ i → i < 2400 → 0 ≤ M 15 i ∧ M 15 i ≤ 10000000) (hgo : ∀ i : Int, 0 ≤ i → i < 2400 → 0 ≤ M 16 i ∧ M 16 i ≤ 10000000) (hmo : ∀ f k : Int, 0 ≤ f → f < M 7 0 → 0 ≤ k → k + 1 < M 13 f → M 14 (40 * f + k) < M 14 (40 * f + 1 + k) ∧ M 16 (40 * f + k) ≤ M 15 (40 * f + 1 + k)) (hab : ∀ f : Int, 0 ≤ f → f < M 7 0 → (1 ≤ M 10 f ∧ M 10 f ≤ 1000) ∧ (1 ≤ M 11 f ∧ M 11 f ≤ 1000)) (hte : ∀ i : Int, 0 ≤ i → i < 60 → 0 ≤ M 12 i ∧ M 12 i ≤ 3649) (hfo : ∀ i : Int, 0 ≤ i → i < 60 → (0 ≤ M 8 i ∧ M 8 i ≤ 20) ∧ (0 ≤ M 9 i ∧ M 9 i ≤ 3)) (rk : 0 ≤ k0 ∧ k0 ≤ 3) (ry : 0 ≤ a ∧ a ≤ 9) (hkk : (kk : Int) = M 1 0) (hx : ∀ h9 : am_H, RepM y (setC M 26 (sp_u1 M k0 a) kk) h9 → MF y h h9 → V p l e ({ frames := 2, cells := 0, slots := 0, locals := 59 }) s m args below meth c 9 X Q h9 nx 0 0 110 [some (.ref y), some (iV k0), some (iV a), some (lV (sumI (sp_u1 M k0 a) kk)), none, some (lV (sumI (sp_ua M k0 a) kk)), none, some (iV (kk : Int)), none] []) : ∀ (n k : Nat), kk < k + n → k ≤ kk → ∀ h9 : am_H, RepM y (setC M 26 (sp_u1 M k0 a) k) h9 → MF y h h9 → V p l e ({ frames := 2, cells := 0, slots := 0, locals := 59 }) s m args below meth c 9 X Q h9 nx 0 0 8 [some (.ref y), some (iV k0), some (iV a), some (lV (sumI (sp_u1 M k0 a) k)), none, some (lV (sumI (sp_ua M k0 a) k)), none, some (iV (k : Int)), none] [] := by
  intro n
  induction n with
  | zero =>
    intro k hk hk2
    exact absurd hk (by omega)
  | succ n ih =>
    intro k hk hk2 h9 hM9 hF9
    refine v_iload (pc' := 10) F d_M_byUses_8 rfl rfl ?_
    refine v_aload_n (pc' := 11) (j := 0) F d_M_byUses_10 rfl rfl rfl ?_
    refine v_getf (pc' := 14) (C := zR_M) (T := zF_M) (N := 28) (ref := "BillSharesModel") F d_M_byUses_11 rfl zi_M rfl 1 (by decide) wx_662 (Or.inl rfl) hM9.1 rfl ?_
    refine v_topi (b := M 1 0) rfl ?_
    refine v_icmp_ge (tgt := 110) (pc' := 17) F d_M_byUses_14 (by decide) rfl (by omega) (by omega) (fun c14 => ?_) (fun c14 => ?_)
    · obtain rfl : k = kk := by omega
      exact hx h9 hM9 hF9
    · refine v_aload_n (pc' := 18) (j := 0) F d_M_byUses_17 rfl rfl rfl ?_
      refine v_iload (pc' := 20) F d_M_byUses_18 rfl rfl ?_
      refine v_iload_n (pc' := 21) (j := 1) F d_M_byUses_20 rfl rfl rfl ?_
      refine v_iload_n (pc' := 22) (j := 2) F d_M_byUses_21 rfl rfl rfl ?_
      refine v_callVP (pc' := 25) (C := zR_M) (T9 := zF_M) (N := 28) F d_M_byUses_22 rfl cal_M_barredOf wx_844 wx_846 wp_25 rfl hM9.1 (c_M_barredOf l X _ _ _ _ _ _ _ hM9 hme hrd hda hva hgo hmo hab hte hfo (by omega) (by omega) (by omega)) rfl ⟨by decide, by decide, by decide, by decide⟩ (Nat.le_of_ble_eq_true rfl) rfl rfl ?_
      refine v_topi (b := sp_barred M (k : Int) k0 a) rfl ?_
      have q3 := sp_barred_r M (k : Int) k0 a
      refine v_if_ne (tgt := 32) (pc' := 28) F d_M_byUses_25 (by decide) rfl (by omega) (fun c25 => ?_) (fun c25 => ?_)
      · refine v_iconst (pc' := 33) F d_M_byUses_32 rfl ?_
        refine v_istore_8 (pc' := 35) F d_M_byUses_33 rfl rfl (by decide) ?_
        refine v_aload_n (pc' := 36) (j := 0) F d_M_byUses_35 rfl rfl rfl ?_
        refine v_getf (pc' := 39) (C := zR_M) (T := zF_M) (N := 28) (ref := "BillSharesModel") F d_M_byUses_36 rfl zi_M rfl 26 (by decide) wx_687 (Or.inl rfl) hM9.1 rfl ?_
        refine v_iload (pc' := 41) F d_M_byUses_39 rfl rfl ?_
        refine v_iload (pc' := 43) F d_M_byUses_41 rfl rfl ?_
        refine v_if_eq (tgt := 70) (pc' := 46) F d_M_byUses_43 (by decide) rfl (by omega) (fun c43 => ?_) (fun c43 => by exfalso; omega)
        refine v_lconst (pc' := 71) (z := 0) F d_M_byUses_70 rfl (by decide) ?_
        refine v_topl (b := sp_u1 M k0 a (k : Int)) (by unfold sp_u1; first | (rw [if_pos (by omega)]; rfl) | rw [if_neg (by omega)]) ?_
        refine mp_26 (pc' := 72) F hM9 d_M_byUses_71 rfl (by omega) (by omega) (fun h1 hM1 hF1 => ?_)
        refine v_lload_n (pc' := 73) (j := 3) F d_M_byUses_72 rfl rfl rfl ?_
        refine v_aload_n (pc' := 74) (j := 0) F d_M_byUses_73 rfl rfl rfl ?_
        refine v_getf (pc' := 77) (C := zR_M) (T := zF_M) (N := 28) (ref := "BillSharesModel") F d_M_byUses_74 rfl zi_M rfl 26 (by decide) wx_687 (Or.inl rfl) hM1.1 rfl ?_
        refine v_iload (pc' := 79) F d_M_byUses_77 rfl rfl ?_
        refine mg_26 (pc' := 80) F hM1 d_M_byUses_79 rfl (by omega) (by omega) ?_
        refine v_usl ?_
        refine v_ladd (pc' := 81) F d_M_byUses_80 rfl ?_
        refine v_lstore_3 (pc' := 82) F d_M_byUses_81 rfl rfl (by decide) ?_
        refine v_lload (pc' := 84) F d_M_byUses_82 rfl rfl ?_
        refine v_iload (pc' := 86) F d_M_byUses_84 rfl rfl ?_
        refine v_if_eq (tgt := 100) (pc' := 89) F d_M_byUses_86 (by decide) rfl (by omega) (fun c86 => ?_) (fun c86 => by exfalso; omega)
        refine v_lconst (pc' := 101) (z := 0) F d_M_byUses_100 rfl (by decide) ?_
        refine v_topl (b := sp_ua M k0 a (k : Int)) (by unfold sp_ua; first | rw [if_pos (by omega)] | rw [if_neg (by omega)]) ?_
        refine v_ladd (pc' := 102) F d_M_byUses_101 rfl ?_
        refine v_lstore_5 (pc' := 104) F d_M_byUses_102 rfl rfl (by decide) ?_
        refine v_iinc_7 (pc' := 107) F d_M_byUses_104 rfl rfl (by decide) ?_
        refine v_goto (tgt := 8) F d_M_byUses_107 (by decide) ?_
        exact v_subL (by (repeat' (first | exact trivial | exact rfl | refine And.intro ?_ ?_)); done) (ih (k + 1) (by omega) (by omega) _ (by rw [← setC_s]; exact hM1) ((hF9).tr hF1))
      · refine v_iconst (pc' := 29) F d_M_byUses_28 rfl ?_
        refine v_goto (tgt := 33) F d_M_byUses_29 (by decide) ?_
        refine v_istore_8 (pc' := 35) F d_M_byUses_33 rfl rfl (by decide) ?_
        refine v_aload_n (pc' := 36) (j := 0) F d_M_byUses_35 rfl rfl rfl ?_
        refine v_getf (pc' := 39) (C := zR_M) (T := zF_M) (N := 28) (ref := "BillSharesModel") F d_M_byUses_36 rfl zi_M rfl 26 (by decide) wx_687 (Or.inl rfl) hM9.1 rfl ?_
        refine v_iload (pc' := 41) F d_M_byUses_39 rfl rfl ?_
        refine v_iload (pc' := 43) F d_M_byUses_41 rfl rfl ?_
        refine v_if_eq (tgt := 70) (pc' := 46) F d_M_byUses_43 (by decide) rfl (by omega) (fun c43 => by exfalso; omega) (fun c43 => ?_)
        refine v_aload_n (pc' := 47) (j := 0) F d_M_byUses_46 rfl rfl rfl ?_
        refine v_iload (pc' := 49) F d_M_byUses_47 rfl rfl ?_
        refine v_iload_n (pc' := 50) (j := 1) F d_M_byUses_49 rfl rfl rfl ?_
        refine v_sipush (pc' := 53) F d_M_byUses_50 rfl (by decide) ?_
        refine v_iload_n (pc' := 54) (j := 2) F d_M_byUses_53 rfl rfl rfl ?_
        refine v_imul (pc' := 55) F d_M_byUses_54 rfl ?_
        refine v_sipush (pc' := 58) F d_M_byUses_55 rfl (by decide) ?_
        refine v_iload_n (pc' := 59) (j := 2) F d_M_byUses_58 rfl rfl rfl ?_
        refine v_imul (pc' := 60) F d_M_byUses_59 rfl ?_
        refine v_sipush (pc' := 63) F d_M_byUses_60 rfl (by decide) ?_
        refine v_iadd (pc' := 64) F d_M_byUses_63 rfl ?_
        refine v_callVP (pc' := 67) (C := zR_M) (T9 := zF_M) (N := 28) F d_M_byUses_64 rfl cal_M_usedBy wx_852 wx_854 wp_27 rfl hM9.1 (c_M_usedBy l X _ _ _ _ _ _ _ _ hM9 hme hrd hda hva hgo hmo hab hte hfo (by omega) (by omega) (by omega) (by omega)) rfl ⟨by decide, by decide, by decide, by decide⟩ (Nat.le_of_ble_eq_true rfl) rfl rfl ?_
        refine v_goto (tgt := 71) F d_M_byUses_67 (by decide) ?_
        refine v_topl (b := sp_u1 M k0 a (k : Int)) (by unfold sp_u1; first | (rw [if_pos (by omega)]; rfl) | rw [if_neg (by omega)]) ?_
        refine mp_26 (pc' := 72) F hM9 d_M_byUses_71 rfl (by omega) (by omega) (fun h2 hM2 hF2 => ?_)
        refine v_lload_n (pc' := 73) (j := 3) F d_M_byUses_72 rfl rfl rfl ?_
        refine v_aload_n (pc' := 74) (j := 0) F d_M_byUses_73 rfl rfl rfl ?_
        refine v_getf (pc' := 77) (C := zR_M) (T := zF_M) (N := 28) (ref := "BillSharesModel") F d_M_byUses_74 rfl zi_M rfl 26 (by decide) wx_687 (Or.inl rfl) hM2.1 rfl ?_
        refine v_iload (pc' := 79) F d_M_byUses_77 rfl rfl ?_
        refine mg_26 (pc' := 80) F hM2 d_M_byUses_79 rfl (by omega) (by omega) ?_
        refine v_usl ?_
        refine v_ladd (pc' := 81) F d_M_byUses_80 rfl ?_
        refine v_lstore_3 (pc' := 82) F d_M_byUses_81 rfl rfl (by decide) ?_
        refine v_lload (pc' := 84) F d_M_byUses_82 rfl rfl ?_
        refine v_iload (pc' := 86) F d_M_byUses_84 rfl rfl ?_
        refine v_if_eq (tgt := 100) (pc' := 89) F d_M_byUses_86 (by decide) rfl (by omega) (fun c86 => by exfalso; omega) (fun c86 => ?_)
        refine v_aload_n (pc' := 90) (j := 0) F d_M_byUses_89 rfl rfl rfl ?_
        refine v_getf (pc' := 93) (C := zR_M) (T := zF_M) (N := 28) (ref := "BillSharesModel") F d_M_byUses_90 rfl zi_M rfl 2 (by decide) wx_663 (Or.inl rfl) hM2.1 rfl ?_
        refine v_iload (pc' := 95) F d_M_byUses_93 rfl rfl ?_
        refine mg_2 (pc' := 96) F hM2 d_M_byUses_95 rfl (by omega) (by omega) ?_
        refine v_topi (b := M 2 (k : Int)) rfl ?_
        have q2 := har (k : Int) (by omega) (by omega)
        refine v_i2l (pc' := 97) F d_M_byUses_96 rfl (by omega) ?_
        refine v_goto (tgt := 101) F d_M_byUses_97 (by decide) ?_
        refine v_topl (b := sp_ua M k0 a (k : Int)) (by unfold sp_ua; first | rw [if_pos (by omega)] | rw [if_neg (by omega)]) ?_
        refine v_ladd (pc' := 102) F d_M_byUses_101 rfl ?_
        refine v_lstore_5 (pc' := 104) F d_M_byUses_102 rfl rfl (by decide) ?_
        refine v_iinc_7 (pc' := 107) F d_M_byUses_104 rfl rfl (by decide) ?_
        refine v_goto (tgt := 8) F d_M_byUses_107 (by decide) ?_
        exact v_subL (by (repeat' (first | exact trivial | exact rfl | refine And.intro ?_ ?_)); done) (ih (k + 1) (by omega) (by omega) _ (by rw [← setC_s]; exact hM2) ((hF9).tr hF2))
set_option maxRecDepth 100000 in
set_option maxHeartbeats 4000000 in
theorem lp2_M_byUses {p : Program} {l : Launch} {e : Env} {s : State} {m : MethodId} {args : Array Value} {below : List Frame} {meth : Method} {c : Code} {X : am_X} {Q : State → Prop} {h : am_H} {nx : Nat} {y kk : Nat} {M : MS} {k0 a : Int} (F : am_Fx p s m args meth c y_M_byUses b_M_byUses 9 ((Option.none : Option FieldType)) [] X) (hfl : 0 ≤ M 1 0 ∧ M 1 0 ≤ 20) (har : ∀ i : Int, 0 ≤ i → i < 20 → 0 ≤ M 2 i ∧ M 2 i ≤ 1000) (hme : 0 ≤ M 7 0 ∧ M 7 0 ≤ 60) (hrd : ∀ f : Int, 0 ≤ f → f < M 7 0 → 0 ≤ M 13 f ∧ M 13 f ≤ 40) (hda : ∀ i : Int, 0 ≤ i → i < 2400 → 0 ≤ M 14 i ∧ M 14 i ≤ 3649) (hva : ∀ i : Int, 0 ≤ i → i < 2400 → 0 ≤ M 15 i ∧ M 15 i ≤ 10000000) (hgo : ∀ i : Int, 0 ≤ i → i < 2400 → 0 ≤ M 16 i ∧ M 16 i ≤ 10000000) (hmo : ∀ f k : Int, 0 ≤ f → f < M 7 0 → 0 ≤ k → k + 1 < M 13 f → M 14 (40 * f + k) < M 14 (40 * f + 1 + k) ∧ M 16 (40 * f + k) ≤ M 15 (40 * f + 1 + k)) (hab : ∀ f : Int, 0 ≤ f → f < M 7 0 → (1 ≤ M 10 f ∧ M 10 f ≤ 1000) ∧ (1 ≤ M 11 f ∧ M 11 f ≤ 1000)) (hte : ∀ i : Int, 0 ≤ i → i < 60 → 0 ≤ M 12 i ∧ M 12 i ≤ 3649) (hfo : ∀ i : Int, 0 ≤ i → i < 60 → (0 ≤ M 8 i ∧ M 8 i ≤ 20) ∧ (0 ≤ M 9 i ∧ M 9 i ≤ 3)) (rk : 0 ≤ k0 ∧ k0 ≤ 3) (ry : 0 ≤ a ∧ a ≤ 9) (hkk : (kk : Int) = M 1 0) (hx : ∀ h9 : am_H, RepM y (setC (setC M 26 (sp_u1 M k0 a) (M 1 0).toNat) 26 (sp_u2 M k0 a) kk) h9 → MF y h h9 → V p l e ({ frames := 2, cells := 0, slots := 0, locals := 59 }) s m args below meth c 9 X Q h9 nx 0 0 176 [some (.ref y), some (iV k0), some (iV a), some (lV (sp_usum M k0 a)), none, some (lV (sp_uar M k0 a)), none, some (iV (kk : Int)), none] []) : ∀ (n k : Nat), kk < k + n → k ≤ kk → ∀ h9 : am_H, RepM y (setC (setC M 26 (sp_u1 M k0 a) (M 1 0).toNat) 26 (sp_u2 M k0 a) k) h9 → MF y h h9 → V p l e ({ frames := 2, cells := 0, slots := 0, locals := 59 }) s m args below meth c 9 X Q h9 nx 0 0 113 [some (.ref y), some (iV k0), some (iV a), some (lV (sp_usum M k0 a)), none, some (lV (sp_uar M k0 a)), none, some (iV (k : Int)), none] [] := by
  intro n
  induction n with
  | zero =>
    intro k hk hk2
    exact absurd hk (by omega)
  | succ n ih =>
    intro k hk hk2 h9 hM9 hF9
    have q5 := sp_usum_r (k := k0) hfl hme hrd hda hva hgo hmo hab hte hfo ry
    have q6 := sp_uar_r (k := k0) (a := a) hfl har
    refine v_iload (pc' := 115) F d_M_byUses_113 rfl rfl ?_
    refine v_aload_n (pc' := 116) (j := 0) F d_M_byUses_115 rfl rfl rfl ?_
    refine v_getf (pc' := 119) (C := zR_M) (T := zF_M) (N := 28) (ref := "BillSharesModel") F d_M_byUses_116 rfl zi_M rfl 1 (by decide) wx_662 (Or.inl rfl) hM9.1 rfl ?_
    refine v_topi (b := M 1 0) rfl ?_
    refine v_icmp_ge (tgt := 176) (pc' := 122) F d_M_byUses_119 (by decide) rfl (by omega) (by omega) (fun c119 => ?_) (fun c119 => ?_)
    · obtain rfl : k = kk := by omega
      exact hx h9 hM9 hF9
    · refine v_aload_n (pc' := 123) (j := 0) F d_M_byUses_122 rfl rfl rfl ?_
      refine v_getf (pc' := 126) (C := zR_M) (T := zF_M) (N := 28) (ref := "BillSharesModel") F d_M_byUses_123 rfl zi_M rfl 26 (by decide) wx_687 (Or.inl rfl) hM9.1 rfl ?_
      refine v_iload (pc' := 128) F d_M_byUses_126 rfl rfl ?_
      refine v_aload_n (pc' := 129) (j := 0) F d_M_byUses_128 rfl rfl rfl ?_
      refine v_iload (pc' := 131) F d_M_byUses_129 rfl rfl ?_
      refine v_iload_n (pc' := 132) (j := 1) F d_M_byUses_131 rfl rfl rfl ?_
      refine v_iload_n (pc' := 133) (j := 2) F d_M_byUses_132 rfl rfl rfl ?_
      refine v_callVP (pc' := 136) (C := zR_M) (T9 := zF_M) (N := 28) F d_M_byUses_133 rfl cal_M_barredOf wx_844 wx_846 wp_25 rfl hM9.1 (c_M_barredOf l X _ _ _ _ _ _ _ hM9 hme hrd hda hva hgo hmo hab hte hfo (by omega) (by omega) (by omega)) rfl ⟨by decide, by decide, by decide, by decide⟩ (Nat.le_of_ble_eq_true rfl) rfl rfl ?_
      refine v_topi (b := sp_barred M (k : Int) k0 a) rfl ?_
      have q3 := sp_barred_r M (k : Int) k0 a
      refine v_if_le (tgt := 162) (pc' := 139) F d_M_byUses_136 (by decide) rfl (by omega) (fun c136 => ?_) (fun c136 => ?_)
      · refine v_aload_n (pc' := 163) (j := 0) F d_M_byUses_162 rfl rfl rfl ?_
        refine v_getf (pc' := 166) (C := zR_M) (T := zF_M) (N := 28) (ref := "BillSharesModel") F d_M_byUses_163 rfl zi_M rfl 26 (by decide) wx_687 (Or.inl rfl) hM9.1 rfl ?_
        refine v_iload (pc' := 168) F d_M_byUses_166 rfl rfl ?_
        refine mg_26 (pc' := 169) F hM9 d_M_byUses_168 rfl (by omega) (by omega) ?_
        refine v_topl (b := sp_u1 M k0 a (k : Int)) ((setC_out (by omega)).trans (setC_in (by omega))) ?_
        refine v_topl (b := sp_u2 M k0 a (k : Int)) (by unfold sp_u2; first | (rw [if_pos ⟨by omega, by omega⟩, Int.tdiv_eq_ediv_of_nonneg (Int.mul_nonneg (by omega) (by omega))]) | (rw [if_neg (by omega)])) ?_
        refine mp_26 (pc' := 170) F hM9 d_M_byUses_169 rfl (by omega) (by omega) (fun h1 hM1 hF1 => ?_)
        refine v_iinc_7 (pc' := 173) F d_M_byUses_170 rfl rfl (by decide) ?_
        refine v_goto (tgt := 113) F d_M_byUses_173 (by decide) ?_
        exact ih (k + 1) (by omega) (by omega) _ (by rw [← setC_s]; exact hM1) ((hF9).tr hF1)
      · refine v_lload (pc' := 141) F d_M_byUses_139 rfl rfl ?_
        refine v_lconst (pc' := 142) (z := 0) F d_M_byUses_141 rfl (by decide) ?_
        refine v_lc_le (tgt := 162) (pc' := 146) F d_M_byUses_142 d_M_byUses_143 (by decide) rfl (by omega) (by omega) (fun c142 => ?_) (fun c142 => ?_)
        · refine v_aload_n (pc' := 163) (j := 0) F d_M_byUses_162 rfl rfl rfl ?_
          refine v_getf (pc' := 166) (C := zR_M) (T := zF_M) (N := 28) (ref := "BillSharesModel") F d_M_byUses_163 rfl zi_M rfl 26 (by decide) wx_687 (Or.inl rfl) hM9.1 rfl ?_
          refine v_iload (pc' := 168) F d_M_byUses_166 rfl rfl ?_
          refine mg_26 (pc' := 169) F hM9 d_M_byUses_168 rfl (by omega) (by omega) ?_
          refine v_topl (b := sp_u1 M k0 a (k : Int)) ((setC_out (by omega)).trans (setC_in (by omega))) ?_
          refine v_topl (b := sp_u2 M k0 a (k : Int)) (by unfold sp_u2; first | (rw [if_pos ⟨by omega, by omega⟩, Int.tdiv_eq_ediv_of_nonneg (Int.mul_nonneg (by omega) (by omega))]) | (rw [if_neg (by omega)])) ?_
          refine mp_26 (pc' := 170) F hM9 d_M_byUses_169 rfl (by omega) (by omega) (fun h2 hM2 hF2 => ?_)
          refine v_iinc_7 (pc' := 173) F d_M_byUses_170 rfl rfl (by decide) ?_
          refine v_goto (tgt := 113) F d_M_byUses_173 (by decide) ?_
          exact ih (k + 1) (by omega) (by omega) _ (by rw [← setC_s]; exact hM2) ((hF9).tr hF2)
        · refine v_lload_n (pc' := 147) (j := 3) F d_M_byUses_146 rfl rfl rfl ?_
          refine v_aload_n (pc' := 148) (j := 0) F d_M_byUses_147 rfl rfl rfl ?_
          refine v_getf (pc' := 151) (C := zR_M) (T := zF_M) (N := 28) (ref := "BillSharesModel") F d_M_byUses_148 rfl zi_M rfl 2 (by decide) wx_663 (Or.inl rfl) hM9.1 rfl ?_
          refine v_iload (pc' := 153) F d_M_byUses_151 rfl rfl ?_
          refine mg_2 (pc' := 154) F hM9 d_M_byUses_153 rfl (by omega) (by omega) ?_
          refine v_topi (b := M 2 (k : Int)) rfl ?_
          have q2 := har (k : Int) (by omega) (by omega)
          refine v_i2l (pc' := 155) F d_M_byUses_154 rfl (by omega) ?_
          refine v_lmul (pc' := 156) F d_M_byUses_155 rfl ?_
          refine v_lload (pc' := 158) F d_M_byUses_156 rfl rfl ?_
          have q8 := am_mul_r (x := sp_usum M k0 a) (y := M 2 (k : Int)) (a := 468000000000000) (b := 1000) (by omega) (by omega) (by omega)
          refine v_ldiv (pc' := 159) F d_M_byUses_158 rfl (by omega) (by omega) (by omega) ?_
          refine v_goto (tgt := 169) F d_M_byUses_159 (by decide) ?_
          refine v_topl (b := sp_u2 M k0 a (k : Int)) (by unfold sp_u2; first | (rw [if_pos ⟨by omega, by omega⟩, Int.tdiv_eq_ediv_of_nonneg (Int.mul_nonneg (by omega) (by omega))]) | (rw [if_neg (by omega)])) ?_
          refine mp_26 (pc' := 170) F hM9 d_M_byUses_169 rfl (by omega) (by omega) (fun h3 hM3 hF3 => ?_)
          refine v_iinc_7 (pc' := 173) F d_M_byUses_170 rfl rfl (by decide) ?_
          refine v_goto (tgt := 113) F d_M_byUses_173 (by decide) ?_
          exact ih (k + 1) (by omega) (by omega) _ (by rw [← setC_s]; exact hM3) ((hF9).tr hF3)
set_option maxRecDepth 100000 in
set_option maxHeartbeats 4000000 in
theorem c_M_byUses (l : Launch) (X : am_X) (h : am_H) (nx : Nat) (y : Nat) (M : MS) (k0 a : Int) (hM : RepM y M h) (hfl : 0 ≤ M 1 0 ∧ M 1 0 ≤ 20) (har : ∀ i : Int, 0 ≤ i → i < 20 → 0 ≤ M 2 i ∧ M 2 i ≤ 1000) (hme : 0 ≤ M 7 0 ∧ M 7 0 ≤ 60) (hrd : ∀ f : Int, 0 ≤ f → f < M 7 0 → 0 ≤ M 13 f ∧ M 13 f ≤ 40) (hda : ∀ i : Int, 0 ≤ i → i < 2400 → 0 ≤ M 14 i ∧ M 14 i ≤ 3649) (hva : ∀ i : Int, 0 ≤ i → i < 2400 → 0 ≤ M 15 i ∧ M 15 i ≤ 10000000) (hgo : ∀ i : Int, 0 ≤ i → i < 2400 → 0 ≤ M 16 i ∧ M 16 i ≤ 10000000) (hmo : ∀ f k : Int, 0 ≤ f → f < M 7 0 → 0 ≤ k → k + 1 < M 13 f → M 14 (40 * f + k) < M 14 (40 * f + 1 + k) ∧ M 16 (40 * f + k) ≤ M 15 (40 * f + 1 + k)) (hab : ∀ f : Int, 0 ≤ f → f < M 7 0 → (1 ≤ M 10 f ∧ M 10 f ≤ 1000) ∧ (1 ≤ M 11 f ∧ M 11 f ≤ 1000)) (hte : ∀ i : Int, 0 ≤ i → i < 60 → 0 ≤ M 12 i ∧ M 12 i ≤ 3649) (hfo : ∀ i : Int, 0 ≤ i → i < 60 → (0 ≤ M 8 i ∧ M 8 i ≤ 20) ∧ (0 ≤ M 9 i ∧ M 9 i ≤ 3)) (rk : 0 ≤ k0 ∧ k0 ≤ 3) (ry : 0 ≤ a ∧ a ≤ 9) : CnV l X y_M_byUses ({ frames := 2, cells := 0, slots := 0, locals := 59 }) [.ref y, iV k0, iV a] h nx y (setC M 26 (sp_num M k0 a) (M 1 0).toNat) := by
  refine cn_of (k := 6) (L0 := [some (.ref y), some (iV k0), some (iV a), none, none, none, none, none, none]) rfl wx_843 (Nat.le_of_ble_eq_true rfl) rfl (fun p e s m args below meth c F => ?_)
  have en : ((M 1 0).toNat : Int) = M 1 0 := by omega
  have q5 := sp_usum_r (k := k0) hfl hme hrd hda hva hgo hmo hab hte hfo ry
  have q6 := sp_uar_r (k := k0) (a := a) hfl har
  refine v_lconst (pc' := 1) (z := 0) F d_M_byUses_0 rfl (by decide) ?_
  refine v_lstore_3 (pc' := 2) F d_M_byUses_1 rfl rfl (by decide) ?_
  refine v_lconst (pc' := 3) (z := 0) F d_M_byUses_2 rfl (by decide) ?_
  refine v_lstore_5 (pc' := 5) F d_M_byUses_3 rfl rfl (by decide) ?_
  refine v_iconst (pc' := 6) F d_M_byUses_5 rfl ?_
  refine v_istore_7 (pc' := 8) F d_M_byUses_6 rfl rfl (by decide) ?_
  refine lp1_M_byUses (h := h) (kk := (M 1 0).toNat) F hfl har hme hrd hda hva hgo hmo hab hte hfo rk ry en (fun h9 hM9 hF9 => ?_) ((M 1 0).toNat + 1) 0 (by omega) (by omega) h (by rw [setC_0]; exact hM) MF.rf
  refine v_iconst (pc' := 111) F d_M_byUses_110 rfl ?_
  refine v_istore_7 (pc' := 113) F d_M_byUses_111 rfl rfl (by decide) ?_
  refine lp2_M_byUses (h := h) (kk := (M 1 0).toNat) F hfl har hme hrd hda hva hgo hmo hab hte hfo rk ry en (fun h8 hM8 hF8 => ?_) ((M 1 0).toNat + 1) 0 (by omega) (by omega) h9 (by rw [setC_0]; exact hM9) hF9
  rw [setC_c] at hM8
  refine v_lload_n (pc' := 177) (j := 3) F d_M_byUses_176 rfl rfl rfl ?_
  refine v_lconst (pc' := 178) (z := 0) F d_M_byUses_177 rfl (by decide) ?_
  refine v_lc_ne (tgt := 186) (pc' := 182) F d_M_byUses_178 d_M_byUses_179 (by decide) rfl (by omega) (by omega) (fun c178 => ?_) (fun c178 => ?_)
  · refine v_return F d_M_byUses_186 rfl (Nat.le_refl _) (Nat.le_refl _) ?_
    first | (rw [show sp_num M k0 a = sp_u2 M k0 a from funext fun f => if_neg (by omega)]; exact ⟨hM8, hF8, rfl, rfl⟩) | (rw [show sp_num M k0 a = M 2 from funext fun f => if_pos (by omega)]; rw [show setC (setC M 26 (sp_u2 M k0 a) (M 1 0).toNat) 26 (setC M 26 (sp_u2 M k0 a) (M 1 0).toNat 2) (setC M 26 (sp_u2 M k0 a) (M 1 0).toNat 1 0).toNat = setC M 26 (M 2) (M 1 0).toNat from setC_c] at hM8; exact ⟨hM8, hF8, rfl, rfl⟩)
  · refine v_aload_n (pc' := 183) (j := 0) F d_M_byUses_182 rfl rfl rfl ?_
    refine v_callVV (pc' := 186) (C := zR_M) (T9 := zF_M) (N := 28) F d_M_byUses_183 rfl cal_M_byAreas wx_824 wx_826 wp_21 rfl hM8.1 (c_M_byAreas l X _ _ _ _ hM8 hfl har) rfl ⟨by decide, by decide, by decide, by decide⟩ (Nat.le_of_ble_eq_true rfl) rfl rfl (fun h1 hM1 hF1 => ?_)
    refine v_return F d_M_byUses_186 rfl (Nat.le_refl _) (Nat.le_refl _) ?_
    first | (rw [show sp_num M k0 a = sp_u2 M k0 a from funext fun f => if_neg (by omega)]; exact ⟨hM1, ((hF8).tr hF1), rfl, rfl⟩) | (rw [show sp_num M k0 a = M 2 from funext fun f => if_pos (by omega)]; rw [show setC (setC M 26 (sp_u2 M k0 a) (M 1 0).toNat) 26 (setC M 26 (sp_u2 M k0 a) (M 1 0).toNat 2) (setC M 26 (sp_u2 M k0 a) (M 1 0).toNat 1 0).toNat = setC M 26 (M 2) (M 1 0).toNat from setC_c] at hM1; exact ⟨hM1, ((hF8).tr hF1), rfl, rfl⟩)
