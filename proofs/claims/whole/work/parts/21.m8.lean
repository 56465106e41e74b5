/-! barredOf, usedBy, before, use, barred of the reference (written by wip/whole/mm8.py) -/
/-- whether a flat is barred, by its first n meters -/
def sp_bar (F K W : Int → Int) (f k : Int) : Nat → Int
  | 0 => 1
  | i + 1 => if 2 ≤ sp_bar F K W f k i then sp_bar F K W f k i else if F (i : Int) = f ∧ K (i : Int) = k then W (i : Int) else sp_bar F K W f k i
theorem sp_bar_s {F K W : Int → Int} {f k : Int} {i : Nat} (h : 2 ≤ sp_bar F K W f k i) : ∀ n : Nat, i ≤ n → sp_bar F K W f k n = sp_bar F K W f k i := by
  intro n hn
  induction n with
  | zero => rw [show i = 0 by omega]
  | succ n ih =>
    by_cases hi : i = n + 1
    · rw [hi]
    · have e := ih (by omega)
      show (if 2 ≤ sp_bar F K W f k n then sp_bar F K W f k n else _) = _
      rw [if_pos (by omega), e]
theorem sp_bar_hit {F K W : Int → Int} {f k : Int} {i : Nat} (h : ¬ 2 ≤ sp_bar F K W f k i) (h2 : F (i : Int) = f ∧ K (i : Int) = k) : sp_bar F K W f k (i + 1) = W (i : Int) := by
  show (if _ then _ else if _ then _ else _) = _
  rw [if_neg h, if_pos h2]
theorem sp_bar_miss {F K W : Int → Int} {f k : Int} {i : Nat} (h2 : ¬ (F (i : Int) = f ∧ K (i : Int) = k)) : sp_bar F K W f k (i + 1) = sp_bar F K W f k i := by
  show (if _ then _ else if _ then _ else _) = _
  rw [if_neg h2]
  split <;> rfl
theorem sp_bar_r {F K W : Int → Int} {f k : Int} (hW : ∀ i : Int, W i = 0 ∨ W i = 2 ∨ W i = 3) : ∀ n : Nat, 0 ≤ sp_bar F K W f k n ∧ sp_bar F K W f k n ≤ 3
  | 0 => by simp [sp_bar]
  | n + 1 => by
    have ih := sp_bar_r (F := F) (K := K) (W := W) (f := f) (k := k) hW n
    have hw := hW (n : Int)
    unfold sp_bar
    split
    · exact ih
    · split
      · omega
      · exact ih
def sp_barred (M : MS) (f k a : Int) : Int := sp_bar (M 8) (M 9) (fun i => sp_why M i a) f k (M 7 0).toNat
theorem sp_barred_r (M : MS) (f k a : Int) : 0 ≤ sp_barred M f k a ∧ sp_barred M f k a ≤ 3 := sp_bar_r (fun i => sp_why_r M i a) _
def sp_used (F K U : Int → Int) (f k : Int) : Nat → Int
  | 0 => 0
  | i + 1 => sp_used F K U f k i + (if F (i : Int) = f ∧ K (i : Int) = k then U (i : Int) else 0)
def sp_usedBy (M : MS) (f k g t : Int) : Int := sp_used (M 8) (M 9) (fun i => sp_use M i g t) f k (M 7 0).toNat
/-- how many flats come before f by rank -/
def sp_bef (K : Int → Int) (f : Int) : Nat → Int
  | 0 => 0
  | g + 1 => sp_bef K f g + (if K (g : Int) < K f ∨ (K (g : Int) = K f ∧ (g : Int) < f) then 1 else 0)
theorem sp_bef_r (K : Int → Int) (f : Int) : ∀ n : Nat, 0 ≤ sp_bef K f n ∧ sp_bef K f n ≤ (n : Int)
  | 0 => by simp [sp_bef]
  | n + 1 => by
    have ih := sp_bef_r K f n
    unfold sp_bef
    split <;> omega
def sp_before (M : MS) (f : Int) : Int := sp_bef (M 3) f (M 1 0).toNat
set_option maxRecDepth 100000 in
set_option maxHeartbeats 4000000 in
theorem lp_M_barredOf {p : Program} {l : Launch} {e : Env} {s : State} {m : MethodId} {args : Array Value} {below : List Frame} {meth : Method} {c : Code} {X : am_X} {h : am_H} {nx : Nat} {y kk : Nat} {M : MS} {f k0 a : Int} (F : am_Fx p s m args meth c y_M_barredOf b_M_barredOf 6 (some .int) [] X) (hM : RepM y M h) (hme : 0 ≤ M 7 0 ∧ M 7 0 ≤ 60) (hrd : ∀ f : Int, 0 ≤ f → f < M 7 0 → 0 ≤ M 13 f ∧ M 13 f ≤ 40) (hda : ∀ i : Int, 0 ≤ i → i < 2400 → 0 ≤ M 14 i ∧ M 14 i ≤ 3649) (hva : ∀ i : Int, 0 ≤ i → i < 2400 → 0 ≤ M 15 i ∧ M 15 i ≤ 10000000) (hgo : ∀ i : Int, 0 ≤ i → i < 2400 → 0 ≤ M 16 i ∧ M 16 i ≤ 10000000) (hmo : ∀ f k : Int, 0 ≤ f → f < M 7 0 → 0 ≤ k → k + 1 < M 13 f → M 14 (40 * f + k) < M 14 (40 * f + 1 + k) ∧ M 16 (40 * f + k) ≤ M 15 (40 * f + 1 + k)) (hab : ∀ f : Int, 0 ≤ f → f < M 7 0 → (1 ≤ M 10 f ∧ M 10 f ≤ 1000) ∧ (1 ≤ M 11 f ∧ M 11 f ≤ 1000)) (hte : ∀ i : Int, 0 ≤ i → i < 60 → 0 ≤ M 12 i ∧ M 12 i ≤ 3649) (hfo : ∀ i : Int, 0 ≤ i → i < 60 → (0 ≤ M 8 i ∧ M 8 i ≤ 20) ∧ (0 ≤ M 9 i ∧ M 9 i ≤ 3)) (rf : 0 ≤ f ∧ f ≤ 20) (rk : 0 ≤ k0 ∧ k0 ≤ 3) (ry : 0 ≤ a ∧ a ≤ 9) (hkk : (kk : Int) = M 7 0) : ∀ (n k : Nat), kk < k + n → k ≤ kk → ¬ 2 ≤ sp_bar (M 8) (M 9) (fun i => sp_why M i a) f k0 k → V p l e ({ frames := 1, cells := 0, slots := 0, locals := 25 }) s m args below meth c 6 X (am_Q X below s 0 0 (fun o h' nx' => o = .returned (some (iV (sp_barred M f k0 a))) ∧ h' = h ∧ nx' = nx)) h nx 0 0 6 [some (.ref y), some (iV f), some (iV k0), some (iV a), some (iV (sp_bar (M 8) (M 9) (fun i => sp_why M i a) f k0 k)), some (iV (k : Int))] [] := by
  intro n
  induction n with
  | zero =>
    intro k hk hk2
    exact absurd hk (by omega)
  | succ n ih =>
    intro k hk hk2 hnb
    have q1 := sp_bar_r (F := M 8) (K := M 9) (f := f) (k := k0) (fun i => sp_why_r M i a) k
    have q2 := sp_why_r M (k : Int) a
    refine v_iload (pc' := 8) F d_M_barredOf_6 rfl rfl ?_
    refine v_aload_n (pc' := 9) (j := 0) F d_M_barredOf_8 rfl rfl rfl ?_
    refine v_getf (pc' := 12) (C := zR_M) (T := zF_M) (N := 28) (ref := "BillSharesModel") F d_M_barredOf_9 rfl zi_M rfl 7 (by decide) wx_668 (Or.inl rfl) hM.1 rfl ?_
    refine v_icmp_ge (tgt := 64) (pc' := 15) F d_M_barredOf_12 (by decide) rfl (by omega) (by omega) (fun c12 => ?_) (fun c12 => ?_)
    · refine v_iload (pc' := 66) F d_M_barredOf_64 rfl rfl ?_
      exact v_ireturn F rfl d_M_barredOf_66 rfl rfl (Nat.le_refl _) (Nat.le_refl _) ⟨by rw [show sp_barred M f k0 a = sp_bar (M 8) (M 9) (fun i => sp_why M i a) f k0 k from (by unfold sp_barred; rw [show (M 7 0).toNat = k by omega])], rfl, rfl⟩
    · refine v_aload_n (pc' := 16) (j := 0) F d_M_barredOf_15 rfl rfl rfl ?_
      refine v_getf (pc' := 19) (C := zR_M) (T := zF_M) (N := 28) (ref := "BillSharesModel") F d_M_barredOf_16 rfl zi_M rfl 8 (by decide) wx_669 (Or.inl rfl) hM.1 rfl ?_
      refine v_iload (pc' := 21) F d_M_barredOf_19 rfl rfl ?_
      refine mg_8 (pc' := 22) F hM d_M_barredOf_21 rfl (by omega) (by omega) ?_
      have q3 := hfo (k : Int) (by omega) (by omega)
      refine v_iload_n (pc' := 23) (j := 1) F d_M_barredOf_22 rfl rfl rfl ?_
      refine v_icmp_ne (tgt := 58) (pc' := 26) F d_M_barredOf_23 (by decide) rfl (by omega) (by omega) (fun c23 => ?_) (fun c23 => ?_)
      · refine v_iinc_5 (pc' := 61) F d_M_barredOf_58 rfl rfl (by decide) ?_
        refine v_goto (tgt := 6) F d_M_barredOf_61 (by decide) ?_
        first | exact q9 | (have e9 : sp_bar (M 8) (M 9) (fun i => sp_why M i a) f k0 (k + 1) = sp_bar (M 8) (M 9) (fun i => sp_why M i a) f k0 k := sp_bar_miss (by omega); have q9 := ih (k + 1) (by omega) (by omega) (by omega); rw [e9] at q9; exact q9)
      · refine v_aload_n (pc' := 27) (j := 0) F d_M_barredOf_26 rfl rfl rfl ?_
        refine v_getf (pc' := 30) (C := zR_M) (T := zF_M) (N := 28) (ref := "BillSharesModel") F d_M_barredOf_27 rfl zi_M rfl 9 (by decide) wx_670 (Or.inl rfl) hM.1 rfl ?_
        refine v_iload (pc' := 32) F d_M_barredOf_30 rfl rfl ?_
        refine mg_9 (pc' := 33) F hM d_M_barredOf_32 rfl (by omega) (by omega) ?_
        refine v_iload_n (pc' := 34) (j := 2) F d_M_barredOf_33 rfl rfl rfl ?_
        refine v_icmp_ne (tgt := 58) (pc' := 37) F d_M_barredOf_34 (by decide) rfl (by omega) (by omega) (fun c34 => ?_) (fun c34 => ?_)
        · refine v_iinc_5 (pc' := 61) F d_M_barredOf_58 rfl rfl (by decide) ?_
          refine v_goto (tgt := 6) F d_M_barredOf_61 (by decide) ?_
          first | exact q9 | (have e9 : sp_bar (M 8) (M 9) (fun i => sp_why M i a) f k0 (k + 1) = sp_bar (M 8) (M 9) (fun i => sp_why M i a) f k0 k := sp_bar_miss (by omega); have q9 := ih (k + 1) (by omega) (by omega) (by omega); rw [e9] at q9; exact q9)
        · refine v_aload_n (pc' := 38) (j := 0) F d_M_barredOf_37 rfl rfl rfl ?_
          refine v_iload (pc' := 40) F d_M_barredOf_38 rfl rfl ?_
          refine v_iload_n (pc' := 41) (j := 3) F d_M_barredOf_40 rfl rfl rfl ?_
          refine v_callVP (pc' := 44) (C := zR_M) (T9 := zF_M) (N := 28) F d_M_barredOf_41 rfl cal_M_why wx_848 wx_850 wp_26 rfl hM.1 (c_M_why l X _ _ _ _ _ _ hM hme hrd hda (by omega) ry hte) rfl ⟨by decide, by decide, by decide, by decide⟩ (Nat.le_of_ble_eq_true rfl) rfl rfl ?_
          refine v_if_le (tgt := 55) (pc' := 47) F d_M_barredOf_44 (by decide) rfl (by omega) (fun c44 => ?_) (fun c44 => ?_)
          · have e9 : sp_bar (M 8) (M 9) (fun i => sp_why M i a) f k0 (k + 1) = sp_why M (k : Int) a := sp_bar_hit hnb ⟨by omega, by omega⟩
            have z9 : sp_why M (k : Int) a = 0 := by omega
            rw [z9] at e9
            have q9 := ih (k + 1) (by omega) (by omega) (by rw [e9]; decide)
            rw [e9] at q9
            refine v_iconst (pc' := 56) F d_M_barredOf_55 rfl ?_
            refine v_istore_4 (pc' := 58) F d_M_barredOf_56 rfl rfl (by decide) ?_
            refine v_iinc_5 (pc' := 61) F d_M_barredOf_58 rfl rfl (by decide) ?_
            refine v_goto (tgt := 6) F d_M_barredOf_61 (by decide) ?_
            first | exact q9 | (have e9 : sp_bar (M 8) (M 9) (fun i => sp_why M i a) f k0 (k + 1) = sp_bar (M 8) (M 9) (fun i => sp_why M i a) f k0 k := sp_bar_miss (by omega); have q9 := ih (k + 1) (by omega) (by omega) (by omega); rw [e9] at q9; exact q9)
          · refine v_aload_n (pc' := 48) (j := 0) F d_M_barredOf_47 rfl rfl rfl ?_
            refine v_iload (pc' := 50) F d_M_barredOf_48 rfl rfl ?_
            refine v_iload_n (pc' := 51) (j := 3) F d_M_barredOf_50 rfl rfl rfl ?_
            refine v_callVP (pc' := 54) (C := zR_M) (T9 := zF_M) (N := 28) F d_M_barredOf_51 rfl cal_M_why wx_848 wx_850 wp_26 rfl hM.1 (c_M_why l X _ _ _ _ _ _ hM hme hrd hda (by omega) ry hte) rfl ⟨by decide, by decide, by decide, by decide⟩ (Nat.le_of_ble_eq_true rfl) rfl rfl ?_
            exact v_ireturn F rfl d_M_barredOf_54 rfl rfl (Nat.le_refl _) (Nat.le_refl _) ⟨by rw [show sp_barred M f k0 a = sp_why M (k : Int) a from (sp_bar_s (i := k + 1) (by rw [sp_bar_hit hnb ⟨by omega, by omega⟩]; omega) _ (by omega)).trans (sp_bar_hit hnb ⟨by omega, by omega⟩)], rfl, rfl⟩
set_option maxRecDepth 100000 in
set_option maxHeartbeats 4000000 in
theorem c_M_barredOf (l : Launch) (X : am_X) (h : am_H) (nx : Nat) (y : Nat) (M : MS) (f k0 a : Int) (hM : RepM y M h) (hme : 0 ≤ M 7 0 ∧ M 7 0 ≤ 60) (hrd : ∀ f : Int, 0 ≤ f → f < M 7 0 → 0 ≤ M 13 f ∧ M 13 f ≤ 40) (hda : ∀ i : Int, 0 ≤ i → i < 2400 → 0 ≤ M 14 i ∧ M 14 i ≤ 3649) (hva : ∀ i : Int, 0 ≤ i → i < 2400 → 0 ≤ M 15 i ∧ M 15 i ≤ 10000000) (hgo : ∀ i : Int, 0 ≤ i → i < 2400 → 0 ≤ M 16 i ∧ M 16 i ≤ 10000000) (hmo : ∀ f k : Int, 0 ≤ f → f < M 7 0 → 0 ≤ k → k + 1 < M 13 f → M 14 (40 * f + k) < M 14 (40 * f + 1 + k) ∧ M 16 (40 * f + k) ≤ M 15 (40 * f + 1 + k)) (hab : ∀ f : Int, 0 ≤ f → f < M 7 0 → (1 ≤ M 10 f ∧ M 10 f ≤ 1000) ∧ (1 ≤ M 11 f ∧ M 11 f ≤ 1000)) (hte : ∀ i : Int, 0 ≤ i → i < 60 → 0 ≤ M 12 i ∧ M 12 i ≤ 3649) (hfo : ∀ i : Int, 0 ≤ i → i < 60 → (0 ≤ M 8 i ∧ M 8 i ≤ 20) ∧ (0 ≤ M 9 i ∧ M 9 i ≤ 3)) (rf : 0 ≤ f ∧ f ≤ 20) (rk : 0 ≤ k0 ∧ k0 ≤ 3) (ry : 0 ≤ a ∧ a ≤ 9) : CnP l X y_M_barredOf ({ frames := 1, cells := 0, slots := 0, locals := 25 }) [.ref y, iV f, iV k0, iV a] h nx (iV (sp_barred M f k0 a)) := by
  refine cn_of (k := 2) (L0 := [some (.ref y), some (iV f), some (iV k0), some (iV a), none, none]) rfl wx_847 (Nat.le_of_ble_eq_true rfl) rfl (fun p e s m args below meth c F => ?_)
  refine v_iconst (pc' := 1) F d_M_barredOf_0 rfl ?_
  refine v_istore_4 (pc' := 3) F d_M_barredOf_1 rfl rfl (by decide) ?_
  refine v_iconst (pc' := 4) F d_M_barredOf_3 rfl ?_
  refine v_istore_5 (pc' := 6) F d_M_barredOf_4 rfl rfl (by decide) ?_
  exact lp_M_barredOf (kk := (M 7 0).toNat) F hM hme hrd hda hva hgo hmo hab hte hfo rf rk ry (by omega) ((M 7 0).toNat + 1) 0 (by omega) (by omega) (by show ¬ (2 : Int) ≤ 1; decide)
set_option maxRecDepth 100000 in
set_option maxHeartbeats 4000000 in
theorem lp_M_usedBy {p : Program} {l : Launch} {e : Env} {s : State} {m : MethodId} {args : Array Value} {below : List Frame} {meth : Method} {c : Code} {X : am_X} {Q : State → Prop} {h : am_H} {nx : Nat} {y kk : Nat} {M : MS} {f k0 g t : Int} (F : am_Fx p s m args meth c y_M_usedBy b_M_usedBy 8 ((Option.some FieldType.long)) [] X) (hM : RepM y M h) (hme : 0 ≤ M 7 0 ∧ M 7 0 ≤ 60) (hrd : ∀ f : Int, 0 ≤ f → f < M 7 0 → 0 ≤ M 13 f ∧ M 13 f ≤ 40) (hda : ∀ i : Int, 0 ≤ i → i < 2400 → 0 ≤ M 14 i ∧ M 14 i ≤ 3649) (hva : ∀ i : Int, 0 ≤ i → i < 2400 → 0 ≤ M 15 i ∧ M 15 i ≤ 10000000) (hgo : ∀ i : Int, 0 ≤ i → i < 2400 → 0 ≤ M 16 i ∧ M 16 i ≤ 10000000) (hmo : ∀ f k : Int, 0 ≤ f → f < M 7 0 → 0 ≤ k → k + 1 < M 13 f → M 14 (40 * f + k) < M 14 (40 * f + 1 + k) ∧ M 16 (40 * f + k) ≤ M 15 (40 * f + 1 + k)) (hab : ∀ f : Int, 0 ≤ f → f < M 7 0 → (1 ≤ M 10 f ∧ M 10 f ≤ 1000) ∧ (1 ≤ M 11 f ∧ M 11 f ≤ 1000)) (hte : ∀ i : Int, 0 ≤ i → i < 60 → 0 ≤ M 12 i ∧ M 12 i ≤ 3649) (hfo : ∀ i : Int, 0 ≤ i → i < 60 → (0 ≤ M 8 i ∧ M 8 i ≤ 20) ∧ (0 ≤ M 9 i ∧ M 9 i ≤ 3)) (rf : 0 ≤ f ∧ f ≤ 20) (rk : 0 ≤ k0 ∧ k0 ≤ 3) (rg : 0 ≤ g ∧ g ≤ 3650) (rt : 0 ≤ t ∧ t ≤ 3650) (hkk : (kk : Int) = M 7 0) (hx : V p l e ({ frames := 1, cells := 0, slots := 0, locals := 32 }) s m args below meth c 8 X Q h nx 0 0 61 [some (.ref y), some (iV f), some (iV k0), some (iV g), some (iV t), some (lV (sp_used (M 8) (M 9) (fun i => sp_use M i g t) f k0 kk)), none, some (iV (kk : Int))] []) : ∀ (n k : Nat), kk < k + n → k ≤ kk → V p l e ({ frames := 1, cells := 0, slots := 0, locals := 32 }) s m args below meth c 8 X Q h nx 0 0 6 [some (.ref y), some (iV f), some (iV k0), some (iV g), some (iV t), some (lV (sp_used (M 8) (M 9) (fun i => sp_use M i g t) f k0 k)), none, some (iV (k : Int))] [] := by
  intro n
  induction n with
  | zero =>
    intro k hk hk2
    exact absurd hk (by omega)
  | succ n ih =>
    intro k hk hk2
    refine v_iload (pc' := 8) F d_M_usedBy_6 rfl rfl ?_
    refine v_aload_n (pc' := 9) (j := 0) F d_M_usedBy_8 rfl rfl rfl ?_
    refine v_getf (pc' := 12) (C := zR_M) (T := zF_M) (N := 28) (ref := "BillSharesModel") F d_M_usedBy_9 rfl zi_M rfl 7 (by decide) wx_668 (Or.inl rfl) hM.1 rfl ?_
    refine v_icmp_ge (tgt := 61) (pc' := 15) F d_M_usedBy_12 (by decide) rfl (by omega) (by omega) (fun c12 => ?_) (fun c12 => ?_)
    · obtain rfl : k = kk := by omega
      exact hx
    · refine v_lload (pc' := 17) F d_M_usedBy_15 rfl rfl ?_
      refine v_aload_n (pc' := 18) (j := 0) F d_M_usedBy_17 rfl rfl rfl ?_
      refine v_getf (pc' := 21) (C := zR_M) (T := zF_M) (N := 28) (ref := "BillSharesModel") F d_M_usedBy_18 rfl zi_M rfl 8 (by decide) wx_669 (Or.inl rfl) hM.1 rfl ?_
      refine v_iload (pc' := 23) F d_M_usedBy_21 rfl rfl ?_
      refine mg_8 (pc' := 24) F hM d_M_usedBy_23 rfl (by omega) (by omega) ?_
      have q3 := hfo (k : Int) (by omega) (by omega)
      refine v_iload_n (pc' := 25) (j := 1) F d_M_usedBy_24 rfl rfl rfl ?_
      refine v_icmp_ne (tgt := 51) (pc' := 28) F d_M_usedBy_25 (by decide) rfl (by omega) (by omega) (fun c25 => ?_) (fun c25 => ?_)
      · refine v_lconst (pc' := 52) (z := 0) F d_M_usedBy_51 rfl (by decide) ?_
        refine v_ladd (pc' := 53) F d_M_usedBy_52 rfl ?_
        refine v_lstore_5 (pc' := 55) F d_M_usedBy_53 rfl rfl (by decide) ?_
        refine v_iinc_7 (pc' := 58) F d_M_usedBy_55 rfl rfl (by decide) ?_
        refine v_goto (tgt := 6) F d_M_usedBy_58 (by decide) ?_
        have q9 := ih (k + 1) (by omega) (by omega)
        first | (rw [show sp_used (M 8) (M 9) (fun i => sp_use M i g t) f k0 (k + 1) = sp_used (M 8) (M 9) (fun i => sp_use M i g t) f k0 k + sp_use M (k : Int) g t from congrArg (sp_used (M 8) (M 9) (fun i => sp_use M i g t) f k0 k + ·) (if_pos ⟨by omega, by omega⟩)] at q9; exact q9) | (rw [show sp_used (M 8) (M 9) (fun i => sp_use M i g t) f k0 (k + 1) = sp_used (M 8) (M 9) (fun i => sp_use M i g t) f k0 k + 0 from congrArg (sp_used (M 8) (M 9) (fun i => sp_use M i g t) f k0 k + ·) (if_neg (by omega))] at q9; exact q9)
      · refine v_aload_n (pc' := 29) (j := 0) F d_M_usedBy_28 rfl rfl rfl ?_
        refine v_getf (pc' := 32) (C := zR_M) (T := zF_M) (N := 28) (ref := "BillSharesModel") F d_M_usedBy_29 rfl zi_M rfl 9 (by decide) wx_670 (Or.inl rfl) hM.1 rfl ?_
        refine v_iload (pc' := 34) F d_M_usedBy_32 rfl rfl ?_
        refine mg_9 (pc' := 35) F hM d_M_usedBy_34 rfl (by omega) (by omega) ?_
        refine v_iload_n (pc' := 36) (j := 2) F d_M_usedBy_35 rfl rfl rfl ?_
        refine v_icmp_ne (tgt := 51) (pc' := 39) F d_M_usedBy_36 (by decide) rfl (by omega) (by omega) (fun c36 => ?_) (fun c36 => ?_)
        · refine v_lconst (pc' := 52) (z := 0) F d_M_usedBy_51 rfl (by decide) ?_
          refine v_ladd (pc' := 53) F d_M_usedBy_52 rfl ?_
          refine v_lstore_5 (pc' := 55) F d_M_usedBy_53 rfl rfl (by decide) ?_
          refine v_iinc_7 (pc' := 58) F d_M_usedBy_55 rfl rfl (by decide) ?_
          refine v_goto (tgt := 6) F d_M_usedBy_58 (by decide) ?_
          have q9 := ih (k + 1) (by omega) (by omega)
          first | (rw [show sp_used (M 8) (M 9) (fun i => sp_use M i g t) f k0 (k + 1) = sp_used (M 8) (M 9) (fun i => sp_use M i g t) f k0 k + sp_use M (k : Int) g t from congrArg (sp_used (M 8) (M 9) (fun i => sp_use M i g t) f k0 k + ·) (if_pos ⟨by omega, by omega⟩)] at q9; exact q9) | (rw [show sp_used (M 8) (M 9) (fun i => sp_use M i g t) f k0 (k + 1) = sp_used (M 8) (M 9) (fun i => sp_use M i g t) f k0 k + 0 from congrArg (sp_used (M 8) (M 9) (fun i => sp_use M i g t) f k0 k + ·) (if_neg (by omega))] at q9; exact q9)
        · refine v_aload_n (pc' := 40) (j := 0) F d_M_usedBy_39 rfl rfl rfl ?_
          refine v_iload (pc' := 42) F d_M_usedBy_40 rfl rfl ?_
          refine v_iload_n (pc' := 43) (j := 3) F d_M_usedBy_42 rfl rfl rfl ?_
          refine v_iload (pc' := 45) F d_M_usedBy_43 rfl rfl ?_
          refine v_callVP (pc' := 48) (C := zR_M) (T9 := zF_M) (N := 28) F d_M_usedBy_45 rfl cal_M_useOf wx_856 wx_858 wp_28 rfl hM.1 (c_M_useOf l X _ _ _ _ _ _ _ hM hme hrd hda hva hgo hmo hab hte hfo (by omega) rg rt) rfl ⟨by decide, by decide, by decide, by decide⟩ (Nat.le_of_ble_eq_true rfl) rfl rfl ?_
          refine v_goto (tgt := 52) F d_M_usedBy_48 (by decide) ?_
          refine v_ladd (pc' := 53) F d_M_usedBy_52 rfl ?_
          refine v_lstore_5 (pc' := 55) F d_M_usedBy_53 rfl rfl (by decide) ?_
          refine v_iinc_7 (pc' := 58) F d_M_usedBy_55 rfl rfl (by decide) ?_
          refine v_goto (tgt := 6) F d_M_usedBy_58 (by decide) ?_
          have q9 := ih (k + 1) (by omega) (by omega)
          first | (rw [show sp_used (M 8) (M 9) (fun i => sp_use M i g t) f k0 (k + 1) = sp_used (M 8) (M 9) (fun i => sp_use M i g t) f k0 k + sp_use M (k : Int) g t from congrArg (sp_used (M 8) (M 9) (fun i => sp_use M i g t) f k0 k + ·) (if_pos ⟨by omega, by omega⟩)] at q9; exact q9) | (rw [show sp_used (M 8) (M 9) (fun i => sp_use M i g t) f k0 (k + 1) = sp_used (M 8) (M 9) (fun i => sp_use M i g t) f k0 k + 0 from congrArg (sp_used (M 8) (M 9) (fun i => sp_use M i g t) f k0 k + ·) (if_neg (by omega))] at q9; exact q9)
set_option maxRecDepth 100000 in
set_option maxHeartbeats 4000000 in
theorem c_M_usedBy (l : Launch) (X : am_X) (h : am_H) (nx : Nat) (y : Nat) (M : MS) (f k0 g t : Int) (hM : RepM y M h) (hme : 0 ≤ M 7 0 ∧ M 7 0 ≤ 60) (hrd : ∀ f : Int, 0 ≤ f → f < M 7 0 → 0 ≤ M 13 f ∧ M 13 f ≤ 40) (hda : ∀ i : Int, 0 ≤ i → i < 2400 → 0 ≤ M 14 i ∧ M 14 i ≤ 3649) (hva : ∀ i : Int, 0 ≤ i → i < 2400 → 0 ≤ M 15 i ∧ M 15 i ≤ 10000000) (hgo : ∀ i : Int, 0 ≤ i → i < 2400 → 0 ≤ M 16 i ∧ M 16 i ≤ 10000000) (hmo : ∀ f k : Int, 0 ≤ f → f < M 7 0 → 0 ≤ k → k + 1 < M 13 f → M 14 (40 * f + k) < M 14 (40 * f + 1 + k) ∧ M 16 (40 * f + k) ≤ M 15 (40 * f + 1 + k)) (hab : ∀ f : Int, 0 ≤ f → f < M 7 0 → (1 ≤ M 10 f ∧ M 10 f ≤ 1000) ∧ (1 ≤ M 11 f ∧ M 11 f ≤ 1000)) (hte : ∀ i : Int, 0 ≤ i → i < 60 → 0 ≤ M 12 i ∧ M 12 i ≤ 3649) (hfo : ∀ i : Int, 0 ≤ i → i < 60 → (0 ≤ M 8 i ∧ M 8 i ≤ 20) ∧ (0 ≤ M 9 i ∧ M 9 i ≤ 3)) (rf : 0 ≤ f ∧ f ≤ 20) (rk : 0 ≤ k0 ∧ k0 ≤ 3) (rg : 0 ≤ g ∧ g ≤ 3650) (rt : 0 ≤ t ∧ t ≤ 3650) : CnP l X y_M_usedBy ({ frames := 1, cells := 0, slots := 0, locals := 32 }) [.ref y, iV f, iV k0, iV g, iV t] h nx (lV (sp_usedBy M f k0 g t)) := by
  refine cn_of (k := 3) (L0 := [some (.ref y), some (iV f), some (iV k0), some (iV g), some (iV t), none, none, none]) rfl wx_855 (Nat.le_of_ble_eq_true rfl) rfl (fun p e s m args below meth c F => ?_)
  refine v_lconst (pc' := 1) (z := 0) F d_M_usedBy_0 rfl (by decide) ?_
  refine v_lstore_5 (pc' := 3) F d_M_usedBy_1 rfl rfl (by decide) ?_
  refine v_iconst (pc' := 4) F d_M_usedBy_3 rfl ?_
  refine v_istore_7 (pc' := 6) F d_M_usedBy_4 rfl rfl (by decide) ?_
  refine lp_M_usedBy (kk := (M 7 0).toNat) F hM hme hrd hda hva hgo hmo hab hte hfo rf rk rg rt (by omega) ?_ ((M 7 0).toNat + 1) 0 (by omega) (by omega)
  refine v_lload (pc' := 63) F d_M_usedBy_61 rfl rfl ?_
  exact v_lreturn F d_M_usedBy_63 rfl (Nat.le_refl _) (Nat.le_refl _) ⟨rfl, rfl, rfl⟩
set_option maxRecDepth 100000 in
set_option maxHeartbeats 4000000 in
theorem lp_M_before {p : Program} {l : Launch} {e : Env} {s : State} {m : MethodId} {args : Array Value} {below : List Frame} {meth : Method} {c : Code} {X : am_X} {Q : State → Prop} {h : am_H} {nx : Nat} {y kk : Nat} {M : MS} {f : Int} (F : am_Fx p s m args meth c y_M_before b_M_before 4 ((Option.some FieldType.int)) [] X) (hM : RepM y M h) (hfl : 0 ≤ M 1 0 ∧ M 1 0 ≤ 20) (hrk : ∀ i : Int, 0 ≤ i → i < 20 → 0 ≤ M 3 i ∧ M 3 i ≤ 99) (rf : 0 ≤ f ∧ f < 20) (hkk : (kk : Int) = M 1 0) (hx : V p l e ({ frames := 0, cells := 0, slots := 0, locals := 0 }) s m args below meth c 4 X Q h nx 0 0 61 [some (.ref y), some (iV f), some (iV (sp_bef (M 3) f kk)), some (iV (kk : Int))] []) : ∀ (n k : Nat), kk < k + n → k ≤ kk → V p l e ({ frames := 0, cells := 0, slots := 0, locals := 0 }) s m args below meth c 4 X Q h nx 0 0 4 [some (.ref y), some (iV f), some (iV (sp_bef (M 3) f k)), some (iV (k : Int))] [] := by
  intro n
  induction n with
  | zero =>
    intro k hk hk2
    exact absurd hk (by omega)
  | succ n ih =>
    intro k hk hk2
    refine v_iload_n (pc' := 5) (j := 3) F d_M_before_4 rfl rfl rfl ?_
    refine v_aload_n (pc' := 6) (j := 0) F d_M_before_5 rfl rfl rfl ?_
    refine v_getf (pc' := 9) (C := zR_M) (T := zF_M) (N := 28) (ref := "BillSharesModel") F d_M_before_6 rfl zi_M rfl 1 (by decide) wx_662 (Or.inl rfl) hM.1 rfl ?_
    refine v_icmp_ge (tgt := 61) (pc' := 12) F d_M_before_9 (by decide) rfl (by omega) (by omega) (fun c9 => ?_) (fun c9 => ?_)
    · obtain rfl : k = kk := by omega
      exact hx
    · refine v_iload_n (pc' := 13) (j := 2) F d_M_before_12 rfl rfl rfl ?_
      refine v_aload_n (pc' := 14) (j := 0) F d_M_before_13 rfl rfl rfl ?_
      refine v_getf (pc' := 17) (C := zR_M) (T := zF_M) (N := 28) (ref := "BillSharesModel") F d_M_before_14 rfl zi_M rfl 3 (by decide) wx_664 (Or.inl rfl) hM.1 rfl ?_
      refine v_iload_n (pc' := 18) (j := 3) F d_M_before_17 rfl rfl rfl ?_
      have q2 := hrk (k : Int) (by omega) (by omega)
      have q3 := hrk f (by omega) (by omega)
      refine mg_3 (pc' := 19) F hM d_M_before_18 rfl (by omega) (by omega) ?_
      refine v_aload_n (pc' := 20) (j := 0) F d_M_before_19 rfl rfl rfl ?_
      refine v_getf (pc' := 23) (C := zR_M) (T := zF_M) (N := 28) (ref := "BillSharesModel") F d_M_before_20 rfl zi_M rfl 3 (by decide) wx_664 (Or.inl rfl) hM.1 rfl ?_
      refine v_iload_n (pc' := 24) (j := 1) F d_M_before_23 rfl rfl rfl ?_
      refine mg_3 (pc' := 25) F hM d_M_before_24 rfl (by omega) (by omega) ?_
      refine v_icmp_lt (tgt := 48) (pc' := 28) F d_M_before_25 (by decide) rfl (by omega) (by omega) (fun c25 => ?_) (fun c25 => ?_)
      · refine v_iconst (pc' := 49) F d_M_before_48 rfl ?_
        refine v_goto (tgt := 53) F d_M_before_49 (by decide) ?_
        refine v_iadd (pc' := 54) F d_M_before_53 rfl ?_
        refine v_istore_2 (pc' := 55) F d_M_before_54 rfl rfl (by decide) ?_
        refine v_iinc_3 (pc' := 58) F d_M_before_55 rfl rfl (by decide) ?_
        refine v_goto (tgt := 4) F d_M_before_58 (by decide) ?_
        have q9 := ih (k + 1) (by omega) (by omega)
        first | (rw [show sp_bef (M 3) f (k + 1) = sp_bef (M 3) f k + 1 from congrArg (sp_bef (M 3) f k + ·) (if_pos (by omega))] at q9; exact q9) | (rw [show sp_bef (M 3) f (k + 1) = sp_bef (M 3) f k + 0 from congrArg (sp_bef (M 3) f k + ·) (if_neg (by omega))] at q9; exact q9)
      · refine v_aload_n (pc' := 29) (j := 0) F d_M_before_28 rfl rfl rfl ?_
        refine v_getf (pc' := 32) (C := zR_M) (T := zF_M) (N := 28) (ref := "BillSharesModel") F d_M_before_29 rfl zi_M rfl 3 (by decide) wx_664 (Or.inl rfl) hM.1 rfl ?_
        refine v_iload_n (pc' := 33) (j := 3) F d_M_before_32 rfl rfl rfl ?_
        refine mg_3 (pc' := 34) F hM d_M_before_33 rfl (by omega) (by omega) ?_
        refine v_aload_n (pc' := 35) (j := 0) F d_M_before_34 rfl rfl rfl ?_
        refine v_getf (pc' := 38) (C := zR_M) (T := zF_M) (N := 28) (ref := "BillSharesModel") F d_M_before_35 rfl zi_M rfl 3 (by decide) wx_664 (Or.inl rfl) hM.1 rfl ?_
        refine v_iload_n (pc' := 39) (j := 1) F d_M_before_38 rfl rfl rfl ?_
        refine mg_3 (pc' := 40) F hM d_M_before_39 rfl (by omega) (by omega) ?_
        refine v_icmp_ne (tgt := 52) (pc' := 43) F d_M_before_40 (by decide) rfl (by omega) (by omega) (fun c40 => ?_) (fun c40 => ?_)
        · refine v_iconst (pc' := 53) F d_M_before_52 rfl ?_
          refine v_iadd (pc' := 54) F d_M_before_53 rfl ?_
          refine v_istore_2 (pc' := 55) F d_M_before_54 rfl rfl (by decide) ?_
          refine v_iinc_3 (pc' := 58) F d_M_before_55 rfl rfl (by decide) ?_
          refine v_goto (tgt := 4) F d_M_before_58 (by decide) ?_
          have q9 := ih (k + 1) (by omega) (by omega)
          first | (rw [show sp_bef (M 3) f (k + 1) = sp_bef (M 3) f k + 1 from congrArg (sp_bef (M 3) f k + ·) (if_pos (by omega))] at q9; exact q9) | (rw [show sp_bef (M 3) f (k + 1) = sp_bef (M 3) f k + 0 from congrArg (sp_bef (M 3) f k + ·) (if_neg (by omega))] at q9; exact q9)
        · refine v_iload_n (pc' := 44) (j := 3) F d_M_before_43 rfl rfl rfl ?_
          refine v_iload_n (pc' := 45) (j := 1) F d_M_before_44 rfl rfl rfl ?_
          refine v_icmp_ge (tgt := 52) (pc' := 48) F d_M_before_45 (by decide) rfl (by omega) (by omega) (fun c45 => ?_) (fun c45 => ?_)
          · refine v_iconst (pc' := 53) F d_M_before_52 rfl ?_
            refine v_iadd (pc' := 54) F d_M_before_53 rfl ?_
            refine v_istore_2 (pc' := 55) F d_M_before_54 rfl rfl (by decide) ?_
            refine v_iinc_3 (pc' := 58) F d_M_before_55 rfl rfl (by decide) ?_
            refine v_goto (tgt := 4) F d_M_before_58 (by decide) ?_
            have q9 := ih (k + 1) (by omega) (by omega)
            first | (rw [show sp_bef (M 3) f (k + 1) = sp_bef (M 3) f k + 1 from congrArg (sp_bef (M 3) f k + ·) (if_pos (by omega))] at q9; exact q9) | (rw [show sp_bef (M 3) f (k + 1) = sp_bef (M 3) f k + 0 from congrArg (sp_bef (M 3) f k + ·) (if_neg (by omega))] at q9; exact q9)
          · refine v_iconst (pc' := 49) F d_M_before_48 rfl ?_
            refine v_goto (tgt := 53) F d_M_before_49 (by decide) ?_
            refine v_iadd (pc' := 54) F d_M_before_53 rfl ?_
            refine v_istore_2 (pc' := 55) F d_M_before_54 rfl rfl (by decide) ?_
            refine v_iinc_3 (pc' := 58) F d_M_before_55 rfl rfl (by decide) ?_
            refine v_goto (tgt := 4) F d_M_before_58 (by decide) ?_
            have q9 := ih (k + 1) (by omega) (by omega)
            first | (rw [show sp_bef (M 3) f (k + 1) = sp_bef (M 3) f k + 1 from congrArg (sp_bef (M 3) f k + ·) (if_pos (by omega))] at q9; exact q9) | (rw [show sp_bef (M 3) f (k + 1) = sp_bef (M 3) f k + 0 from congrArg (sp_bef (M 3) f k + ·) (if_neg (by omega))] at q9; exact q9)
set_option maxRecDepth 100000 in
set_option maxHeartbeats 4000000 in
theorem c_M_before (l : Launch) (X : am_X) (h : am_H) (nx : Nat) (y : Nat) (M : MS) (f : Int) (hM : RepM y M h) (hfl : 0 ≤ M 1 0 ∧ M 1 0 ≤ 20) (hrk : ∀ i : Int, 0 ≤ i → i < 20 → 0 ≤ M 3 i ∧ M 3 i ≤ 99) (rf : 0 ≤ f ∧ f < 20) : CnP l X y_M_before ({ frames := 0, cells := 0, slots := 0, locals := 0 }) [.ref y, iV f] h nx (iV (sp_before M f)) := by
  refine cn_of (k := 2) (L0 := [some (.ref y), some (iV f), none, none]) rfl wx_839 (Nat.le_of_ble_eq_true rfl) rfl (fun p e s m args below meth c F => ?_)
  refine v_iconst (pc' := 1) F d_M_before_0 rfl ?_
  refine v_istore_2 (pc' := 2) F d_M_before_1 rfl rfl (by decide) ?_
  refine v_iconst (pc' := 3) F d_M_before_2 rfl ?_
  refine v_istore_3 (pc' := 4) F d_M_before_3 rfl rfl (by decide) ?_
  refine lp_M_before (kk := (M 1 0).toNat) F hM hfl hrk rf (by omega) ?_ ((M 1 0).toNat + 1) 0 (by omega) (by omega)
  refine v_iload_n (pc' := 62) (j := 2) F d_M_before_61 rfl rfl rfl ?_
  exact v_ireturn F rfl d_M_before_62 rfl rfl (Nat.le_refl _) (Nat.le_refl _) ⟨rfl, rfl, rfl⟩
def sp_useR (M : MS) (f a : Int) : Int × Int × MS := if (0 ≤ f ∧ f < M 7 0) ∧ 0 ≤ a ∧ a ≤ 9 then (0, if 0 < sp_why M f a then -1 else sp_use M f (365 * a) (365 * a + 365), M) else (1, 0, M)
set_option maxRecDepth 100000 in
set_option maxHeartbeats 4000000 in
theorem c_M_use (l : Launch) (X : am_X) (h : am_H) (nx : Nat) (y : Nat) (M : MS) (f a : Int) (hM : RepM y M h) (hme : 0 ≤ M 7 0 ∧ M 7 0 ≤ 60) (hrd : ∀ f : Int, 0 ≤ f → f < M 7 0 → 0 ≤ M 13 f ∧ M 13 f ≤ 40) (hda : ∀ i : Int, 0 ≤ i → i < 2400 → 0 ≤ M 14 i ∧ M 14 i ≤ 3649) (hva : ∀ i : Int, 0 ≤ i → i < 2400 → 0 ≤ M 15 i ∧ M 15 i ≤ 10000000) (hgo : ∀ i : Int, 0 ≤ i → i < 2400 → 0 ≤ M 16 i ∧ M 16 i ≤ 10000000) (hmo : ∀ f k : Int, 0 ≤ f → f < M 7 0 → 0 ≤ k → k + 1 < M 13 f → M 14 (40 * f + k) < M 14 (40 * f + 1 + k) ∧ M 16 (40 * f + k) ≤ M 15 (40 * f + 1 + k)) (hab : ∀ f : Int, 0 ≤ f → f < M 7 0 → (1 ≤ M 10 f ∧ M 10 f ≤ 1000) ∧ (1 ≤ M 11 f ∧ M 11 f ≤ 1000)) (hte : ∀ i : Int, 0 ≤ i → i < 60 → 0 ≤ M 12 i ∧ M 12 i ≤ 3649) (hfo : ∀ i : Int, 0 ≤ i → i < 60 → (0 ≤ M 8 i ∧ M 8 i ≤ 20) ∧ (0 ≤ M 9 i ∧ M 9 i ≤ 3)) (rf : -2147483648 ≤ f ∧ f < 2147483648) (ra : -2147483648 ≤ a ∧ a < 2147483648) : Cn l X y_M_use ({ frames := 1, cells := 0, slots := 0, locals := 32 }) [.ref y, iV f, iV a] h nx (mpost y h nx lV (sp_useR M f a)) := by
  refine cn_of (k := 0) (L0 := [some (.ref y), some (iV f), some (iV a)]) rfl wx_863 (Nat.le_of_ble_eq_true rfl) rfl (fun p e s m args below meth c F => ?_)
  refine v_aload_n (pc' := 1) (j := 0) F d_M_use_0 rfl rfl rfl ?_
  refine v_aload_n (pc' := 2) (j := 0) F d_M_use_1 rfl rfl rfl ?_
  refine v_iload_n (pc' := 3) (j := 1) F d_M_use_2 rfl rfl rfl ?_
  refine v_callVP (pc' := 6) (C := zR_M) (T9 := zF_M) (N := 28) F d_M_use_3 rfl cal_M_isMeter wx_778 wx_780 wp_19 rfl hM.1 (c_M_isMeter l X _ _ _ _ _ hM hme (by omega)) rfl ⟨by decide, by decide, by decide, by decide⟩ (Nat.le_of_ble_eq_true rfl) rfl rfl ?_
  refine v_zif_eq (tgt := 23) (pc' := 9) F d_M_use_6 (by decide) rfl (fun c6 => ?_) (fun c6 => ?_)
  · refine v_iconst (pc' := 24) F d_M_use_23 rfl ?_
    refine v_iconst (pc' := 25) F d_M_use_24 rfl ?_
    refine v_callVM (pc' := 28) (C := zR_M) (T9 := zF_M) (N := 28) F d_M_use_25 rfl cal_M_allows wx_758 wx_760 wp_16 rfl hM.1 (c_allows_1 l X _ _ _ _ _ hM (by omega)) rfl ⟨by decide, by decide, by decide, by decide⟩ (Nat.le_of_ble_eq_true rfl) rfl rfl (fun h1 hM1 hF1 => ?_)
    refine v_if_ne (tgt := 33) (pc' := 31) F d_M_use_28 (by decide) rfl (by omega) (fun c28 => by exfalso; omega) (fun c28 => ?_)
    refine v_lconst (pc' := 32) (z := 0) F d_M_use_31 rfl (by decide) ?_
    refine v_lreturn F d_M_use_32 rfl (Nat.le_refl _) (Nat.le_refl _) ?_
    first | (rw [show sp_useR M f a = (1, 0, M) from if_neg (by omega)]; exact ⟨_, hM1, ((MF.rf).tr hF1), rfl, upM_ss, eqv.note (Or.inl rfl), 0, rfl, fun q => absurd (show (1 : Int) = 0 from q) (by decide)⟩) | (rw [show sp_useR M f a = (0, -1, M) from (if_pos (by omega)).trans (by rw [if_pos (by omega)])]; exact ⟨_, hM1, ((MF.rf).tr hF1), rfl, upM_ss, eqv.note (Or.inl rfl), _, rfl, fun _ => rfl⟩) | (rw [show sp_useR M f a = (0, sp_use M f (365 * a) (365 * a + 365), M) from (if_pos (by omega)).trans (by rw [if_neg (by omega)])]; exact ⟨_, hM1, ((MF.rf).tr hF1), rfl, upM_ss, eqv.note (Or.inl rfl), _, rfl, fun _ => rfl⟩)
  · refine v_iload_n (pc' := 10) (j := 2) F d_M_use_9 rfl rfl rfl ?_
    refine v_iconst (pc' := 11) F d_M_use_10 rfl ?_
    refine v_bipush (pc' := 13) F d_M_use_11 rfl (by decide) ?_
    refine v_callSP (pc' := 16) F d_M_use_13 rfl cal_M_isIn wx_755 wx_756 (c_M_isIn l X _ _ _ _ _ (by omega) (by omega) (by omega)) rfl ⟨by decide, by decide, by decide, by decide⟩ (Nat.le_of_ble_eq_true rfl) rfl rfl ?_
    refine v_zif_eq (tgt := 23) (pc' := 19) F d_M_use_16 (by decide) rfl (fun c16 => ?_) (fun c16 => ?_)
    · refine v_iconst (pc' := 24) F d_M_use_23 rfl ?_
      refine v_iconst (pc' := 25) F d_M_use_24 rfl ?_
      refine v_callVM (pc' := 28) (C := zR_M) (T9 := zF_M) (N := 28) F d_M_use_25 rfl cal_M_allows wx_758 wx_760 wp_16 rfl hM.1 (c_allows_1 l X _ _ _ _ _ hM (by omega)) rfl ⟨by decide, by decide, by decide, by decide⟩ (Nat.le_of_ble_eq_true rfl) rfl rfl (fun h2 hM2 hF2 => ?_)
      refine v_if_ne (tgt := 33) (pc' := 31) F d_M_use_28 (by decide) rfl (by omega) (fun c28 => by exfalso; omega) (fun c28 => ?_)
      refine v_lconst (pc' := 32) (z := 0) F d_M_use_31 rfl (by decide) ?_
      refine v_lreturn F d_M_use_32 rfl (Nat.le_refl _) (Nat.le_refl _) ?_
      first | (rw [show sp_useR M f a = (1, 0, M) from if_neg (by omega)]; exact ⟨_, hM2, ((MF.rf).tr hF2), rfl, upM_ss, eqv.note (Or.inl rfl), 0, rfl, fun q => absurd (show (1 : Int) = 0 from q) (by decide)⟩) | (rw [show sp_useR M f a = (0, -1, M) from (if_pos (by omega)).trans (by rw [if_pos (by omega)])]; exact ⟨_, hM2, ((MF.rf).tr hF2), rfl, upM_ss, eqv.note (Or.inl rfl), _, rfl, fun _ => rfl⟩) | (rw [show sp_useR M f a = (0, sp_use M f (365 * a) (365 * a + 365), M) from (if_pos (by omega)).trans (by rw [if_neg (by omega)])]; exact ⟨_, hM2, ((MF.rf).tr hF2), rfl, upM_ss, eqv.note (Or.inl rfl), _, rfl, fun _ => rfl⟩)
    · refine v_iconst (pc' := 20) F d_M_use_19 rfl ?_
      refine v_goto (tgt := 24) F d_M_use_20 (by decide) ?_
      refine v_iconst (pc' := 25) F d_M_use_24 rfl ?_
      refine v_callVM (pc' := 28) (C := zR_M) (T9 := zF_M) (N := 28) F d_M_use_25 rfl cal_M_allows wx_758 wx_760 wp_16 rfl hM.1 (c_allows_0 l X _ _ _ _ hM) rfl ⟨by decide, by decide, by decide, by decide⟩ (Nat.le_of_ble_eq_true rfl) rfl rfl (fun h3 hM3 hF3 => ?_)
      refine v_if_ne (tgt := 33) (pc' := 31) F d_M_use_28 (by decide) rfl (by omega) (fun c28 => ?_) (fun c28 => by exfalso; omega)
      have hfm : 0 ≤ f ∧ f < M 7 0 := by omega
      refine v_aload_n (pc' := 34) (j := 0) F d_M_use_33 rfl rfl rfl ?_
      refine v_iload_n (pc' := 35) (j := 1) F d_M_use_34 rfl rfl rfl ?_
      refine v_iload_n (pc' := 36) (j := 2) F d_M_use_35 rfl rfl rfl ?_
      refine v_callVP (pc' := 39) (C := zR_M) (T9 := zF_M) (N := 28) F d_M_use_36 rfl cal_M_why wx_848 wx_850 wp_26 rfl hM3.1 (c_M_why l X _ _ _ _ _ _ hM3 hme hrd hda hfm (by omega) hte) rfl ⟨by decide, by decide, by decide, by decide⟩ (Nat.le_of_ble_eq_true rfl) rfl rfl ?_
      refine v_topi (b := sp_why M f a) rfl ?_
      have q7 := sp_why_r M f a
      refine v_if_le (tgt := 48) (pc' := 42) F d_M_use_39 (by decide) rfl (by omega) (fun c39 => ?_) (fun c39 => ?_)
      · refine v_aload_n (pc' := 49) (j := 0) F d_M_use_48 rfl rfl rfl ?_
        refine v_iload_n (pc' := 50) (j := 1) F d_M_use_49 rfl rfl rfl ?_
        refine v_sipush (pc' := 53) F d_M_use_50 rfl (by decide) ?_
        refine v_iload_n (pc' := 54) (j := 2) F d_M_use_53 rfl rfl rfl ?_
        refine v_imul (pc' := 55) F d_M_use_54 rfl ?_
        refine v_sipush (pc' := 58) F d_M_use_55 rfl (by decide) ?_
        refine v_iload_n (pc' := 59) (j := 2) F d_M_use_58 rfl rfl rfl ?_
        refine v_imul (pc' := 60) F d_M_use_59 rfl ?_
        refine v_sipush (pc' := 63) F d_M_use_60 rfl (by decide) ?_
        refine v_iadd (pc' := 64) F d_M_use_63 rfl ?_
        refine v_callVP (pc' := 67) (C := zR_M) (T9 := zF_M) (N := 28) F d_M_use_64 rfl cal_M_useOf wx_856 wx_858 wp_28 rfl hM3.1 (c_M_useOf l X _ _ _ _ _ _ _ hM3 hme hrd hda hva hgo hmo hab hte hfo hfm (by omega) (by omega)) rfl ⟨by decide, by decide, by decide, by decide⟩ (Nat.le_of_ble_eq_true rfl) rfl rfl ?_
        refine v_lreturn F d_M_use_67 rfl (Nat.le_refl _) (Nat.le_refl _) ?_
        first | (rw [show sp_useR M f a = (1, 0, M) from if_neg (by omega)]; exact ⟨_, hM3, ((MF.rf).tr hF3), rfl, upM_ss, eqv.note (Or.inl rfl), 0, rfl, fun q => absurd (show (1 : Int) = 0 from q) (by decide)⟩) | (rw [show sp_useR M f a = (0, -1, M) from (if_pos (by omega)).trans (by rw [if_pos (by omega)])]; exact ⟨_, hM3, ((MF.rf).tr hF3), rfl, upM_ss, eqv.note (Or.inl rfl), _, rfl, fun _ => rfl⟩) | (rw [show sp_useR M f a = (0, sp_use M f (365 * a) (365 * a + 365), M) from (if_pos (by omega)).trans (by rw [if_neg (by omega)])]; exact ⟨_, hM3, ((MF.rf).tr hF3), rfl, upM_ss, eqv.note (Or.inl rfl), _, rfl, fun _ => rfl⟩)
      · refine v_ldc2 (pc' := 45) (z := (-1)) F d_M_use_42 rfl wx_864 (by decide) ?_
        refine v_goto (tgt := 67) F d_M_use_45 (by decide) ?_
        refine v_lreturn F d_M_use_67 rfl (Nat.le_refl _) (Nat.le_refl _) ?_
        first | (rw [show sp_useR M f a = (1, 0, M) from if_neg (by omega)]; exact ⟨_, hM3, ((MF.rf).tr hF3), rfl, upM_ss, eqv.note (Or.inl rfl), 0, rfl, fun q => absurd (show (1 : Int) = 0 from q) (by decide)⟩) | (rw [show sp_useR M f a = (0, -1, M) from (if_pos (by omega)).trans (by rw [if_pos (by omega)])]; exact ⟨_, hM3, ((MF.rf).tr hF3), rfl, upM_ss, eqv.note (Or.inl rfl), _, rfl, fun _ => rfl⟩) | (rw [show sp_useR M f a = (0, sp_use M f (365 * a) (365 * a + 365), M) from (if_pos (by omega)).trans (by rw [if_neg (by omega)])]; exact ⟨_, hM3, ((MF.rf).tr hF3), rfl, upM_ss, eqv.note (Or.inl rfl), _, rfl, fun _ => rfl⟩)
def sp_barredR (M : MS) (f k a : Int) : Int × Int × MS := if (0 ≤ f ∧ f < M 1 0) ∧ (0 ≤ k ∧ k ≤ 3) ∧ 0 ≤ a ∧ a ≤ 9 then (0, sp_barred M f k a, M) else (1, 0, M)
set_option maxRecDepth 100000 in
set_option maxHeartbeats 4000000 in
theorem c_M_barred (l : Launch) (X : am_X) (h : am_H) (nx : Nat) (y : Nat) (M : MS) (f k0 a : Int) (hM : RepM y M h) (hfl : 0 ≤ M 1 0 ∧ M 1 0 ≤ 20) (hme : 0 ≤ M 7 0 ∧ M 7 0 ≤ 60) (hrd : ∀ f : Int, 0 ≤ f → f < M 7 0 → 0 ≤ M 13 f ∧ M 13 f ≤ 40) (hda : ∀ i : Int, 0 ≤ i → i < 2400 → 0 ≤ M 14 i ∧ M 14 i ≤ 3649) (hva : ∀ i : Int, 0 ≤ i → i < 2400 → 0 ≤ M 15 i ∧ M 15 i ≤ 10000000) (hgo : ∀ i : Int, 0 ≤ i → i < 2400 → 0 ≤ M 16 i ∧ M 16 i ≤ 10000000) (hmo : ∀ f k : Int, 0 ≤ f → f < M 7 0 → 0 ≤ k → k + 1 < M 13 f → M 14 (40 * f + k) < M 14 (40 * f + 1 + k) ∧ M 16 (40 * f + k) ≤ M 15 (40 * f + 1 + k)) (hab : ∀ f : Int, 0 ≤ f → f < M 7 0 → (1 ≤ M 10 f ∧ M 10 f ≤ 1000) ∧ (1 ≤ M 11 f ∧ M 11 f ≤ 1000)) (hte : ∀ i : Int, 0 ≤ i → i < 60 → 0 ≤ M 12 i ∧ M 12 i ≤ 3649) (hfo : ∀ i : Int, 0 ≤ i → i < 60 → (0 ≤ M 8 i ∧ M 8 i ≤ 20) ∧ (0 ≤ M 9 i ∧ M 9 i ≤ 3)) (rf : -2147483648 ≤ f ∧ f < 2147483648) (rk : -2147483648 ≤ k0 ∧ k0 < 2147483648) (ra : -2147483648 ≤ a ∧ a < 2147483648) : Cn l X y_M_barred ({ frames := 2, cells := 0, slots := 0, locals := 50 }) [.ref y, iV f, iV k0, iV a] h nx (mpost y h nx iV (sp_barredR M f k0 a)) := by
  refine cn_of (k := 0) (L0 := [some (.ref y), some (iV f), some (iV k0), some (iV a)]) rfl wx_868 (Nat.le_of_ble_eq_true rfl) rfl (fun p e s m args below meth c F => ?_)
  refine v_aload_n (pc' := 1) (j := 0) F d_M_barred_0 rfl rfl rfl ?_
  refine v_aload_n (pc' := 2) (j := 0) F d_M_barred_1 rfl rfl rfl ?_
  refine v_iload_n (pc' := 3) (j := 1) F d_M_barred_2 rfl rfl rfl ?_
  refine v_callVP (pc' := 6) (C := zR_M) (T9 := zF_M) (N := 28) F d_M_barred_3 rfl cal_M_isFlat wx_766 wx_768 wp_17 rfl hM.1 (c_M_isFlat l X _ _ _ _ _ hM hfl (by omega)) rfl ⟨by decide, by decide, by decide, by decide⟩ (Nat.le_of_ble_eq_true rfl) rfl rfl ?_
  refine v_zif_eq (tgt := 32) (pc' := 9) F d_M_barred_6 (by decide) rfl (fun c6 => ?_) (fun c6 => ?_)
  · refine v_iconst (pc' := 33) F d_M_barred_32 rfl ?_
    refine v_iconst (pc' := 34) F d_M_barred_33 rfl ?_
    refine v_callVM (pc' := 37) (C := zR_M) (T9 := zF_M) (N := 28) F d_M_barred_34 rfl cal_M_allows wx_758 wx_760 wp_16 rfl hM.1 (c_allows_1 l X _ _ _ _ _ hM (by omega)) rfl ⟨by decide, by decide, by decide, by decide⟩ (Nat.le_of_ble_eq_true rfl) rfl rfl (fun h1 hM1 hF1 => ?_)
    refine v_if_eq (tgt := 50) (pc' := 40) F d_M_barred_37 (by decide) rfl (by omega) (fun c37 => ?_) (fun c37 => by exfalso; omega)
    refine v_iconst (pc' := 51) F d_M_barred_50 rfl ?_
    refine v_ireturn F rfl d_M_barred_51 rfl rfl (Nat.le_refl _) (Nat.le_refl _) ?_
    first | (rw [show sp_barredR M f k0 a = (1, 0, M) from if_neg (by omega)]; exact ⟨_, hM1, ((MF.rf).tr hF1), rfl, upM_ss, eqv.note (Or.inl rfl), 0, rfl, fun q => absurd (show (1 : Int) = 0 from q) (by decide)⟩) | (rw [show sp_barredR M f k0 a = _ from if_pos (by omega)]; exact ⟨_, hM1, ((MF.rf).tr hF1), rfl, upM_ss, eqv.note (Or.inl rfl), _, rfl, fun _ => rfl⟩)
  · refine v_iload_n (pc' := 10) (j := 2) F d_M_barred_9 rfl rfl rfl ?_
    refine v_iconst (pc' := 11) F d_M_barred_10 rfl ?_
    refine v_iconst (pc' := 12) F d_M_barred_11 rfl ?_
    refine v_callSP (pc' := 15) F d_M_barred_12 rfl cal_M_isIn wx_755 wx_756 (c_M_isIn l X _ _ _ _ _ (by omega) (by omega) (by omega)) rfl ⟨by decide, by decide, by decide, by decide⟩ (Nat.le_of_ble_eq_true rfl) rfl rfl ?_
    refine v_zif_eq (tgt := 32) (pc' := 18) F d_M_barred_15 (by decide) rfl (fun c15 => ?_) (fun c15 => ?_)
    · refine v_iconst (pc' := 33) F d_M_barred_32 rfl ?_
      refine v_iconst (pc' := 34) F d_M_barred_33 rfl ?_
      refine v_callVM (pc' := 37) (C := zR_M) (T9 := zF_M) (N := 28) F d_M_barred_34 rfl cal_M_allows wx_758 wx_760 wp_16 rfl hM.1 (c_allows_1 l X _ _ _ _ _ hM (by omega)) rfl ⟨by decide, by decide, by decide, by decide⟩ (Nat.le_of_ble_eq_true rfl) rfl rfl (fun h2 hM2 hF2 => ?_)
      refine v_if_eq (tgt := 50) (pc' := 40) F d_M_barred_37 (by decide) rfl (by omega) (fun c37 => ?_) (fun c37 => by exfalso; omega)
      refine v_iconst (pc' := 51) F d_M_barred_50 rfl ?_
      refine v_ireturn F rfl d_M_barred_51 rfl rfl (Nat.le_refl _) (Nat.le_refl _) ?_
      first | (rw [show sp_barredR M f k0 a = (1, 0, M) from if_neg (by omega)]; exact ⟨_, hM2, ((MF.rf).tr hF2), rfl, upM_ss, eqv.note (Or.inl rfl), 0, rfl, fun q => absurd (show (1 : Int) = 0 from q) (by decide)⟩) | (rw [show sp_barredR M f k0 a = _ from if_pos (by omega)]; exact ⟨_, hM2, ((MF.rf).tr hF2), rfl, upM_ss, eqv.note (Or.inl rfl), _, rfl, fun _ => rfl⟩)
    · refine v_iload_n (pc' := 19) (j := 3) F d_M_barred_18 rfl rfl rfl ?_
      refine v_iconst (pc' := 20) F d_M_barred_19 rfl ?_
      refine v_bipush (pc' := 22) F d_M_barred_20 rfl (by decide) ?_
      refine v_callSP (pc' := 25) F d_M_barred_22 rfl cal_M_isIn wx_755 wx_756 (c_M_isIn l X _ _ _ _ _ (by omega) (by omega) (by omega)) rfl ⟨by decide, by decide, by decide, by decide⟩ (Nat.le_of_ble_eq_true rfl) rfl rfl ?_
      refine v_zif_eq (tgt := 32) (pc' := 28) F d_M_barred_25 (by decide) rfl (fun c25 => ?_) (fun c25 => ?_)
      · refine v_iconst (pc' := 33) F d_M_barred_32 rfl ?_
        refine v_iconst (pc' := 34) F d_M_barred_33 rfl ?_
        refine v_callVM (pc' := 37) (C := zR_M) (T9 := zF_M) (N := 28) F d_M_barred_34 rfl cal_M_allows wx_758 wx_760 wp_16 rfl hM.1 (c_allows_1 l X _ _ _ _ _ hM (by omega)) rfl ⟨by decide, by decide, by decide, by decide⟩ (Nat.le_of_ble_eq_true rfl) rfl rfl (fun h3 hM3 hF3 => ?_)
        refine v_if_eq (tgt := 50) (pc' := 40) F d_M_barred_37 (by decide) rfl (by omega) (fun c37 => ?_) (fun c37 => by exfalso; omega)
        refine v_iconst (pc' := 51) F d_M_barred_50 rfl ?_
        refine v_ireturn F rfl d_M_barred_51 rfl rfl (Nat.le_refl _) (Nat.le_refl _) ?_
        first | (rw [show sp_barredR M f k0 a = (1, 0, M) from if_neg (by omega)]; exact ⟨_, hM3, ((MF.rf).tr hF3), rfl, upM_ss, eqv.note (Or.inl rfl), 0, rfl, fun q => absurd (show (1 : Int) = 0 from q) (by decide)⟩) | (rw [show sp_barredR M f k0 a = _ from if_pos (by omega)]; exact ⟨_, hM3, ((MF.rf).tr hF3), rfl, upM_ss, eqv.note (Or.inl rfl), _, rfl, fun _ => rfl⟩)
      · refine v_iconst (pc' := 29) F d_M_barred_28 rfl ?_
        refine v_goto (tgt := 33) F d_M_barred_29 (by decide) ?_
        refine v_iconst (pc' := 34) F d_M_barred_33 rfl ?_
        refine v_callVM (pc' := 37) (C := zR_M) (T9 := zF_M) (N := 28) F d_M_barred_34 rfl cal_M_allows wx_758 wx_760 wp_16 rfl hM.1 (c_allows_0 l X _ _ _ _ hM) rfl ⟨by decide, by decide, by decide, by decide⟩ (Nat.le_of_ble_eq_true rfl) rfl rfl (fun h4 hM4 hF4 => ?_)
        refine v_if_eq (tgt := 50) (pc' := 40) F d_M_barred_37 (by decide) rfl (by omega) (fun c37 => by exfalso; omega) (fun c37 => ?_)
        refine v_aload_n (pc' := 41) (j := 0) F d_M_barred_40 rfl rfl rfl ?_
        refine v_iload_n (pc' := 42) (j := 1) F d_M_barred_41 rfl rfl rfl ?_
        refine v_iload_n (pc' := 43) (j := 2) F d_M_barred_42 rfl rfl rfl ?_
        refine v_iload_n (pc' := 44) (j := 3) F d_M_barred_43 rfl rfl rfl ?_
        refine v_callVP (pc' := 47) (C := zR_M) (T9 := zF_M) (N := 28) F d_M_barred_44 rfl cal_M_barredOf wx_844 wx_846 wp_25 rfl hM4.1 (c_M_barredOf l X _ _ _ _ _ _ _ hM4 hme hrd hda hva hgo hmo hab hte hfo (by omega) (by omega) (by omega)) rfl ⟨by decide, by decide, by decide, by decide⟩ (Nat.le_of_ble_eq_true rfl) rfl rfl ?_
        refine v_goto (tgt := 51) F d_M_barred_47 (by decide) ?_
        refine v_ireturn F rfl d_M_barred_51 rfl rfl (Nat.le_refl _) (Nat.le_refl _) ?_
        first | (rw [show sp_barredR M f k0 a = (1, 0, M) from if_neg (by omega)]; exact ⟨_, hM4, ((MF.rf).tr hF4), rfl, upM_ss, eqv.note (Or.inl rfl), 0, rfl, fun q => absurd (show (1 : Int) = 0 from q) (by decide)⟩) | (rw [show sp_barredR M f k0 a = _ from if_pos (by omega)]; exact ⟨_, hM4, ((MF.rf).tr hF4), rfl, upM_ss, eqv.note (Or.inl rfl), _, rfl, fun _ => rfl⟩)
