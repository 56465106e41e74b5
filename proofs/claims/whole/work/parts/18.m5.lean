/-! why, shareOf, has, line, share, balance, difference, begin, end, days of the reference (written by wip/whole/mm5.py) -/
def sp_fst (D : Int → Int) (f a : Int) : Nat → Int
  | 0 => 0
  | k + 1 => if ¬ sp_fst D f a k = 0 then 1 else if D (40 * f + (k : Int)) ≤ 365 * a then 1 else 0
theorem sp_fst_1 {D : Int → Int} {f a : Int} {k : Nat} (h : ¬ sp_fst D f a k = 0 ∨ D (40 * f + (k : Int)) ≤ 365 * a) : sp_fst D f a (k + 1) = 1 := by
  unfold sp_fst
  by_cases hq : ¬ sp_fst D f a k = 0
  · rw [if_pos hq]
  · rw [if_neg hq, if_pos (h.resolve_left hq)]
theorem sp_fst_0 {D : Int → Int} {f a : Int} {k : Nat} (h : sp_fst D f a k = 0) (h2 : ¬ (D (40 * f + (k : Int)) ≤ 365 * a)) : sp_fst D f a (k + 1) = 0 := by
  unfold sp_fst
  rw [if_neg (fun q => q h), if_neg h2]
theorem sp_fst_r (D : Int → Int) (f a : Int) : ∀ k : Nat, sp_fst D f a k = 0 ∨ sp_fst D f a k = 1
  | 0 => Or.inl rfl
  | k + 1 => by
    by_cases h : ¬ sp_fst D f a k = 0 ∨ D (40 * f + (k : Int)) ≤ 365 * a
    · exact Or.inr (sp_fst_1 h)
    · exact Or.inl (sp_fst_0 (Classical.byContradiction fun q => h (Or.inl q)) (fun q => h (Or.inr q)))
def sp_lst (D : Int → Int) (f a : Int) : Nat → Int
  | 0 => 0
  | k + 1 => if ¬ sp_lst D f a k = 0 then 1 else if 365 * a + 365 ≤ D (40 * f + (k : Int)) then 1 else 0
theorem sp_lst_1 {D : Int → Int} {f a : Int} {k : Nat} (h : ¬ sp_lst D f a k = 0 ∨ 365 * a + 365 ≤ D (40 * f + (k : Int))) : sp_lst D f a (k + 1) = 1 := by
  unfold sp_lst
  by_cases hq : ¬ sp_lst D f a k = 0
  · rw [if_pos hq]
  · rw [if_neg hq, if_pos (h.resolve_left hq)]
theorem sp_lst_0 {D : Int → Int} {f a : Int} {k : Nat} (h : sp_lst D f a k = 0) (h2 : ¬ (365 * a + 365 ≤ D (40 * f + (k : Int)))) : sp_lst D f a (k + 1) = 0 := by
  unfold sp_lst
  rw [if_neg (fun q => q h), if_neg h2]
theorem sp_lst_r (D : Int → Int) (f a : Int) : ∀ k : Nat, sp_lst D f a k = 0 ∨ sp_lst D f a k = 1
  | 0 => Or.inl rfl
  | k + 1 => by
    by_cases h : ¬ sp_lst D f a k = 0 ∨ 365 * a + 365 ≤ D (40 * f + (k : Int))
    · exact Or.inr (sp_lst_1 h)
    · exact Or.inl (sp_lst_0 (Classical.byContradiction fun q => h (Or.inl q)) (fun q => h (Or.inr q)))
def sp_why (M : MS) (f a : Int) : Int := if sp_fst (M 14) f a (M 13 f).toNat = 0 ∨ sp_lst (M 14) f a (M 13 f).toNat = 0 then 2 else if M 12 f < 365 * a + 365 then 3 else 0
theorem sp_why_r (M : MS) (f a : Int) : sp_why M f a = 0 ∨ sp_why M f a = 2 ∨ sp_why M f a = 3 := by
  unfold sp_why
  split
  · exact Or.inr (Or.inl rfl)
  · split
    · exact Or.inr (Or.inr rfl)
    · exact Or.inl rfl
set_option maxRecDepth 100000 in
set_option maxHeartbeats 4000000 in
theorem lp_M_why {p : Program} {l : Launch} {e : Env} {s : State} {m : MethodId} {args : Array Value} {below : List Frame} {meth : Method} {c : Code} {X : am_X} {Q : State → Prop} {h : am_H} {nx : Nat} {y kk : Nat} {M : MS} {f a : Int} (F : am_Fx p s m args meth c y_M_why b_M_why 6 ((Option.some FieldType.int)) [] X) (hM : RepM y M h) (hme : 0 ≤ M 7 0 ∧ M 7 0 ≤ 60) (hrd : ∀ f : Int, 0 ≤ f → f < M 7 0 → 0 ≤ M 13 f ∧ M 13 f ≤ 40) (hda : ∀ i : Int, 0 ≤ i → i < 2400 → 0 ≤ M 14 i ∧ M 14 i ≤ 3649) (hf : 0 ≤ f ∧ f < M 7 0) (ry : 0 ≤ a ∧ a ≤ 9) (hkk : (kk : Int) = M 13 f) (hx : V p l e ({ frames := 0, cells := 0, slots := 0, locals := 0 }) s m args below meth c 6 X Q h nx 0 0 91 [some (.ref y), some (iV f), some (iV a), some (iV (sp_fst (M 14) f a kk)), some (iV (sp_lst (M 14) f a kk)), some (iV (kk : Int))] []) : ∀ (n k : Nat), kk < k + n → k ≤ kk → V p l e ({ frames := 0, cells := 0, slots := 0, locals := 0 }) s m args below meth c 6 X Q h nx 0 0 8 [some (.ref y), some (iV f), some (iV a), some (iV (sp_fst (M 14) f a k)), some (iV (sp_lst (M 14) f a k)), some (iV (k : Int))] [] := by
  intro n
  induction n with
  | zero =>
    intro k hk hk2
    exact absurd hk (by omega)
  | succ n ih =>
    intro k hk hk2
    have q1 := hrd f hf.1 hf.2
    have q2 := sp_fst_r (M 14) f a k
    have q3 := sp_lst_r (M 14) f a k
    refine v_iload (pc' := 10) F d_M_why_8 rfl rfl ?_
    refine v_aload_n (pc' := 11) (j := 0) F d_M_why_10 rfl rfl rfl ?_
    refine v_getf (pc' := 14) (C := zR_M) (T := zF_M) (N := 28) (ref := "BillSharesModel") F d_M_why_11 rfl zi_M rfl 13 (by decide) wx_674 (Or.inl rfl) hM.1 rfl ?_
    refine v_iload_n (pc' := 15) (j := 1) F d_M_why_14 rfl rfl rfl ?_
    refine mg_13 (pc' := 16) F hM d_M_why_15 rfl (by omega) (by omega) ?_
    refine v_icmp_ge (tgt := 91) (pc' := 19) F d_M_why_16 (by decide) rfl (by omega) (by omega) (fun c16 => ?_) (fun c16 => ?_)
    · obtain rfl : k = kk := by omega
      exact hx
    · refine v_iload_n (pc' := 20) (j := 3) F d_M_why_19 rfl rfl rfl ?_
      refine v_if_ne (tgt := 43) (pc' := 23) F d_M_why_20 (by decide) rfl (by omega) (fun c20 => ?_) (fun c20 => ?_)
      · refine v_iconst (pc' := 44) F d_M_why_43 rfl ?_
        refine v_goto (tgt := 48) F d_M_why_44 (by decide) ?_
        refine v_istore_3 (pc' := 49) F d_M_why_48 rfl rfl (by decide) ?_
        refine v_iload (pc' := 51) F d_M_why_49 rfl rfl ?_
        refine v_if_ne (tgt := 78) (pc' := 54) F d_M_why_51 (by decide) rfl (by omega) (fun c51 => ?_) (fun c51 => ?_)
        · refine v_iconst (pc' := 79) F d_M_why_78 rfl ?_
          refine v_goto (tgt := 83) F d_M_why_79 (by decide) ?_
          refine v_istore_4 (pc' := 85) F d_M_why_83 rfl rfl (by decide) ?_
          refine v_iinc_5 (pc' := 88) F d_M_why_85 rfl rfl (by decide) ?_
          refine v_goto (tgt := 8) F d_M_why_88 (by decide) ?_
          have q9 := ih (k + 1) (by omega) (by omega)
          first | rw [sp_fst_1 (by omega)] at q9 | rw [sp_fst_0 (by omega) (by omega)] at q9
          first | rw [sp_lst_1 (by omega)] at q9 | rw [sp_lst_0 (by omega) (by omega)] at q9
          exact q9
        · refine v_aload_n (pc' := 55) (j := 0) F d_M_why_54 rfl rfl rfl ?_
          refine v_getf (pc' := 58) (C := zR_M) (T := zF_M) (N := 28) (ref := "BillSharesModel") F d_M_why_55 rfl zi_M rfl 14 (by decide) wx_675 (Or.inl rfl) hM.1 rfl ?_
          refine v_bipush (pc' := 60) F d_M_why_58 rfl (by decide) ?_
          refine v_iload_n (pc' := 61) (j := 1) F d_M_why_60 rfl rfl rfl ?_
          refine v_imul (pc' := 62) F d_M_why_61 rfl ?_
          refine v_iload (pc' := 64) F d_M_why_62 rfl rfl ?_
          refine v_iadd (pc' := 65) F d_M_why_64 rfl ?_
          have q5 := hda (40 * f + (k : Int)) (by omega) (by omega)
          refine mg_14 (pc' := 66) F hM d_M_why_65 rfl (by omega) (by omega) ?_
          refine v_sipush (pc' := 69) F d_M_why_66 rfl (by decide) ?_
          refine v_iload_n (pc' := 70) (j := 2) F d_M_why_69 rfl rfl rfl ?_
          refine v_imul (pc' := 71) F d_M_why_70 rfl ?_
          refine v_sipush (pc' := 74) F d_M_why_71 rfl (by decide) ?_
          refine v_iadd (pc' := 75) F d_M_why_74 rfl ?_
          refine v_icmp_lt (tgt := 82) (pc' := 78) F d_M_why_75 (by decide) rfl (by omega) (by omega) (fun c75 => ?_) (fun c75 => ?_)
          · refine v_iconst (pc' := 83) F d_M_why_82 rfl ?_
            refine v_istore_4 (pc' := 85) F d_M_why_83 rfl rfl (by decide) ?_
            refine v_iinc_5 (pc' := 88) F d_M_why_85 rfl rfl (by decide) ?_
            refine v_goto (tgt := 8) F d_M_why_88 (by decide) ?_
            have q9 := ih (k + 1) (by omega) (by omega)
            first | rw [sp_fst_1 (by omega)] at q9 | rw [sp_fst_0 (by omega) (by omega)] at q9
            first | rw [sp_lst_1 (by omega)] at q9 | rw [sp_lst_0 (by omega) (by omega)] at q9
            exact q9
          · refine v_iconst (pc' := 79) F d_M_why_78 rfl ?_
            refine v_goto (tgt := 83) F d_M_why_79 (by decide) ?_
            refine v_istore_4 (pc' := 85) F d_M_why_83 rfl rfl (by decide) ?_
            refine v_iinc_5 (pc' := 88) F d_M_why_85 rfl rfl (by decide) ?_
            refine v_goto (tgt := 8) F d_M_why_88 (by decide) ?_
            have q9 := ih (k + 1) (by omega) (by omega)
            first | rw [sp_fst_1 (by omega)] at q9 | rw [sp_fst_0 (by omega) (by omega)] at q9
            first | rw [sp_lst_1 (by omega)] at q9 | rw [sp_lst_0 (by omega) (by omega)] at q9
            exact q9
      · refine v_aload_n (pc' := 24) (j := 0) F d_M_why_23 rfl rfl rfl ?_
        refine v_getf (pc' := 27) (C := zR_M) (T := zF_M) (N := 28) (ref := "BillSharesModel") F d_M_why_24 rfl zi_M rfl 14 (by decide) wx_675 (Or.inl rfl) hM.1 rfl ?_
        refine v_bipush (pc' := 29) F d_M_why_27 rfl (by decide) ?_
        refine v_iload_n (pc' := 30) (j := 1) F d_M_why_29 rfl rfl rfl ?_
        refine v_imul (pc' := 31) F d_M_why_30 rfl ?_
        refine v_iload (pc' := 33) F d_M_why_31 rfl rfl ?_
        refine v_iadd (pc' := 34) F d_M_why_33 rfl ?_
        have q4 := hda (40 * f + (k : Int)) (by omega) (by omega)
        refine mg_14 (pc' := 35) F hM d_M_why_34 rfl (by omega) (by omega) ?_
        refine v_sipush (pc' := 38) F d_M_why_35 rfl (by decide) ?_
        refine v_iload_n (pc' := 39) (j := 2) F d_M_why_38 rfl rfl rfl ?_
        refine v_imul (pc' := 40) F d_M_why_39 rfl ?_
        refine v_icmp_gt (tgt := 47) (pc' := 43) F d_M_why_40 (by decide) rfl (by omega) (by omega) (fun c40 => ?_) (fun c40 => ?_)
        · refine v_iconst (pc' := 48) F d_M_why_47 rfl ?_
          refine v_istore_3 (pc' := 49) F d_M_why_48 rfl rfl (by decide) ?_
          refine v_iload (pc' := 51) F d_M_why_49 rfl rfl ?_
          refine v_if_ne (tgt := 78) (pc' := 54) F d_M_why_51 (by decide) rfl (by omega) (fun c51 => ?_) (fun c51 => ?_)
          · refine v_iconst (pc' := 79) F d_M_why_78 rfl ?_
            refine v_goto (tgt := 83) F d_M_why_79 (by decide) ?_
            refine v_istore_4 (pc' := 85) F d_M_why_83 rfl rfl (by decide) ?_
            refine v_iinc_5 (pc' := 88) F d_M_why_85 rfl rfl (by decide) ?_
            refine v_goto (tgt := 8) F d_M_why_88 (by decide) ?_
            have q9 := ih (k + 1) (by omega) (by omega)
            first | rw [sp_fst_1 (by omega)] at q9 | rw [sp_fst_0 (by omega) (by omega)] at q9
            first | rw [sp_lst_1 (by omega)] at q9 | rw [sp_lst_0 (by omega) (by omega)] at q9
            exact q9
          · refine v_aload_n (pc' := 55) (j := 0) F d_M_why_54 rfl rfl rfl ?_
            refine v_getf (pc' := 58) (C := zR_M) (T := zF_M) (N := 28) (ref := "BillSharesModel") F d_M_why_55 rfl zi_M rfl 14 (by decide) wx_675 (Or.inl rfl) hM.1 rfl ?_
            refine v_bipush (pc' := 60) F d_M_why_58 rfl (by decide) ?_
            refine v_iload_n (pc' := 61) (j := 1) F d_M_why_60 rfl rfl rfl ?_
            refine v_imul (pc' := 62) F d_M_why_61 rfl ?_
            refine v_iload (pc' := 64) F d_M_why_62 rfl rfl ?_
            refine v_iadd (pc' := 65) F d_M_why_64 rfl ?_
            have q5 := hda (40 * f + (k : Int)) (by omega) (by omega)
            refine mg_14 (pc' := 66) F hM d_M_why_65 rfl (by omega) (by omega) ?_
            refine v_sipush (pc' := 69) F d_M_why_66 rfl (by decide) ?_
            refine v_iload_n (pc' := 70) (j := 2) F d_M_why_69 rfl rfl rfl ?_
            refine v_imul (pc' := 71) F d_M_why_70 rfl ?_
            refine v_sipush (pc' := 74) F d_M_why_71 rfl (by decide) ?_
            refine v_iadd (pc' := 75) F d_M_why_74 rfl ?_
            refine v_icmp_lt (tgt := 82) (pc' := 78) F d_M_why_75 (by decide) rfl (by omega) (by omega) (fun c75 => ?_) (fun c75 => ?_)
            · refine v_iconst (pc' := 83) F d_M_why_82 rfl ?_
              refine v_istore_4 (pc' := 85) F d_M_why_83 rfl rfl (by decide) ?_
              refine v_iinc_5 (pc' := 88) F d_M_why_85 rfl rfl (by decide) ?_
              refine v_goto (tgt := 8) F d_M_why_88 (by decide) ?_
              have q9 := ih (k + 1) (by omega) (by omega)
              first | rw [sp_fst_1 (by omega)] at q9 | rw [sp_fst_0 (by omega) (by omega)] at q9
              first | rw [sp_lst_1 (by omega)] at q9 | rw [sp_lst_0 (by omega) (by omega)] at q9
              exact q9
            · refine v_iconst (pc' := 79) F d_M_why_78 rfl ?_
              refine v_goto (tgt := 83) F d_M_why_79 (by decide) ?_
              refine v_istore_4 (pc' := 85) F d_M_why_83 rfl rfl (by decide) ?_
              refine v_iinc_5 (pc' := 88) F d_M_why_85 rfl rfl (by decide) ?_
              refine v_goto (tgt := 8) F d_M_why_88 (by decide) ?_
              have q9 := ih (k + 1) (by omega) (by omega)
              first | rw [sp_fst_1 (by omega)] at q9 | rw [sp_fst_0 (by omega) (by omega)] at q9
              first | rw [sp_lst_1 (by omega)] at q9 | rw [sp_lst_0 (by omega) (by omega)] at q9
              exact q9
        · refine v_iconst (pc' := 44) F d_M_why_43 rfl ?_
          refine v_goto (tgt := 48) F d_M_why_44 (by decide) ?_
          refine v_istore_3 (pc' := 49) F d_M_why_48 rfl rfl (by decide) ?_
          refine v_iload (pc' := 51) F d_M_why_49 rfl rfl ?_
          refine v_if_ne (tgt := 78) (pc' := 54) F d_M_why_51 (by decide) rfl (by omega) (fun c51 => ?_) (fun c51 => ?_)
          · refine v_iconst (pc' := 79) F d_M_why_78 rfl ?_
            refine v_goto (tgt := 83) F d_M_why_79 (by decide) ?_
            refine v_istore_4 (pc' := 85) F d_M_why_83 rfl rfl (by decide) ?_
            refine v_iinc_5 (pc' := 88) F d_M_why_85 rfl rfl (by decide) ?_
            refine v_goto (tgt := 8) F d_M_why_88 (by decide) ?_
            have q9 := ih (k + 1) (by omega) (by omega)
            first | rw [sp_fst_1 (by omega)] at q9 | rw [sp_fst_0 (by omega) (by omega)] at q9
            first | rw [sp_lst_1 (by omega)] at q9 | rw [sp_lst_0 (by omega) (by omega)] at q9
            exact q9
          · refine v_aload_n (pc' := 55) (j := 0) F d_M_why_54 rfl rfl rfl ?_
            refine v_getf (pc' := 58) (C := zR_M) (T := zF_M) (N := 28) (ref := "BillSharesModel") F d_M_why_55 rfl zi_M rfl 14 (by decide) wx_675 (Or.inl rfl) hM.1 rfl ?_
            refine v_bipush (pc' := 60) F d_M_why_58 rfl (by decide) ?_
            refine v_iload_n (pc' := 61) (j := 1) F d_M_why_60 rfl rfl rfl ?_
            refine v_imul (pc' := 62) F d_M_why_61 rfl ?_
            refine v_iload (pc' := 64) F d_M_why_62 rfl rfl ?_
            refine v_iadd (pc' := 65) F d_M_why_64 rfl ?_
            have q5 := hda (40 * f + (k : Int)) (by omega) (by omega)
            refine mg_14 (pc' := 66) F hM d_M_why_65 rfl (by omega) (by omega) ?_
            refine v_sipush (pc' := 69) F d_M_why_66 rfl (by decide) ?_
            refine v_iload_n (pc' := 70) (j := 2) F d_M_why_69 rfl rfl rfl ?_
            refine v_imul (pc' := 71) F d_M_why_70 rfl ?_
            refine v_sipush (pc' := 74) F d_M_why_71 rfl (by decide) ?_
            refine v_iadd (pc' := 75) F d_M_why_74 rfl ?_
            refine v_icmp_lt (tgt := 82) (pc' := 78) F d_M_why_75 (by decide) rfl (by omega) (by omega) (fun c75 => ?_) (fun c75 => ?_)
            · refine v_iconst (pc' := 83) F d_M_why_82 rfl ?_
              refine v_istore_4 (pc' := 85) F d_M_why_83 rfl rfl (by decide) ?_
              refine v_iinc_5 (pc' := 88) F d_M_why_85 rfl rfl (by decide) ?_
              refine v_goto (tgt := 8) F d_M_why_88 (by decide) ?_
              have q9 := ih (k + 1) (by omega) (by omega)
              first | rw [sp_fst_1 (by omega)] at q9 | rw [sp_fst_0 (by omega) (by omega)] at q9
              first | rw [sp_lst_1 (by omega)] at q9 | rw [sp_lst_0 (by omega) (by omega)] at q9
              exact q9
            · refine v_iconst (pc' := 79) F d_M_why_78 rfl ?_
              refine v_goto (tgt := 83) F d_M_why_79 (by decide) ?_
              refine v_istore_4 (pc' := 85) F d_M_why_83 rfl rfl (by decide) ?_
              refine v_iinc_5 (pc' := 88) F d_M_why_85 rfl rfl (by decide) ?_
              refine v_goto (tgt := 8) F d_M_why_88 (by decide) ?_
              have q9 := ih (k + 1) (by omega) (by omega)
              first | rw [sp_fst_1 (by omega)] at q9 | rw [sp_fst_0 (by omega) (by omega)] at q9
              first | rw [sp_lst_1 (by omega)] at q9 | rw [sp_lst_0 (by omega) (by omega)] at q9
              exact q9
set_option maxRecDepth 100000 in
set_option maxHeartbeats 4000000 in
theorem tl_M_why {p : Program} {l : Launch} {e : Env} {s : State} {m : MethodId} {args : Array Value} {below : List Frame} {meth : Method} {c : Code} {X : am_X} {h : am_H} {nx : Nat} {y : Nat} {M : MS} {f a k : Int} (F : am_Fx p s m args meth c y_M_why b_M_why 6 ((Option.some FieldType.int)) [] X) (hM : RepM y M h) (hme : 0 ≤ M 7 0 ∧ M 7 0 ≤ 60) (hrd : ∀ f : Int, 0 ≤ f → f < M 7 0 → 0 ≤ M 13 f ∧ M 13 f ≤ 40) (hda : ∀ i : Int, 0 ≤ i → i < 2400 → 0 ≤ M 14 i ∧ M 14 i ≤ 3649) (hf : 0 ≤ f ∧ f < M 7 0) (ry : 0 ≤ a ∧ a ≤ 9) (hte : ∀ i : Int, 0 ≤ i → i < 60 → 0 ≤ M 12 i ∧ M 12 i ≤ 3649) : V p l e ({ frames := 0, cells := 0, slots := 0, locals := 0 }) s m args below meth c 6 X (am_Q X below s 0 0 (fun o h' nx' => o = .returned (some (iV (sp_why M f a))) ∧ h' = h ∧ nx' = nx)) h nx 0 0 91 [some (.ref y), some (iV f), some (iV a), some (iV (sp_fst (M 14) f a (M 13 f).toNat)), some (iV (sp_lst (M 14) f a (M 13 f).toNat)), some (iV k)] [] := by
  have q2 := sp_fst_r (M 14) f a (M 13 f).toNat
  have q3 := sp_lst_r (M 14) f a (M 13 f).toNat
  refine v_iload_n (pc' := 92) (j := 3) F d_M_why_91 rfl rfl rfl ?_
  refine v_if_eq (tgt := 100) (pc' := 95) F d_M_why_92 (by decide) rfl (by omega) (fun c92 => ?_) (fun c92 => ?_)
  · refine v_iconst (pc' := 101) F d_M_why_100 rfl ?_
    refine v_goto (tgt := 127) F d_M_why_101 (by decide) ?_
    exact v_ireturn F rfl d_M_why_127 rfl rfl (Nat.le_refl _) (Nat.le_refl _) ⟨by unfold sp_why; first | rw [if_pos (by omega)] | rw [if_neg (by omega), if_pos (by omega)] | rw [if_neg (by omega), if_neg (by omega)], rfl, rfl⟩
  · refine v_iload (pc' := 97) F d_M_why_95 rfl rfl ?_
    refine v_if_ne (tgt := 104) (pc' := 100) F d_M_why_97 (by decide) rfl (by omega) (fun c97 => ?_) (fun c97 => ?_)
    · refine v_aload_n (pc' := 105) (j := 0) F d_M_why_104 rfl rfl rfl ?_
      refine v_getf (pc' := 108) (C := zR_M) (T := zF_M) (N := 28) (ref := "BillSharesModel") F d_M_why_105 rfl zi_M rfl 12 (by decide) wx_673 (Or.inl rfl) hM.1 rfl ?_
      refine v_iload_n (pc' := 109) (j := 1) F d_M_why_108 rfl rfl rfl ?_
      refine mg_12 (pc' := 110) F hM d_M_why_109 rfl (by omega) (by omega) ?_
      refine v_sipush (pc' := 113) F d_M_why_110 rfl (by decide) ?_
      refine v_iload_n (pc' := 114) (j := 2) F d_M_why_113 rfl rfl rfl ?_
      refine v_imul (pc' := 115) F d_M_why_114 rfl ?_
      refine v_sipush (pc' := 118) F d_M_why_115 rfl (by decide) ?_
      refine v_iadd (pc' := 119) F d_M_why_118 rfl ?_
      have q4 := hte f (by omega) (by omega)
      refine v_icmp_ge (tgt := 126) (pc' := 122) F d_M_why_119 (by decide) rfl (by omega) (by omega) (fun c119 => ?_) (fun c119 => ?_)
      · refine v_iconst (pc' := 127) F d_M_why_126 rfl ?_
        exact v_ireturn F rfl d_M_why_127 rfl rfl (Nat.le_refl _) (Nat.le_refl _) ⟨by unfold sp_why; first | rw [if_pos (by omega)] | rw [if_neg (by omega), if_pos (by omega)] | rw [if_neg (by omega), if_neg (by omega)], rfl, rfl⟩
      · refine v_iconst (pc' := 123) F d_M_why_122 rfl ?_
        refine v_goto (tgt := 127) F d_M_why_123 (by decide) ?_
        exact v_ireturn F rfl d_M_why_127 rfl rfl (Nat.le_refl _) (Nat.le_refl _) ⟨by unfold sp_why; first | rw [if_pos (by omega)] | rw [if_neg (by omega), if_pos (by omega)] | rw [if_neg (by omega), if_neg (by omega)], rfl, rfl⟩
    · refine v_iconst (pc' := 101) F d_M_why_100 rfl ?_
      refine v_goto (tgt := 127) F d_M_why_101 (by decide) ?_
      exact v_ireturn F rfl d_M_why_127 rfl rfl (Nat.le_refl _) (Nat.le_refl _) ⟨by unfold sp_why; first | rw [if_pos (by omega)] | rw [if_neg (by omega), if_pos (by omega)] | rw [if_neg (by omega), if_neg (by omega)], rfl, rfl⟩
set_option maxRecDepth 100000 in
set_option maxHeartbeats 4000000 in
theorem c_M_why (l : Launch) (X : am_X) (h : am_H) (nx : Nat) (y : Nat) (M : MS) (f a : Int) (hM : RepM y M h) (hme : 0 ≤ M 7 0 ∧ M 7 0 ≤ 60) (hrd : ∀ f : Int, 0 ≤ f → f < M 7 0 → 0 ≤ M 13 f ∧ M 13 f ≤ 40) (hda : ∀ i : Int, 0 ≤ i → i < 2400 → 0 ≤ M 14 i ∧ M 14 i ≤ 3649) (hf : 0 ≤ f ∧ f < M 7 0) (ry : 0 ≤ a ∧ a ≤ 9) (hte : ∀ i : Int, 0 ≤ i → i < 60 → 0 ≤ M 12 i ∧ M 12 i ≤ 3649) : CnP l X y_M_why ({ frames := 0, cells := 0, slots := 0, locals := 0 }) [.ref y, iV f, iV a] h nx (iV (sp_why M f a)) := by
  refine cn_of (k := 3) (L0 := [some (.ref y), some (iV f), some (iV a), none, none, none]) rfl wx_851 (Nat.le_of_ble_eq_true rfl) rfl (fun p e s m args below meth c F => ?_)
  have q1 := hrd f hf.1 hf.2
  refine v_iconst (pc' := 1) F d_M_why_0 rfl ?_
  refine v_istore_3 (pc' := 2) F d_M_why_1 rfl rfl (by decide) ?_
  refine v_iconst (pc' := 3) F d_M_why_2 rfl ?_
  refine v_istore_4 (pc' := 5) F d_M_why_3 rfl rfl (by decide) ?_
  refine v_iconst (pc' := 6) F d_M_why_5 rfl ?_
  refine v_istore_5 (pc' := 8) F d_M_why_6 rfl rfl (by decide) ?_
  exact lp_M_why (kk := (M 13 f).toNat) F hM hme hrd hda hf ry (by omega) (tl_M_why F hM hme hrd hda hf ry hte) ((M 13 f).toNat + 1) 0 (by omega) (by omega)
def sp_line (M : MS) (f k a : Int) : Int := M 23 (80 * a + 4 * f + k) + M 24 (80 * a + 4 * f + k)
def sp_share (M : MS) (f a : Int) : Int := sp_line M f 0 a + sp_line M f 1 a + sp_line M f 2 a + sp_line M f 3 a
set_option maxRecDepth 100000 in
set_option maxHeartbeats 4000000 in
theorem c_M_shareOf (l : Launch) (X : am_X) (h : am_H) (nx : Nat) (y : Nat) (M : MS) (f a : Int) (hM : RepM y M h) (hf : 0 ≤ f ∧ f < 20) (ry : 0 ≤ a ∧ a ≤ 9) : CnP l X y_M_shareOf ({ frames := 0, cells := 0, slots := 0, locals := 0 }) [.ref y, iV f, iV a] h nx (lV (sp_share M f a)) := by
  refine cn_of (k := 3) (L0 := [some (.ref y), some (iV f), some (iV a), none, none, none]) rfl wx_822 (Nat.le_of_ble_eq_true rfl) rfl (fun p e s m args below meth c F => ?_)
  refine v_lconst (pc' := 1) (z := 0) F d_M_shareOf_0 rfl (by decide) ?_
  refine v_lstore_3 (pc' := 2) F d_M_shareOf_1 rfl rfl (by decide) ?_
  refine v_iconst (pc' := 3) F d_M_shareOf_2 rfl ?_
  refine v_istore_5 (pc' := 5) F d_M_shareOf_3 rfl rfl (by decide) ?_
  refine v_iload (pc' := 7) F d_M_shareOf_5 rfl rfl ?_
  refine v_iconst (pc' := 8) F d_M_shareOf_7 rfl ?_
  refine v_icmp_ge (tgt := 53) (pc' := 11) F d_M_shareOf_8 (by decide) rfl (by omega) (by omega) (fun c8 => by exfalso; omega) (fun c8 => ?_)
  refine v_lload_n (pc' := 12) (j := 3) F d_M_shareOf_11 rfl rfl rfl ?_
  refine v_aload_n (pc' := 13) (j := 0) F d_M_shareOf_12 rfl rfl rfl ?_
  refine v_getf (pc' := 16) (C := zR_M) (T := zF_M) (N := 28) (ref := "BillSharesModel") F d_M_shareOf_13 rfl zi_M rfl 23 (by decide) wx_684 (Or.inl rfl) hM.1 rfl ?_
  refine v_bipush (pc' := 18) F d_M_shareOf_16 rfl (by decide) ?_
  refine v_iload_n (pc' := 19) (j := 2) F d_M_shareOf_18 rfl rfl rfl ?_
  refine v_imul (pc' := 20) F d_M_shareOf_19 rfl ?_
  refine v_iconst (pc' := 21) F d_M_shareOf_20 rfl ?_
  refine v_iload_n (pc' := 22) (j := 1) F d_M_shareOf_21 rfl rfl rfl ?_
  refine v_imul (pc' := 23) F d_M_shareOf_22 rfl ?_
  refine v_iadd (pc' := 24) F d_M_shareOf_23 rfl ?_
  refine v_iload (pc' := 26) F d_M_shareOf_24 rfl rfl ?_
  refine v_iadd (pc' := 27) F d_M_shareOf_26 rfl ?_
  refine mg_23 (pc' := 28) F hM d_M_shareOf_27 rfl (by omega) (by omega) ?_
  refine v_aload_n (pc' := 29) (j := 0) F d_M_shareOf_28 rfl rfl rfl ?_
  refine v_getf (pc' := 32) (C := zR_M) (T := zF_M) (N := 28) (ref := "BillSharesModel") F d_M_shareOf_29 rfl zi_M rfl 24 (by decide) wx_685 (Or.inl rfl) hM.1 rfl ?_
  refine v_bipush (pc' := 34) F d_M_shareOf_32 rfl (by decide) ?_
  refine v_iload_n (pc' := 35) (j := 2) F d_M_shareOf_34 rfl rfl rfl ?_
  refine v_imul (pc' := 36) F d_M_shareOf_35 rfl ?_
  refine v_iconst (pc' := 37) F d_M_shareOf_36 rfl ?_
  refine v_iload_n (pc' := 38) (j := 1) F d_M_shareOf_37 rfl rfl rfl ?_
  refine v_imul (pc' := 39) F d_M_shareOf_38 rfl ?_
  refine v_iadd (pc' := 40) F d_M_shareOf_39 rfl ?_
  refine v_iload (pc' := 42) F d_M_shareOf_40 rfl rfl ?_
  refine v_iadd (pc' := 43) F d_M_shareOf_42 rfl ?_
  refine mg_24 (pc' := 44) F hM d_M_shareOf_43 rfl (by omega) (by omega) ?_
  refine v_ladd (pc' := 45) F d_M_shareOf_44 rfl ?_
  refine v_ladd (pc' := 46) F d_M_shareOf_45 rfl ?_
  refine v_lstore_3 (pc' := 47) F d_M_shareOf_46 rfl rfl (by decide) ?_
  refine v_iinc_5 (pc' := 50) F d_M_shareOf_47 rfl rfl (by decide) ?_
  refine v_goto (tgt := 5) F d_M_shareOf_50 (by decide) ?_
  refine v_iload (pc' := 7) F d_M_shareOf_5 rfl rfl ?_
  refine v_iconst (pc' := 8) F d_M_shareOf_7 rfl ?_
  refine v_icmp_ge (tgt := 53) (pc' := 11) F d_M_shareOf_8 (by decide) rfl (by omega) (by omega) (fun c8 => by exfalso; omega) (fun c8 => ?_)
  refine v_lload_n (pc' := 12) (j := 3) F d_M_shareOf_11 rfl rfl rfl ?_
  refine v_aload_n (pc' := 13) (j := 0) F d_M_shareOf_12 rfl rfl rfl ?_
  refine v_getf (pc' := 16) (C := zR_M) (T := zF_M) (N := 28) (ref := "BillSharesModel") F d_M_shareOf_13 rfl zi_M rfl 23 (by decide) wx_684 (Or.inl rfl) hM.1 rfl ?_
  refine v_bipush (pc' := 18) F d_M_shareOf_16 rfl (by decide) ?_
  refine v_iload_n (pc' := 19) (j := 2) F d_M_shareOf_18 rfl rfl rfl ?_
  refine v_imul (pc' := 20) F d_M_shareOf_19 rfl ?_
  refine v_iconst (pc' := 21) F d_M_shareOf_20 rfl ?_
  refine v_iload_n (pc' := 22) (j := 1) F d_M_shareOf_21 rfl rfl rfl ?_
  refine v_imul (pc' := 23) F d_M_shareOf_22 rfl ?_
  refine v_iadd (pc' := 24) F d_M_shareOf_23 rfl ?_
  refine v_iload (pc' := 26) F d_M_shareOf_24 rfl rfl ?_
  refine v_iadd (pc' := 27) F d_M_shareOf_26 rfl ?_
  refine mg_23 (pc' := 28) F hM d_M_shareOf_27 rfl (by omega) (by omega) ?_
  refine v_aload_n (pc' := 29) (j := 0) F d_M_shareOf_28 rfl rfl rfl ?_
  refine v_getf (pc' := 32) (C := zR_M) (T := zF_M) (N := 28) (ref := "BillSharesModel") F d_M_shareOf_29 rfl zi_M rfl 24 (by decide) wx_685 (Or.inl rfl) hM.1 rfl ?_
  refine v_bipush (pc' := 34) F d_M_shareOf_32 rfl (by decide) ?_
  refine v_iload_n (pc' := 35) (j := 2) F d_M_shareOf_34 rfl rfl rfl ?_
  refine v_imul (pc' := 36) F d_M_shareOf_35 rfl ?_
  refine v_iconst (pc' := 37) F d_M_shareOf_36 rfl ?_
  refine v_iload_n (pc' := 38) (j := 1) F d_M_shareOf_37 rfl rfl rfl ?_
  refine v_imul (pc' := 39) F d_M_shareOf_38 rfl ?_
  refine v_iadd (pc' := 40) F d_M_shareOf_39 rfl ?_
  refine v_iload (pc' := 42) F d_M_shareOf_40 rfl rfl ?_
  refine v_iadd (pc' := 43) F d_M_shareOf_42 rfl ?_
  refine mg_24 (pc' := 44) F hM d_M_shareOf_43 rfl (by omega) (by omega) ?_
  refine v_ladd (pc' := 45) F d_M_shareOf_44 rfl ?_
  refine v_ladd (pc' := 46) F d_M_shareOf_45 rfl ?_
  refine v_lstore_3 (pc' := 47) F d_M_shareOf_46 rfl rfl (by decide) ?_
  refine v_iinc_5 (pc' := 50) F d_M_shareOf_47 rfl rfl (by decide) ?_
  refine v_goto (tgt := 5) F d_M_shareOf_50 (by decide) ?_
  refine v_iload (pc' := 7) F d_M_shareOf_5 rfl rfl ?_
  refine v_iconst (pc' := 8) F d_M_shareOf_7 rfl ?_
  refine v_icmp_ge (tgt := 53) (pc' := 11) F d_M_shareOf_8 (by decide) rfl (by omega) (by omega) (fun c8 => by exfalso; omega) (fun c8 => ?_)
  refine v_lload_n (pc' := 12) (j := 3) F d_M_shareOf_11 rfl rfl rfl ?_
  refine v_aload_n (pc' := 13) (j := 0) F d_M_shareOf_12 rfl rfl rfl ?_
  refine v_getf (pc' := 16) (C := zR_M) (T := zF_M) (N := 28) (ref := "BillSharesModel") F d_M_shareOf_13 rfl zi_M rfl 23 (by decide) wx_684 (Or.inl rfl) hM.1 rfl ?_
  refine v_bipush (pc' := 18) F d_M_shareOf_16 rfl (by decide) ?_
  refine v_iload_n (pc' := 19) (j := 2) F d_M_shareOf_18 rfl rfl rfl ?_
  refine v_imul (pc' := 20) F d_M_shareOf_19 rfl ?_
  refine v_iconst (pc' := 21) F d_M_shareOf_20 rfl ?_
  refine v_iload_n (pc' := 22) (j := 1) F d_M_shareOf_21 rfl rfl rfl ?_
  refine v_imul (pc' := 23) F d_M_shareOf_22 rfl ?_
  refine v_iadd (pc' := 24) F d_M_shareOf_23 rfl ?_
  refine v_iload (pc' := 26) F d_M_shareOf_24 rfl rfl ?_
  refine v_iadd (pc' := 27) F d_M_shareOf_26 rfl ?_
  refine mg_23 (pc' := 28) F hM d_M_shareOf_27 rfl (by omega) (by omega) ?_
  refine v_aload_n (pc' := 29) (j := 0) F d_M_shareOf_28 rfl rfl rfl ?_
  refine v_getf (pc' := 32) (C := zR_M) (T := zF_M) (N := 28) (ref := "BillSharesModel") F d_M_shareOf_29 rfl zi_M rfl 24 (by decide) wx_685 (Or.inl rfl) hM.1 rfl ?_
  refine v_bipush (pc' := 34) F d_M_shareOf_32 rfl (by decide) ?_
  refine v_iload_n (pc' := 35) (j := 2) F d_M_shareOf_34 rfl rfl rfl ?_
  refine v_imul (pc' := 36) F d_M_shareOf_35 rfl ?_
  refine v_iconst (pc' := 37) F d_M_shareOf_36 rfl ?_
  refine v_iload_n (pc' := 38) (j := 1) F d_M_shareOf_37 rfl rfl rfl ?_
  refine v_imul (pc' := 39) F d_M_shareOf_38 rfl ?_
  refine v_iadd (pc' := 40) F d_M_shareOf_39 rfl ?_
  refine v_iload (pc' := 42) F d_M_shareOf_40 rfl rfl ?_
  refine v_iadd (pc' := 43) F d_M_shareOf_42 rfl ?_
  refine mg_24 (pc' := 44) F hM d_M_shareOf_43 rfl (by omega) (by omega) ?_
  refine v_ladd (pc' := 45) F d_M_shareOf_44 rfl ?_
  refine v_ladd (pc' := 46) F d_M_shareOf_45 rfl ?_
  refine v_lstore_3 (pc' := 47) F d_M_shareOf_46 rfl rfl (by decide) ?_
  refine v_iinc_5 (pc' := 50) F d_M_shareOf_47 rfl rfl (by decide) ?_
  refine v_goto (tgt := 5) F d_M_shareOf_50 (by decide) ?_
  refine v_iload (pc' := 7) F d_M_shareOf_5 rfl rfl ?_
  refine v_iconst (pc' := 8) F d_M_shareOf_7 rfl ?_
  refine v_icmp_ge (tgt := 53) (pc' := 11) F d_M_shareOf_8 (by decide) rfl (by omega) (by omega) (fun c8 => by exfalso; omega) (fun c8 => ?_)
  refine v_lload_n (pc' := 12) (j := 3) F d_M_shareOf_11 rfl rfl rfl ?_
  refine v_aload_n (pc' := 13) (j := 0) F d_M_shareOf_12 rfl rfl rfl ?_
  refine v_getf (pc' := 16) (C := zR_M) (T := zF_M) (N := 28) (ref := "BillSharesModel") F d_M_shareOf_13 rfl zi_M rfl 23 (by decide) wx_684 (Or.inl rfl) hM.1 rfl ?_
  refine v_bipush (pc' := 18) F d_M_shareOf_16 rfl (by decide) ?_
  refine v_iload_n (pc' := 19) (j := 2) F d_M_shareOf_18 rfl rfl rfl ?_
  refine v_imul (pc' := 20) F d_M_shareOf_19 rfl ?_
  refine v_iconst (pc' := 21) F d_M_shareOf_20 rfl ?_
  refine v_iload_n (pc' := 22) (j := 1) F d_M_shareOf_21 rfl rfl rfl ?_
  refine v_imul (pc' := 23) F d_M_shareOf_22 rfl ?_
  refine v_iadd (pc' := 24) F d_M_shareOf_23 rfl ?_
  refine v_iload (pc' := 26) F d_M_shareOf_24 rfl rfl ?_
  refine v_iadd (pc' := 27) F d_M_shareOf_26 rfl ?_
  refine mg_23 (pc' := 28) F hM d_M_shareOf_27 rfl (by omega) (by omega) ?_
  refine v_aload_n (pc' := 29) (j := 0) F d_M_shareOf_28 rfl rfl rfl ?_
  refine v_getf (pc' := 32) (C := zR_M) (T := zF_M) (N := 28) (ref := "BillSharesModel") F d_M_shareOf_29 rfl zi_M rfl 24 (by decide) wx_685 (Or.inl rfl) hM.1 rfl ?_
  refine v_bipush (pc' := 34) F d_M_shareOf_32 rfl (by decide) ?_
  refine v_iload_n (pc' := 35) (j := 2) F d_M_shareOf_34 rfl rfl rfl ?_
  refine v_imul (pc' := 36) F d_M_shareOf_35 rfl ?_
  refine v_iconst (pc' := 37) F d_M_shareOf_36 rfl ?_
  refine v_iload_n (pc' := 38) (j := 1) F d_M_shareOf_37 rfl rfl rfl ?_
  refine v_imul (pc' := 39) F d_M_shareOf_38 rfl ?_
  refine v_iadd (pc' := 40) F d_M_shareOf_39 rfl ?_
  refine v_iload (pc' := 42) F d_M_shareOf_40 rfl rfl ?_
  refine v_iadd (pc' := 43) F d_M_shareOf_42 rfl ?_
  refine mg_24 (pc' := 44) F hM d_M_shareOf_43 rfl (by omega) (by omega) ?_
  refine v_ladd (pc' := 45) F d_M_shareOf_44 rfl ?_
  refine v_ladd (pc' := 46) F d_M_shareOf_45 rfl ?_
  refine v_lstore_3 (pc' := 47) F d_M_shareOf_46 rfl rfl (by decide) ?_
  refine v_iinc_5 (pc' := 50) F d_M_shareOf_47 rfl rfl (by decide) ?_
  refine v_goto (tgt := 5) F d_M_shareOf_50 (by decide) ?_
  refine v_iload (pc' := 7) F d_M_shareOf_5 rfl rfl ?_
  refine v_iconst (pc' := 8) F d_M_shareOf_7 rfl ?_
  refine v_icmp_ge (tgt := 53) (pc' := 11) F d_M_shareOf_8 (by decide) rfl (by omega) (by omega) (fun c8 => ?_) (fun c8 => by exfalso; omega)
  refine v_lload_n (pc' := 54) (j := 3) F d_M_shareOf_53 rfl rfl rfl ?_
  exact v_lreturn F d_M_shareOf_54 rfl (Nat.le_refl _) (Nat.le_refl _) ⟨by simp only [sp_share, sp_line, Int.zero_add, Int.reduceAdd, Int.add_zero], rfl, rfl⟩
/-- what has() notes -/
def sp_has (M : MS) (b f a : Int) : Int := if ¬ b = 0 ∧ (0 ≤ f ∧ f < M 1 0) ∧ (0 ≤ a ∧ a ≤ 9) ∧ (M 20 a = 0 ∨ f < M 21 a) then (if M 20 a = 0 then 2 else 0) else 1
set_option maxRecDepth 100000 in
set_option maxHeartbeats 4000000 in
theorem c_M_has (l : Launch) (X : am_X) (h : am_H) (nx : Nat) (y : Nat) (M : MS) (b f a : Int) (hM : RepM y M h) (hfl : 0 ≤ M 1 0 ∧ M 1 0 ≤ 20) (hed : ∀ i : Int, 0 ≤ i → i < 10 → 0 ≤ M 20 i ∧ M 20 i ≤ 50) (hth : ∀ i : Int, 0 ≤ i → i < 10 → 0 ≤ M 21 i ∧ M 21 i ≤ 20) (rb : -2147483648 ≤ b ∧ b < 2147483648) (rf : -2147483648 ≤ f ∧ f < 2147483648) (ra : -2147483648 ≤ a ∧ a < 2147483648) : Cn l X y_M_has ({ frames := 1, cells := 0, slots := 0, locals := 22 }) [.ref y, iV b, iV f, iV a] h nx (fun o h' nx' => RepM y (upM M 0 0 (sp_has M b f a)) h' ∧ MF y h h' ∧ nx' = nx ∧ o = .returned (some (iV (bI (sp_has M b f a = 0))))) := by
  refine cn_of (k := 1) (L0 := [some (.ref y), some (iV b), some (iV f), some (iV a), none]) rfl wx_876 (Nat.le_of_ble_eq_true rfl) rfl (fun p e s m args below meth c F => ?_)
  refine v_iload_n (pc' := 1) (j := 1) F d_M_has_0 rfl rfl rfl ?_
  refine v_if_eq (tgt := 26) (pc' := 4) F d_M_has_1 (by decide) rfl (by omega) (fun c1 => ?_) (fun c1 => ?_)
  · refine v_iconst (pc' := 27) F d_M_has_26 rfl ?_
    refine v_istore_4 (pc' := 29) F d_M_has_27 rfl rfl (by decide) ?_
    refine v_aload_n (pc' := 30) (j := 0) F d_M_has_29 rfl rfl rfl ?_
    refine v_iload (pc' := 32) F d_M_has_30 rfl rfl ?_
    refine v_if_eq (tgt := 58) (pc' := 35) F d_M_has_32 (by decide) rfl (by omega) (fun c32 => ?_) (fun c32 => by exfalso; omega)
    refine v_iconst (pc' := 59) F d_M_has_58 rfl ?_
    refine v_iload (pc' := 61) F d_M_has_59 rfl rfl ?_
    refine v_if_eq (tgt := 77) (pc' := 64) F d_M_has_61 (by decide) rfl (by omega) (fun c61 => ?_) (fun c61 => by exfalso; omega)
    refine v_iconst (pc' := 78) F d_M_has_77 rfl ?_
    refine v_callVM (pc' := 81) (C := zR_M) (T9 := zF_M) (N := 28) F d_M_has_78 rfl cal_M_allows wx_758 wx_760 wp_16 rfl hM.1 (c_allows_1 l X _ _ _ _ _ hM (by omega)) rfl ⟨by decide, by decide, by decide, by decide⟩ (Nat.le_of_ble_eq_true rfl) rfl rfl (fun h1 hM1 hF1 => ?_)
    refine v_ireturn F rfl d_M_has_81 rfl rfl (Nat.le_refl _) (Nat.le_refl _) ?_
    first | (exfalso; omega) | (rw [show sp_has M b f a = 1 from if_neg (by omega)]; exact ⟨hM1, ((MF.rf).tr hF1), rfl, by rw [bI_f (by decide)]⟩) | (rw [show sp_has M b f a = 2 from (if_pos (by omega)).trans (if_pos (by omega))]; exact ⟨hM1, ((MF.rf).tr hF1), rfl, by rw [bI_f (by decide)]⟩) | (rw [show sp_has M b f a = 0 from (if_pos (by omega)).trans (if_neg (by omega))]; exact ⟨hM1, ((MF.rf).tr hF1), rfl, by rw [bI_t rfl]⟩)
  · refine v_aload_n (pc' := 5) (j := 0) F d_M_has_4 rfl rfl rfl ?_
    refine v_iload_n (pc' := 6) (j := 2) F d_M_has_5 rfl rfl rfl ?_
    refine v_callVP (pc' := 9) (C := zR_M) (T9 := zF_M) (N := 28) F d_M_has_6 rfl cal_M_isFlat wx_766 wx_768 wp_17 rfl hM.1 (c_M_isFlat l X _ _ _ _ _ hM hfl (by omega)) rfl ⟨by decide, by decide, by decide, by decide⟩ (Nat.le_of_ble_eq_true rfl) rfl rfl ?_
    refine v_zif_eq (tgt := 26) (pc' := 12) F d_M_has_9 (by decide) rfl (fun c9 => ?_) (fun c9 => ?_)
    · refine v_iconst (pc' := 27) F d_M_has_26 rfl ?_
      refine v_istore_4 (pc' := 29) F d_M_has_27 rfl rfl (by decide) ?_
      refine v_aload_n (pc' := 30) (j := 0) F d_M_has_29 rfl rfl rfl ?_
      refine v_iload (pc' := 32) F d_M_has_30 rfl rfl ?_
      refine v_if_eq (tgt := 58) (pc' := 35) F d_M_has_32 (by decide) rfl (by omega) (fun c32 => ?_) (fun c32 => by exfalso; omega)
      refine v_iconst (pc' := 59) F d_M_has_58 rfl ?_
      refine v_iload (pc' := 61) F d_M_has_59 rfl rfl ?_
      refine v_if_eq (tgt := 77) (pc' := 64) F d_M_has_61 (by decide) rfl (by omega) (fun c61 => ?_) (fun c61 => by exfalso; omega)
      refine v_iconst (pc' := 78) F d_M_has_77 rfl ?_
      refine v_callVM (pc' := 81) (C := zR_M) (T9 := zF_M) (N := 28) F d_M_has_78 rfl cal_M_allows wx_758 wx_760 wp_16 rfl hM.1 (c_allows_1 l X _ _ _ _ _ hM (by omega)) rfl ⟨by decide, by decide, by decide, by decide⟩ (Nat.le_of_ble_eq_true rfl) rfl rfl (fun h2 hM2 hF2 => ?_)
      refine v_ireturn F rfl d_M_has_81 rfl rfl (Nat.le_refl _) (Nat.le_refl _) ?_
      first | (exfalso; omega) | (rw [show sp_has M b f a = 1 from if_neg (by omega)]; exact ⟨hM2, ((MF.rf).tr hF2), rfl, by rw [bI_f (by decide)]⟩) | (rw [show sp_has M b f a = 2 from (if_pos (by omega)).trans (if_pos (by omega))]; exact ⟨hM2, ((MF.rf).tr hF2), rfl, by rw [bI_f (by decide)]⟩) | (rw [show sp_has M b f a = 0 from (if_pos (by omega)).trans (if_neg (by omega))]; exact ⟨hM2, ((MF.rf).tr hF2), rfl, by rw [bI_t rfl]⟩)
    · refine v_iload_n (pc' := 13) (j := 3) F d_M_has_12 rfl rfl rfl ?_
      refine v_iconst (pc' := 14) F d_M_has_13 rfl ?_
      refine v_bipush (pc' := 16) F d_M_has_14 rfl (by decide) ?_
      refine v_callSP (pc' := 19) F d_M_has_16 rfl cal_M_isIn wx_755 wx_756 (c_M_isIn l X _ _ _ _ _ (by omega) (by omega) (by omega)) rfl ⟨by decide, by decide, by decide, by decide⟩ (Nat.le_of_ble_eq_true rfl) rfl rfl ?_
      refine v_zif_eq (tgt := 26) (pc' := 22) F d_M_has_19 (by decide) rfl (fun c19 => ?_) (fun c19 => ?_)
      · refine v_iconst (pc' := 27) F d_M_has_26 rfl ?_
        refine v_istore_4 (pc' := 29) F d_M_has_27 rfl rfl (by decide) ?_
        refine v_aload_n (pc' := 30) (j := 0) F d_M_has_29 rfl rfl rfl ?_
        refine v_iload (pc' := 32) F d_M_has_30 rfl rfl ?_
        refine v_if_eq (tgt := 58) (pc' := 35) F d_M_has_32 (by decide) rfl (by omega) (fun c32 => ?_) (fun c32 => by exfalso; omega)
        refine v_iconst (pc' := 59) F d_M_has_58 rfl ?_
        refine v_iload (pc' := 61) F d_M_has_59 rfl rfl ?_
        refine v_if_eq (tgt := 77) (pc' := 64) F d_M_has_61 (by decide) rfl (by omega) (fun c61 => ?_) (fun c61 => by exfalso; omega)
        refine v_iconst (pc' := 78) F d_M_has_77 rfl ?_
        refine v_callVM (pc' := 81) (C := zR_M) (T9 := zF_M) (N := 28) F d_M_has_78 rfl cal_M_allows wx_758 wx_760 wp_16 rfl hM.1 (c_allows_1 l X _ _ _ _ _ hM (by omega)) rfl ⟨by decide, by decide, by decide, by decide⟩ (Nat.le_of_ble_eq_true rfl) rfl rfl (fun h3 hM3 hF3 => ?_)
        refine v_ireturn F rfl d_M_has_81 rfl rfl (Nat.le_refl _) (Nat.le_refl _) ?_
        first | (exfalso; omega) | (rw [show sp_has M b f a = 1 from if_neg (by omega)]; exact ⟨hM3, ((MF.rf).tr hF3), rfl, by rw [bI_f (by decide)]⟩) | (rw [show sp_has M b f a = 2 from (if_pos (by omega)).trans (if_pos (by omega))]; exact ⟨hM3, ((MF.rf).tr hF3), rfl, by rw [bI_f (by decide)]⟩) | (rw [show sp_has M b f a = 0 from (if_pos (by omega)).trans (if_neg (by omega))]; exact ⟨hM3, ((MF.rf).tr hF3), rfl, by rw [bI_t rfl]⟩)
      · refine v_iconst (pc' := 23) F d_M_has_22 rfl ?_
        refine v_goto (tgt := 27) F d_M_has_23 (by decide) ?_
        refine v_istore_4 (pc' := 29) F d_M_has_27 rfl rfl (by decide) ?_
        refine v_aload_n (pc' := 30) (j := 0) F d_M_has_29 rfl rfl rfl ?_
        refine v_iload (pc' := 32) F d_M_has_30 rfl rfl ?_
        refine v_if_eq (tgt := 58) (pc' := 35) F d_M_has_32 (by decide) rfl (by omega) (fun c32 => by exfalso; omega) (fun c32 => ?_)
        refine v_aload_n (pc' := 36) (j := 0) F d_M_has_35 rfl rfl rfl ?_
        refine v_getf (pc' := 39) (C := zR_M) (T := zF_M) (N := 28) (ref := "BillSharesModel") F d_M_has_36 rfl zi_M rfl 20 (by decide) wx_681 (Or.inl rfl) hM.1 rfl ?_
        refine v_iload_n (pc' := 40) (j := 3) F d_M_has_39 rfl rfl rfl ?_
        refine mg_20 (pc' := 41) F hM d_M_has_40 rfl (by omega) (by omega) ?_
        have q1 := hed a (by omega) (by omega)
        refine v_if_eq (tgt := 54) (pc' := 44) F d_M_has_41 (by decide) rfl (by omega) (fun c41 => ?_) (fun c41 => ?_)
        · refine v_iconst (pc' := 55) F d_M_has_54 rfl ?_
          refine v_goto (tgt := 59) F d_M_has_55 (by decide) ?_
          refine v_iload (pc' := 61) F d_M_has_59 rfl rfl ?_
          refine v_if_eq (tgt := 77) (pc' := 64) F d_M_has_61 (by decide) rfl (by omega) (fun c61 => by exfalso; omega) (fun c61 => ?_)
          refine v_aload_n (pc' := 65) (j := 0) F d_M_has_64 rfl rfl rfl ?_
          refine v_getf (pc' := 68) (C := zR_M) (T := zF_M) (N := 28) (ref := "BillSharesModel") F d_M_has_65 rfl zi_M rfl 20 (by decide) wx_681 (Or.inl rfl) hM.1 rfl ?_
          refine v_iload_n (pc' := 69) (j := 3) F d_M_has_68 rfl rfl rfl ?_
          refine mg_20 (pc' := 70) F hM d_M_has_69 rfl (by omega) (by omega) ?_
          have q3 := hed a (by omega) (by omega)
          refine v_if_le (tgt := 77) (pc' := 73) F d_M_has_70 (by decide) rfl (by omega) (fun c70 => ?_) (fun c70 => ?_)
          · refine v_iconst (pc' := 78) F d_M_has_77 rfl ?_
            refine v_callVM (pc' := 81) (C := zR_M) (T9 := zF_M) (N := 28) F d_M_has_78 rfl cal_M_allows wx_758 wx_760 wp_16 rfl hM.1 (c_allows_2 l X _ _ _ _ hM) rfl ⟨by decide, by decide, by decide, by decide⟩ (Nat.le_of_ble_eq_true rfl) rfl rfl (fun h4 hM4 hF4 => ?_)
            refine v_ireturn F rfl d_M_has_81 rfl rfl (Nat.le_refl _) (Nat.le_refl _) ?_
            first | (exfalso; omega) | (rw [show sp_has M b f a = 1 from if_neg (by omega)]; exact ⟨hM4, ((MF.rf).tr hF4), rfl, by rw [bI_f (by decide)]⟩) | (rw [show sp_has M b f a = 2 from (if_pos (by omega)).trans (if_pos (by omega))]; exact ⟨hM4, ((MF.rf).tr hF4), rfl, by rw [bI_f (by decide)]⟩) | (rw [show sp_has M b f a = 0 from (if_pos (by omega)).trans (if_neg (by omega))]; exact ⟨hM4, ((MF.rf).tr hF4), rfl, by rw [bI_t rfl]⟩)
          · refine v_iconst (pc' := 74) F d_M_has_73 rfl ?_
            refine v_goto (tgt := 78) F d_M_has_74 (by decide) ?_
            refine v_callVM (pc' := 81) (C := zR_M) (T9 := zF_M) (N := 28) F d_M_has_78 rfl cal_M_allows wx_758 wx_760 wp_16 rfl hM.1 (c_allows_0 l X _ _ _ _ hM) rfl ⟨by decide, by decide, by decide, by decide⟩ (Nat.le_of_ble_eq_true rfl) rfl rfl (fun h5 hM5 hF5 => ?_)
            refine v_ireturn F rfl d_M_has_81 rfl rfl (Nat.le_refl _) (Nat.le_refl _) ?_
            first | (exfalso; omega) | (rw [show sp_has M b f a = 1 from if_neg (by omega)]; exact ⟨hM5, ((MF.rf).tr hF5), rfl, by rw [bI_f (by decide)]⟩) | (rw [show sp_has M b f a = 2 from (if_pos (by omega)).trans (if_pos (by omega))]; exact ⟨hM5, ((MF.rf).tr hF5), rfl, by rw [bI_f (by decide)]⟩) | (rw [show sp_has M b f a = 0 from (if_pos (by omega)).trans (if_neg (by omega))]; exact ⟨hM5, ((MF.rf).tr hF5), rfl, by rw [bI_t rfl]⟩)
        · refine v_iload_n (pc' := 45) (j := 2) F d_M_has_44 rfl rfl rfl ?_
          refine v_aload_n (pc' := 46) (j := 0) F d_M_has_45 rfl rfl rfl ?_
          refine v_getf (pc' := 49) (C := zR_M) (T := zF_M) (N := 28) (ref := "BillSharesModel") F d_M_has_46 rfl zi_M rfl 21 (by decide) wx_682 (Or.inl rfl) hM.1 rfl ?_
          refine v_iload_n (pc' := 50) (j := 3) F d_M_has_49 rfl rfl rfl ?_
          refine mg_21 (pc' := 51) F hM d_M_has_50 rfl (by omega) (by omega) ?_
          have q2 := hth a (by omega) (by omega)
          refine v_icmp_ge (tgt := 58) (pc' := 54) F d_M_has_51 (by decide) rfl (by omega) (by omega) (fun c51 => ?_) (fun c51 => ?_)
          · refine v_iconst (pc' := 59) F d_M_has_58 rfl ?_
            refine v_iload (pc' := 61) F d_M_has_59 rfl rfl ?_
            refine v_if_eq (tgt := 77) (pc' := 64) F d_M_has_61 (by decide) rfl (by omega) (fun c61 => by exfalso; omega) (fun c61 => ?_)
            refine v_aload_n (pc' := 65) (j := 0) F d_M_has_64 rfl rfl rfl ?_
            refine v_getf (pc' := 68) (C := zR_M) (T := zF_M) (N := 28) (ref := "BillSharesModel") F d_M_has_65 rfl zi_M rfl 20 (by decide) wx_681 (Or.inl rfl) hM.1 rfl ?_
            refine v_iload_n (pc' := 69) (j := 3) F d_M_has_68 rfl rfl rfl ?_
            refine mg_20 (pc' := 70) F hM d_M_has_69 rfl (by omega) (by omega) ?_
            have q3 := hed a (by omega) (by omega)
            refine v_if_le (tgt := 77) (pc' := 73) F d_M_has_70 (by decide) rfl (by omega) (fun c70 => ?_) (fun c70 => ?_)
            · refine v_iconst (pc' := 78) F d_M_has_77 rfl ?_
              refine v_callVM (pc' := 81) (C := zR_M) (T9 := zF_M) (N := 28) F d_M_has_78 rfl cal_M_allows wx_758 wx_760 wp_16 rfl hM.1 (c_allows_1 l X _ _ _ _ _ hM (by omega)) rfl ⟨by decide, by decide, by decide, by decide⟩ (Nat.le_of_ble_eq_true rfl) rfl rfl (fun h6 hM6 hF6 => ?_)
              refine v_ireturn F rfl d_M_has_81 rfl rfl (Nat.le_refl _) (Nat.le_refl _) ?_
              first | (exfalso; omega) | (rw [show sp_has M b f a = 1 from if_neg (by omega)]; exact ⟨hM6, ((MF.rf).tr hF6), rfl, by rw [bI_f (by decide)]⟩) | (rw [show sp_has M b f a = 2 from (if_pos (by omega)).trans (if_pos (by omega))]; exact ⟨hM6, ((MF.rf).tr hF6), rfl, by rw [bI_f (by decide)]⟩) | (rw [show sp_has M b f a = 0 from (if_pos (by omega)).trans (if_neg (by omega))]; exact ⟨hM6, ((MF.rf).tr hF6), rfl, by rw [bI_t rfl]⟩)
            · refine v_iconst (pc' := 74) F d_M_has_73 rfl ?_
              refine v_goto (tgt := 78) F d_M_has_74 (by decide) ?_
              refine v_callVM (pc' := 81) (C := zR_M) (T9 := zF_M) (N := 28) F d_M_has_78 rfl cal_M_allows wx_758 wx_760 wp_16 rfl hM.1 (c_allows_1 l X _ _ _ _ _ hM (by omega)) rfl ⟨by decide, by decide, by decide, by decide⟩ (Nat.le_of_ble_eq_true rfl) rfl rfl (fun h7 hM7 hF7 => ?_)
              refine v_ireturn F rfl d_M_has_81 rfl rfl (Nat.le_refl _) (Nat.le_refl _) ?_
              first | (exfalso; omega) | (rw [show sp_has M b f a = 1 from if_neg (by omega)]; exact ⟨hM7, ((MF.rf).tr hF7), rfl, by rw [bI_f (by decide)]⟩) | (rw [show sp_has M b f a = 2 from (if_pos (by omega)).trans (if_pos (by omega))]; exact ⟨hM7, ((MF.rf).tr hF7), rfl, by rw [bI_f (by decide)]⟩) | (rw [show sp_has M b f a = 0 from (if_pos (by omega)).trans (if_neg (by omega))]; exact ⟨hM7, ((MF.rf).tr hF7), rfl, by rw [bI_t rfl]⟩)
          · refine v_iconst (pc' := 55) F d_M_has_54 rfl ?_
            refine v_goto (tgt := 59) F d_M_has_55 (by decide) ?_
            refine v_iload (pc' := 61) F d_M_has_59 rfl rfl ?_
            refine v_if_eq (tgt := 77) (pc' := 64) F d_M_has_61 (by decide) rfl (by omega) (fun c61 => by exfalso; omega) (fun c61 => ?_)
            refine v_aload_n (pc' := 65) (j := 0) F d_M_has_64 rfl rfl rfl ?_
            refine v_getf (pc' := 68) (C := zR_M) (T := zF_M) (N := 28) (ref := "BillSharesModel") F d_M_has_65 rfl zi_M rfl 20 (by decide) wx_681 (Or.inl rfl) hM.1 rfl ?_
            refine v_iload_n (pc' := 69) (j := 3) F d_M_has_68 rfl rfl rfl ?_
            refine mg_20 (pc' := 70) F hM d_M_has_69 rfl (by omega) (by omega) ?_
            have q3 := hed a (by omega) (by omega)
            refine v_if_le (tgt := 77) (pc' := 73) F d_M_has_70 (by decide) rfl (by omega) (fun c70 => ?_) (fun c70 => ?_)
            · refine v_iconst (pc' := 78) F d_M_has_77 rfl ?_
              refine v_callVM (pc' := 81) (C := zR_M) (T9 := zF_M) (N := 28) F d_M_has_78 rfl cal_M_allows wx_758 wx_760 wp_16 rfl hM.1 (c_allows_2 l X _ _ _ _ hM) rfl ⟨by decide, by decide, by decide, by decide⟩ (Nat.le_of_ble_eq_true rfl) rfl rfl (fun h8 hM8 hF8 => ?_)
              refine v_ireturn F rfl d_M_has_81 rfl rfl (Nat.le_refl _) (Nat.le_refl _) ?_
              first | (exfalso; omega) | (rw [show sp_has M b f a = 1 from if_neg (by omega)]; exact ⟨hM8, ((MF.rf).tr hF8), rfl, by rw [bI_f (by decide)]⟩) | (rw [show sp_has M b f a = 2 from (if_pos (by omega)).trans (if_pos (by omega))]; exact ⟨hM8, ((MF.rf).tr hF8), rfl, by rw [bI_f (by decide)]⟩) | (rw [show sp_has M b f a = 0 from (if_pos (by omega)).trans (if_neg (by omega))]; exact ⟨hM8, ((MF.rf).tr hF8), rfl, by rw [bI_t rfl]⟩)
            · refine v_iconst (pc' := 74) F d_M_has_73 rfl ?_
              refine v_goto (tgt := 78) F d_M_has_74 (by decide) ?_
              refine v_callVM (pc' := 81) (C := zR_M) (T9 := zF_M) (N := 28) F d_M_has_78 rfl cal_M_allows wx_758 wx_760 wp_16 rfl hM.1 (c_allows_0 l X _ _ _ _ hM) rfl ⟨by decide, by decide, by decide, by decide⟩ (Nat.le_of_ble_eq_true rfl) rfl rfl (fun h9 hM9 hF9 => ?_)
              refine v_ireturn F rfl d_M_has_81 rfl rfl (Nat.le_refl _) (Nat.le_refl _) ?_
              first | (exfalso; omega) | (rw [show sp_has M b f a = 1 from if_neg (by omega)]; exact ⟨hM9, ((MF.rf).tr hF9), rfl, by rw [bI_f (by decide)]⟩) | (rw [show sp_has M b f a = 2 from (if_pos (by omega)).trans (if_pos (by omega))]; exact ⟨hM9, ((MF.rf).tr hF9), rfl, by rw [bI_f (by decide)]⟩) | (rw [show sp_has M b f a = 0 from (if_pos (by omega)).trans (if_neg (by omega))]; exact ⟨hM9, ((MF.rf).tr hF9), rfl, by rw [bI_t rfl]⟩)
def sp_shareR (M : MS) (f a : Int) : Int × Int × MS := if sp_has M 1 f a = 0 then (0, sp_share M f a, M) else (sp_has M 1 f a, 0, M)
set_option maxRecDepth 100000 in
set_option maxHeartbeats 4000000 in
theorem c_M_share (l : Launch) (X : am_X) (h : am_H) (nx : Nat) (y : Nat) (M : MS) (f a : Int) (hM : RepM y M h) (hfl : 0 ≤ M 1 0 ∧ M 1 0 ≤ 20) (hed : ∀ i : Int, 0 ≤ i → i < 10 → 0 ≤ M 20 i ∧ M 20 i ≤ 50) (hth : ∀ i : Int, 0 ≤ i → i < 10 → 0 ≤ M 21 i ∧ M 21 i ≤ 20) (rf : -2147483648 ≤ f ∧ f < 2147483648) (ra : -2147483648 ≤ a ∧ a < 2147483648) : Cn l X y_M_share ({ frames := 2, cells := 0, slots := 0, locals := 46 }) [.ref y, iV f, iV a] h nx (mpost y h nx lV (sp_shareR M f a)) := by
  refine cn_of (k := 0) (L0 := [some (.ref y), some (iV f), some (iV a)]) rfl wx_880 (Nat.le_of_ble_eq_true rfl) rfl (fun p e s m args below meth c F => ?_)
  refine v_aload_n (pc' := 1) (j := 0) F d_M_share_0 rfl rfl rfl ?_
  refine v_iconst (pc' := 2) F d_M_share_1 rfl ?_
  refine v_iload_n (pc' := 3) (j := 1) F d_M_share_2 rfl rfl rfl ?_
  refine v_iload_n (pc' := 4) (j := 2) F d_M_share_3 rfl rfl rfl ?_
  refine v_callVM (pc' := 7) (C := zR_M) (T9 := zF_M) (N := 28) F d_M_share_4 rfl cal_M_has wx_873 wx_875 wp_29 rfl hM.1 (c_M_has l X _ _ _ _ _ _ _ hM hfl hed hth (by omega) (by omega) (by omega)) rfl ⟨by decide, by decide, by decide, by decide⟩ (Nat.le_of_ble_eq_true rfl) rfl rfl (fun h1 hM1 hF1 => ?_)
  refine v_zif_eq (tgt := 19) (pc' := 10) F d_M_share_7 (by decide) rfl (fun c7 => ?_) (fun c7 => ?_)
  · refine v_lconst (pc' := 20) (z := 0) F d_M_share_19 rfl (by decide) ?_
    refine v_lreturn F d_M_share_20 rfl (Nat.le_refl _) (Nat.le_refl _) ?_
    first | (rw [show sp_shareR M f a = (0, _, M) from if_pos (by omega)]; exact ⟨_, hM1, ((MF.rf).tr hF1), rfl, upM_ss.trans (by omega), eqv.note (Or.inl rfl), _, rfl, fun _ => rfl⟩) | (rw [show sp_shareR M f a = (sp_has M 1 f a, 0, M) from if_neg (by omega)]; exact ⟨_, hM1, ((MF.rf).tr hF1), rfl, upM_ss, eqv.note (Or.inl rfl), 0, rfl, fun q => absurd (show sp_has M 1 f a = 0 from q) (by omega)⟩)
  · have q8 : (0 ≤ f ∧ f < M 1 0) ∧ 0 ≤ a ∧ a ≤ 9 := by unfold sp_has at c7; split at c7 <;> omega
    refine v_aload_n (pc' := 11) (j := 0) F d_M_share_10 rfl rfl rfl ?_
    refine v_iload_n (pc' := 12) (j := 1) F d_M_share_11 rfl rfl rfl ?_
    refine v_iload_n (pc' := 13) (j := 2) F d_M_share_12 rfl rfl rfl ?_
    refine v_callVP (pc' := 16) (C := zR_M) (T9 := zF_M) (N := 28) F d_M_share_13 rfl cal_M_shareOf wx_819 wx_821 wp_20 rfl hM1.1 (c_M_shareOf l X _ _ _ _ _ _ hM1 (by omega) (by omega)) rfl ⟨by decide, by decide, by decide, by decide⟩ (Nat.le_of_ble_eq_true rfl) rfl rfl ?_
    refine v_goto (tgt := 20) F d_M_share_16 (by decide) ?_
    refine v_lreturn F d_M_share_20 rfl (Nat.le_refl _) (Nat.le_refl _) ?_
    first | (rw [show sp_shareR M f a = (0, _, M) from if_pos (by omega)]; exact ⟨_, hM1, ((MF.rf).tr hF1), rfl, upM_ss.trans (by omega), eqv.note (Or.inl rfl), _, rfl, fun _ => rfl⟩) | (rw [show sp_shareR M f a = (sp_has M 1 f a, 0, M) from if_neg (by omega)]; exact ⟨_, hM1, ((MF.rf).tr hF1), rfl, upM_ss, eqv.note (Or.inl rfl), 0, rfl, fun q => absurd (show sp_has M 1 f a = 0 from q) (by omega)⟩)
def sp_balance (M : MS) (f a : Int) : Int × Int × MS := if sp_has M 1 f a = 0 then (0, sp_share M f a - M 6 (10 * f + a), M) else (sp_has M 1 f a, 0, M)
set_option maxRecDepth 100000 in
set_option maxHeartbeats 4000000 in
theorem c_M_balance (l : Launch) (X : am_X) (h : am_H) (nx : Nat) (y : Nat) (M : MS) (f a : Int) (hM : RepM y M h) (hfl : 0 ≤ M 1 0 ∧ M 1 0 ≤ 20) (hed : ∀ i : Int, 0 ≤ i → i < 10 → 0 ≤ M 20 i ∧ M 20 i ≤ 50) (hth : ∀ i : Int, 0 ≤ i → i < 10 → 0 ≤ M 21 i ∧ M 21 i ≤ 20) (rf : -2147483648 ≤ f ∧ f < 2147483648) (ra : -2147483648 ≤ a ∧ a < 2147483648) : Cn l X y_M_balance ({ frames := 2, cells := 0, slots := 0, locals := 46 }) [.ref y, iV f, iV a] h nx (mpost y h nx lV (sp_balance M f a)) := by
  refine cn_of (k := 0) (L0 := [some (.ref y), some (iV f), some (iV a)]) rfl wx_905 (Nat.le_of_ble_eq_true rfl) rfl (fun p e s m args below meth c F => ?_)
  refine v_aload_n (pc' := 1) (j := 0) F d_M_balance_0 rfl rfl rfl ?_
  refine v_iconst (pc' := 2) F d_M_balance_1 rfl ?_
  refine v_iload_n (pc' := 3) (j := 1) F d_M_balance_2 rfl rfl rfl ?_
  refine v_iload_n (pc' := 4) (j := 2) F d_M_balance_3 rfl rfl rfl ?_
  refine v_callVM (pc' := 7) (C := zR_M) (T9 := zF_M) (N := 28) F d_M_balance_4 rfl cal_M_has wx_873 wx_875 wp_29 rfl hM.1 (c_M_has l X _ _ _ _ _ _ _ hM hfl hed hth (by omega) (by omega) (by omega)) rfl ⟨by decide, by decide, by decide, by decide⟩ (Nat.le_of_ble_eq_true rfl) rfl rfl (fun h1 hM1 hF1 => ?_)
  refine v_zif_eq (tgt := 31) (pc' := 10) F d_M_balance_7 (by decide) rfl (fun c7 => ?_) (fun c7 => ?_)
  · refine v_lconst (pc' := 32) (z := 0) F d_M_balance_31 rfl (by decide) ?_
    refine v_lreturn F d_M_balance_32 rfl (Nat.le_refl _) (Nat.le_refl _) ?_
    first | (rw [show sp_balance M f a = (0, _, M) from if_pos (by omega)]; exact ⟨_, hM1, ((MF.rf).tr hF1), rfl, upM_ss.trans (by omega), eqv.note (Or.inl rfl), _, rfl, fun _ => rfl⟩) | (rw [show sp_balance M f a = (sp_has M 1 f a, 0, M) from if_neg (by omega)]; exact ⟨_, hM1, ((MF.rf).tr hF1), rfl, upM_ss, eqv.note (Or.inl rfl), 0, rfl, fun q => absurd (show sp_has M 1 f a = 0 from q) (by omega)⟩)
  · have q8 : (0 ≤ f ∧ f < M 1 0) ∧ 0 ≤ a ∧ a ≤ 9 := by unfold sp_has at c7; split at c7 <;> omega
    refine v_aload_n (pc' := 11) (j := 0) F d_M_balance_10 rfl rfl rfl ?_
    refine v_iload_n (pc' := 12) (j := 1) F d_M_balance_11 rfl rfl rfl ?_
    refine v_iload_n (pc' := 13) (j := 2) F d_M_balance_12 rfl rfl rfl ?_
    refine v_callVP (pc' := 16) (C := zR_M) (T9 := zF_M) (N := 28) F d_M_balance_13 rfl cal_M_shareOf wx_819 wx_821 wp_20 rfl hM1.1 (c_M_shareOf l X _ _ _ _ _ _ hM1 (by omega) (by omega)) rfl ⟨by decide, by decide, by decide, by decide⟩ (Nat.le_of_ble_eq_true rfl) rfl rfl ?_
    refine v_aload_n (pc' := 17) (j := 0) F d_M_balance_16 rfl rfl rfl ?_
    refine v_getf (pc' := 20) (C := zR_M) (T := zF_M) (N := 28) (ref := "BillSharesModel") F d_M_balance_17 rfl zi_M rfl 6 (by decide) wx_667 (Or.inl rfl) hM1.1 rfl ?_
    refine v_bipush (pc' := 22) F d_M_balance_20 rfl (by decide) ?_
    refine v_iload_n (pc' := 23) (j := 1) F d_M_balance_22 rfl rfl rfl ?_
    refine v_imul (pc' := 24) F d_M_balance_23 rfl ?_
    refine v_iload_n (pc' := 25) (j := 2) F d_M_balance_24 rfl rfl rfl ?_
    refine v_iadd (pc' := 26) F d_M_balance_25 rfl ?_
    refine mg_6 (pc' := 27) F hM1 d_M_balance_26 rfl (by omega) (by omega) ?_
    refine v_unl (by decide) ?_
    refine v_lsub (pc' := 28) F d_M_balance_27 rfl ?_
    refine v_goto (tgt := 32) F d_M_balance_28 (by decide) ?_
    refine v_lreturn F d_M_balance_32 rfl (Nat.le_refl _) (Nat.le_refl _) ?_
    first | (rw [show sp_balance M f a = (0, _, M) from if_pos (by omega)]; exact ⟨_, hM1, ((MF.rf).tr hF1), rfl, upM_ss.trans (by omega), eqv.note (Or.inl rfl), _, rfl, fun _ => rfl⟩) | (rw [show sp_balance M f a = (sp_has M 1 f a, 0, M) from if_neg (by omega)]; exact ⟨_, hM1, ((MF.rf).tr hF1), rfl, upM_ss, eqv.note (Or.inl rfl), 0, rfl, fun q => absurd (show sp_has M 1 f a = 0 from q) (by omega)⟩)
