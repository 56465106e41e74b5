/-! the reference's constructor (written by wip/whole/mm14.py) -/
def M00 : MS := fun _ _ => 0
def md_k (i : Nat) : Nat := if i < 6 then i + 1 else i + 2
def md_fj (y j : Nat) : List Value := [iV 0, iV 0, (if 1 ≤ j then .ref (y + 1) else .null), (if 2 ≤ j then .ref (y + 2) else .null), (if 3 ≤ j then .ref (y + 3) else .null), (if 4 ≤ j then .ref (y + 4) else .null), (if 5 ≤ j then .ref (y + 5) else .null), iV 0, (if 6 ≤ j then .ref (y + 6) else .null), (if 7 ≤ j then .ref (y + 7) else .null), (if 8 ≤ j then .ref (y + 8) else .null), (if 9 ≤ j then .ref (y + 9) else .null), (if 10 ≤ j then .ref (y + 10) else .null), (if 11 ≤ j then .ref (y + 11) else .null), (if 12 ≤ j then .ref (y + 12) else .null), (if 13 ≤ j then .ref (y + 13) else .null), (if 14 ≤ j then .ref (y + 14) else .null), (if 15 ≤ j then .ref (y + 15) else .null), (if 16 ≤ j then .ref (y + 16) else .null), (if 17 ≤ j then .ref (y + 17) else .null), (if 18 ≤ j then .ref (y + 18) else .null), (if 19 ≤ j then .ref (y + 19) else .null), (if 20 ≤ j then .ref (y + 20) else .null), (if 21 ≤ j then .ref (y + 21) else .null), (if 22 ≤ j then .ref (y + 22) else .null), (if 23 ≤ j then .ref (y + 23) else .null), (if 24 ≤ j then .ref (y + 24) else .null), (if 25 ≤ j then .ref (y + 25) else .null)]
/-- the heap while the constructor runs: j arrays are laid -/
def md_hj (h0 : am_H) (y j : Nat) : am_H := fun a => if a = y then some (.inr (4, md_fj y j)) else if a < y ∨ y + j < a then h0 a else some (md_cell M00 (md_k (a - y)))
theorem md_hj_s {h0 : am_H} {y j k : Nat} {e : am_E} (he : e = md_cell M00 k) (hk : md_k (j + 1) = k) {kf : Nat} (hf : (md_fj y j).set kf (.ref (y + 1 + j)) = md_fj y (j + 1)) : am_up (am_up (md_hj h0 y j) (y + 1 + j) e) y (.inr (4, (md_fj y j).set kf (.ref (y + 1 + j)))) = md_hj h0 y (j + 1) := by
  subst he
  funext a
  rw [hf]
  unfold am_up md_hj
  by_cases h1 : a = y
  · rw [if_pos h1, if_pos h1]
  · rw [if_neg h1, if_neg h1]
    by_cases h2 : a = y + 1 + j
    · rw [if_pos h2, if_neg h1, if_neg (by omega), show a - y = j + 1 by omega, hk]
    · rw [if_neg h2, if_neg h1]
      by_cases h3 : a < y ∨ y + j < a
      · rw [if_pos h3, if_pos (by omega)]
      · rw [if_neg h3, if_neg (by omega)]
theorem md_hj_0 {h : am_H} {y : Nat} (hy : h y = some (.inr (4, md_fj y 0))) : md_hj h y 0 = h := by
  funext a
  unfold md_hj
  by_cases h1 : a = y
  · rw [if_pos h1, h1, hy]
  · rw [if_neg h1, if_pos (by omega)]
theorem md_hj_y {h : am_H} {y j : Nat} : md_hj h y j y = some (.inr (4, md_fj y j)) := if_pos rfl
theorem md_hj_M {h : am_H} {y : Nat} : RepM y M00 (md_hj h y 25) := by
  refine ⟨if_pos rfl, fun k h1 h2 h3 => ?_⟩
  have ho : 1 ≤ md_off k ∧ md_off k ≤ 25 ∧ md_k (md_off k) = k := by unfold md_off md_k; split <;> split <;> omega
  unfold md_hj
  rw [if_neg (by omega), if_neg (by omega), show y + md_off k - y = md_off k by omega, ho.2.2]
theorem md_hj_F {h : am_H} {y : Nat} : MF y h (md_hj h y 25) := fun a ha => by
  unfold md_hj
  rcases ha with q | q
  · rw [if_neg (by omega), if_pos (by omega)]
  · rw [if_neg (by omega), if_pos (by omega)]
theorem v_eqh {p : Program} {l : Launch} {e : Env} {R : Room} {s : State} {m : MethodId} {args : Array Value} {below : List Frame} {meth : Method} {c : Code} {nL : Nat} {X : am_X} {Q : State → Prop} {h h' : am_H} {nx cells slots pc : Nat} {L : List (Option Value)} {st : List Value} (hh : h = h') (k : V p l e R s m args below meth c nL X Q h' nx cells slots pc L st) : V p l e R s m args below meth c nL X Q h nx cells slots pc L st := by rw [hh]; exact k
/-- the state of a new object -/
def sp_new : MS := upM (upM (upM (upM M00 19 0 30) 19 1 30) 19 2 30) 19 3 30
set_option maxRecDepth 100000 in
set_option maxHeartbeats 4000000 in
theorem c_M_init (l : Launch) (X : am_X) (h : am_H) (y : Nat) (hy : h y = some (.inr (4, md_fj y 0))) : Cn l X y_M_init ({ frames := 1, cells := 25, slots := 12374, locals := 12 }) [.ref y] h (y + 1) (fun o h' nx' => RepM y sp_new h' ∧ MF y h h' ∧ nx' = y + 26 ∧ o = .returned none) := by
  refine cn_of (k := 1) (L0 := [some (.ref y), none]) rfl wx_659 (Nat.le_of_ble_eq_true rfl) rfl (fun p e s m args below meth c F => ?_)
  refine v_eqh (md_hj_0 hy).symm ?_
  refine v_aload_n (pc' := 1) (j := 0) F d_M_init_0 rfl rfl rfl ?_
  refine v_obj (pc' := 4) F d_M_init_1 rfl wx_660 wx_26 wx_27 (by decide) (by decide) ?_
  refine v_aload_n (pc' := 5) (j := 0) F d_M_init_4 rfl rfl rfl ?_
  refine v_bipush (pc' := 7) F d_M_init_5 rfl (by decide) ?_
  refine v_newa (pc' := 9) (ai := 0) (ty := .int) F d_M_init_7 rfl rfl wx_76 (by decide) rfl (by decide) (by decide) (by decide) (by decide) ?_
  refine v_putf (pc' := 12) (C := zR_M) (T := zF_M) (N := 28) (ref := "BillSharesModel") F d_M_init_9 rfl zi_M zt_M zk_M zn_M rfl 2 (by decide) wx_663 (Or.inl rfl) (Or.inr ⟨rfl, rfl, rfl⟩) (zk_M 2 (by decide)) rfl rfl ((am_up_n (by omega)).trans md_hj_y) (by show 2 < 28; decide) ?_
  refine v_eqh (md_hj_s (j := 0) (k := 2) rfl (by decide) rfl) ?_
  refine v_aload_n (pc' := 13) (j := 0) F d_M_init_12 rfl rfl rfl ?_
  refine v_bipush (pc' := 15) F d_M_init_13 rfl (by decide) ?_
  refine v_newa (pc' := 17) (ai := 0) (ty := .int) F d_M_init_15 rfl rfl wx_76 (by decide) rfl (by decide) (by decide) (by decide) (by decide) ?_
  refine v_putf (pc' := 20) (C := zR_M) (T := zF_M) (N := 28) (ref := "BillSharesModel") F d_M_init_17 rfl zi_M zt_M zk_M zn_M rfl 3 (by decide) wx_664 (Or.inl rfl) (Or.inr ⟨rfl, rfl, rfl⟩) (zk_M 3 (by decide)) rfl rfl ((am_up_n (by omega)).trans md_hj_y) (by show 3 < 28; decide) ?_
  refine v_eqh (md_hj_s (j := 1) (k := 3) rfl (by decide) rfl) ?_
  refine v_aload_n (pc' := 21) (j := 0) F d_M_init_20 rfl rfl rfl ?_
  refine v_bipush (pc' := 23) F d_M_init_21 rfl (by decide) ?_
  refine v_newa (pc' := 25) (ai := 0) (ty := .int) F d_M_init_23 rfl rfl wx_76 (by decide) rfl (by decide) (by decide) (by decide) (by decide) ?_
  refine v_putf (pc' := 28) (C := zR_M) (T := zF_M) (N := 28) (ref := "BillSharesModel") F d_M_init_25 rfl zi_M zt_M zk_M zn_M rfl 4 (by decide) wx_665 (Or.inl rfl) (Or.inr ⟨rfl, rfl, rfl⟩) (zk_M 4 (by decide)) rfl rfl ((am_up_n (by omega)).trans md_hj_y) (by show 4 < 28; decide) ?_
  refine v_eqh (md_hj_s (j := 2) (k := 4) rfl (by decide) rfl) ?_
  refine v_aload_n (pc' := 29) (j := 0) F d_M_init_28 rfl rfl rfl ?_
  refine v_sipush (pc' := 32) F d_M_init_29 rfl (by decide) ?_
  refine v_newa (pc' := 34) (ai := 0) (ty := .int) F d_M_init_32 rfl rfl wx_76 (by decide) rfl (by decide) (by decide) (by decide) (by decide) ?_
  refine v_putf (pc' := 37) (C := zR_M) (T := zF_M) (N := 28) (ref := "BillSharesModel") F d_M_init_34 rfl zi_M zt_M zk_M zn_M rfl 5 (by decide) wx_666 (Or.inl rfl) (Or.inr ⟨rfl, rfl, rfl⟩) (zk_M 5 (by decide)) rfl rfl ((am_up_n (by omega)).trans md_hj_y) (by show 5 < 28; decide) ?_
  refine v_eqh (md_hj_s (j := 3) (k := 5) rfl (by decide) rfl) ?_
  refine v_aload_n (pc' := 38) (j := 0) F d_M_init_37 rfl rfl rfl ?_
  refine v_sipush (pc' := 41) F d_M_init_38 rfl (by decide) ?_
  refine v_newa (pc' := 43) (ai := 1) (ty := .long) F d_M_init_41 rfl rfl wx_223 (by decide) rfl (by decide) (by decide) (by decide) (by decide) ?_
  refine v_putf (pc' := 46) (C := zR_M) (T := zF_M) (N := 28) (ref := "BillSharesModel") F d_M_init_43 rfl zi_M zt_M zk_M zn_M rfl 6 (by decide) wx_667 (Or.inl rfl) (Or.inr ⟨rfl, rfl, rfl⟩) (zk_M 6 (by decide)) rfl rfl ((am_up_n (by omega)).trans md_hj_y) (by show 6 < 28; decide) ?_
  refine v_eqh (md_hj_s (j := 4) (k := 6) rfl (by decide) rfl) ?_
  refine v_aload_n (pc' := 47) (j := 0) F d_M_init_46 rfl rfl rfl ?_
  refine v_bipush (pc' := 49) F d_M_init_47 rfl (by decide) ?_
  refine v_newa (pc' := 51) (ai := 0) (ty := .int) F d_M_init_49 rfl rfl wx_76 (by decide) rfl (by decide) (by decide) (by decide) (by decide) ?_
  refine v_putf (pc' := 54) (C := zR_M) (T := zF_M) (N := 28) (ref := "BillSharesModel") F d_M_init_51 rfl zi_M zt_M zk_M zn_M rfl 8 (by decide) wx_669 (Or.inl rfl) (Or.inr ⟨rfl, rfl, rfl⟩) (zk_M 8 (by decide)) rfl rfl ((am_up_n (by omega)).trans md_hj_y) (by show 8 < 28; decide) ?_
  refine v_eqh (md_hj_s (j := 5) (k := 8) rfl (by decide) rfl) ?_
  refine v_aload_n (pc' := 55) (j := 0) F d_M_init_54 rfl rfl rfl ?_
  refine v_bipush (pc' := 57) F d_M_init_55 rfl (by decide) ?_
  refine v_newa (pc' := 59) (ai := 0) (ty := .int) F d_M_init_57 rfl rfl wx_76 (by decide) rfl (by decide) (by decide) (by decide) (by decide) ?_
  refine v_putf (pc' := 62) (C := zR_M) (T := zF_M) (N := 28) (ref := "BillSharesModel") F d_M_init_59 rfl zi_M zt_M zk_M zn_M rfl 9 (by decide) wx_670 (Or.inl rfl) (Or.inr ⟨rfl, rfl, rfl⟩) (zk_M 9 (by decide)) rfl rfl ((am_up_n (by omega)).trans md_hj_y) (by show 9 < 28; decide) ?_
  refine v_eqh (md_hj_s (j := 6) (k := 9) rfl (by decide) rfl) ?_
  refine v_aload_n (pc' := 63) (j := 0) F d_M_init_62 rfl rfl rfl ?_
  refine v_bipush (pc' := 65) F d_M_init_63 rfl (by decide) ?_
  refine v_newa (pc' := 67) (ai := 0) (ty := .int) F d_M_init_65 rfl rfl wx_76 (by decide) rfl (by decide) (by decide) (by decide) (by decide) ?_
  refine v_putf (pc' := 70) (C := zR_M) (T := zF_M) (N := 28) (ref := "BillSharesModel") F d_M_init_67 rfl zi_M zt_M zk_M zn_M rfl 10 (by decide) wx_671 (Or.inl rfl) (Or.inr ⟨rfl, rfl, rfl⟩) (zk_M 10 (by decide)) rfl rfl ((am_up_n (by omega)).trans md_hj_y) (by show 10 < 28; decide) ?_
  refine v_eqh (md_hj_s (j := 7) (k := 10) rfl (by decide) rfl) ?_
  refine v_aload_n (pc' := 71) (j := 0) F d_M_init_70 rfl rfl rfl ?_
  refine v_bipush (pc' := 73) F d_M_init_71 rfl (by decide) ?_
  refine v_newa (pc' := 75) (ai := 0) (ty := .int) F d_M_init_73 rfl rfl wx_76 (by decide) rfl (by decide) (by decide) (by decide) (by decide) ?_
  refine v_putf (pc' := 78) (C := zR_M) (T := zF_M) (N := 28) (ref := "BillSharesModel") F d_M_init_75 rfl zi_M zt_M zk_M zn_M rfl 11 (by decide) wx_672 (Or.inl rfl) (Or.inr ⟨rfl, rfl, rfl⟩) (zk_M 11 (by decide)) rfl rfl ((am_up_n (by omega)).trans md_hj_y) (by show 11 < 28; decide) ?_
  refine v_eqh (md_hj_s (j := 8) (k := 11) rfl (by decide) rfl) ?_
  refine v_aload_n (pc' := 79) (j := 0) F d_M_init_78 rfl rfl rfl ?_
  refine v_bipush (pc' := 81) F d_M_init_79 rfl (by decide) ?_
  refine v_newa (pc' := 83) (ai := 0) (ty := .int) F d_M_init_81 rfl rfl wx_76 (by decide) rfl (by decide) (by decide) (by decide) (by decide) ?_
  refine v_putf (pc' := 86) (C := zR_M) (T := zF_M) (N := 28) (ref := "BillSharesModel") F d_M_init_83 rfl zi_M zt_M zk_M zn_M rfl 12 (by decide) wx_673 (Or.inl rfl) (Or.inr ⟨rfl, rfl, rfl⟩) (zk_M 12 (by decide)) rfl rfl ((am_up_n (by omega)).trans md_hj_y) (by show 12 < 28; decide) ?_
  refine v_eqh (md_hj_s (j := 9) (k := 12) rfl (by decide) rfl) ?_
  refine v_aload_n (pc' := 87) (j := 0) F d_M_init_86 rfl rfl rfl ?_
  refine v_bipush (pc' := 89) F d_M_init_87 rfl (by decide) ?_
  refine v_newa (pc' := 91) (ai := 0) (ty := .int) F d_M_init_89 rfl rfl wx_76 (by decide) rfl (by decide) (by decide) (by decide) (by decide) ?_
  refine v_putf (pc' := 94) (C := zR_M) (T := zF_M) (N := 28) (ref := "BillSharesModel") F d_M_init_91 rfl zi_M zt_M zk_M zn_M rfl 13 (by decide) wx_674 (Or.inl rfl) (Or.inr ⟨rfl, rfl, rfl⟩) (zk_M 13 (by decide)) rfl rfl ((am_up_n (by omega)).trans md_hj_y) (by show 13 < 28; decide) ?_
  refine v_eqh (md_hj_s (j := 10) (k := 13) rfl (by decide) rfl) ?_
  refine v_aload_n (pc' := 95) (j := 0) F d_M_init_94 rfl rfl rfl ?_
  refine v_sipush (pc' := 98) F d_M_init_95 rfl (by decide) ?_
  refine v_newa (pc' := 100) (ai := 0) (ty := .int) F d_M_init_98 rfl rfl wx_76 (by decide) rfl (by decide) (by decide) (by decide) (by decide) ?_
  refine v_putf (pc' := 103) (C := zR_M) (T := zF_M) (N := 28) (ref := "BillSharesModel") F d_M_init_100 rfl zi_M zt_M zk_M zn_M rfl 14 (by decide) wx_675 (Or.inl rfl) (Or.inr ⟨rfl, rfl, rfl⟩) (zk_M 14 (by decide)) rfl rfl ((am_up_n (by omega)).trans md_hj_y) (by show 14 < 28; decide) ?_
  refine v_eqh (md_hj_s (j := 11) (k := 14) rfl (by decide) rfl) ?_
  refine v_aload_n (pc' := 104) (j := 0) F d_M_init_103 rfl rfl rfl ?_
  refine v_sipush (pc' := 107) F d_M_init_104 rfl (by decide) ?_
  refine v_newa (pc' := 109) (ai := 0) (ty := .int) F d_M_init_107 rfl rfl wx_76 (by decide) rfl (by decide) (by decide) (by decide) (by decide) ?_
  refine v_putf (pc' := 112) (C := zR_M) (T := zF_M) (N := 28) (ref := "BillSharesModel") F d_M_init_109 rfl zi_M zt_M zk_M zn_M rfl 15 (by decide) wx_676 (Or.inl rfl) (Or.inr ⟨rfl, rfl, rfl⟩) (zk_M 15 (by decide)) rfl rfl ((am_up_n (by omega)).trans md_hj_y) (by show 15 < 28; decide) ?_
  refine v_eqh (md_hj_s (j := 12) (k := 15) rfl (by decide) rfl) ?_
  refine v_aload_n (pc' := 113) (j := 0) F d_M_init_112 rfl rfl rfl ?_
  refine v_sipush (pc' := 116) F d_M_init_113 rfl (by decide) ?_
  refine v_newa (pc' := 118) (ai := 0) (ty := .int) F d_M_init_116 rfl rfl wx_76 (by decide) rfl (by decide) (by decide) (by decide) (by decide) ?_
  refine v_putf (pc' := 121) (C := zR_M) (T := zF_M) (N := 28) (ref := "BillSharesModel") F d_M_init_118 rfl zi_M zt_M zk_M zn_M rfl 16 (by decide) wx_677 (Or.inl rfl) (Or.inr ⟨rfl, rfl, rfl⟩) (zk_M 16 (by decide)) rfl rfl ((am_up_n (by omega)).trans md_hj_y) (by show 16 < 28; decide) ?_
  refine v_eqh (md_hj_s (j := 13) (k := 16) rfl (by decide) rfl) ?_
  refine v_aload_n (pc' := 122) (j := 0) F d_M_init_121 rfl rfl rfl ?_
  refine v_sipush (pc' := 125) F d_M_init_122 rfl (by decide) ?_
  refine v_newa (pc' := 127) (ai := 4) (ty := .boolean) F d_M_init_125 rfl rfl wx_746 (by decide) rfl (by decide) (by decide) (by decide) (by decide) ?_
  refine v_putf (pc' := 130) (C := zR_M) (T := zF_M) (N := 28) (ref := "BillSharesModel") F d_M_init_127 rfl zi_M zt_M zk_M zn_M rfl 17 (by decide) wx_678 (Or.inl rfl) (Or.inr ⟨rfl, rfl, rfl⟩) (zk_M 17 (by decide)) rfl rfl ((am_up_n (by omega)).trans md_hj_y) (by show 17 < 28; decide) ?_
  refine v_eqh (md_hj_s (j := 14) (k := 17) rfl (by decide) rfl) ?_
  refine v_aload_n (pc' := 131) (j := 0) F d_M_init_130 rfl rfl rfl ?_
  refine v_bipush (pc' := 133) F d_M_init_131 rfl (by decide) ?_
  refine v_newa (pc' := 135) (ai := 0) (ty := .int) F d_M_init_133 rfl rfl wx_76 (by decide) rfl (by decide) (by decide) (by decide) (by decide) ?_
  refine v_putf (pc' := 138) (C := zR_M) (T := zF_M) (N := 28) (ref := "BillSharesModel") F d_M_init_135 rfl zi_M zt_M zk_M zn_M rfl 18 (by decide) wx_679 (Or.inl rfl) (Or.inr ⟨rfl, rfl, rfl⟩) (zk_M 18 (by decide)) rfl rfl ((am_up_n (by omega)).trans md_hj_y) (by show 18 < 28; decide) ?_
  refine v_eqh (md_hj_s (j := 15) (k := 18) rfl (by decide) rfl) ?_
  refine v_aload_n (pc' := 139) (j := 0) F d_M_init_138 rfl rfl rfl ?_
  refine v_iconst (pc' := 140) F d_M_init_139 rfl ?_
  refine v_newa (pc' := 142) (ai := 0) (ty := .int) F d_M_init_140 rfl rfl wx_76 (by decide) rfl (by decide) (by decide) (by decide) (by decide) ?_
  refine v_putf (pc' := 145) (C := zR_M) (T := zF_M) (N := 28) (ref := "BillSharesModel") F d_M_init_142 rfl zi_M zt_M zk_M zn_M rfl 19 (by decide) wx_680 (Or.inl rfl) (Or.inr ⟨rfl, rfl, rfl⟩) (zk_M 19 (by decide)) rfl rfl ((am_up_n (by omega)).trans md_hj_y) (by show 19 < 28; decide) ?_
  refine v_eqh (md_hj_s (j := 16) (k := 19) rfl (by decide) rfl) ?_
  refine v_aload_n (pc' := 146) (j := 0) F d_M_init_145 rfl rfl rfl ?_
  refine v_bipush (pc' := 148) F d_M_init_146 rfl (by decide) ?_
  refine v_newa (pc' := 150) (ai := 0) (ty := .int) F d_M_init_148 rfl rfl wx_76 (by decide) rfl (by decide) (by decide) (by decide) (by decide) ?_
  refine v_putf (pc' := 153) (C := zR_M) (T := zF_M) (N := 28) (ref := "BillSharesModel") F d_M_init_150 rfl zi_M zt_M zk_M zn_M rfl 20 (by decide) wx_681 (Or.inl rfl) (Or.inr ⟨rfl, rfl, rfl⟩) (zk_M 20 (by decide)) rfl rfl ((am_up_n (by omega)).trans md_hj_y) (by show 20 < 28; decide) ?_
  refine v_eqh (md_hj_s (j := 17) (k := 20) rfl (by decide) rfl) ?_
  refine v_aload_n (pc' := 154) (j := 0) F d_M_init_153 rfl rfl rfl ?_
  refine v_bipush (pc' := 156) F d_M_init_154 rfl (by decide) ?_
  refine v_newa (pc' := 158) (ai := 0) (ty := .int) F d_M_init_156 rfl rfl wx_76 (by decide) rfl (by decide) (by decide) (by decide) (by decide) ?_
  refine v_putf (pc' := 161) (C := zR_M) (T := zF_M) (N := 28) (ref := "BillSharesModel") F d_M_init_158 rfl zi_M zt_M zk_M zn_M rfl 21 (by decide) wx_682 (Or.inl rfl) (Or.inr ⟨rfl, rfl, rfl⟩) (zk_M 21 (by decide)) rfl rfl ((am_up_n (by omega)).trans md_hj_y) (by show 21 < 28; decide) ?_
  refine v_eqh (md_hj_s (j := 18) (k := 21) rfl (by decide) rfl) ?_
  refine v_aload_n (pc' := 162) (j := 0) F d_M_init_161 rfl rfl rfl ?_
  refine v_bipush (pc' := 164) F d_M_init_162 rfl (by decide) ?_
  refine v_newa (pc' := 166) (ai := 0) (ty := .int) F d_M_init_164 rfl rfl wx_76 (by decide) rfl (by decide) (by decide) (by decide) (by decide) ?_
  refine v_putf (pc' := 169) (C := zR_M) (T := zF_M) (N := 28) (ref := "BillSharesModel") F d_M_init_166 rfl zi_M zt_M zk_M zn_M rfl 22 (by decide) wx_683 (Or.inl rfl) (Or.inr ⟨rfl, rfl, rfl⟩) (zk_M 22 (by decide)) rfl rfl ((am_up_n (by omega)).trans md_hj_y) (by show 22 < 28; decide) ?_
  refine v_eqh (md_hj_s (j := 19) (k := 22) rfl (by decide) rfl) ?_
  refine v_aload_n (pc' := 170) (j := 0) F d_M_init_169 rfl rfl rfl ?_
  refine v_sipush (pc' := 173) F d_M_init_170 rfl (by decide) ?_
  refine v_newa (pc' := 175) (ai := 1) (ty := .long) F d_M_init_173 rfl rfl wx_223 (by decide) rfl (by decide) (by decide) (by decide) (by decide) ?_
  refine v_putf (pc' := 178) (C := zR_M) (T := zF_M) (N := 28) (ref := "BillSharesModel") F d_M_init_175 rfl zi_M zt_M zk_M zn_M rfl 23 (by decide) wx_684 (Or.inl rfl) (Or.inr ⟨rfl, rfl, rfl⟩) (zk_M 23 (by decide)) rfl rfl ((am_up_n (by omega)).trans md_hj_y) (by show 23 < 28; decide) ?_
  refine v_eqh (md_hj_s (j := 20) (k := 23) rfl (by decide) rfl) ?_
  refine v_aload_n (pc' := 179) (j := 0) F d_M_init_178 rfl rfl rfl ?_
  refine v_sipush (pc' := 182) F d_M_init_179 rfl (by decide) ?_
  refine v_newa (pc' := 184) (ai := 1) (ty := .long) F d_M_init_182 rfl rfl wx_223 (by decide) rfl (by decide) (by decide) (by decide) (by decide) ?_
  refine v_putf (pc' := 187) (C := zR_M) (T := zF_M) (N := 28) (ref := "BillSharesModel") F d_M_init_184 rfl zi_M zt_M zk_M zn_M rfl 24 (by decide) wx_685 (Or.inl rfl) (Or.inr ⟨rfl, rfl, rfl⟩) (zk_M 24 (by decide)) rfl rfl ((am_up_n (by omega)).trans md_hj_y) (by show 24 < 28; decide) ?_
  refine v_eqh (md_hj_s (j := 21) (k := 24) rfl (by decide) rfl) ?_
  refine v_aload_n (pc' := 188) (j := 0) F d_M_init_187 rfl rfl rfl ?_
  refine v_sipush (pc' := 191) F d_M_init_188 rfl (by decide) ?_
  refine v_newa (pc' := 193) (ai := 1) (ty := .long) F d_M_init_191 rfl rfl wx_223 (by decide) rfl (by decide) (by decide) (by decide) (by decide) ?_
  refine v_putf (pc' := 196) (C := zR_M) (T := zF_M) (N := 28) (ref := "BillSharesModel") F d_M_init_193 rfl zi_M zt_M zk_M zn_M rfl 25 (by decide) wx_686 (Or.inl rfl) (Or.inr ⟨rfl, rfl, rfl⟩) (zk_M 25 (by decide)) rfl rfl ((am_up_n (by omega)).trans md_hj_y) (by show 25 < 28; decide) ?_
  refine v_eqh (md_hj_s (j := 22) (k := 25) rfl (by decide) rfl) ?_
  refine v_aload_n (pc' := 197) (j := 0) F d_M_init_196 rfl rfl rfl ?_
  refine v_bipush (pc' := 199) F d_M_init_197 rfl (by decide) ?_
  refine v_newa (pc' := 201) (ai := 1) (ty := .long) F d_M_init_199 rfl rfl wx_223 (by decide) rfl (by decide) (by decide) (by decide) (by decide) ?_
  refine v_putf (pc' := 204) (C := zR_M) (T := zF_M) (N := 28) (ref := "BillSharesModel") F d_M_init_201 rfl zi_M zt_M zk_M zn_M rfl 26 (by decide) wx_687 (Or.inl rfl) (Or.inr ⟨rfl, rfl, rfl⟩) (zk_M 26 (by decide)) rfl rfl ((am_up_n (by omega)).trans md_hj_y) (by show 26 < 28; decide) ?_
  refine v_eqh (md_hj_s (j := 23) (k := 26) rfl (by decide) rfl) ?_
  refine v_aload_n (pc' := 205) (j := 0) F d_M_init_204 rfl rfl rfl ?_
  refine v_bipush (pc' := 207) F d_M_init_205 rfl (by decide) ?_
  refine v_newa (pc' := 209) (ai := 1) (ty := .long) F d_M_init_207 rfl rfl wx_223 (by decide) rfl (by decide) (by decide) (by decide) (by decide) ?_
  refine v_putf (pc' := 212) (C := zR_M) (T := zF_M) (N := 28) (ref := "BillSharesModel") F d_M_init_209 rfl zi_M zt_M zk_M zn_M rfl 27 (by decide) wx_688 (Or.inl rfl) (Or.inr ⟨rfl, rfl, rfl⟩) (zk_M 27 (by decide)) rfl rfl ((am_up_n (by omega)).trans md_hj_y) (by show 27 < 28; decide) ?_
  refine v_eqh (md_hj_s (j := 24) (k := 27) rfl (by decide) rfl) ?_
  have hM0 := md_hj_M (h := h) (y := y)
  have hF0 := md_hj_F (h := h) (y := y)
  refine v_iconst (pc' := 213) F d_M_init_212 rfl ?_
  refine v_istore_1 (pc' := 214) F d_M_init_213 rfl rfl (by decide) ?_
  refine v_iload_n (pc' := 215) (j := 1) F d_M_init_214 rfl rfl rfl ?_
  refine v_iconst (pc' := 216) F d_M_init_215 rfl ?_
  refine v_icmp_ge (tgt := 233) (pc' := 219) F d_M_init_216 (by decide) rfl (by omega) (by omega) (fun c216 => by exfalso; omega) (fun c216 => ?_)
  refine v_aload_n (pc' := 220) (j := 0) F d_M_init_219 rfl rfl rfl ?_
  refine v_getf (pc' := 223) (C := zR_M) (T := zF_M) (N := 28) (ref := "BillSharesModel") F d_M_init_220 rfl zi_M rfl 19 (by decide) wx_680 (Or.inl rfl) hM0.1 rfl ?_
  refine v_iload_n (pc' := 224) (j := 1) F d_M_init_223 rfl rfl rfl ?_
  refine v_bipush (pc' := 226) F d_M_init_224 rfl (by decide) ?_
  refine mp_19 (pc' := 227) F hM0 d_M_init_226 rfl (by omega) (by omega) (fun h1 hM1 hF1 => ?_)
  refine v_iinc_1 (pc' := 230) F d_M_init_227 rfl rfl (by decide) ?_
  refine v_goto (tgt := 214) F d_M_init_230 (by decide) ?_
  refine v_iload_n (pc' := 215) (j := 1) F d_M_init_214 rfl rfl rfl ?_
  refine v_iconst (pc' := 216) F d_M_init_215 rfl ?_
  refine v_icmp_ge (tgt := 233) (pc' := 219) F d_M_init_216 (by decide) rfl (by omega) (by omega) (fun c216 => by exfalso; omega) (fun c216 => ?_)
  refine v_aload_n (pc' := 220) (j := 0) F d_M_init_219 rfl rfl rfl ?_
  refine v_getf (pc' := 223) (C := zR_M) (T := zF_M) (N := 28) (ref := "BillSharesModel") F d_M_init_220 rfl zi_M rfl 19 (by decide) wx_680 (Or.inl rfl) hM1.1 rfl ?_
  refine v_iload_n (pc' := 224) (j := 1) F d_M_init_223 rfl rfl rfl ?_
  refine v_bipush (pc' := 226) F d_M_init_224 rfl (by decide) ?_
  refine mp_19 (pc' := 227) F hM1 d_M_init_226 rfl (by omega) (by omega) (fun h2 hM2 hF2 => ?_)
  refine v_iinc_1 (pc' := 230) F d_M_init_227 rfl rfl (by decide) ?_
  refine v_goto (tgt := 214) F d_M_init_230 (by decide) ?_
  refine v_iload_n (pc' := 215) (j := 1) F d_M_init_214 rfl rfl rfl ?_
  refine v_iconst (pc' := 216) F d_M_init_215 rfl ?_
  refine v_icmp_ge (tgt := 233) (pc' := 219) F d_M_init_216 (by decide) rfl (by omega) (by omega) (fun c216 => by exfalso; omega) (fun c216 => ?_)
  refine v_aload_n (pc' := 220) (j := 0) F d_M_init_219 rfl rfl rfl ?_
  refine v_getf (pc' := 223) (C := zR_M) (T := zF_M) (N := 28) (ref := "BillSharesModel") F d_M_init_220 rfl zi_M rfl 19 (by decide) wx_680 (Or.inl rfl) hM2.1 rfl ?_
  refine v_iload_n (pc' := 224) (j := 1) F d_M_init_223 rfl rfl rfl ?_
  refine v_bipush (pc' := 226) F d_M_init_224 rfl (by decide) ?_
  refine mp_19 (pc' := 227) F hM2 d_M_init_226 rfl (by omega) (by omega) (fun h3 hM3 hF3 => ?_)
  refine v_iinc_1 (pc' := 230) F d_M_init_227 rfl rfl (by decide) ?_
  refine v_goto (tgt := 214) F d_M_init_230 (by decide) ?_
  refine v_iload_n (pc' := 215) (j := 1) F d_M_init_214 rfl rfl rfl ?_
  refine v_iconst (pc' := 216) F d_M_init_215 rfl ?_
  refine v_icmp_ge (tgt := 233) (pc' := 219) F d_M_init_216 (by decide) rfl (by omega) (by omega) (fun c216 => by exfalso; omega) (fun c216 => ?_)
  refine v_aload_n (pc' := 220) (j := 0) F d_M_init_219 rfl rfl rfl ?_
  refine v_getf (pc' := 223) (C := zR_M) (T := zF_M) (N := 28) (ref := "BillSharesModel") F d_M_init_220 rfl zi_M rfl 19 (by decide) wx_680 (Or.inl rfl) hM3.1 rfl ?_
  refine v_iload_n (pc' := 224) (j := 1) F d_M_init_223 rfl rfl rfl ?_
  refine v_bipush (pc' := 226) F d_M_init_224 rfl (by decide) ?_
  refine mp_19 (pc' := 227) F hM3 d_M_init_226 rfl (by omega) (by omega) (fun h4 hM4 hF4 => ?_)
  refine v_iinc_1 (pc' := 230) F d_M_init_227 rfl rfl (by decide) ?_
  refine v_goto (tgt := 214) F d_M_init_230 (by decide) ?_
  refine v_iload_n (pc' := 215) (j := 1) F d_M_init_214 rfl rfl rfl ?_
  refine v_iconst (pc' := 216) F d_M_init_215 rfl ?_
  refine v_icmp_ge (tgt := 233) (pc' := 219) F d_M_init_216 (by decide) rfl (by omega) (by omega) (fun c216 => ?_) (fun c216 => by exfalso; omega)
  exact v_return F d_M_init_233 rfl (Nat.le_refl _) (Nat.le_refl _) ⟨hM4, ((((((((hF0).tr hF1)).tr hF2)).tr hF3)).tr hF4), rfl, rfl⟩
