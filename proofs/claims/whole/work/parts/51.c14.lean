/-! the class's constructor (written by wip/whole/cc14.py) -/
def g30 : Int → Int := upI (upI (upI (upI (fun _ => 0) 0 30) (0 + 1) 30) (0 + 1 + 1) 30) (0 + 1 + 1 + 1) 30
set_option maxRecDepth 100000 in
set_option maxHeartbeats 4000000 in
theorem c_AS_fill (l : Launch) (X : am_X) (h : am_H) (nx : Nat) (a0 : Nat) (ha : h a0 = some (am_ia 4 (fun _ => 0))) : Cn l X y_AS_fill ({ frames := 0, cells := 0, slots := 0, locals := 0 }) [.ref a0, iV 30] h nx (fun o h' nx' => o = .returned none ∧ h' = am_up h a0 (am_ia 4 g30) ∧ nx' = nx) := by
  refine cn_of (k := 2) (L0 := [some (.ref a0), some (iV 30), none, none]) rfl wx_56 (Nat.le_of_ble_eq_true rfl) rfl (fun p e s m args below meth c F => ?_)
  refine v_iconst (pc' := 1) F d_AS_fill_0 rfl ?_
  refine v_istore_2 (pc' := 2) F d_AS_fill_1 rfl rfl (by decide) ?_
  refine v_aload_n (pc' := 3) (j := 0) F d_AS_fill_2 rfl rfl rfl ?_
  refine v_alen (pc' := 4) (ai := 0) (ty := .int) F d_AS_fill_3 rfl (by decide) ha ?_
  refine v_topi (b := 4) rfl ?_
  refine v_istore_3 (pc' := 5) F d_AS_fill_4 rfl rfl (by decide) ?_
  refine v_iload_n (pc' := 6) (j := 2) F d_AS_fill_5 rfl rfl rfl ?_
  refine v_iload_n (pc' := 7) (j := 3) F d_AS_fill_6 rfl rfl rfl ?_
  refine v_icmp_ge (tgt := 20) (pc' := 10) F d_AS_fill_7 (by decide) rfl (by omega) (by omega) (fun c7 => by exfalso; omega) (fun c7 => ?_)
  refine v_aload_n (pc' := 11) (j := 0) F d_AS_fill_10 rfl rfl rfl ?_
  refine v_iload_n (pc' := 12) (j := 2) F d_AS_fill_11 rfl rfl rfl ?_
  refine v_iload_n (pc' := 13) (j := 1) F d_AS_fill_12 rfl rfl rfl ?_
  refine v_iap (pc' := 14) F d_AS_fill_13 rfl (by first | exact am_up_s | exact ha) (by decide) (by omega) (by omega) ?_
  refine v_iinc_2 (pc' := 17) F d_AS_fill_14 rfl rfl (by decide) ?_
  refine v_goto (tgt := 5) F d_AS_fill_17 (by decide) ?_
  refine v_iload_n (pc' := 6) (j := 2) F d_AS_fill_5 rfl rfl rfl ?_
  refine v_iload_n (pc' := 7) (j := 3) F d_AS_fill_6 rfl rfl rfl ?_
  refine v_icmp_ge (tgt := 20) (pc' := 10) F d_AS_fill_7 (by decide) rfl (by omega) (by omega) (fun c7 => by exfalso; omega) (fun c7 => ?_)
  refine v_aload_n (pc' := 11) (j := 0) F d_AS_fill_10 rfl rfl rfl ?_
  refine v_iload_n (pc' := 12) (j := 2) F d_AS_fill_11 rfl rfl rfl ?_
  refine v_iload_n (pc' := 13) (j := 1) F d_AS_fill_12 rfl rfl rfl ?_
  refine v_iap (pc' := 14) F d_AS_fill_13 rfl (by first | exact am_up_s | exact ha) (by decide) (by omega) (by omega) ?_
  refine v_iinc_2 (pc' := 17) F d_AS_fill_14 rfl rfl (by decide) ?_
  refine v_goto (tgt := 5) F d_AS_fill_17 (by decide) ?_
  refine v_iload_n (pc' := 6) (j := 2) F d_AS_fill_5 rfl rfl rfl ?_
  refine v_iload_n (pc' := 7) (j := 3) F d_AS_fill_6 rfl rfl rfl ?_
  refine v_icmp_ge (tgt := 20) (pc' := 10) F d_AS_fill_7 (by decide) rfl (by omega) (by omega) (fun c7 => by exfalso; omega) (fun c7 => ?_)
  refine v_aload_n (pc' := 11) (j := 0) F d_AS_fill_10 rfl rfl rfl ?_
  refine v_iload_n (pc' := 12) (j := 2) F d_AS_fill_11 rfl rfl rfl ?_
  refine v_iload_n (pc' := 13) (j := 1) F d_AS_fill_12 rfl rfl rfl ?_
  refine v_iap (pc' := 14) F d_AS_fill_13 rfl (by first | exact am_up_s | exact ha) (by decide) (by omega) (by omega) ?_
  refine v_iinc_2 (pc' := 17) F d_AS_fill_14 rfl rfl (by decide) ?_
  refine v_goto (tgt := 5) F d_AS_fill_17 (by decide) ?_
  refine v_iload_n (pc' := 6) (j := 2) F d_AS_fill_5 rfl rfl rfl ?_
  refine v_iload_n (pc' := 7) (j := 3) F d_AS_fill_6 rfl rfl rfl ?_
  refine v_icmp_ge (tgt := 20) (pc' := 10) F d_AS_fill_7 (by decide) rfl (by omega) (by omega) (fun c7 => by exfalso; omega) (fun c7 => ?_)
  refine v_aload_n (pc' := 11) (j := 0) F d_AS_fill_10 rfl rfl rfl ?_
  refine v_iload_n (pc' := 12) (j := 2) F d_AS_fill_11 rfl rfl rfl ?_
  refine v_iload_n (pc' := 13) (j := 1) F d_AS_fill_12 rfl rfl rfl ?_
  refine v_iap (pc' := 14) F d_AS_fill_13 rfl (by first | exact am_up_s | exact ha) (by decide) (by omega) (by omega) ?_
  refine v_iinc_2 (pc' := 17) F d_AS_fill_14 rfl rfl (by decide) ?_
  refine v_goto (tgt := 5) F d_AS_fill_17 (by decide) ?_
  refine v_iload_n (pc' := 6) (j := 2) F d_AS_fill_5 rfl rfl rfl ?_
  refine v_iload_n (pc' := 7) (j := 3) F d_AS_fill_6 rfl rfl rfl ?_
  refine v_icmp_ge (tgt := 20) (pc' := 10) F d_AS_fill_7 (by decide) rfl (by omega) (by omega) (fun c7 => ?_) (fun c7 => by exfalso; omega)
  exact v_return F d_AS_fill_20 rfl (Nat.le_refl _) (Nat.le_refl _) ⟨rfl, by rw [am_up_up, am_up_up, am_up_up]; rfl, rfl⟩
/-- a new object's addresses -/
def p00 (x nx : Nat) : Tg → Nat := fun t => if t.1 = 0 then x else if t.1 = 4 ∧ t.2 = 0 then nx else if t.1 = 4 ∧ t.2 = 1 then nx + 1 else if t.1 = 4 ∧ t.2 = 2 then nx + 2 else if t.1 = 1 then nx + 3 else if t.1 = 2 then nx + 4 else nx + 5
theorem NI.new : NI sp_new := by
  refine ⟨fun f k h0 h1 => absurd (show f < 0 from h1) (by omega), rfl, rfl, rfl, fun k _ _ => by simp [sp_new, M00, upM], fun f h0 h1 => absurd (show f < 0 from h1) (by omega), fun f h0 h1 => absurd (show f < 0 from h1) (by omega), fun f h0 h1 => absurd (show f < 0 from h1) (by omega), fun f h0 h1 => absurd (show f < 0 from h1) (by omega), fun i h1 => absurd (show (i : Int) < 0 from h1) (by omega), fun a f _ _ h0 h1 => absurd (show f < 0 from h1) (by omega)⟩
theorem cos_new : cosI sp_new = (fun _ => 0) := by
  funext j
  unfold cosI
  split <;> rfl
theorem RepC.new {X : am_X} {x nx : Nat} {A : Nat → Prop} {h' : am_H} (hx : x < nx) (hA : ∀ q : Nat, nx ≤ q → A q) (hAx : A x) (k0 : h' x = some (.inr (0, [.ref nx, .ref (nx + 1), .ref (nx + 2), .ref (nx + 3), .ref (nx + 4), .ref (nx + 5)]))) (k1a : h' nx = some (.inr (5, [.ref X.2.2.2, iV 0, iV 0]))) (k1b : h' (nx + 1) = some (.inr (5, [.ref X.2.2.2, iV 0, iV 0]))) (k1c : h' (nx + 2) = some (.inr (5, [.ref X.2.2.2, iV 0, iV 0]))) (k3 : h' (nx + 3) = some (am_ia 40 (fun _ => 0))) (k4 : h' (nx + 4) = some (am_ia 4 g30)) (k5 : h' (nx + 5) = some (am_ia 10 (fun _ => 0))) : RepC X x A (p00 x nx) sp_new h' := by
  have key : ∀ t, Lv sp_new t → (t = (0, 0) ∧ p00 x nx t = x) ∨ (t = (4, 0) ∧ p00 x nx t = nx) ∨ (t = (4, 1) ∧ p00 x nx t = nx + 1) ∨ (t = (4, 2) ∧ p00 x nx t = nx + 2) ∨ (t = (1, 0) ∧ p00 x nx t = nx + 3) ∨ (t = (2, 0) ∧ p00 x nx t = nx + 4) ∨ (t = (3, 0) ∧ p00 x nx t = nx + 5) := fun t ht => by
    obtain ⟨s0, i⟩ := t
    rcases s0 with _ | _ | _ | _ | _ | _ | _ | _ | _ | _ | _ | _ | _ | _ | _ | _ | _ | _ | _ | n
    · have e : i = 0 := ht
      subst e; exact Or.inl ⟨rfl, rfl⟩
    · have e : i = 0 := ht
      subst e; exact Or.inr (Or.inr (Or.inr (Or.inr (Or.inl ⟨rfl, rfl⟩))))
    · have e : i = 0 := ht
      subst e; exact Or.inr (Or.inr (Or.inr (Or.inr (Or.inr (Or.inl ⟨rfl, rfl⟩)))))
    · have e : i = 0 := ht
      subst e; exact Or.inr (Or.inr (Or.inr (Or.inr (Or.inr (Or.inr ⟨rfl, rfl⟩)))))
    · have e : 0 ≤ i ∧ i < 3 := ht
      by_cases c0 : i = 0
      · subst c0; exact Or.inr (Or.inl ⟨rfl, rfl⟩)
      · by_cases c1 : i = 1
        · subst c1; exact Or.inr (Or.inr (Or.inl ⟨rfl, rfl⟩))
        · have c2 : i = 2 := by omega
          subst c2; exact Or.inr (Or.inr (Or.inr (Or.inl ⟨rfl, rfl⟩)))
    · exact absurd (show (0 : Int) < 0 from ht.2) (by omega)
    · exact absurd (show i < 0 from ht.2) (by have := ht.1; omega)
    · exact absurd (show i < 0 from ht.2) (by have := ht.1; omega)
    · exact absurd (show i < 0 from ht.1.2) (by have := ht.1.1; omega)
    · exact absurd (show i < 0 from ht.2) (by have := ht.1; omega)
    · exact absurd (show i < 0 from ht.2) (by have := ht.1; omega)
    · exact absurd (show i < 0 from ht.2) (by have := ht.1; omega)
    · exact absurd (show i < 0 from ht.2) (by have := ht.1; omega)
    · exact absurd (show i < 0 from ht.2) (by have := ht.1; omega)
    · exact absurd (show i < 0 from ht.2) (by have := ht.1; omega)
    · exact absurd (show i < 0 from ht.2) (by have := ht.1; omega)
    · exact absurd (show i % 20 < 0 from ht.2) (by omega)
    · exact absurd (show i % 20 < 0 from ht.2) (by omega)
    · exact absurd (show i % 20 < 0 from ht.2) (by omega)
    · exact ht.elim
  refine ⟨rfl, fun t ht => ?_, fun t t' ht ht' e => ?_, fun t ht => ?_⟩
  · rcases key t ht with ⟨rfl, w⟩ | ⟨rfl, w⟩ | ⟨rfl, w⟩ | ⟨rfl, w⟩ | ⟨rfl, w⟩ | ⟨rfl, w⟩ | ⟨rfl, w⟩
    · exact k0
    · exact k1a
    · exact k1b
    · exact k1c
    · refine k3.trans ?_
      show some (am_ia 40 (fun _ => 0)) = some (am_ia 40 (cosI sp_new))
      rw [cos_new]
    · exact k4
    · exact k5
  · have a1 := key t ht
    have a2 := key t' ht'
    rcases a1 with ⟨b, w⟩ | ⟨b, w⟩ | ⟨b, w⟩ | ⟨b, w⟩ | ⟨b, w⟩ | ⟨b, w⟩ | ⟨b, w⟩ <;> rcases a2 with ⟨b', w'⟩ | ⟨b', w'⟩ | ⟨b', w'⟩ | ⟨b', w'⟩ | ⟨b', w'⟩ | ⟨b', w'⟩ | ⟨b', w'⟩ <;> first | exact b.trans b'.symm | (exfalso; omega)
  · rcases key t ht with ⟨b, w⟩ | ⟨b, w⟩ | ⟨b, w⟩ | ⟨b, w⟩ | ⟨b, w⟩ | ⟨b, w⟩ | ⟨b, w⟩
    · rw [w]; exact hAx
    all_goals (rw [w]; exact hA _ (by omega))
set_option maxRecDepth 100000 in
set_option maxHeartbeats 4000000 in
theorem c_S_init (l : Launch) (X : am_X) (h : am_H) (nx : Nat) (x : Nat) (A : Nat → Prop) (hl : h x = some (.inr (0, [.null, .null, .null, .null, .null, .null]))) (hn : x < nx) (hA : ∀ q : Nat, nx ≤ q → A q) (hAx : A x) : Cn l X y_S_init ({ frames := 4, cells := 6, slots := 63, locals := 80 }) [.ref x] h nx (fun o h' nx' => o = .returned none ∧ nx' = nx + 6 ∧ (∀ q : Nat, q ≠ x → q < nx → h' q = h q) ∧ RepC X x A (p00 x nx) sp_new h') := by
  refine cn_of (k := 0) (L0 := [some (.ref x)]) rfl wx_24 (Nat.le_of_ble_eq_true rfl) rfl (fun p e s m args below meth c F => ?_)
  refine v_aload_n (pc' := 1) (j := 0) F d_S_init_0 rfl rfl rfl ?_
  refine v_obj (pc' := 4) F d_S_init_1 rfl wx_25 wx_26 wx_27 (by decide) (Nat.le_of_ble_eq_true rfl) ?_
  refine v_aload_n (pc' := 5) (j := 0) F d_S_init_4 rfl rfl rfl ?_
  refine v_new (pc' := 8) (ci := 5) (C := zR_A) (T := zF_A) (N := 3) (fs := [.null, iV 0, iV 0]) F d_S_init_5 rfl zi_A zt_A zk_A rfl wx_28 wx_29 wx_4 (by decide +kernel) (by decide) (by decide) ?_
  refine v_dup (pc' := 9) F d_S_init_8 rfl rfl ?_
  refine v_callI (pc' := 12) (av := []) F d_S_init_9 rfl wx_32 cal_A_init rfl wx_30 wx_31 (c_A_init l X _ _ _ am_up_s) rfl ⟨by decide, by decide, by decide, by decide⟩ (Nat.le_of_ble_eq_true rfl) (fun _ _ _ q => by cases q.1) (fun r9 h' nx' q => ?_)
  obtain ⟨q1, rfl, rfl⟩ := q
  cases q1
  refine v_putf (pc' := 15) (C := zR_S) (T := zF_S) (N := 6) (ref := "BillShares") F d_S_init_12 rfl zi_S zt_S zk_S zn_S rfl 0 (by decide) wx_57 (Or.inl rfl) (Or.inr ⟨rfl, rfl, rfl⟩) (zk_S 0 (by decide)) rfl rfl (by repeat (first | exact am_up_s | exact hl | rw [am_up_n (by omega)])) (by show 0 < 6; decide) ?_
  refine v_aload_n (pc' := 16) (j := 0) F d_S_init_15 rfl rfl rfl ?_
  refine v_new (pc' := 19) (ci := 5) (C := zR_A) (T := zF_A) (N := 3) (fs := [.null, iV 0, iV 0]) F d_S_init_16 rfl zi_A zt_A zk_A rfl wx_28 wx_29 wx_4 (by decide +kernel) (by decide) (by decide) ?_
  refine v_dup (pc' := 20) F d_S_init_19 rfl rfl ?_
  refine v_callI (pc' := 23) (av := []) F d_S_init_20 rfl wx_32 cal_A_init rfl wx_30 wx_31 (c_A_init l X _ _ _ am_up_s) rfl ⟨by decide, by decide, by decide, by decide⟩ (Nat.le_of_ble_eq_true rfl) (fun _ _ _ q => by cases q.1) (fun r9 h' nx' q => ?_)
  obtain ⟨q1, rfl, rfl⟩ := q
  cases q1
  refine v_putf (pc' := 26) (C := zR_S) (T := zF_S) (N := 6) (ref := "BillShares") F d_S_init_23 rfl zi_S zt_S zk_S zn_S rfl 1 (by decide) wx_58 (Or.inl rfl) (Or.inr ⟨rfl, rfl, rfl⟩) (zk_S 1 (by decide)) rfl rfl (by repeat (first | exact am_up_s | exact hl | rw [am_up_n (by omega)])) (by show 1 < 6; decide) ?_
  refine v_aload_n (pc' := 27) (j := 0) F d_S_init_26 rfl rfl rfl ?_
  refine v_new (pc' := 30) (ci := 5) (C := zR_A) (T := zF_A) (N := 3) (fs := [.null, iV 0, iV 0]) F d_S_init_27 rfl zi_A zt_A zk_A rfl wx_28 wx_29 wx_4 (by decide +kernel) (by decide) (by decide) ?_
  refine v_dup (pc' := 31) F d_S_init_30 rfl rfl ?_
  refine v_callI (pc' := 34) (av := []) F d_S_init_31 rfl wx_32 cal_A_init rfl wx_30 wx_31 (c_A_init l X _ _ _ am_up_s) rfl ⟨by decide, by decide, by decide, by decide⟩ (Nat.le_of_ble_eq_true rfl) (fun _ _ _ q => by cases q.1) (fun r9 h' nx' q => ?_)
  obtain ⟨q1, rfl, rfl⟩ := q
  cases q1
  refine v_putf (pc' := 37) (C := zR_S) (T := zF_S) (N := 6) (ref := "BillShares") F d_S_init_34 rfl zi_S zt_S zk_S zn_S rfl 2 (by decide) wx_59 (Or.inl rfl) (Or.inr ⟨rfl, rfl, rfl⟩) (zk_S 2 (by decide)) rfl rfl (by repeat (first | exact am_up_s | exact hl | rw [am_up_n (by omega)])) (by show 2 < 6; decide) ?_
  refine v_aload_n (pc' := 38) (j := 0) F d_S_init_37 rfl rfl rfl ?_
  refine v_bipush (pc' := 40) F d_S_init_38 rfl (by decide) ?_
  refine v_newa (pc' := 42) (ai := 0) (ty := .int) F d_S_init_40 rfl rfl wx_76 (by decide) rfl (by omega) (by omega) (by decide) (by decide) ?_
  refine v_putf (pc' := 45) (C := zR_S) (T := zF_S) (N := 6) (ref := "BillShares") F d_S_init_42 rfl zi_S zt_S zk_S zn_S rfl 3 (by decide) wx_60 (Or.inl rfl) (Or.inr ⟨rfl, rfl, rfl⟩) (zk_S 3 (by decide)) rfl rfl (by repeat (first | exact am_up_s | exact hl | rw [am_up_n (by omega)])) (by show 3 < 6; decide) ?_
  refine v_aload_n (pc' := 46) (j := 0) F d_S_init_45 rfl rfl rfl ?_
  refine v_iconst (pc' := 47) F d_S_init_46 rfl ?_
  refine v_newa (pc' := 49) (ai := 0) (ty := .int) F d_S_init_47 rfl rfl wx_76 (by decide) rfl (by omega) (by omega) (by decide) (by decide) ?_
  refine v_putf (pc' := 52) (C := zR_S) (T := zF_S) (N := 6) (ref := "BillShares") F d_S_init_49 rfl zi_S zt_S zk_S zn_S rfl 4 (by decide) wx_61 (Or.inl rfl) (Or.inr ⟨rfl, rfl, rfl⟩) (zk_S 4 (by decide)) rfl rfl (by repeat (first | exact am_up_s | exact hl | rw [am_up_n (by omega)])) (by show 4 < 6; decide) ?_
  refine v_aload_n (pc' := 53) (j := 0) F d_S_init_52 rfl rfl rfl ?_
  refine v_bipush (pc' := 55) F d_S_init_53 rfl (by decide) ?_
  refine v_newa (pc' := 57) (ai := 0) (ty := .int) F d_S_init_55 rfl rfl wx_76 (by decide) rfl (by omega) (by omega) (by decide) (by decide) ?_
  refine v_putf (pc' := 60) (C := zR_S) (T := zF_S) (N := 6) (ref := "BillShares") F d_S_init_57 rfl zi_S zt_S zk_S zn_S rfl 5 (by decide) wx_62 (Or.inl rfl) (Or.inr ⟨rfl, rfl, rfl⟩) (zk_S 5 (by decide)) rfl rfl (by repeat (first | exact am_up_s | exact hl | rw [am_up_n (by omega)])) (by show 5 < 6; decide) ?_
  refine v_aload_n (pc' := 61) (j := 0) F d_S_init_60 rfl rfl rfl ?_
  refine v_getf (pc' := 64) (C := zR_S) (T := zF_S) (N := 6) (ref := "BillShares") F d_S_init_61 rfl zi_S rfl 4 (by decide) wx_61 (Or.inl rfl) (by repeat (first | exact am_up_s | rw [am_up_n (by omega)])) rfl ?_
  refine v_bipush (pc' := 66) F d_S_init_64 rfl (by decide) ?_
  refine v_callS (pc' := 69) F d_S_init_66 rfl cal_AS_fill wx_54 wx_55 (c_AS_fill l X _ _ _ (by repeat (first | exact am_up_s | rw [am_up_n (by omega)]))) rfl ⟨by decide, by decide, by decide, by decide⟩ (Nat.le_of_ble_eq_true rfl) (fun _ _ _ q => by cases q.1) (fun r9 h' nx' q => ?_)
  obtain ⟨q1, rfl, rfl⟩ := q
  cases q1
  exact v_return F d_S_init_69 rfl (Nat.le_refl _) (Nat.le_refl _) (by exact ⟨rfl, rfl, (fun q h1 h2 => by repeat rw [am_up_n (by omega)]), RepC.new hn hA hAx (by repeat (first | exact am_up_s | rw [am_up_n (by omega)])) (by repeat (first | exact am_up_s | rw [am_up_n (by omega)])) (by repeat (first | exact am_up_s | rw [am_up_n (by omega)])) (by repeat (first | exact am_up_s | rw [am_up_n (by omega)])) (by repeat (first | exact am_up_s | rw [am_up_n (by omega)])) (by repeat (first | exact am_up_s | rw [am_up_n (by omega)])) (by repeat (first | exact am_up_s | rw [am_up_n (by omega)]))⟩)
