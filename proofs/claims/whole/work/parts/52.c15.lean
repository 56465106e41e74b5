/-! the law's wrappers of the class's methods (written by wip/whole/cc15.py) -/
/-- what a wrapper owes: the code, the state behind it, the answer in out[0] -/
def lpost (X : am_X) (x : Nat) (A : Nat → Prop) (o9 : Nat) (W : Int → Int) (t : Int × Int × MS) (h : am_H) (nx : Nat) : Outcome → am_H → Nat → Prop := fun o h' nx' => o = .returned (some (iV t.1)) ∧ nx ≤ nx' ∧ (∃ (P' : Tg → Nat) (M' : MS), RepC X x A P' M' h' ∧ NI M' ∧ ∀ k : Nat, k ≠ 0 → k < 26 → M' k = t.2.2 k) ∧ (∀ a : Nat, ¬ A a → a ≠ o9 → h' a = h a) ∧ ∃ g : Int → Int, h' o9 = some (am_la 1 g) ∧ (t.1 = 0 → g 0 = W t.2.1)
theorem lpost.ok {X : am_X} {x : Nat} {A : Nat → Prop} {o9 : Nat} {W : Int → Int} {t : Int × Int × MS} {h h1 : am_H} {nx n1 : Nat} {P' : Tg → Nat} {M' : MS} {g0 : Int → Int} {v : Int} (h0 : t.1 = 0) (hF : OF A h h1) (hn : nx ≤ n1) (hC : RepC X x A P' M' h1) (hN : NI M') (hE : ∀ k : Nat, k ≠ 0 → k < 26 → M' k = t.2.2 k) (hno : ¬ A o9) (hv : v = W t.2.1) : lpost X x A o9 W t h nx (.returned (some (iV 0))) (am_up h1 o9 (am_la 1 (upI g0 0 v))) n1 :=
  ⟨by rw [h0], hn, ⟨P', M', hC.sub (fun a ha _ => am_up_n (fun q => hno (by rw [← q]; exact ha))), hN, hE⟩, fun a ha hne => (am_up_n hne).trans (hF a ha), _, am_up_s, fun _ => by rw [upI_s]; exact hv⟩
theorem lpost.th {X : am_X} {x : Nat} {A : Nat → Prop} {o9 : Nat} {W : Int → Int} {t : Int × Int × MS} {h : am_H} {nx : Nat} {P : Tg → Nat} {M : MS} {g0 : Int → Int} {k : Int} {e : am_E} (hk : t.1 = k) (hk0 : k ≠ 0) (hT : t.2.2 = M) (hC : RepC X x A P M h) (hN : NI M) (hfr : am_fr h nx) (hA : ∀ q : Nat, nx ≤ q → A q) (ho : h o9 = some (am_la 1 g0)) : lpost X x A o9 W t h nx (.returned (some (iV k))) (am_up h nx e) (nx + 1) :=
  ⟨by rw [hk], by omega, ⟨P, M, hC.sub (fun a _ he => am_up_n (fun q => by obtain ⟨e', he⟩ := he; rw [q, hfr nx (Nat.le_refl _)] at he; cases he)), hN, fun k _ _ => by rw [hT]⟩, fun a ha _ => am_up_n (fun q => ha (hA a (by omega))), g0, (am_up_n (fun q => by rw [q, hfr nx (Nat.le_refl _)] at ho; cases ho)).trans ho, fun z => absurd (hk.symm.trans z) hk0⟩
theorem rd_w {X : am_X} {x : Nat} {A : Nat → Prop} {mk : Int → Value} {t : Int × Int × MS} {h h' : am_H} {nx nx' : Nat} {P : Tg → Nat} {M : MS} {o : Outcome} (hC : RepC X x A P M h) (hN : NI M) (hT : t.2.2 = M) (q : rdpost mk t h nx o h' nx') : wpost X x A mk t h nx o h' nx' := by
  rcases q with ⟨h0, ho, rfl, rfl⟩ | ⟨h0, fs, ho, he, hn⟩
  · exact Or.inl ⟨h0, ho, OF.rf, Nat.le_refl _, P, M, hC, hN, fun k _ _ => by rw [hT]⟩
  · exact Or.inr ⟨h0, fs, ho, he, hn⟩
set_option maxRecDepth 100000 in
set_option maxHeartbeats 4000000 in
theorem c_L_flat (l : Launch) (X : am_X) (h : am_H) (nx : Nat) (x : Nat) (A : Nat → Prop) (P : Tg → Nat) (M : MS) (a r : Int) (o9 : Nat) (g0 : Int → Int) (ht : l.flags = pinnedFlags ++ [noTraceFlag]) (hC : RepC X x A P M h) (hI : RI M) (hN : NI M) (ra : -2147483648 ≤ a ∧ a < 2147483648) (rr : -2147483648 ≤ r ∧ r < 2147483648) (hA : ∀ q : Nat, nx ≤ q → A q) (ho : h o9 = some (am_la 1 g0)) (hno : ¬ A o9) : Cn l X y_L_flat ({ frames := 8, cells := 12, slots := 320, locals := 202 }) [.ref (P (0, 0)), iV a, iV r, .ref o9] h nx (lpost X x A o9 w32 (sp_flat M a r) h nx) := by
  refine cn_ofW (k := 1) (L0 := [some (.ref (P (0, 0))), some (iV a), some (iV r), some (.ref o9), none]) rfl wx_79 (Nat.le_of_ble_eq_true rfl) rfl (fun p e s m args below meth c F => ?_)
  refine v_fr (fun hfr => ?_)
  have hz := z_flat M a r
  refine v_aload_n (pc' := 1) (j := 3) F d_L_flat_0 rfl rfl rfl ?_
  refine v_iconst (pc' := 2) F d_L_flat_1 rfl ?_
  refine v_aload_n (pc' := 3) (j := 0) F d_L_flat_2 rfl rfl rfl ?_
  refine v_iload_n (pc' := 4) (j := 1) F d_L_flat_3 rfl rfl rfl ?_
  refine v_iload_n (pc' := 5) (j := 2) F d_L_flat_4 rfl rfl rfl ?_
  refine v_callV (pc' := 8) (C := zR_S) (T9 := zF_S) (N := 6) F d_L_flat_5 rfl cal_S_flat wx_82 wx_83 wx_84 rfl (hC.t_top) (c_S_flat l X _ _ _ _ _ _ a r ht hC hI hN ra rr hA) rfl ⟨by decide, by decide, by decide, by decide⟩ (Nat.le_of_ble_eq_true rfl) (fun x9 h8 n8 q => by
      rcases q with ⟨_, q9, _⟩ | ⟨hk, fs9, q9, rfl, rfl⟩
      · cases q9
      · cases q9
        rcases hz.1 with zz | zz | zz
        · exact absurd zz hk
        · rw [zz]
          refine v_catch1 F rfl rfl (by decide) wx_80 wx_91 rfl am_up_s ?_
          refine v_astore_4 (pc' := 15) F d_L_flat_13 rfl rfl (by decide) ?_
          refine v_iconst (pc' := 16) F d_L_flat_15 rfl ?_
          exact v_ireturn F rfl d_L_flat_16 rfl rfl (by decide) (by decide) (lpost.th zz (by decide) (hz.2 hk) hC hN hfr hA ho)
        · rw [zz]
          refine v_catch2 F rfl rfl (by decide) (by decide) wx_80 wx_81 wx_162 rfl am_up_s ?_
          refine v_astore_4 (pc' := 19) F d_L_flat_17 rfl rfl (by decide) ?_
          refine v_iconst (pc' := 20) F d_L_flat_19 rfl ?_
          exact v_ireturn F rfl d_L_flat_20 rfl rfl (by decide) (by decide) (lpost.th zz (by decide) (hz.2 hk) hC hN hfr hA ho)) (fun r9 h8 n8 q => ?_)
  rcases q with ⟨h0, q9, hF8, hn8, P8, M8, hC8, hN8, hE8⟩ | ⟨_, fs9, q9, _⟩
  rotate_left
  · cases q9
  cases q9
  refine v_topv (b := iV (w32 (sp_flat M a r).2.1)) (congrArg Value.int (w32_v _)) ?_
  refine v_i2l (pc' := 9) F d_L_flat_8 rfl (w32_r _) ?_
  refine v_lap (pc' := 10) F d_L_flat_9 rfl ((hF8 o9 hno).trans ho) (by decide) (by omega) (by omega) ?_
  refine v_goto (tgt := 21) F d_L_flat_10 (by decide) ?_
  refine v_iconst (pc' := 22) F d_L_flat_21 rfl ?_
  exact v_ireturn F rfl d_L_flat_22 rfl rfl (by decide) (by decide) (lpost.ok h0 hF8 hn8 hC8 hN8 hE8 hno rfl)
set_option maxRecDepth 100000 in
set_option maxHeartbeats 4000000 in
theorem c_L_meter (l : Launch) (X : am_X) (h : am_H) (nx : Nat) (x : Nat) (A : Nat → Prop) (P : Tg → Nat) (M : MS) (f k0 a b t : Int) (o9 : Nat) (g0 : Int → Int) (ht : l.flags = pinnedFlags ++ [noTraceFlag]) (hC : RepC X x A P M h) (hI : RI M) (hN : NI M) (rf : -2147483648 ≤ f ∧ f < 2147483648) (rk : -2147483648 ≤ k0 ∧ k0 < 2147483648) (ra : -2147483648 ≤ a ∧ a < 2147483648) (rb : -2147483648 ≤ b ∧ b < 2147483648) (rt : -2147483648 ≤ t ∧ t < 2147483648) (hA : ∀ q : Nat, nx ≤ q → A q) (ho : h o9 = some (am_la 1 g0)) (hno : ¬ A o9) : Cn l X y_L_meter ({ frames := 9, cells := 14, slots := 420, locals := 206 }) [.ref (P (0, 0)), iV f, iV k0, iV a, iV b, iV t, .ref o9] h nx (lpost X x A o9 w32 (sp_meter M f k0 a b t) h nx) := by
  refine cn_ofW (k := 1) (L0 := [some (.ref (P (0, 0))), some (iV f), some (iV k0), some (iV a), some (iV b), some (iV t), some (.ref o9), none]) rfl wx_308 (Nat.le_of_ble_eq_true rfl) rfl (fun p e s m args below meth c F => ?_)
  refine v_fr (fun hfr => ?_)
  have hz := z_meter M f k0 a b t
  refine v_aload (pc' := 2) F d_L_meter_0 rfl rfl ?_
  refine v_iconst (pc' := 3) F d_L_meter_2 rfl ?_
  refine v_aload_n (pc' := 4) (j := 0) F d_L_meter_3 rfl rfl rfl ?_
  refine v_iload_n (pc' := 5) (j := 1) F d_L_meter_4 rfl rfl rfl ?_
  refine v_iload_n (pc' := 6) (j := 2) F d_L_meter_5 rfl rfl rfl ?_
  refine v_iload_n (pc' := 7) (j := 3) F d_L_meter_6 rfl rfl rfl ?_
  refine v_iload (pc' := 9) F d_L_meter_7 rfl rfl ?_
  refine v_iload (pc' := 11) F d_L_meter_9 rfl rfl ?_
  refine v_callV (pc' := 14) (C := zR_S) (T9 := zF_S) (N := 6) F d_L_meter_11 rfl cal_S_meter wx_309 wx_310 wx_311 rfl (hC.t_top) (c_S_meter l X _ _ _ _ _ _ f k0 a b t ht hC hI hN rf rk ra rb rt hA) rfl ⟨by decide, by decide, by decide, by decide⟩ (Nat.le_of_ble_eq_true rfl) (fun x9 h8 n8 q => by
      rcases q with ⟨_, q9, _⟩ | ⟨hk, fs9, q9, rfl, rfl⟩
      · cases q9
      · cases q9
        rcases hz.1 with zz | zz | zz
        · exact absurd zz hk
        · rw [zz]
          refine v_catch1 F rfl rfl (by decide) wx_80 wx_91 rfl am_up_s ?_
          refine v_astore_7 (pc' := 21) F d_L_meter_19 rfl rfl (by decide) ?_
          refine v_iconst (pc' := 22) F d_L_meter_21 rfl ?_
          exact v_ireturn F rfl d_L_meter_22 rfl rfl (by decide) (by decide) (lpost.th zz (by decide) (hz.2 hk) hC hN hfr hA ho)
        · rw [zz]
          refine v_catch2 F rfl rfl (by decide) (by decide) wx_80 wx_81 wx_162 rfl am_up_s ?_
          refine v_astore_7 (pc' := 25) F d_L_meter_23 rfl rfl (by decide) ?_
          refine v_iconst (pc' := 26) F d_L_meter_25 rfl ?_
          exact v_ireturn F rfl d_L_meter_26 rfl rfl (by decide) (by decide) (lpost.th zz (by decide) (hz.2 hk) hC hN hfr hA ho)) (fun r9 h8 n8 q => ?_)
  rcases q with ⟨h0, q9, hF8, hn8, P8, M8, hC8, hN8, hE8⟩ | ⟨_, fs9, q9, _⟩
  rotate_left
  · cases q9
  cases q9
  refine v_topv (b := iV (w32 (sp_meter M f k0 a b t).2.1)) (congrArg Value.int (w32_v _)) ?_
  refine v_i2l (pc' := 15) F d_L_meter_14 rfl (w32_r _) ?_
  refine v_lap (pc' := 16) F d_L_meter_15 rfl ((hF8 o9 hno).trans ho) (by decide) (by omega) (by omega) ?_
  refine v_goto (tgt := 27) F d_L_meter_16 (by decide) ?_
  refine v_iconst (pc' := 28) F d_L_meter_27 rfl ?_
  exact v_ireturn F rfl d_L_meter_28 rfl rfl (by decide) (by decide) (lpost.ok h0 hF8 hn8 hC8 hN8 hE8 hno rfl)
set_option maxRecDepth 100000 in
set_option maxHeartbeats 4000000 in
theorem c_L_reading (l : Launch) (X : am_X) (h : am_H) (nx : Nat) (x : Nat) (A : Nat → Prop) (P : Tg → Nat) (M : MS) (f d v : Int) (o9 : Nat) (g0 : Int → Int) (ht : l.flags = pinnedFlags ++ [noTraceFlag]) (hC : RepC X x A P M h) (hI : RI M) (hN : NI M) (rf : -2147483648 ≤ f ∧ f < 2147483648) (rd : -2147483648 ≤ d ∧ d < 2147483648) (rv : -2147483648 ≤ v ∧ v < 2147483648) (hA : ∀ q : Nat, nx ≤ q → A q) (ho : h o9 = some (am_la 1 g0)) (hno : ¬ A o9) : Cn l X y_L_reading ({ frames := 10, cells := 4, slots := 24, locals := 182 }) [.ref (P (0, 0)), iV f, iV d, iV v, .ref o9] h nx (lpost X x A o9 w32 (sp_put M f d v v 0) h nx) := by
  refine cn_ofW (k := 1) (L0 := [some (.ref (P (0, 0))), some (iV f), some (iV d), some (iV v), some (.ref o9), none]) rfl wx_361 (Nat.le_of_ble_eq_true rfl) rfl (fun p e s m args below meth c F => ?_)
  refine v_fr (fun hfr => ?_)
  have hz := z_put M f d v v 0
  refine v_aload (pc' := 2) F d_L_reading_0 rfl rfl ?_
  refine v_iconst (pc' := 3) F d_L_reading_2 rfl ?_
  refine v_aload_n (pc' := 4) (j := 0) F d_L_reading_3 rfl rfl rfl ?_
  refine v_iload_n (pc' := 5) (j := 1) F d_L_reading_4 rfl rfl rfl ?_
  refine v_iload_n (pc' := 6) (j := 2) F d_L_reading_5 rfl rfl rfl ?_
  refine v_iload_n (pc' := 7) (j := 3) F d_L_reading_6 rfl rfl rfl ?_
  refine v_callV (pc' := 10) (C := zR_S) (T9 := zF_S) (N := 6) F d_L_reading_7 rfl cal_S_reading wx_362 wx_363 wx_364 rfl (hC.t_top) (c_S_reading l X _ _ _ _ _ _ f d v ht hC hI hN rf rd rv) rfl ⟨by decide, by decide, by decide, by decide⟩ (Nat.le_of_ble_eq_true rfl) (fun x9 h8 n8 q => by
      rcases q with ⟨_, q9, _⟩ | ⟨hk, fs9, q9, rfl, rfl⟩
      · cases q9
      · cases q9
        rcases hz.1 with zz | zz | zz
        · exact absurd zz hk
        · rw [zz]
          refine v_catch1 F rfl rfl (by decide) wx_80 wx_91 rfl am_up_s ?_
          refine v_astore_5 (pc' := 17) F d_L_reading_15 rfl rfl (by decide) ?_
          refine v_iconst (pc' := 18) F d_L_reading_17 rfl ?_
          exact v_ireturn F rfl d_L_reading_18 rfl rfl (by decide) (by decide) (lpost.th zz (by decide) (hz.2 hk) hC hN hfr hA ho)
        · rw [zz]
          refine v_catch2 F rfl rfl (by decide) (by decide) wx_80 wx_81 wx_162 rfl am_up_s ?_
          refine v_astore_5 (pc' := 21) F d_L_reading_19 rfl rfl (by decide) ?_
          refine v_iconst (pc' := 22) F d_L_reading_21 rfl ?_
          exact v_ireturn F rfl d_L_reading_22 rfl rfl (by decide) (by decide) (lpost.th zz (by decide) (hz.2 hk) hC hN hfr hA ho)) (fun r9 h8 n8 q => ?_)
  rcases q with ⟨h0, q9, hF8, hn8, P8, M8, hC8, hN8, hE8⟩ | ⟨_, fs9, q9, _⟩
  rotate_left
  · cases q9
  cases q9
  refine v_topv (b := iV (w32 (sp_put M f d v v 0).2.1)) (congrArg Value.int (w32_v _)) ?_
  refine v_i2l (pc' := 11) F d_L_reading_10 rfl (w32_r _) ?_
  refine v_lap (pc' := 12) F d_L_reading_11 rfl ((hF8 o9 hno).trans ho) (by decide) (by omega) (by omega) ?_
  refine v_goto (tgt := 23) F d_L_reading_12 (by decide) ?_
  refine v_iconst (pc' := 24) F d_L_reading_23 rfl ?_
  exact v_ireturn F rfl d_L_reading_24 rfl rfl (by decide) (by decide) (lpost.ok h0 hF8 hn8 hC8 hN8 hE8 hno rfl)
set_option maxRecDepth 100000 in
set_option maxHeartbeats 4000000 in
theorem c_L_changed (l : Launch) (X : am_X) (h : am_H) (nx : Nat) (x : Nat) (A : Nat → Prop) (P : Tg → Nat) (M : MS) (f d v w : Int) (o9 : Nat) (g0 : Int → Int) (ht : l.flags = pinnedFlags ++ [noTraceFlag]) (hC : RepC X x A P M h) (hI : RI M) (hN : NI M) (rf : -2147483648 ≤ f ∧ f < 2147483648) (rd : -2147483648 ≤ d ∧ d < 2147483648) (rv : -2147483648 ≤ v ∧ v < 2147483648) (rww : -2147483648 ≤ w ∧ w < 2147483648) (hA : ∀ q : Nat, nx ≤ q → A q) (ho : h o9 = some (am_la 1 g0)) (hno : ¬ A o9) : Cn l X y_L_changed ({ frames := 10, cells := 5, slots := 30, locals := 183 }) [.ref (P (0, 0)), iV f, iV d, iV v, iV w, .ref o9] h nx (lpost X x A o9 w32 (sp_put M f d v w 1) h nx) := by
  refine cn_ofW (k := 1) (L0 := [some (.ref (P (0, 0))), some (iV f), some (iV d), some (iV v), some (iV w), some (.ref o9), none]) rfl wx_392 (Nat.le_of_ble_eq_true rfl) rfl (fun p e s m args below meth c F => ?_)
  refine v_fr (fun hfr => ?_)
  have hz := z_put M f d v w 1
  refine v_aload (pc' := 2) F d_L_changed_0 rfl rfl ?_
  refine v_iconst (pc' := 3) F d_L_changed_2 rfl ?_
  refine v_aload_n (pc' := 4) (j := 0) F d_L_changed_3 rfl rfl rfl ?_
  refine v_iload_n (pc' := 5) (j := 1) F d_L_changed_4 rfl rfl rfl ?_
  refine v_iload_n (pc' := 6) (j := 2) F d_L_changed_5 rfl rfl rfl ?_
  refine v_iload_n (pc' := 7) (j := 3) F d_L_changed_6 rfl rfl rfl ?_
  refine v_iload (pc' := 9) F d_L_changed_7 rfl rfl ?_
  refine v_callV (pc' := 12) (C := zR_S) (T9 := zF_S) (N := 6) F d_L_changed_9 rfl cal_S_changed wx_393 wx_394 wx_395 rfl (hC.t_top) (c_S_changed l X _ _ _ _ _ _ f d v w ht hC hI hN rf rd rv rww) rfl ⟨by decide, by decide, by decide, by decide⟩ (Nat.le_of_ble_eq_true rfl) (fun x9 h8 n8 q => by
      rcases q with ⟨_, q9, _⟩ | ⟨hk, fs9, q9, rfl, rfl⟩
      · cases q9
      · cases q9
        rcases hz.1 with zz | zz | zz
        · exact absurd zz hk
        · rw [zz]
          refine v_catch1 F rfl rfl (by decide) wx_80 wx_91 rfl am_up_s ?_
          refine v_astore_6 (pc' := 19) F d_L_changed_17 rfl rfl (by decide) ?_
          refine v_iconst (pc' := 20) F d_L_changed_19 rfl ?_
          exact v_ireturn F rfl d_L_changed_20 rfl rfl (by decide) (by decide) (lpost.th zz (by decide) (hz.2 hk) hC hN hfr hA ho)
        · rw [zz]
          refine v_catch2 F rfl rfl (by decide) (by decide) wx_80 wx_81 wx_162 rfl am_up_s ?_
          refine v_astore_6 (pc' := 23) F d_L_changed_21 rfl rfl (by decide) ?_
          refine v_iconst (pc' := 24) F d_L_changed_23 rfl ?_
          exact v_ireturn F rfl d_L_changed_24 rfl rfl (by decide) (by decide) (lpost.th zz (by decide) (hz.2 hk) hC hN hfr hA ho)) (fun r9 h8 n8 q => ?_)
  rcases q with ⟨h0, q9, hF8, hn8, P8, M8, hC8, hN8, hE8⟩ | ⟨_, fs9, q9, _⟩
  rotate_left
  · cases q9
  cases q9
  refine v_topv (b := iV (w32 (sp_put M f d v w 1).2.1)) (congrArg Value.int (w32_v _)) ?_
  refine v_i2l (pc' := 13) F d_L_changed_12 rfl (w32_r _) ?_
  refine v_lap (pc' := 14) F d_L_changed_13 rfl ((hF8 o9 hno).trans ho) (by decide) (by omega) (by omega) ?_
  refine v_goto (tgt := 25) F d_L_changed_14 (by decide) ?_
  refine v_iconst (pc' := 26) F d_L_changed_25 rfl ?_
  exact v_ireturn F rfl d_L_changed_26 rfl rfl (by decide) (by decide) (lpost.ok h0 hF8 hn8 hC8 hN8 hE8 hno rfl)
set_option maxRecDepth 100000 in
set_option maxHeartbeats 4000000 in
theorem c_L_correct (l : Launch) (X : am_X) (h : am_H) (nx : Nat) (x : Nat) (A : Nat → Prop) (P : Tg → Nat) (M : MS) (f d v : Int) (o9 : Nat) (g0 : Int → Int) (ht : l.flags = pinnedFlags ++ [noTraceFlag]) (hC : RepC X x A P M h) (hI : RI M) (hN : NI M) (rf : -2147483648 ≤ f ∧ f < 2147483648) (rd : -2147483648 ≤ d ∧ d < 2147483648) (rv : -2147483648 ≤ v ∧ v < 2147483648) (hA : ∀ q : Nat, nx ≤ q → A q) (ho : h o9 = some (am_la 1 g0)) (hno : ¬ A o9) : Cn l X y_L_correct ({ frames := 9, cells := 4, slots := 24, locals := 159 }) [.ref (P (0, 0)), iV f, iV d, iV v, .ref o9] h nx (lpost X x A o9 w32 (sp_correct M f d v) h nx) := by
  refine cn_ofW (k := 1) (L0 := [some (.ref (P (0, 0))), some (iV f), some (iV d), some (iV v), some (.ref o9), none]) rfl wx_399 (Nat.le_of_ble_eq_true rfl) rfl (fun p e s m args below meth c F => ?_)
  refine v_fr (fun hfr => ?_)
  have hz := z_correct M f d v
  refine v_aload (pc' := 2) F d_L_correct_0 rfl rfl ?_
  refine v_iconst (pc' := 3) F d_L_correct_2 rfl ?_
  refine v_aload_n (pc' := 4) (j := 0) F d_L_correct_3 rfl rfl rfl ?_
  refine v_iload_n (pc' := 5) (j := 1) F d_L_correct_4 rfl rfl rfl ?_
  refine v_iload_n (pc' := 6) (j := 2) F d_L_correct_5 rfl rfl rfl ?_
  refine v_iload_n (pc' := 7) (j := 3) F d_L_correct_6 rfl rfl rfl ?_
  refine v_callV (pc' := 10) (C := zR_S) (T9 := zF_S) (N := 6) F d_L_correct_7 rfl cal_S_correct wx_400 wx_401 wx_402 rfl (hC.t_top) (c_S_correct l X _ _ _ _ _ _ f d v ht hC hI hN rf rd rv) rfl ⟨by decide, by decide, by decide, by decide⟩ (Nat.le_of_ble_eq_true rfl) (fun x9 h8 n8 q => by
      rcases q with ⟨_, q9, _⟩ | ⟨hk, fs9, q9, rfl, rfl⟩
      · cases q9
      · cases q9
        rcases hz.1 with zz | zz
        · exact absurd zz hk
        · rw [zz]
          refine v_catch1 F rfl rfl (by decide) wx_80 wx_91 rfl am_up_s ?_
          refine v_astore_5 (pc' := 17) F d_L_correct_15 rfl rfl (by decide) ?_
          refine v_iconst (pc' := 18) F d_L_correct_17 rfl ?_
          exact v_ireturn F rfl d_L_correct_18 rfl rfl (by decide) (by decide) (lpost.th zz (by decide) (hz.2 hk) hC hN hfr hA ho)) (fun r9 h8 n8 q => ?_)
  rcases q with ⟨h0, q9, hF8, hn8, P8, M8, hC8, hN8, hE8⟩ | ⟨_, fs9, q9, _⟩
  rotate_left
  · cases q9
  cases q9
  refine v_topv (b := iV (w32 (sp_correct M f d v).2.1)) (congrArg Value.int (w32_v _)) ?_
  refine v_i2l (pc' := 11) F d_L_correct_10 rfl (w32_r _) ?_
  refine v_lap (pc' := 12) F d_L_correct_11 rfl ((hF8 o9 hno).trans ho) (by decide) (by omega) (by omega) ?_
  refine v_goto (tgt := 19) F d_L_correct_12 (by decide) ?_
  refine v_iconst (pc' := 20) F d_L_correct_19 rfl ?_
  exact v_ireturn F rfl d_L_correct_20 rfl rfl (by decide) (by decide) (lpost.ok h0 hF8 hn8 hC8 hN8 hE8 hno rfl)
set_option maxRecDepth 100000 in
set_option maxHeartbeats 4000000 in
theorem c_L_tested (l : Launch) (X : am_X) (h : am_H) (nx : Nat) (x : Nat) (A : Nat → Prop) (P : Tg → Nat) (M : MS) (f d : Int) (o9 : Nat) (g0 : Int → Int) (ht : l.flags = pinnedFlags ++ [noTraceFlag]) (hC : RepC X x A P M h) (hI : RI M) (hN : NI M) (rf : -2147483648 ≤ f ∧ f < 2147483648) (rd : -2147483648 ≤ d ∧ d < 2147483648) (hA : ∀ q : Nat, nx ≤ q → A q) (ho : h o9 = some (am_la 1 g0)) (hno : ¬ A o9) : Cn l X y_L_tested ({ frames := 9, cells := 2, slots := 12, locals := 158 }) [.ref (P (0, 0)), iV f, iV d, .ref o9] h nx (lpost X x A o9 w32 (sp_tested M f d) h nx) := by
  refine cn_ofW (k := 1) (L0 := [some (.ref (P (0, 0))), some (iV f), some (iV d), some (.ref o9), none]) rfl wx_419 (Nat.le_of_ble_eq_true rfl) rfl (fun p e s m args below meth c F => ?_)
  refine v_fr (fun hfr => ?_)
  have hz := z_tested M f d
  refine v_aload_n (pc' := 1) (j := 3) F d_L_tested_0 rfl rfl rfl ?_
  refine v_iconst (pc' := 2) F d_L_tested_1 rfl ?_
  refine v_aload_n (pc' := 3) (j := 0) F d_L_tested_2 rfl rfl rfl ?_
  refine v_iload_n (pc' := 4) (j := 1) F d_L_tested_3 rfl rfl rfl ?_
  refine v_iload_n (pc' := 5) (j := 2) F d_L_tested_4 rfl rfl rfl ?_
  refine v_callV (pc' := 8) (C := zR_S) (T9 := zF_S) (N := 6) F d_L_tested_5 rfl cal_S_tested wx_420 wx_421 wx_422 rfl (hC.t_top) (c_S_tested l X _ _ _ _ _ _ f d ht hC hI hN rf rd) rfl ⟨by decide, by decide, by decide, by decide⟩ (Nat.le_of_ble_eq_true rfl) (fun x9 h8 n8 q => by
      rcases q with ⟨_, q9, _⟩ | ⟨hk, fs9, q9, rfl, rfl⟩
      · cases q9
      · cases q9
        rcases hz.1 with zz | zz
        · exact absurd zz hk
        · rw [zz]
          refine v_catch1 F rfl rfl (by decide) wx_80 wx_91 rfl am_up_s ?_
          refine v_astore_4 (pc' := 15) F d_L_tested_13 rfl rfl (by decide) ?_
          refine v_iconst (pc' := 16) F d_L_tested_15 rfl ?_
          exact v_ireturn F rfl d_L_tested_16 rfl rfl (by decide) (by decide) (lpost.th zz (by decide) (hz.2 hk) hC hN hfr hA ho)) (fun r9 h8 n8 q => ?_)
  rcases q with ⟨h0, q9, hF8, hn8, P8, M8, hC8, hN8, hE8⟩ | ⟨_, fs9, q9, _⟩
  rotate_left
  · cases q9
  cases q9
  refine v_topv (b := iV (w32 (sp_tested M f d).2.1)) (congrArg Value.int (w32_v _)) ?_
  refine v_i2l (pc' := 9) F d_L_tested_8 rfl (w32_r _) ?_
  refine v_lap (pc' := 10) F d_L_tested_9 rfl ((hF8 o9 hno).trans ho) (by decide) (by omega) (by omega) ?_
  refine v_goto (tgt := 17) F d_L_tested_10 (by decide) ?_
  refine v_iconst (pc' := 18) F d_L_tested_17 rfl ?_
  exact v_ireturn F rfl d_L_tested_18 rfl rfl (by decide) (by decide) (lpost.ok h0 hF8 hn8 hC8 hN8 hE8 hno rfl)
set_option maxRecDepth 100000 in
set_option maxHeartbeats 4000000 in
theorem c_L_cost (l : Launch) (X : am_X) (h : am_H) (nx : Nat) (x : Nat) (A : Nat → Prop) (P : Tg → Nat) (M : MS) (k0 a v : Int) (o9 : Nat) (g0 : Int → Int) (ht : l.flags = pinnedFlags ++ [noTraceFlag]) (hC : RepC X x A P M h) (hI : RI M) (hN : NI M) (rk : -2147483648 ≤ k0 ∧ k0 < 2147483648) (ra : -2147483648 ≤ a ∧ a < 2147483648) (rv : -2147483648 ≤ v ∧ v < 2147483648) (hA : ∀ q : Nat, nx ≤ q → A q) (ho : h o9 = some (am_la 1 g0)) (hno : ¬ A o9) : Cn l X y_L_cost ({ frames := 9, cells := 3, slots := 18, locals := 159 }) [.ref (P (0, 0)), iV k0, iV a, iV v, .ref o9] h nx (lpost X x A o9 w32 (sp_cost M k0 a v) h nx) := by
  refine cn_ofW (k := 1) (L0 := [some (.ref (P (0, 0))), some (iV k0), some (iV a), some (iV v), some (.ref o9), none]) rfl wx_426 (Nat.le_of_ble_eq_true rfl) rfl (fun p e s m args below meth c F => ?_)
  refine v_fr (fun hfr => ?_)
  have hz := z_cost M k0 a v
  refine v_aload (pc' := 2) F d_L_cost_0 rfl rfl ?_
  refine v_iconst (pc' := 3) F d_L_cost_2 rfl ?_
  refine v_aload_n (pc' := 4) (j := 0) F d_L_cost_3 rfl rfl rfl ?_
  refine v_iload_n (pc' := 5) (j := 1) F d_L_cost_4 rfl rfl rfl ?_
  refine v_iload_n (pc' := 6) (j := 2) F d_L_cost_5 rfl rfl rfl ?_
  refine v_iload_n (pc' := 7) (j := 3) F d_L_cost_6 rfl rfl rfl ?_
  refine v_callV (pc' := 10) (C := zR_S) (T9 := zF_S) (N := 6) F d_L_cost_7 rfl cal_S_cost wx_427 wx_428 wx_429 rfl (hC.t_top) (c_S_cost l X _ _ _ _ _ _ k0 a v ht hC hI hN rk ra rv) rfl ⟨by decide, by decide, by decide, by decide⟩ (Nat.le_of_ble_eq_true rfl) (fun x9 h8 n8 q => by
      rcases q with ⟨_, q9, _⟩ | ⟨hk, fs9, q9, rfl, rfl⟩
      · cases q9
      · cases q9
        rcases hz.1 with zz | zz
        · exact absurd zz hk
        · rw [zz]
          refine v_catch1 F rfl rfl (by decide) wx_80 wx_91 rfl am_up_s ?_
          refine v_astore_5 (pc' := 17) F d_L_cost_15 rfl rfl (by decide) ?_
          refine v_iconst (pc' := 18) F d_L_cost_17 rfl ?_
          exact v_ireturn F rfl d_L_cost_18 rfl rfl (by decide) (by decide) (lpost.th zz (by decide) (hz.2 hk) hC hN hfr hA ho)) (fun r9 h8 n8 q => ?_)
  rcases q with ⟨h0, q9, hF8, hn8, P8, M8, hC8, hN8, hE8⟩ | ⟨_, fs9, q9, _⟩
  rotate_left
  · cases q9
  cases q9
  refine v_topv (b := iV (w32 (sp_cost M k0 a v).2.1)) (congrArg Value.int (w32_v _)) ?_
  refine v_i2l (pc' := 11) F d_L_cost_10 rfl (w32_r _) ?_
  refine v_lap (pc' := 12) F d_L_cost_11 rfl ((hF8 o9 hno).trans ho) (by decide) (by omega) (by omega) ?_
  refine v_goto (tgt := 19) F d_L_cost_12 (by decide) ?_
  refine v_iconst (pc' := 20) F d_L_cost_19 rfl ?_
  exact v_ireturn F rfl d_L_cost_20 rfl rfl (by decide) (by decide) (lpost.ok h0 hF8 hn8 hC8 hN8 hE8 hno rfl)
set_option maxRecDepth 100000 in
set_option maxHeartbeats 4000000 in
theorem c_L_base (l : Launch) (X : am_X) (h : am_H) (nx : Nat) (x : Nat) (A : Nat → Prop) (P : Tg → Nat) (M : MS) (k0 v : Int) (o9 : Nat) (g0 : Int → Int) (ht : l.flags = pinnedFlags ++ [noTraceFlag]) (hC : RepC X x A P M h) (hI : RI M) (hN : NI M) (rk : -2147483648 ≤ k0 ∧ k0 < 2147483648) (rv : -2147483648 ≤ v ∧ v < 2147483648) (hA : ∀ q : Nat, nx ≤ q → A q) (ho : h o9 = some (am_la 1 g0)) (hno : ¬ A o9) : Cn l X y_L_base ({ frames := 9, cells := 2, slots := 12, locals := 157 }) [.ref (P (0, 0)), iV k0, iV v, .ref o9] h nx (lpost X x A o9 w32 (sp_base M k0 v) h nx) := by
  refine cn_ofW (k := 1) (L0 := [some (.ref (P (0, 0))), some (iV k0), some (iV v), some (.ref o9), none]) rfl wx_437 (Nat.le_of_ble_eq_true rfl) rfl (fun p e s m args below meth c F => ?_)
  refine v_fr (fun hfr => ?_)
  have hz := z_base M k0 v
  refine v_aload_n (pc' := 1) (j := 3) F d_L_base_0 rfl rfl rfl ?_
  refine v_iconst (pc' := 2) F d_L_base_1 rfl ?_
  refine v_aload_n (pc' := 3) (j := 0) F d_L_base_2 rfl rfl rfl ?_
  refine v_iload_n (pc' := 4) (j := 1) F d_L_base_3 rfl rfl rfl ?_
  refine v_iload_n (pc' := 5) (j := 2) F d_L_base_4 rfl rfl rfl ?_
  refine v_callV (pc' := 8) (C := zR_S) (T9 := zF_S) (N := 6) F d_L_base_5 rfl cal_S_base wx_438 wx_439 wx_440 rfl (hC.t_top) (c_S_base l X _ _ _ _ _ _ k0 v ht hC hI hN rk rv) rfl ⟨by decide, by decide, by decide, by decide⟩ (Nat.le_of_ble_eq_true rfl) (fun x9 h8 n8 q => by
      rcases q with ⟨_, q9, _⟩ | ⟨hk, fs9, q9, rfl, rfl⟩
      · cases q9
      · cases q9
        rcases hz.1 with zz | zz
        · exact absurd zz hk
        · rw [zz]
          refine v_catch1 F rfl rfl (by decide) wx_80 wx_91 rfl am_up_s ?_
          refine v_astore_4 (pc' := 15) F d_L_base_13 rfl rfl (by decide) ?_
          refine v_iconst (pc' := 16) F d_L_base_15 rfl ?_
          exact v_ireturn F rfl d_L_base_16 rfl rfl (by decide) (by decide) (lpost.th zz (by decide) (hz.2 hk) hC hN hfr hA ho)) (fun r9 h8 n8 q => ?_)
  rcases q with ⟨h0, q9, hF8, hn8, P8, M8, hC8, hN8, hE8⟩ | ⟨_, fs9, q9, _⟩
  rotate_left
  · cases q9
  cases q9
  refine v_topv (b := iV (w32 (sp_base M k0 v).2.1)) (congrArg Value.int (w32_v _)) ?_
  refine v_i2l (pc' := 9) F d_L_base_8 rfl (w32_r _) ?_
  refine v_lap (pc' := 10) F d_L_base_9 rfl ((hF8 o9 hno).trans ho) (by decide) (by omega) (by omega) ?_
  refine v_goto (tgt := 17) F d_L_base_10 (by decide) ?_
  refine v_iconst (pc' := 18) F d_L_base_17 rfl ?_
  exact v_ireturn F rfl d_L_base_18 rfl rfl (by decide) (by decide) (lpost.ok h0 hF8 hn8 hC8 hN8 hE8 hno rfl)
set_option maxRecDepth 100000 in
set_option maxHeartbeats 4000000 in
theorem c_L_moves (l : Launch) (X : am_X) (h : am_H) (nx : Nat) (x : Nat) (A : Nat → Prop) (P : Tg → Nat) (M : MS) (f d : Int) (o9 : Nat) (g0 : Int → Int) (ht : l.flags = pinnedFlags ++ [noTraceFlag]) (hC : RepC X x A P M h) (hI : RI M) (hN : NI M) (rf : -2147483648 ≤ f ∧ f < 2147483648) (rd : -2147483648 ≤ d ∧ d < 2147483648) (hA : ∀ q : Nat, nx ≤ q → A q) (ho : h o9 = some (am_la 1 g0)) (hno : ¬ A o9) : Cn l X y_L_moves ({ frames := 9, cells := 3, slots := 18, locals := 157 }) [.ref (P (0, 0)), iV f, iV d, .ref o9] h nx (lpost X x A o9 w32 (sp_moves M f d) h nx) := by
  refine cn_ofW (k := 1) (L0 := [some (.ref (P (0, 0))), some (iV f), some (iV d), some (.ref o9), none]) rfl wx_444 (Nat.le_of_ble_eq_true rfl) rfl (fun p e s m args below meth c F => ?_)
  refine v_fr (fun hfr => ?_)
  have hz := z_moves M f d
  refine v_aload_n (pc' := 1) (j := 3) F d_L_moves_0 rfl rfl rfl ?_
  refine v_iconst (pc' := 2) F d_L_moves_1 rfl ?_
  refine v_aload_n (pc' := 3) (j := 0) F d_L_moves_2 rfl rfl rfl ?_
  refine v_iload_n (pc' := 4) (j := 1) F d_L_moves_3 rfl rfl rfl ?_
  refine v_iload_n (pc' := 5) (j := 2) F d_L_moves_4 rfl rfl rfl ?_
  refine v_callV (pc' := 8) (C := zR_S) (T9 := zF_S) (N := 6) F d_L_moves_5 rfl cal_S_moves wx_445 wx_446 wx_447 rfl (hC.t_top) (c_S_moves l X _ _ _ _ _ _ f d ht hC hI hN rf rd) rfl ⟨by decide, by decide, by decide, by decide⟩ (Nat.le_of_ble_eq_true rfl) (fun x9 h8 n8 q => by
      rcases q with ⟨_, q9, _⟩ | ⟨hk, fs9, q9, rfl, rfl⟩
      · cases q9
      · cases q9
        rcases hz.1 with zz | zz | zz
        · exact absurd zz hk
        · rw [zz]
          refine v_catch1 F rfl rfl (by decide) wx_80 wx_91 rfl am_up_s ?_
          refine v_astore_4 (pc' := 15) F d_L_moves_13 rfl rfl (by decide) ?_
          refine v_iconst (pc' := 16) F d_L_moves_15 rfl ?_
          exact v_ireturn F rfl d_L_moves_16 rfl rfl (by decide) (by decide) (lpost.th zz (by decide) (hz.2 hk) hC hN hfr hA ho)
        · rw [zz]
          refine v_catch2 F rfl rfl (by decide) (by decide) wx_80 wx_81 wx_162 rfl am_up_s ?_
          refine v_astore_4 (pc' := 19) F d_L_moves_17 rfl rfl (by decide) ?_
          refine v_iconst (pc' := 20) F d_L_moves_19 rfl ?_
          exact v_ireturn F rfl d_L_moves_20 rfl rfl (by decide) (by decide) (lpost.th zz (by decide) (hz.2 hk) hC hN hfr hA ho)) (fun r9 h8 n8 q => ?_)
  rcases q with ⟨h0, q9, hF8, hn8, P8, M8, hC8, hN8, hE8⟩ | ⟨_, fs9, q9, _⟩
  rotate_left
  · cases q9
  cases q9
  refine v_topv (b := iV (w32 (sp_moves M f d).2.1)) (congrArg Value.int (w32_v _)) ?_
  refine v_i2l (pc' := 9) F d_L_moves_8 rfl (w32_r _) ?_
  refine v_lap (pc' := 10) F d_L_moves_9 rfl ((hF8 o9 hno).trans ho) (by decide) (by omega) (by omega) ?_
  refine v_goto (tgt := 21) F d_L_moves_10 (by decide) ?_
  refine v_iconst (pc' := 22) F d_L_moves_21 rfl ?_
  exact v_ireturn F rfl d_L_moves_22 rfl rfl (by decide) (by decide) (lpost.ok h0 hF8 hn8 hC8 hN8 hE8 hno rfl)
set_option maxRecDepth 100000 in
set_option maxHeartbeats 4000000 in
theorem c_L_prepaid (l : Launch) (X : am_X) (h : am_H) (nx : Nat) (x : Nat) (A : Nat → Prop) (P : Tg → Nat) (M : MS) (f a v : Int) (o9 : Nat) (g0 : Int → Int) (ht : l.flags = pinnedFlags ++ [noTraceFlag]) (hC : RepC X x A P M h) (hI : RI M) (hN : NI M) (rf : -2147483648 ≤ f ∧ f < 2147483648) (ra : -2147483648 ≤ a ∧ a < 2147483648) (rv : -2147483648 ≤ v ∧ v < 2147483648) (hA : ∀ q : Nat, nx ≤ q → A q) (ho : h o9 = some (am_la 1 g0)) (hno : ¬ A o9) : Cn l X y_L_prepaid ({ frames := 9, cells := 3, slots := 18, locals := 158 }) [.ref (P (0, 0)), iV f, iV a, iV v, .ref o9] h nx (lpost X x A o9 (fun z => z) (sp_prepaid M f a v) h nx) := by
  refine cn_ofW (k := 1) (L0 := [some (.ref (P (0, 0))), some (iV f), some (iV a), some (iV v), some (.ref o9), none]) rfl wx_465 (Nat.le_of_ble_eq_true rfl) rfl (fun p e s m args below meth c F => ?_)
  refine v_fr (fun hfr => ?_)
  have hz := z_prepaid M f a v
  refine v_aload (pc' := 2) F d_L_prepaid_0 rfl rfl ?_
  refine v_iconst (pc' := 3) F d_L_prepaid_2 rfl ?_
  refine v_aload_n (pc' := 4) (j := 0) F d_L_prepaid_3 rfl rfl rfl ?_
  refine v_iload_n (pc' := 5) (j := 1) F d_L_prepaid_4 rfl rfl rfl ?_
  refine v_iload_n (pc' := 6) (j := 2) F d_L_prepaid_5 rfl rfl rfl ?_
  refine v_iload_n (pc' := 7) (j := 3) F d_L_prepaid_6 rfl rfl rfl ?_
  refine v_callV (pc' := 10) (C := zR_S) (T9 := zF_S) (N := 6) F d_L_prepaid_7 rfl cal_S_prepaid wx_466 wx_467 wx_468 rfl (hC.t_top) (c_S_prepaid l X _ _ _ _ _ _ f a v ht hC hI hN rf ra rv) rfl ⟨by decide, by decide, by decide, by decide⟩ (Nat.le_of_ble_eq_true rfl) (fun x9 h8 n8 q => by
      rcases q with ⟨_, q9, _⟩ | ⟨hk, fs9, q9, rfl, rfl⟩
      · cases q9
      · cases q9
        rcases hz.1 with zz | zz
        · exact absurd zz hk
        · rw [zz]
          refine v_catch1 F rfl rfl (by decide) wx_80 wx_91 rfl am_up_s ?_
          refine v_astore_5 (pc' := 16) F d_L_prepaid_14 rfl rfl (by decide) ?_
          refine v_iconst (pc' := 17) F d_L_prepaid_16 rfl ?_
          exact v_ireturn F rfl d_L_prepaid_17 rfl rfl (by decide) (by decide) (lpost.th zz (by decide) (hz.2 hk) hC hN hfr hA ho)) (fun r9 h8 n8 q => ?_)
  rcases q with ⟨h0, q9, hF8, hn8, P8, M8, hC8, hN8, hE8⟩ | ⟨_, fs9, q9, _⟩
  rotate_left
  · cases q9
  cases q9
  refine v_lap (pc' := 11) F d_L_prepaid_10 rfl ((hF8 o9 hno).trans ho) (by decide) (by omega) (by omega) ?_
  refine v_goto (tgt := 18) F d_L_prepaid_11 (by decide) ?_
  refine v_iconst (pc' := 19) F d_L_prepaid_18 rfl ?_
  exact v_ireturn F rfl d_L_prepaid_19 rfl rfl (by decide) (by decide) (lpost.ok h0 hF8 hn8 hC8 hN8 hE8 hno rfl)
set_option maxRecDepth 100000 in
set_option maxHeartbeats 4000000 in
theorem c_L_run (l : Launch) (X : am_X) (h : am_H) (nx : Nat) (x : Nat) (A : Nat → Prop) (P : Tg → Nat) (M : MS) (a : Int) (o9 : Nat) (g0 : Int → Int) (ht : l.flags = pinnedFlags ++ [noTraceFlag]) (hC : RepC X x A P M h) (hI : RI M) (hN : NI M) (ra : -2147483648 ≤ a ∧ a < 2147483648) (hA : ∀ q : Nat, nx ≤ q → A q) (ho : h o9 = some (am_la 1 g0)) (hno : ¬ A o9) : Cn l X y_L_run ({ frames := 9, cells := 63, slots := 240, locals := 175 }) [.ref (P (0, 0)), iV a, .ref o9] h nx (lpost X x A o9 w32 (sp_run M a) h nx) := by
  refine cn_ofW (k := 1) (L0 := [some (.ref (P (0, 0))), some (iV a), some (.ref o9), none]) rfl wx_472 (Nat.le_of_ble_eq_true rfl) rfl (fun p e s m args below meth c F => ?_)
  refine v_fr (fun hfr => ?_)
  have hz := z_run M a
  refine v_aload_n (pc' := 1) (j := 2) F d_L_run_0 rfl rfl rfl ?_
  refine v_iconst (pc' := 2) F d_L_run_1 rfl ?_
  refine v_aload_n (pc' := 3) (j := 0) F d_L_run_2 rfl rfl rfl ?_
  refine v_iload_n (pc' := 4) (j := 1) F d_L_run_3 rfl rfl rfl ?_
  refine v_callV (pc' := 7) (C := zR_S) (T9 := zF_S) (N := 6) F d_L_run_4 rfl cal_S_run wx_473 wx_474 wx_475 rfl (hC.t_top) (c_S_run l X _ _ _ _ _ _ a ht hC hI hN ra hA) rfl ⟨by decide, by decide, by decide, by decide⟩ (Nat.le_of_ble_eq_true rfl) (fun x9 h8 n8 q => by
      rcases q with ⟨_, q9, _⟩ | ⟨hk, fs9, q9, rfl, rfl⟩
      · cases q9
      · cases q9
        rcases hz.1 with zz | zz | zz
        · exact absurd zz hk
        · rw [zz]
          refine v_catch1 F rfl rfl (by decide) wx_80 wx_91 rfl am_up_s ?_
          refine v_astore_3 (pc' := 13) F d_L_run_12 rfl rfl (by decide) ?_
          refine v_iconst (pc' := 14) F d_L_run_13 rfl ?_
          exact v_ireturn F rfl d_L_run_14 rfl rfl (by decide) (by decide) (lpost.th zz (by decide) (hz.2 hk) hC hN hfr hA ho)
        · rw [zz]
          refine v_catch2 F rfl rfl (by decide) (by decide) wx_80 wx_81 wx_162 rfl am_up_s ?_
          refine v_astore_3 (pc' := 16) F d_L_run_15 rfl rfl (by decide) ?_
          refine v_iconst (pc' := 17) F d_L_run_16 rfl ?_
          exact v_ireturn F rfl d_L_run_17 rfl rfl (by decide) (by decide) (lpost.th zz (by decide) (hz.2 hk) hC hN hfr hA ho)) (fun r9 h8 n8 q => ?_)
  rcases q with ⟨h0, q9, hF8, hn8, P8, M8, hC8, hN8, hE8⟩ | ⟨_, fs9, q9, _⟩
  rotate_left
  · cases q9
  cases q9
  refine v_topv (b := iV (w32 (sp_run M a).2.1)) (congrArg Value.int (w32_v _)) ?_
  refine v_i2l (pc' := 8) F d_L_run_7 rfl (w32_r _) ?_
  refine v_lap (pc' := 9) F d_L_run_8 rfl ((hF8 o9 hno).trans ho) (by decide) (by omega) (by omega) ?_
  refine v_goto (tgt := 18) F d_L_run_9 (by decide) ?_
  refine v_iconst (pc' := 19) F d_L_run_18 rfl ?_
  exact v_ireturn F rfl d_L_run_19 rfl rfl (by decide) (by decide) (lpost.ok h0 hF8 hn8 hC8 hN8 hE8 hno rfl)
set_option maxRecDepth 100000 in
set_option maxHeartbeats 4000000 in
theorem c_L_use (l : Launch) (X : am_X) (h : am_H) (nx : Nat) (x : Nat) (A : Nat → Prop) (P : Tg → Nat) (M : MS) (f a : Int) (o9 : Nat) (g0 : Int → Int) (ht : l.flags = pinnedFlags ++ [noTraceFlag]) (hC : RepC X x A P M h) (hI : RI M) (hN : NI M) (rf : -2147483648 ≤ f ∧ f < 2147483648) (ra : -2147483648 ≤ a ∧ a < 2147483648) (hA : ∀ q : Nat, nx ≤ q → A q) (ho : h o9 = some (am_la 1 g0)) (hno : ¬ A o9) : Cn l X y_L_use ({ frames := 9, cells := 2, slots := 12, locals := 157 }) [.ref (P (0, 0)), iV f, iV a, .ref o9] h nx (lpost X x A o9 (fun z => z) (sp_useR M f a) h nx) := by
  refine cn_ofW (k := 1) (L0 := [some (.ref (P (0, 0))), some (iV f), some (iV a), some (.ref o9), none]) rfl wx_573 (Nat.le_of_ble_eq_true rfl) rfl (fun p e s m args below meth c F => ?_)
  refine v_fr (fun hfr => ?_)
  have hz := z_use M f a
  refine v_aload_n (pc' := 1) (j := 3) F d_L_use_0 rfl rfl rfl ?_
  refine v_iconst (pc' := 2) F d_L_use_1 rfl ?_
  refine v_aload_n (pc' := 3) (j := 0) F d_L_use_2 rfl rfl rfl ?_
  refine v_iload_n (pc' := 4) (j := 1) F d_L_use_3 rfl rfl rfl ?_
  refine v_iload_n (pc' := 5) (j := 2) F d_L_use_4 rfl rfl rfl ?_
  refine v_callV (pc' := 8) (C := zR_S) (T9 := zF_S) (N := 6) F d_L_use_5 rfl cal_S_use wx_574 wx_575 wx_576 rfl (hC.t_top) ((c_S_use l X _ _ _ _ _ _ f a ht hC hI hN rf ra).mono (fun o h' nx' q => rd_w hC hN (zs_use M f a) q)) rfl ⟨by decide, by decide, by decide, by decide⟩ (Nat.le_of_ble_eq_true rfl) (fun x9 h8 n8 q => by
      rcases q with ⟨_, q9, _⟩ | ⟨hk, fs9, q9, rfl, rfl⟩
      · cases q9
      · cases q9
        rcases hz.1 with zz | zz
        · exact absurd zz hk
        · rw [zz]
          refine v_catch1 F rfl rfl (by decide) wx_80 wx_91 rfl am_up_s ?_
          refine v_astore_4 (pc' := 14) F d_L_use_12 rfl rfl (by decide) ?_
          refine v_iconst (pc' := 15) F d_L_use_14 rfl ?_
          exact v_ireturn F rfl d_L_use_15 rfl rfl (by decide) (by decide) (lpost.th zz (by decide) (hz.2 hk) hC hN hfr hA ho)) (fun r9 h8 n8 q => ?_)
  rcases q with ⟨h0, q9, hF8, hn8, P8, M8, hC8, hN8, hE8⟩ | ⟨_, fs9, q9, _⟩
  rotate_left
  · cases q9
  cases q9
  refine v_lap (pc' := 9) F d_L_use_8 rfl ((hF8 o9 hno).trans ho) (by decide) (by omega) (by omega) ?_
  refine v_goto (tgt := 16) F d_L_use_9 (by decide) ?_
  refine v_iconst (pc' := 17) F d_L_use_16 rfl ?_
  exact v_ireturn F rfl d_L_use_17 rfl rfl (by decide) (by decide) (lpost.ok h0 hF8 hn8 hC8 hN8 hE8 hno rfl)
set_option maxRecDepth 100000 in
set_option maxHeartbeats 4000000 in
theorem c_L_barred (l : Launch) (X : am_X) (h : am_H) (nx : Nat) (x : Nat) (A : Nat → Prop) (P : Tg → Nat) (M : MS) (f k0 a : Int) (o9 : Nat) (g0 : Int → Int) (ht : l.flags = pinnedFlags ++ [noTraceFlag]) (hC : RepC X x A P M h) (hI : RI M) (hN : NI M) (rf : -2147483648 ≤ f ∧ f < 2147483648) (rk : -2147483648 ≤ k0 ∧ k0 < 2147483648) (ra : -2147483648 ≤ a ∧ a < 2147483648) (hA : ∀ q : Nat, nx ≤ q → A q) (ho : h o9 = some (am_la 1 g0)) (hno : ¬ A o9) : Cn l X y_L_barred ({ frames := 9, cells := 3, slots := 18, locals := 158 }) [.ref (P (0, 0)), iV f, iV k0, iV a, .ref o9] h nx (lpost X x A o9 w32 (sp_barredR M f k0 a) h nx) := by
  refine cn_ofW (k := 1) (L0 := [some (.ref (P (0, 0))), some (iV f), some (iV k0), some (iV a), some (.ref o9), none]) rfl wx_583 (Nat.le_of_ble_eq_true rfl) rfl (fun p e s m args below meth c F => ?_)
  refine v_fr (fun hfr => ?_)
  have hz := z_barred M f k0 a
  refine v_aload (pc' := 2) F d_L_barred_0 rfl rfl ?_
  refine v_iconst (pc' := 3) F d_L_barred_2 rfl ?_
  refine v_aload_n (pc' := 4) (j := 0) F d_L_barred_3 rfl rfl rfl ?_
  refine v_iload_n (pc' := 5) (j := 1) F d_L_barred_4 rfl rfl rfl ?_
  refine v_iload_n (pc' := 6) (j := 2) F d_L_barred_5 rfl rfl rfl ?_
  refine v_iload_n (pc' := 7) (j := 3) F d_L_barred_6 rfl rfl rfl ?_
  refine v_callV (pc' := 10) (C := zR_S) (T9 := zF_S) (N := 6) F d_L_barred_7 rfl cal_S_barred wx_584 wx_585 wx_586 rfl (hC.t_top) ((c_S_barred l X _ _ _ _ _ _ f k0 a ht hC hI hN rf rk ra).mono (fun o h' nx' q => rd_w hC hN (zs_barred M f k0 a) q)) rfl ⟨by decide, by decide, by decide, by decide⟩ (Nat.le_of_ble_eq_true rfl) (fun x9 h8 n8 q => by
      rcases q with ⟨_, q9, _⟩ | ⟨hk, fs9, q9, rfl, rfl⟩
      · cases q9
      · cases q9
        rcases hz.1 with zz | zz
        · exact absurd zz hk
        · rw [zz]
          refine v_catch1 F rfl rfl (by decide) wx_80 wx_91 rfl am_up_s ?_
          refine v_astore_5 (pc' := 17) F d_L_barred_15 rfl rfl (by decide) ?_
          refine v_iconst (pc' := 18) F d_L_barred_17 rfl ?_
          exact v_ireturn F rfl d_L_barred_18 rfl rfl (by decide) (by decide) (lpost.th zz (by decide) (hz.2 hk) hC hN hfr hA ho)) (fun r9 h8 n8 q => ?_)
  rcases q with ⟨h0, q9, hF8, hn8, P8, M8, hC8, hN8, hE8⟩ | ⟨_, fs9, q9, _⟩
  rotate_left
  · cases q9
  cases q9
  refine v_topv (b := iV (w32 (sp_barredR M f k0 a).2.1)) (congrArg Value.int (w32_v _)) ?_
  refine v_i2l (pc' := 11) F d_L_barred_10 rfl (w32_r _) ?_
  refine v_lap (pc' := 12) F d_L_barred_11 rfl ((hF8 o9 hno).trans ho) (by decide) (by omega) (by omega) ?_
  refine v_goto (tgt := 19) F d_L_barred_12 (by decide) ?_
  refine v_iconst (pc' := 20) F d_L_barred_19 rfl ?_
  exact v_ireturn F rfl d_L_barred_20 rfl rfl (by decide) (by decide) (lpost.ok h0 hF8 hn8 hC8 hN8 hE8 hno rfl)
set_option maxRecDepth 100000 in
set_option maxHeartbeats 4000000 in
theorem c_L_line (l : Launch) (X : am_X) (h : am_H) (nx : Nat) (x : Nat) (A : Nat → Prop) (P : Tg → Nat) (M : MS) (f k0 a w : Int) (o9 : Nat) (g0 : Int → Int) (ht : l.flags = pinnedFlags ++ [noTraceFlag]) (hC : RepC X x A P M h) (hI : RI M) (hN : NI M) (rf : -2147483648 ≤ f ∧ f < 2147483648) (rk : -2147483648 ≤ k0 ∧ k0 < 2147483648) (ra : -2147483648 ≤ a ∧ a < 2147483648) (rww : -2147483648 ≤ w ∧ w < 2147483648) (hA : ∀ q : Nat, nx ≤ q → A q) (ho : h o9 = some (am_la 1 g0)) (hno : ¬ A o9) : Cn l X y_L_line ({ frames := 10, cells := 5, slots := 30, locals := 183 }) [.ref (P (0, 0)), iV f, iV k0, iV a, iV w, .ref o9] h nx (lpost X x A o9 (fun z => z) (sp_lineR M f k0 a w) h nx) := by
  refine cn_ofW (k := 1) (L0 := [some (.ref (P (0, 0))), some (iV f), some (iV k0), some (iV a), some (iV w), some (.ref o9), none]) rfl wx_590 (Nat.le_of_ble_eq_true rfl) rfl (fun p e s m args below meth c F => ?_)
  refine v_fr (fun hfr => ?_)
  have hz := z_line M f k0 a w
  refine v_aload (pc' := 2) F d_L_line_0 rfl rfl ?_
  refine v_iconst (pc' := 3) F d_L_line_2 rfl ?_
  refine v_aload_n (pc' := 4) (j := 0) F d_L_line_3 rfl rfl rfl ?_
  refine v_iload_n (pc' := 5) (j := 1) F d_L_line_4 rfl rfl rfl ?_
  refine v_iload_n (pc' := 6) (j := 2) F d_L_line_5 rfl rfl rfl ?_
  refine v_iload_n (pc' := 7) (j := 3) F d_L_line_6 rfl rfl rfl ?_
  refine v_iload (pc' := 9) F d_L_line_7 rfl rfl ?_
  refine v_callV (pc' := 12) (C := zR_S) (T9 := zF_S) (N := 6) F d_L_line_9 rfl cal_S_line wx_591 wx_592 wx_593 rfl (hC.t_top) ((c_S_line l X _ _ _ _ _ _ f k0 a w ht hC hI hN rf rk ra rww).mono (fun o h' nx' q => rd_w hC hN (zs_line M f k0 a w) q)) rfl ⟨by decide, by decide, by decide, by decide⟩ (Nat.le_of_ble_eq_true rfl) (fun x9 h8 n8 q => by
      rcases q with ⟨_, q9, _⟩ | ⟨hk, fs9, q9, rfl, rfl⟩
      · cases q9
      · cases q9
        rcases hz.1 with zz | zz | zz
        · exact absurd zz hk
        · rw [zz]
          refine v_catch1 F rfl rfl (by decide) wx_80 wx_91 rfl am_up_s ?_
          refine v_astore_6 (pc' := 18) F d_L_line_16 rfl rfl (by decide) ?_
          refine v_iconst (pc' := 19) F d_L_line_18 rfl ?_
          exact v_ireturn F rfl d_L_line_19 rfl rfl (by decide) (by decide) (lpost.th zz (by decide) (hz.2 hk) hC hN hfr hA ho)
        · rw [zz]
          refine v_catch2 F rfl rfl (by decide) (by decide) wx_80 wx_81 wx_162 rfl am_up_s ?_
          refine v_astore_6 (pc' := 22) F d_L_line_20 rfl rfl (by decide) ?_
          refine v_iconst (pc' := 23) F d_L_line_22 rfl ?_
          exact v_ireturn F rfl d_L_line_23 rfl rfl (by decide) (by decide) (lpost.th zz (by decide) (hz.2 hk) hC hN hfr hA ho)) (fun r9 h8 n8 q => ?_)
  rcases q with ⟨h0, q9, hF8, hn8, P8, M8, hC8, hN8, hE8⟩ | ⟨_, fs9, q9, _⟩
  rotate_left
  · cases q9
  cases q9
  refine v_lap (pc' := 13) F d_L_line_12 rfl ((hF8 o9 hno).trans ho) (by decide) (by omega) (by omega) ?_
  refine v_goto (tgt := 24) F d_L_line_13 (by decide) ?_
  refine v_iconst (pc' := 25) F d_L_line_24 rfl ?_
  exact v_ireturn F rfl d_L_line_25 rfl rfl (by decide) (by decide) (lpost.ok h0 hF8 hn8 hC8 hN8 hE8 hno rfl)
set_option maxRecDepth 100000 in
set_option maxHeartbeats 4000000 in
theorem c_L_share (l : Launch) (X : am_X) (h : am_H) (nx : Nat) (x : Nat) (A : Nat → Prop) (P : Tg → Nat) (M : MS) (f a : Int) (o9 : Nat) (g0 : Int → Int) (ht : l.flags = pinnedFlags ++ [noTraceFlag]) (hC : RepC X x A P M h) (hI : RI M) (hN : NI M) (rf : -2147483648 ≤ f ∧ f < 2147483648) (ra : -2147483648 ≤ a ∧ a < 2147483648) (hA : ∀ q : Nat, nx ≤ q → A q) (ho : h o9 = some (am_la 1 g0)) (hno : ¬ A o9) : Cn l X y_L_share ({ frames := 10, cells := 3, slots := 18, locals := 179 }) [.ref (P (0, 0)), iV f, iV a, .ref o9] h nx (lpost X x A o9 (fun z => z) (sp_shareR M f a) h nx) := by
  refine cn_ofW (k := 1) (L0 := [some (.ref (P (0, 0))), some (iV f), some (iV a), some (.ref o9), none]) rfl wx_603 (Nat.le_of_ble_eq_true rfl) rfl (fun p e s m args below meth c F => ?_)
  refine v_fr (fun hfr => ?_)
  have hz := z_share M f a
  refine v_aload_n (pc' := 1) (j := 3) F d_L_share_0 rfl rfl rfl ?_
  refine v_iconst (pc' := 2) F d_L_share_1 rfl ?_
  refine v_aload_n (pc' := 3) (j := 0) F d_L_share_2 rfl rfl rfl ?_
  refine v_iload_n (pc' := 4) (j := 1) F d_L_share_3 rfl rfl rfl ?_
  refine v_iload_n (pc' := 5) (j := 2) F d_L_share_4 rfl rfl rfl ?_
  refine v_callV (pc' := 8) (C := zR_S) (T9 := zF_S) (N := 6) F d_L_share_5 rfl cal_S_share wx_604 wx_605 wx_606 rfl (hC.t_top) ((c_S_share l X _ _ _ _ _ _ f a ht hC hI hN rf ra).mono (fun o h' nx' q => rd_w hC hN (zs_share M f a) q)) rfl ⟨by decide, by decide, by decide, by decide⟩ (Nat.le_of_ble_eq_true rfl) (fun x9 h8 n8 q => by
      rcases q with ⟨_, q9, _⟩ | ⟨hk, fs9, q9, rfl, rfl⟩
      · cases q9
      · cases q9
        rcases hz.1 with zz | zz | zz
        · exact absurd zz hk
        · rw [zz]
          refine v_catch1 F rfl rfl (by decide) wx_80 wx_91 rfl am_up_s ?_
          refine v_astore_4 (pc' := 14) F d_L_share_12 rfl rfl (by decide) ?_
          refine v_iconst (pc' := 15) F d_L_share_14 rfl ?_
          exact v_ireturn F rfl d_L_share_15 rfl rfl (by decide) (by decide) (lpost.th zz (by decide) (hz.2 hk) hC hN hfr hA ho)
        · rw [zz]
          refine v_catch2 F rfl rfl (by decide) (by decide) wx_80 wx_81 wx_162 rfl am_up_s ?_
          refine v_astore_4 (pc' := 18) F d_L_share_16 rfl rfl (by decide) ?_
          refine v_iconst (pc' := 19) F d_L_share_18 rfl ?_
          exact v_ireturn F rfl d_L_share_19 rfl rfl (by decide) (by decide) (lpost.th zz (by decide) (hz.2 hk) hC hN hfr hA ho)) (fun r9 h8 n8 q => ?_)
  rcases q with ⟨h0, q9, hF8, hn8, P8, M8, hC8, hN8, hE8⟩ | ⟨_, fs9, q9, _⟩
  rotate_left
  · cases q9
  cases q9
  refine v_lap (pc' := 9) F d_L_share_8 rfl ((hF8 o9 hno).trans ho) (by decide) (by omega) (by omega) ?_
  refine v_goto (tgt := 20) F d_L_share_9 (by decide) ?_
  refine v_iconst (pc' := 21) F d_L_share_20 rfl ?_
  exact v_ireturn F rfl d_L_share_21 rfl rfl (by decide) (by decide) (lpost.ok h0 hF8 hn8 hC8 hN8 hE8 hno rfl)
set_option maxRecDepth 100000 in
set_option maxHeartbeats 4000000 in
theorem c_L_part (l : Launch) (X : am_X) (h : am_H) (nx : Nat) (x : Nat) (A : Nat → Prop) (P : Tg → Nat) (M : MS) (f w a : Int) (o9 : Nat) (g0 : Int → Int) (ht : l.flags = pinnedFlags ++ [noTraceFlag]) (hC : RepC X x A P M h) (hI : RI M) (hN : NI M) (rf : -2147483648 ≤ f ∧ f < 2147483648) (rww : -2147483648 ≤ w ∧ w < 2147483648) (ra : -2147483648 ≤ a ∧ a < 2147483648) (hA : ∀ q : Nat, nx ≤ q → A q) (ho : h o9 = some (am_la 1 g0)) (hno : ¬ A o9) : Cn l X y_L_part ({ frames := 10, cells := 4, slots := 24, locals := 186 }) [.ref (P (0, 0)), iV f, iV w, iV a, .ref o9] h nx (lpost X x A o9 (fun z => z) (sp_partR M f w a) h nx) := by
  refine cn_ofW (k := 1) (L0 := [some (.ref (P (0, 0))), some (iV f), some (iV w), some (iV a), some (.ref o9), none]) rfl wx_610 (Nat.le_of_ble_eq_true rfl) rfl (fun p e s m args below meth c F => ?_)
  refine v_fr (fun hfr => ?_)
  have hz := z_part M f w a
  refine v_aload (pc' := 2) F d_L_part_0 rfl rfl ?_
  refine v_iconst (pc' := 3) F d_L_part_2 rfl ?_
  refine v_aload_n (pc' := 4) (j := 0) F d_L_part_3 rfl rfl rfl ?_
  refine v_iload_n (pc' := 5) (j := 1) F d_L_part_4 rfl rfl rfl ?_
  refine v_iload_n (pc' := 6) (j := 2) F d_L_part_5 rfl rfl rfl ?_
  refine v_iload_n (pc' := 7) (j := 3) F d_L_part_6 rfl rfl rfl ?_
  refine v_callV (pc' := 10) (C := zR_S) (T9 := zF_S) (N := 6) F d_L_part_7 rfl cal_S_part wx_611 wx_612 wx_613 rfl (hC.t_top) ((c_S_part l X _ _ _ _ _ _ f w a ht hC hI hN rf rww ra).mono (fun o h' nx' q => rd_w hC hN (zs_part M f w a) q)) rfl ⟨by decide, by decide, by decide, by decide⟩ (Nat.le_of_ble_eq_true rfl) (fun x9 h8 n8 q => by
      rcases q with ⟨_, q9, _⟩ | ⟨hk, fs9, q9, rfl, rfl⟩
      · cases q9
      · cases q9
        rcases hz.1 with zz | zz | zz
        · exact absurd zz hk
        · rw [zz]
          refine v_catch1 F rfl rfl (by decide) wx_80 wx_91 rfl am_up_s ?_
          refine v_astore_5 (pc' := 16) F d_L_part_14 rfl rfl (by decide) ?_
          refine v_iconst (pc' := 17) F d_L_part_16 rfl ?_
          exact v_ireturn F rfl d_L_part_17 rfl rfl (by decide) (by decide) (lpost.th zz (by decide) (hz.2 hk) hC hN hfr hA ho)
        · rw [zz]
          refine v_catch2 F rfl rfl (by decide) (by decide) wx_80 wx_81 wx_162 rfl am_up_s ?_
          refine v_astore_5 (pc' := 20) F d_L_part_18 rfl rfl (by decide) ?_
          refine v_iconst (pc' := 21) F d_L_part_20 rfl ?_
          exact v_ireturn F rfl d_L_part_21 rfl rfl (by decide) (by decide) (lpost.th zz (by decide) (hz.2 hk) hC hN hfr hA ho)) (fun r9 h8 n8 q => ?_)
  rcases q with ⟨h0, q9, hF8, hn8, P8, M8, hC8, hN8, hE8⟩ | ⟨_, fs9, q9, _⟩
  rotate_left
  · cases q9
  cases q9
  refine v_lap (pc' := 11) F d_L_part_10 rfl ((hF8 o9 hno).trans ho) (by decide) (by omega) (by omega) ?_
  refine v_goto (tgt := 22) F d_L_part_11 (by decide) ?_
  refine v_iconst (pc' := 23) F d_L_part_22 rfl ?_
  exact v_ireturn F rfl d_L_part_23 rfl rfl (by decide) (by decide) (lpost.ok h0 hF8 hn8 hC8 hN8 hE8 hno rfl)
set_option maxRecDepth 100000 in
set_option maxHeartbeats 4000000 in
theorem c_L_balance (l : Launch) (X : am_X) (h : am_H) (nx : Nat) (x : Nat) (A : Nat → Prop) (P : Tg → Nat) (M : MS) (f a : Int) (o9 : Nat) (g0 : Int → Int) (ht : l.flags = pinnedFlags ++ [noTraceFlag]) (hC : RepC X x A P M h) (hI : RI M) (hN : NI M) (rf : -2147483648 ≤ f ∧ f < 2147483648) (ra : -2147483648 ≤ a ∧ a < 2147483648) (hA : ∀ q : Nat, nx ≤ q → A q) (ho : h o9 = some (am_la 1 g0)) (hno : ¬ A o9) : Cn l X y_L_balance ({ frames := 10, cells := 3, slots := 18, locals := 180 }) [.ref (P (0, 0)), iV f, iV a, .ref o9] h nx (lpost X x A o9 (fun z => z) (sp_balance M f a) h nx) := by
  refine cn_ofW (k := 1) (L0 := [some (.ref (P (0, 0))), some (iV f), some (iV a), some (.ref o9), none]) rfl wx_636 (Nat.le_of_ble_eq_true rfl) rfl (fun p e s m args below meth c F => ?_)
  refine v_fr (fun hfr => ?_)
  have hz := z_balance M f a
  refine v_aload_n (pc' := 1) (j := 3) F d_L_balance_0 rfl rfl rfl ?_
  refine v_iconst (pc' := 2) F d_L_balance_1 rfl ?_
  refine v_aload_n (pc' := 3) (j := 0) F d_L_balance_2 rfl rfl rfl ?_
  refine v_iload_n (pc' := 4) (j := 1) F d_L_balance_3 rfl rfl rfl ?_
  refine v_iload_n (pc' := 5) (j := 2) F d_L_balance_4 rfl rfl rfl ?_
  refine v_callV (pc' := 8) (C := zR_S) (T9 := zF_S) (N := 6) F d_L_balance_5 rfl cal_S_balance wx_637 wx_638 wx_639 rfl (hC.t_top) ((c_S_balance l X _ _ _ _ _ _ f a ht hC hI hN rf ra).mono (fun o h' nx' q => rd_w hC hN (zs_balance M f a) q)) rfl ⟨by decide, by decide, by decide, by decide⟩ (Nat.le_of_ble_eq_true rfl) (fun x9 h8 n8 q => by
      rcases q with ⟨_, q9, _⟩ | ⟨hk, fs9, q9, rfl, rfl⟩
      · cases q9
      · cases q9
        rcases hz.1 with zz | zz | zz
        · exact absurd zz hk
        · rw [zz]
          refine v_catch1 F rfl rfl (by decide) wx_80 wx_91 rfl am_up_s ?_
          refine v_astore_4 (pc' := 14) F d_L_balance_12 rfl rfl (by decide) ?_
          refine v_iconst (pc' := 15) F d_L_balance_14 rfl ?_
          exact v_ireturn F rfl d_L_balance_15 rfl rfl (by decide) (by decide) (lpost.th zz (by decide) (hz.2 hk) hC hN hfr hA ho)
        · rw [zz]
          refine v_catch2 F rfl rfl (by decide) (by decide) wx_80 wx_81 wx_162 rfl am_up_s ?_
          refine v_astore_4 (pc' := 18) F d_L_balance_16 rfl rfl (by decide) ?_
          refine v_iconst (pc' := 19) F d_L_balance_18 rfl ?_
          exact v_ireturn F rfl d_L_balance_19 rfl rfl (by decide) (by decide) (lpost.th zz (by decide) (hz.2 hk) hC hN hfr hA ho)) (fun r9 h8 n8 q => ?_)
  rcases q with ⟨h0, q9, hF8, hn8, P8, M8, hC8, hN8, hE8⟩ | ⟨_, fs9, q9, _⟩
  rotate_left
  · cases q9
  cases q9
  refine v_lap (pc' := 9) F d_L_balance_8 rfl ((hF8 o9 hno).trans ho) (by decide) (by omega) (by omega) ?_
  refine v_goto (tgt := 20) F d_L_balance_9 (by decide) ?_
  refine v_iconst (pc' := 21) F d_L_balance_20 rfl ?_
  exact v_ireturn F rfl d_L_balance_21 rfl rfl (by decide) (by decide) (lpost.ok h0 hF8 hn8 hC8 hN8 hE8 hno rfl)
set_option maxRecDepth 100000 in
set_option maxHeartbeats 4000000 in
theorem c_L_difference (l : Launch) (X : am_X) (h : am_H) (nx : Nat) (x : Nat) (A : Nat → Prop) (P : Tg → Nat) (M : MS) (f a : Int) (o9 : Nat) (g0 : Int → Int) (ht : l.flags = pinnedFlags ++ [noTraceFlag]) (hC : RepC X x A P M h) (hI : RI M) (hN : NI M) (rf : -2147483648 ≤ f ∧ f < 2147483648) (ra : -2147483648 ≤ a ∧ a < 2147483648) (hA : ∀ q : Nat, nx ≤ q → A q) (ho : h o9 = some (am_la 1 g0)) (hno : ¬ A o9) : Cn l X y_L_difference ({ frames := 10, cells := 3, slots := 18, locals := 180 }) [.ref (P (0, 0)), iV f, iV a, .ref o9] h nx (lpost X x A o9 (fun z => z) (sp_diff M f a) h nx) := by
  refine cn_ofW (k := 1) (L0 := [some (.ref (P (0, 0))), some (iV f), some (iV a), some (.ref o9), none]) rfl wx_643 (Nat.le_of_ble_eq_true rfl) rfl (fun p e s m args below meth c F => ?_)
  refine v_fr (fun hfr => ?_)
  have hz := z_difference M f a
  refine v_aload_n (pc' := 1) (j := 3) F d_L_difference_0 rfl rfl rfl ?_
  refine v_iconst (pc' := 2) F d_L_difference_1 rfl ?_
  refine v_aload_n (pc' := 3) (j := 0) F d_L_difference_2 rfl rfl rfl ?_
  refine v_iload_n (pc' := 4) (j := 1) F d_L_difference_3 rfl rfl rfl ?_
  refine v_iload_n (pc' := 5) (j := 2) F d_L_difference_4 rfl rfl rfl ?_
  refine v_callV (pc' := 8) (C := zR_S) (T9 := zF_S) (N := 6) F d_L_difference_5 rfl cal_S_difference wx_644 wx_645 wx_646 rfl (hC.t_top) ((c_S_difference l X _ _ _ _ _ _ f a ht hC hI hN rf ra).mono (fun o h' nx' q => rd_w hC hN (zs_difference M f a) q)) rfl ⟨by decide, by decide, by decide, by decide⟩ (Nat.le_of_ble_eq_true rfl) (fun x9 h8 n8 q => by
      rcases q with ⟨_, q9, _⟩ | ⟨hk, fs9, q9, rfl, rfl⟩
      · cases q9
      · cases q9
        rcases hz.1 with zz | zz | zz
        · exact absurd zz hk
        · rw [zz]
          refine v_catch1 F rfl rfl (by decide) wx_80 wx_91 rfl am_up_s ?_
          refine v_astore_4 (pc' := 14) F d_L_difference_12 rfl rfl (by decide) ?_
          refine v_iconst (pc' := 15) F d_L_difference_14 rfl ?_
          exact v_ireturn F rfl d_L_difference_15 rfl rfl (by decide) (by decide) (lpost.th zz (by decide) (hz.2 hk) hC hN hfr hA ho)
        · rw [zz]
          refine v_catch2 F rfl rfl (by decide) (by decide) wx_80 wx_81 wx_162 rfl am_up_s ?_
          refine v_astore_4 (pc' := 18) F d_L_difference_16 rfl rfl (by decide) ?_
          refine v_iconst (pc' := 19) F d_L_difference_18 rfl ?_
          exact v_ireturn F rfl d_L_difference_19 rfl rfl (by decide) (by decide) (lpost.th zz (by decide) (hz.2 hk) hC hN hfr hA ho)) (fun r9 h8 n8 q => ?_)
  rcases q with ⟨h0, q9, hF8, hn8, P8, M8, hC8, hN8, hE8⟩ | ⟨_, fs9, q9, _⟩
  rotate_left
  · cases q9
  cases q9
  refine v_lap (pc' := 9) F d_L_difference_8 rfl ((hF8 o9 hno).trans ho) (by decide) (by omega) (by omega) ?_
  refine v_goto (tgt := 20) F d_L_difference_9 (by decide) ?_
  refine v_iconst (pc' := 21) F d_L_difference_20 rfl ?_
  exact v_ireturn F rfl d_L_difference_21 rfl rfl (by decide) (by decide) (lpost.ok h0 hF8 hn8 hC8 hN8 hE8 hno rfl)
set_option maxRecDepth 100000 in
set_option maxHeartbeats 4000000 in
theorem c_L_edition (l : Launch) (X : am_X) (h : am_H) (nx : Nat) (x : Nat) (A : Nat → Prop) (P : Tg → Nat) (M : MS) (a : Int) (o9 : Nat) (g0 : Int → Int) (ht : l.flags = pinnedFlags ++ [noTraceFlag]) (hC : RepC X x A P M h) (hI : RI M) (hN : NI M) (ra : -2147483648 ≤ a ∧ a < 2147483648) (hA : ∀ q : Nat, nx ≤ q → A q) (ho : h o9 = some (am_la 1 g0)) (hno : ¬ A o9) : Cn l X y_L_edition ({ frames := 9, cells := 1, slots := 6, locals := 155 }) [.ref (P (0, 0)), iV a, .ref o9] h nx (lpost X x A o9 w32 (sp_edition M a) h nx) := by
  refine cn_ofW (k := 1) (L0 := [some (.ref (P (0, 0))), some (iV a), some (.ref o9), none]) rfl wx_650 (Nat.le_of_ble_eq_true rfl) rfl (fun p e s m args below meth c F => ?_)
  refine v_fr (fun hfr => ?_)
  have hz := z_edition M a
  refine v_aload_n (pc' := 1) (j := 2) F d_L_edition_0 rfl rfl rfl ?_
  refine v_iconst (pc' := 2) F d_L_edition_1 rfl ?_
  refine v_aload_n (pc' := 3) (j := 0) F d_L_edition_2 rfl rfl rfl ?_
  refine v_iload_n (pc' := 4) (j := 1) F d_L_edition_3 rfl rfl rfl ?_
  refine v_callV (pc' := 7) (C := zR_S) (T9 := zF_S) (N := 6) F d_L_edition_4 rfl cal_S_edition wx_651 wx_652 wx_653 rfl (hC.t_top) ((c_S_edition l X _ _ _ _ _ _ a ht hC hI hN ra).mono (fun o h' nx' q => rd_w hC hN (zs_edition M a) q)) rfl ⟨by decide, by decide, by decide, by decide⟩ (Nat.le_of_ble_eq_true rfl) (fun x9 h8 n8 q => by
      rcases q with ⟨_, q9, _⟩ | ⟨hk, fs9, q9, rfl, rfl⟩
      · cases q9
      · cases q9
        rcases hz.1 with zz | zz
        · exact absurd zz hk
        · rw [zz]
          refine v_catch1 F rfl rfl (by decide) wx_80 wx_91 rfl am_up_s ?_
          refine v_astore_3 (pc' := 13) F d_L_edition_12 rfl rfl (by decide) ?_
          refine v_iconst (pc' := 14) F d_L_edition_13 rfl ?_
          exact v_ireturn F rfl d_L_edition_14 rfl rfl (by decide) (by decide) (lpost.th zz (by decide) (hz.2 hk) hC hN hfr hA ho)) (fun r9 h8 n8 q => ?_)
  rcases q with ⟨h0, q9, hF8, hn8, P8, M8, hC8, hN8, hE8⟩ | ⟨_, fs9, q9, _⟩
  rotate_left
  · cases q9
  cases q9
  refine v_topv (b := iV (w32 (sp_edition M a).2.1)) (congrArg Value.int (w32_v _)) ?_
  refine v_i2l (pc' := 8) F d_L_edition_7 rfl (w32_r _) ?_
  refine v_lap (pc' := 9) F d_L_edition_8 rfl ((hF8 o9 hno).trans ho) (by decide) (by omega) (by omega) ?_
  refine v_goto (tgt := 15) F d_L_edition_9 (by decide) ?_
  refine v_iconst (pc' := 16) F d_L_edition_15 rfl ?_
  exact v_ireturn F rfl d_L_edition_16 rfl rfl (by decide) (by decide) (lpost.ok h0 hF8 hn8 hC8 hN8 hE8 hno rfl)
