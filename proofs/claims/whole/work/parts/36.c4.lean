/-! the class's public methods that only tell (written by wip/whole/cc4.py) -/
/-- what a method that only tells owes -/
def rdpost (mk : Int → Value) (t : Int × Int × MS) (h : am_H) (nx : Nat) : Outcome → am_H → Nat → Prop := kpost t.1 (some (mk t.2.1)) h nx
theorem rdpost.thr {mk : Int → Value} {v : Int} {M : MS} {h : am_H} {nx : Nat} {fs : List Value} : rdpost mk (1, v, M) h nx (.threw nx) (am_up h nx (.inr (6, fs))) (nx + 1) := kpost.thr (k := 1) rfl (by decide)
theorem rdpost.thk {mk : Int → Value} {k v : Int} {M : MS} {h : am_H} {nx : Nat} {fs : List Value} (hk : k ≠ 0) : rdpost mk (k, v, M) h nx (.threw nx) (am_up h nx (.inr ((5 + k).toNat, fs))) (nx + 1) := kpost.thr (k := k) rfl hk
theorem sp_has_lb {M : MS} {f a : Int} (hf : 0 ≤ f ∧ f < M 1 0) : sp_has M 1 f a = sp_lb M f a := by
  unfold sp_has sp_lb
  (repeat' split) <;> omega
theorem bl_lv {M : MS} {f a : Int} (hf : 0 ≤ f ∧ f < 20) (ha : 0 ≤ a ∧ a ≤ 9) (h : f < M 21 a) : (0 ≤ 20 * a + f ∧ 20 * a + f < 200) ∧ (20 * a + f) % 20 < M 21 ((20 * a + f) / 20) := by
  refine ⟨by omega, ?_⟩
  rw [show (20 * a + f) % 20 = f by omega, show (20 * a + f) / 20 = a by omega]
  exact h
theorem sp_has_nf {M : MS} {f a : Int} (hf : ¬ (0 ≤ f ∧ f < M 1 0)) : sp_has M 1 f a = 1 := if_neg (fun q => hf q.2.1)
section CXK
variable {p : Program} {l : Launch} {e : Env} {R : Room} {s : State} {m : MethodId} {args : Array Value} {below : List Frame} {meth : Method} {c : Code} {nL : Nat} {X : am_X} {Q : State → Prop}
variable {cc : ByteArray} {y : MethodName} {ret : Option FieldType} {et : List (Nat × Nat × Nat × Nat)} {h : am_H} {nx cells slots pc pc' : Nat} {L : List (Option Value)} {st : List Value}
variable {y' : MethodName} {rm : Room} {av : List Value} {bytes : ByteArray} {maxL index : Nat} {ret' : Option FieldType} {code : Int} {r : Option Value}
theorem v_callVK (F : am_Fx p s m args meth c y cc nL ret et X) {st0 : List Value} {b ci : Nat} {fs0 : List Value} {C : String} {T9 : u_T} {N : Nat} (d : decode cc pc = .ok (.invokevirtual index, 3)) (hp : pc + 3 = pc') (hcal : am_cal y' bytes maxL ret' av.length) (hlink : Cond.methodLink y.cls index y' ∈ lw_tbl) (hinst : Cond.instanceMethod y' ∈ lw_tbl) (hsel : Cond.selects C y' y' ∈ lw_tbl) (hc : am_cl[ci]? = some (C, T9, N)) (hb : h b = some (.inr (ci, fs0))) (hC : Cn l X y' rm (.ref b :: av) h nx (kpost code r h nx)) (hst : st0 = av.reverse ++ .ref b :: st) (hfit : am_fit R rm maxL cells slots) (hw : (st.map fun v => v.category).sum ≤ 8)
    (kx : code ≠ 0 → ∀ fs : List Value, VX p l e R s m args below meth c nL X Q (am_up h nx (.inr ((5 + code).toNat, fs))) (nx + 1) (cells + rm.cells) (slots + rm.slots) pc L nx)
    (kr : code = 0 → V p l e R s m args below meth c nL X Q h nx (cells + rm.cells) (slots + rm.slots) pc' L (r.toList ++ st)) : V p l e R s m args below meth c nL X Q h nx cells slots pc L st0 :=
  v_callV F d hp hcal hlink hinst hsel hc hb hC hst hfit hw (fun x h' nx' q => by
    rcases q with ⟨_, q1, _⟩ | ⟨q0, fs, q1, rfl, rfl⟩
    · cases q1
    · cases q1; exact kx q0 fs) (fun v h' nx' q => by
    rcases q with ⟨q0, q1, rfl, rfl⟩ | ⟨_, fs, q1, _⟩
    · cases q1; exact kr q0
    · cases q1)
end CXK
set_option maxRecDepth 100000 in
set_option maxHeartbeats 4000000 in
theorem c_S_edition (l : Launch) (X : am_X) (h : am_H) (nx : Nat) (x : Nat) (A : Nat → Prop) (P : Tg → Nat) (M : MS) (a : Int) (ht : l.flags = pinnedFlags ++ [noTraceFlag]) (hC : RepC X x A P M h) (hI : RI M) (hN : NI M) (ra : -2147483648 ≤ a ∧ a < 2147483648) : Cn l X y_S_edition ({ frames := 8, cells := 1, slots := 6, locals := 134 }) [.ref (P (0, 0)), iV a] h nx (rdpost iV (sp_edition M a) h nx) := by
  refine cn_of (k := 0) (L0 := [some (.ref (P (0, 0))), some (iV a)]) rfl wx_654 (Nat.le_of_ble_eq_true rfl) rfl (fun p e s m args below meth c F => ?_)
  have q1 := hI.hfl
  have q7 := hI.hme
  refine v_iload_n (pc' := 1) (j := 1) F d_S_edition_0 rfl rfl rfl ?_
  refine v_callSR (pc' := 4) F d_S_edition_1 rfl cal_S_checkYear wx_431 wx_432 (c_S_checkYear l X _ _ _ ht (by omega)) rfl ⟨by decide, by decide, by decide, by decide⟩ (Nat.le_of_ble_eq_true rfl) (fun n1 fs9 => ?_) (fun a1 => ?_)
  · exact v_out F (by decide) (by decide) (by rw [show sp_edition M a = (1, 0, M) from if_neg (by omega)]; exact rdpost.thr)
  refine v_aload_n (pc' := 5) (j := 0) F d_S_edition_4 rfl rfl rfl ?_
  refine v_getf (pc' := 8) (C := zR_S) (T := zF_S) (N := 6) (ref := "BillShares") F d_S_edition_5 rfl zi_S rfl 5 (by decide) wx_62 (Or.inl rfl) (hC.t_top) rfl ?_
  refine v_iload_n (pc' := 9) (j := 1) F d_S_edition_8 rfl rfl rfl ?_
  refine cg_eds (pc' := 10) F hC d_S_edition_9 rfl (by omega) (by omega) ?_
  exact v_ireturn F rfl d_S_edition_10 rfl rfl (by decide) (by decide) (by rw [show sp_edition M a = (0, M 20 a, M) from if_pos (by omega)]; exact Or.inl ⟨rfl, rfl, rfl, rfl⟩)
set_option maxRecDepth 100000 in
set_option maxHeartbeats 4000000 in
theorem c_S_use (l : Launch) (X : am_X) (h : am_H) (nx : Nat) (x : Nat) (A : Nat → Prop) (P : Tg → Nat) (M : MS) (f a : Int) (ht : l.flags = pinnedFlags ++ [noTraceFlag]) (hC : RepC X x A P M h) (hI : RI M) (hN : NI M) (rf : -2147483648 ≤ f ∧ f < 2147483648) (ra : -2147483648 ≤ a ∧ a < 2147483648) : Cn l X y_S_use ({ frames := 8, cells := 2, slots := 12, locals := 134 }) [.ref (P (0, 0)), iV f, iV a] h nx (rdpost lV (sp_useR M f a) h nx) := by
  refine cn_of (k := 1) (L0 := [some (.ref (P (0, 0))), some (iV f), some (iV a), none]) rfl wx_577 (Nat.le_of_ble_eq_true rfl) rfl (fun p e s m args below meth c F => ?_)
  have q1 := hI.hfl
  have q7 := hI.hme
  have qw := sp_why_r M f a
  refine v_aload_n (pc' := 1) (j := 0) F d_S_use_0 rfl rfl rfl ?_
  refine v_iload_n (pc' := 2) (j := 1) F d_S_use_1 rfl rfl rfl ?_
  refine v_callVR (pc' := 5) (C := zR_S) (T9 := zF_S) (N := 6) F d_S_use_2 rfl cal_S_meterAt wx_370 wx_372 wp_8 rfl (hC.t_top) (c_S_meterAt l X _ _ _ _ _ _ _ ht hC hI hN (by omega)) rfl ⟨by decide, by decide, by decide, by decide⟩ (Nat.le_of_ble_eq_true rfl) (fun n2 fs9 => ?_) (fun a2 => ?_)
  · exact v_out F (by decide) (by decide) (by rw [show sp_useR M f a = (1, 0, M) from if_neg (by omega)]; exact rdpost.thr)
  refine v_astore_3 (pc' := 6) F d_S_use_5 rfl rfl (by decide) ?_
  refine v_iload_n (pc' := 7) (j := 2) F d_S_use_6 rfl rfl rfl ?_
  refine v_callSR (pc' := 10) F d_S_use_7 rfl cal_S_checkYear wx_431 wx_432 (c_S_checkYear l X _ _ _ ht (by omega)) rfl ⟨by decide, by decide, by decide, by decide⟩ (Nat.le_of_ble_eq_true rfl) (fun n7 fs9 => ?_) (fun a7 => ?_)
  · exact v_out F (by decide) (by decide) (by rw [show sp_useR M f a = (1, 0, M) from if_neg (by omega)]; exact rdpost.thr)
  refine v_aload_n (pc' := 11) (j := 3) F d_S_use_10 rfl rfl rfl ?_
  refine v_iload_n (pc' := 12) (j := 2) F d_S_use_11 rfl rfl rfl ?_
  refine v_callVP (pc' := 15) (C := zR_T) (T9 := zF_T) (N := 8) F d_S_use_12 rfl cal_T_whyBarred wx_578 wx_547 wx_548 rfl (hC.t_mt (i := f) (by omega)) (c_T_whyBarred l X _ _ _ _ _ _ _ _ hC hI.hme hI.hrd hI.hda hI.hmo hI.hte (by omega) (by omega)) rfl ⟨by decide, by decide, by decide, by decide⟩ (Nat.le_of_ble_eq_true rfl) rfl rfl ?_
  refine v_if_ne (tgt := 33) (pc' := 18) F d_S_use_15 (by decide) rfl (by omega) (fun c15 => ?_) (fun c15 => ?_)
  · refine v_ldc2 (pc' := 36) (z := (-1)) F d_S_use_33 rfl wx_580 (by decide) ?_
    exact v_lreturn F d_S_use_36 rfl (by decide) (by decide) (by first | (rw [show sp_useR M f a = (0, -1, M) from (if_pos (by omega)).trans (by rw [if_pos (by omega)])]; exact Or.inl ⟨rfl, rfl, rfl, rfl⟩) | (rw [show sp_useR M f a = (0, sp_use M f (365 * a) (365 * a + 365), M) from (if_pos (by omega)).trans (by rw [if_neg (by omega)])]; exact Or.inl ⟨rfl, rfl, rfl, rfl⟩))
  · refine v_aload_n (pc' := 19) (j := 3) F d_S_use_18 rfl rfl rfl ?_
    refine v_iload_n (pc' := 20) (j := 2) F d_S_use_19 rfl rfl rfl ?_
    refine v_callSP (pc' := 23) F d_S_use_20 rfl cal_S_startOf wx_556 wx_551 (c_S_startOf l X _ _ _) rfl ⟨by decide, by decide, by decide, by decide⟩ (Nat.le_of_ble_eq_true rfl) rfl rfl ?_
    refine v_iload_n (pc' := 24) (j := 2) F d_S_use_23 rfl rfl rfl ?_
    refine v_callSP (pc' := 27) F d_S_use_24 rfl cal_S_endOf wx_557 wx_554 (c_S_endOf l X _ _ _) rfl ⟨by decide, by decide, by decide, by decide⟩ (Nat.le_of_ble_eq_true rfl) rfl rfl ?_
    refine v_callVP (pc' := 30) (C := zR_T) (T9 := zF_T) (N := 8) F d_S_use_27 rfl cal_T_useBetween wx_579 wx_563 wx_564 rfl (hC.t_mt (i := f) (by omega)) (c_T_useBetween l X _ _ _ _ _ _ _ _ _ hC hI.hme hI.hrd hI.hda hI.hva hI.hgo hN.hst hI.hmo hI.hab (by omega) (by omega) (by omega)) rfl ⟨by decide, by decide, by decide, by decide⟩ (Nat.le_of_ble_eq_true rfl) rfl rfl ?_
    refine v_goto (tgt := 36) F d_S_use_30 (by decide) ?_
    exact v_lreturn F d_S_use_36 rfl (by decide) (by decide) (by first | (rw [show sp_useR M f a = (0, -1, M) from (if_pos (by omega)).trans (by rw [if_pos (by omega)])]; exact Or.inl ⟨rfl, rfl, rfl, rfl⟩) | (rw [show sp_useR M f a = (0, sp_use M f (365 * a) (365 * a + 365), M) from (if_pos (by omega)).trans (by rw [if_neg (by omega)])]; exact Or.inl ⟨rfl, rfl, rfl, rfl⟩))
set_option maxRecDepth 100000 in
set_option maxHeartbeats 4000000 in
theorem c_S_barred (l : Launch) (X : am_X) (h : am_H) (nx : Nat) (x : Nat) (A : Nat → Prop) (P : Tg → Nat) (M : MS) (f k0 a : Int) (ht : l.flags = pinnedFlags ++ [noTraceFlag]) (hC : RepC X x A P M h) (hI : RI M) (hN : NI M) (rf : -2147483648 ≤ f ∧ f < 2147483648) (rk : -2147483648 ≤ k0 ∧ k0 < 2147483648) (ra : -2147483648 ≤ a ∧ a < 2147483648) : Cn l X y_S_barred ({ frames := 8, cells := 3, slots := 18, locals := 134 }) [.ref (P (0, 0)), iV f, iV k0, iV a] h nx (rdpost iV (sp_barredR M f k0 a) h nx) := by
  refine cn_of (k := 1) (L0 := [some (.ref (P (0, 0))), some (iV f), some (iV k0), some (iV a), none]) rfl wx_587 (Nat.le_of_ble_eq_true rfl) rfl (fun p e s m args below meth c F => ?_)
  have q1 := hI.hfl
  have q7 := hI.hme
  have qb := sp_barred_r M f k0 a
  refine v_aload_n (pc' := 1) (j := 0) F d_S_barred_0 rfl rfl rfl ?_
  refine v_iload_n (pc' := 2) (j := 1) F d_S_barred_1 rfl rfl rfl ?_
  refine v_callVR (pc' := 5) (C := zR_S) (T9 := zF_S) (N := 6) F d_S_barred_2 rfl cal_S_flatAt wx_313 wx_315 wp_6 rfl (hC.t_top) (c_S_flatAt l X _ _ _ _ _ _ _ ht hC hI hN (by omega)) rfl ⟨by decide, by decide, by decide, by decide⟩ (Nat.le_of_ble_eq_true rfl) (fun n2 fs9 => ?_) (fun a2 => ?_)
  · exact v_out F (by decide) (by decide) (by rw [show sp_barredR M f k0 a = (1, 0, M) from if_neg (by omega)]; exact rdpost.thr)
  refine v_astore_4 (pc' := 7) F d_S_barred_5 rfl rfl (by decide) ?_
  refine v_iload_n (pc' := 8) (j := 2) F d_S_barred_7 rfl rfl rfl ?_
  refine v_callSR (pc' := 11) F d_S_barred_8 rfl cal_S_checkKind wx_318 wx_319 (c_S_checkKind l X _ _ _ ht (by omega)) rfl ⟨by decide, by decide, by decide, by decide⟩ (Nat.le_of_ble_eq_true rfl) (fun n8 fs9 => ?_) (fun a8 => ?_)
  · exact v_out F (by decide) (by decide) (by rw [show sp_barredR M f k0 a = (1, 0, M) from if_neg (by omega)]; exact rdpost.thr)
  refine v_iload_n (pc' := 12) (j := 3) F d_S_barred_11 rfl rfl rfl ?_
  refine v_callSR (pc' := 15) F d_S_barred_12 rfl cal_S_checkYear wx_431 wx_432 (c_S_checkYear l X _ _ _ ht (by omega)) rfl ⟨by decide, by decide, by decide, by decide⟩ (Nat.le_of_ble_eq_true rfl) (fun n12 fs9 => ?_) (fun a12 => ?_)
  · exact v_out F (by decide) (by decide) (by rw [show sp_barredR M f k0 a = (1, 0, M) from if_neg (by omega)]; exact rdpost.thr)
  refine v_aload (pc' := 17) F d_S_barred_15 rfl rfl ?_
  refine v_iload_n (pc' := 18) (j := 2) F d_S_barred_17 rfl rfl rfl ?_
  refine v_iload_n (pc' := 19) (j := 3) F d_S_barred_18 rfl rfl rfl ?_
  refine v_callVP (pc' := 22) (C := zR_F) (T9 := zF_F) (N := 10) F d_S_barred_19 rfl cal_F_whyBarred wx_539 wx_540 wx_541 rfl (hC.t_fl (i := f) (by omega)) (c_F_whyBarred l X _ _ _ _ _ _ _ _ _ hC hI hN (by omega) (by omega) (by omega)) rfl ⟨by decide, by decide, by decide, by decide⟩ (Nat.le_of_ble_eq_true rfl) rfl rfl ?_
  exact v_ireturn F rfl d_S_barred_22 rfl rfl (by decide) (by decide) (by rw [show sp_barredR M f k0 a = (0, sp_barred M f k0 a, M) from if_pos (by omega)]; exact Or.inl ⟨rfl, rfl, rfl, rfl⟩)
set_option maxRecDepth 100000 in
set_option maxHeartbeats 4000000 in
theorem c_S_share (l : Launch) (X : am_X) (h : am_H) (nx : Nat) (x : Nat) (A : Nat → Prop) (P : Tg → Nat) (M : MS) (f a : Int) (ht : l.flags = pinnedFlags ++ [noTraceFlag]) (hC : RepC X x A P M h) (hI : RI M) (hN : NI M) (rf : -2147483648 ≤ f ∧ f < 2147483648) (ra : -2147483648 ≤ a ∧ a < 2147483648) : Cn l X y_S_share ({ frames := 9, cells := 3, slots := 18, locals := 157 }) [.ref (P (0, 0)), iV f, iV a] h nx (rdpost lV (sp_shareR M f a) h nx) := by
  refine cn_of (k := 0) (L0 := [some (.ref (P (0, 0))), some (iV f), some (iV a)]) rfl wx_607 (Nat.le_of_ble_eq_true rfl) rfl (fun p e s m args below meth c F => ?_)
  have q1 := hI.hfl
  have q7 := hI.hme
  refine v_aload_n (pc' := 1) (j := 0) F d_S_share_0 rfl rfl rfl ?_
  refine v_aload_n (pc' := 2) (j := 0) F d_S_share_1 rfl rfl rfl ?_
  refine v_iload_n (pc' := 3) (j := 1) F d_S_share_2 rfl rfl rfl ?_
  refine v_callVR (pc' := 6) (C := zR_S) (T9 := zF_S) (N := 6) F d_S_share_3 rfl cal_S_flatAt wx_313 wx_315 wp_6 rfl (hC.t_top) (c_S_flatAt l X _ _ _ _ _ _ _ ht hC hI hN (by omega)) rfl ⟨by decide, by decide, by decide, by decide⟩ (Nat.le_of_ble_eq_true rfl) (fun n3 fs9 => ?_) (fun a3 => ?_)
  · exact v_out F (by decide) (by decide) (by rw [show sp_shareR M f a = (1, 0, M) from (if_neg (by rw [sp_has_nf (by omega)]; decide)).trans (by rw [sp_has_nf (by omega)])]; exact rdpost.thr)
  refine v_iload_n (pc' := 7) (j := 2) F d_S_share_6 rfl rfl rfl ?_
  refine v_callVK (pc' := 10) (C := zR_S) (T9 := zF_S) (N := 6) F d_S_share_7 rfl cal_S_latestBill wx_595 wx_597 wp_15 rfl (hC.t_top) (c_S_latestBill l X _ _ _ _ _ _ _ _ ht hC hI hN (by omega) (by omega)) rfl ⟨by decide, by decide, by decide, by decide⟩ (Nat.le_of_ble_eq_true rfl) (fun n7 fs9 => ?_) (fun a7 => ?_)
  · exact v_out F (by decide) (by decide) (by rw [show sp_shareR M f a = (sp_lb M f a, 0, M) from (if_neg (by rw [sp_has_lb (by omega)]; omega)).trans (by rw [sp_has_lb (by omega)])]; exact rdpost.thk n7)
  have qz := sp_lb_0 a7
  have qh := sp_has_lb (M := M) (f := f) (a := a) (by omega)
  have qt := hI.ht1 a qz.1.1 qz.1.2
  have qe := hI.hed a qz.1.1 (by omega)
  have qv := bl_lv (M := M) (f := f) (a := a) (by omega) qz.1 qz.2.2
  refine v_callVP (pc' := 13) (C := zR_B) (T9 := zF_B) (N := 3) F d_S_share_10 rfl cal_B_total wx_508 wx_509 wx_510 rfl (hC.t_bl (i := (20 * a + f)) qv) (c_B_total l X _ _ _ _ _ _ _ hC qv) rfl ⟨by decide, by decide, by decide, by decide⟩ (Nat.le_of_ble_eq_true rfl) rfl rfl ?_
  exact v_lreturn F d_S_share_13 rfl (by decide) (by decide) (by rw [show sp_shareR M f a = (0, sp_share M f a, M) from if_pos (by omega)]; rw [sp_tot_s]; exact Or.inl ⟨rfl, rfl, rfl, rfl⟩)
set_option maxRecDepth 100000 in
set_option maxHeartbeats 4000000 in
theorem c_S_balance (l : Launch) (X : am_X) (h : am_H) (nx : Nat) (x : Nat) (A : Nat → Prop) (P : Tg → Nat) (M : MS) (f a : Int) (ht : l.flags = pinnedFlags ++ [noTraceFlag]) (hC : RepC X x A P M h) (hI : RI M) (hN : NI M) (rf : -2147483648 ≤ f ∧ f < 2147483648) (ra : -2147483648 ≤ a ∧ a < 2147483648) : Cn l X y_S_balance ({ frames := 9, cells := 3, slots := 18, locals := 157 }) [.ref (P (0, 0)), iV f, iV a] h nx (rdpost lV (sp_balance M f a) h nx) := by
  refine cn_of (k := 1) (L0 := [some (.ref (P (0, 0))), some (iV f), some (iV a), none]) rfl wx_640 (Nat.le_of_ble_eq_true rfl) rfl (fun p e s m args below meth c F => ?_)
  have q1 := hI.hfl
  have q7 := hI.hme
  refine v_aload_n (pc' := 1) (j := 0) F d_S_balance_0 rfl rfl rfl ?_
  refine v_iload_n (pc' := 2) (j := 1) F d_S_balance_1 rfl rfl rfl ?_
  refine v_callVR (pc' := 5) (C := zR_S) (T9 := zF_S) (N := 6) F d_S_balance_2 rfl cal_S_flatAt wx_313 wx_315 wp_6 rfl (hC.t_top) (c_S_flatAt l X _ _ _ _ _ _ _ ht hC hI hN (by omega)) rfl ⟨by decide, by decide, by decide, by decide⟩ (Nat.le_of_ble_eq_true rfl) (fun n2 fs9 => ?_) (fun a2 => ?_)
  · exact v_out F (by decide) (by decide) (by rw [show sp_balance M f a = (1, 0, M) from (if_neg (by rw [sp_has_nf (by omega)]; decide)).trans (by rw [sp_has_nf (by omega)])]; exact rdpost.thr)
  refine v_astore_3 (pc' := 6) F d_S_balance_5 rfl rfl (by decide) ?_
  refine v_aload_n (pc' := 7) (j := 0) F d_S_balance_6 rfl rfl rfl ?_
  refine v_aload_n (pc' := 8) (j := 3) F d_S_balance_7 rfl rfl rfl ?_
  refine v_iload_n (pc' := 9) (j := 2) F d_S_balance_8 rfl rfl rfl ?_
  refine v_callVK (pc' := 12) (C := zR_S) (T9 := zF_S) (N := 6) F d_S_balance_9 rfl cal_S_latestBill wx_595 wx_597 wp_15 rfl (hC.t_top) (c_S_latestBill l X _ _ _ _ _ _ _ _ ht hC hI hN (by omega) (by omega)) rfl ⟨by decide, by decide, by decide, by decide⟩ (Nat.le_of_ble_eq_true rfl) (fun n9 fs9 => ?_) (fun a9 => ?_)
  · exact v_out F (by decide) (by decide) (by rw [show sp_balance M f a = (sp_lb M f a, 0, M) from (if_neg (by rw [sp_has_lb (by omega)]; omega)).trans (by rw [sp_has_lb (by omega)])]; exact rdpost.thk n9)
  have qz := sp_lb_0 a9
  have qh := sp_has_lb (M := M) (f := f) (a := a) (by omega)
  have qt := hI.ht1 a qz.1.1 qz.1.2
  have qe := hI.hed a qz.1.1 (by omega)
  have qv := bl_lv (M := M) (f := f) (a := a) (by omega) qz.1 qz.2.2
  refine v_callVP (pc' := 15) (C := zR_B) (T9 := zF_B) (N := 3) F d_S_balance_12 rfl cal_B_total wx_508 wx_509 wx_510 rfl (hC.t_bl (i := (20 * a + f)) qv) (c_B_total l X _ _ _ _ _ _ _ hC qv) rfl ⟨by decide, by decide, by decide, by decide⟩ (Nat.le_of_ble_eq_true rfl) rfl rfl ?_
  refine v_aload_n (pc' := 16) (j := 3) F d_S_balance_15 rfl rfl rfl ?_
  refine v_getf (pc' := 19) (C := zR_F) (T := zF_F) (N := 10) (ref := "BillShares$Flat") F d_S_balance_16 rfl zi_F rfl 5 (by decide) wx_196 (Or.inl rfl) (hC.t_fl (i := f) (by omega)) rfl ?_
  refine v_iload_n (pc' := 20) (j := 2) F d_S_balance_19 rfl rfl rfl ?_
  refine cg_pd (pc' := 21) F hC (f := f) (by omega) d_S_balance_20 rfl (by omega) (by omega) ?_
  refine v_lsub (pc' := 22) F d_S_balance_21 rfl ?_
  exact v_lreturn F d_S_balance_22 rfl (by decide) (by decide) (by rw [show sp_balance M f a = (0, sp_share M f a - M 6 (10 * f + a), M) from if_pos (by omega)]; rw [sp_tot_s]; exact Or.inl ⟨rfl, rfl, rfl, rfl⟩)
set_option maxRecDepth 100000 in
set_option maxHeartbeats 4000000 in
theorem c_S_difference (l : Launch) (X : am_X) (h : am_H) (nx : Nat) (x : Nat) (A : Nat → Prop) (P : Tg → Nat) (M : MS) (f a : Int) (ht : l.flags = pinnedFlags ++ [noTraceFlag]) (hC : RepC X x A P M h) (hI : RI M) (hN : NI M) (rf : -2147483648 ≤ f ∧ f < 2147483648) (ra : -2147483648 ≤ a ∧ a < 2147483648) : Cn l X y_S_difference ({ frames := 9, cells := 3, slots := 18, locals := 157 }) [.ref (P (0, 0)), iV f, iV a] h nx (rdpost lV (sp_diff M f a) h nx) := by
  refine cn_of (k := 1) (L0 := [some (.ref (P (0, 0))), some (iV f), some (iV a), none]) rfl wx_647 (Nat.le_of_ble_eq_true rfl) rfl (fun p e s m args below meth c F => ?_)
  have q1 := hI.hfl
  have q7 := hI.hme
  refine v_aload_n (pc' := 1) (j := 0) F d_S_difference_0 rfl rfl rfl ?_
  refine v_aload_n (pc' := 2) (j := 0) F d_S_difference_1 rfl rfl rfl ?_
  refine v_iload_n (pc' := 3) (j := 1) F d_S_difference_2 rfl rfl rfl ?_
  refine v_callVR (pc' := 6) (C := zR_S) (T9 := zF_S) (N := 6) F d_S_difference_3 rfl cal_S_flatAt wx_313 wx_315 wp_6 rfl (hC.t_top) (c_S_flatAt l X _ _ _ _ _ _ _ ht hC hI hN (by omega)) rfl ⟨by decide, by decide, by decide, by decide⟩ (Nat.le_of_ble_eq_true rfl) (fun n3 fs9 => ?_) (fun a3 => ?_)
  · exact v_out F (by decide) (by decide) (by rw [show sp_diff M f a = (1, 0, M) from (if_neg (by rw [sp_has_nf (by omega)]; decide)).trans (by rw [sp_has_nf (by omega)])]; exact rdpost.thr)
  refine v_iload_n (pc' := 7) (j := 2) F d_S_difference_6 rfl rfl rfl ?_
  refine v_callVK (pc' := 10) (C := zR_S) (T9 := zF_S) (N := 6) F d_S_difference_7 rfl cal_S_latestBill wx_595 wx_597 wp_15 rfl (hC.t_top) (c_S_latestBill l X _ _ _ _ _ _ _ _ ht hC hI hN (by omega) (by omega)) rfl ⟨by decide, by decide, by decide, by decide⟩ (Nat.le_of_ble_eq_true rfl) (fun n7 fs9 => ?_) (fun a7 => ?_)
  · exact v_out F (by decide) (by decide) (by rw [show sp_diff M f a = (sp_lb M f a, 0, M) from (if_neg (by rw [sp_has_lb (by omega)]; omega)).trans (by rw [sp_has_lb (by omega)])]; exact rdpost.thk n7)
  have qz := sp_lb_0 a7
  have qh := sp_has_lb (M := M) (f := f) (a := a) (by omega)
  have qt := hI.ht1 a qz.1.1 qz.1.2
  have qe := hI.hed a qz.1.1 (by omega)
  have qv := bl_lv (M := M) (f := f) (a := a) (by omega) qz.1 qz.2.2
  refine v_astore_3 (pc' := 11) F d_S_difference_10 rfl rfl (by decide) ?_
  refine v_aload_n (pc' := 12) (j := 0) F d_S_difference_11 rfl rfl rfl ?_
  refine v_getf (pc' := 15) (C := zR_S) (T := zF_S) (N := 6) (ref := "BillShares") F d_S_difference_12 rfl zi_S rfl 5 (by decide) wx_62 (Or.inl rfl) (hC.t_top) rfl ?_
  refine v_iload_n (pc' := 16) (j := 2) F d_S_difference_15 rfl rfl rfl ?_
  refine cg_eds (pc' := 17) F hC d_S_difference_16 rfl (by omega) (by omega) ?_
  refine v_iconst (pc' := 18) F d_S_difference_17 rfl ?_
  refine v_icmp_ne (tgt := 25) (pc' := 21) F d_S_difference_18 (by decide) rfl (by omega) (by omega) (fun c18 => ?_) (fun c18 => ?_)
  · refine v_aload_n (pc' := 26) (j := 3) F d_S_difference_25 rfl rfl rfl ?_
    refine v_callVP (pc' := 29) (C := zR_B) (T9 := zF_B) (N := 3) F d_S_difference_26 rfl cal_B_total wx_508 wx_509 wx_510 rfl (hC.t_bl (i := (20 * a + f)) qv) (c_B_total l X _ _ _ _ _ _ _ hC qv) rfl ⟨by decide, by decide, by decide, by decide⟩ (Nat.le_of_ble_eq_true rfl) rfl rfl ?_
    refine v_aload_n (pc' := 30) (j := 3) F d_S_difference_29 rfl rfl rfl ?_
    refine v_getf (pc' := 33) (C := zR_B) (T := zF_B) (N := 3) (ref := "BillShares$Bill") F d_S_difference_30 rfl zi_B rfl 2 (by decide) wx_500 (Or.inl rfl) (hC.t_bl (i := (20 * a + f)) qv) rfl ?_
    refine v_lsub (pc' := 34) F d_S_difference_33 rfl ?_
    exact v_lreturn F d_S_difference_34 rfl (by decide) (by decide) (by first | (rw [show sp_diff M f a = (0, 0, M) from (if_pos (by omega)).trans (by rw [if_pos (by omega)])]; exact Or.inl ⟨rfl, rfl, rfl, rfl⟩) | (rw [show sp_diff M f a = (0, sp_share M f a - (if f < M 22 a then M 25 (20 * a + f) else 0), M) from (if_pos (by omega)).trans (by rw [if_neg (show ¬ M 20 a = 1 by omega)]), sp_tot_s, hN.hbe a f (by omega) (by omega) (by omega) (by omega)]; exact Or.inl ⟨rfl, rfl, rfl, rfl⟩))
  · refine v_lconst (pc' := 22) (z := 0) F d_S_difference_21 rfl (by decide) ?_
    refine v_goto (tgt := 34) F d_S_difference_22 (by decide) ?_
    exact v_lreturn F d_S_difference_34 rfl (by decide) (by decide) (by first | (rw [show sp_diff M f a = (0, 0, M) from (if_pos (by omega)).trans (by rw [if_pos (by omega)])]; exact Or.inl ⟨rfl, rfl, rfl, rfl⟩) | (rw [show sp_diff M f a = (0, sp_share M f a - (if f < M 22 a then M 25 (20 * a + f) else 0), M) from (if_pos (by omega)).trans (by rw [if_neg (show ¬ M 20 a = 1 by omega)]), sp_tot_s, hN.hbe a f (by omega) (by omega) (by omega) (by omega)]; exact Or.inl ⟨rfl, rfl, rfl, rfl⟩))
set_option maxRecDepth 100000 in
set_option maxHeartbeats 4000000 in
theorem c_S_line (l : Launch) (X : am_X) (h : am_H) (nx : Nat) (x : Nat) (A : Nat → Prop) (P : Tg → Nat) (M : MS) (f k0 a w : Int) (ht : l.flags = pinnedFlags ++ [noTraceFlag]) (hC : RepC X x A P M h) (hI : RI M) (hN : NI M) (rf : -2147483648 ≤ f ∧ f < 2147483648) (rk : -2147483648 ≤ k0 ∧ k0 < 2147483648) (ra : -2147483648 ≤ a ∧ a < 2147483648) (rww : -2147483648 ≤ w ∧ w < 2147483648) : Cn l X y_S_line ({ frames := 9, cells := 5, slots := 30, locals := 157 }) [.ref (P (0, 0)), iV f, iV k0, iV a, iV w] h nx (rdpost lV (sp_lineR M f k0 a w) h nx) := by
  refine cn_of (k := 2) (L0 := [some (.ref (P (0, 0))), some (iV f), some (iV k0), some (iV a), some (iV w), none, none]) rfl wx_594 (Nat.le_of_ble_eq_true rfl) rfl (fun p e s m args below meth c F => ?_)
  have q1 := hI.hfl
  have q7 := hI.hme
  refine v_aload_n (pc' := 1) (j := 0) F d_S_line_0 rfl rfl rfl ?_
  refine v_iload_n (pc' := 2) (j := 1) F d_S_line_1 rfl rfl rfl ?_
  refine v_callVR (pc' := 5) (C := zR_S) (T9 := zF_S) (N := 6) F d_S_line_2 rfl cal_S_flatAt wx_313 wx_315 wp_6 rfl (hC.t_top) (c_S_flatAt l X _ _ _ _ _ _ _ ht hC hI hN (by omega)) rfl ⟨by decide, by decide, by decide, by decide⟩ (Nat.le_of_ble_eq_true rfl) (fun n2 fs9 => ?_) (fun a2 => ?_)
  · exact v_out F (by decide) (by decide) (by rw [show sp_lineR M f k0 a w = (1, 0, M) from (if_neg (by rw [sp_has_nf (by omega)]; omega)).trans (by rw [sp_has_nf (by omega)]; split <;> rfl)]; exact rdpost.thr)
  refine v_astore_5 (pc' := 7) F d_S_line_5 rfl rfl (by decide) ?_
  refine v_iload_n (pc' := 8) (j := 2) F d_S_line_7 rfl rfl rfl ?_
  refine v_callSR (pc' := 11) F d_S_line_8 rfl cal_S_checkKind wx_318 wx_319 (c_S_checkKind l X _ _ _ ht (by omega)) rfl ⟨by decide, by decide, by decide, by decide⟩ (Nat.le_of_ble_eq_true rfl) (fun n8 fs9 => ?_) (fun a8 => ?_)
  · exact v_out F (by decide) (by decide) (by rw [show sp_lineR M f k0 a w = (1, 0, M) from (if_neg (by omega)).trans (by rw [if_neg (by omega)])]; exact rdpost.thr)
  refine v_iload (pc' := 13) F d_S_line_11 rfl rfl ?_
  refine v_iconst (pc' := 14) F d_S_line_13 rfl ?_
  refine v_iconst (pc' := 15) F d_S_line_14 rfl ?_
  refine v_callSR (pc' := 18) F d_S_line_15 rfl cal_S_checkBounds wx_86 wx_87 (c_S_checkBounds l X _ _ _ _ _ ht (by omega) (by omega) (by omega)) rfl ⟨by decide, by decide, by decide, by decide⟩ (Nat.le_of_ble_eq_true rfl) (fun n15 fs9 => ?_) (fun a15 => ?_)
  · exact v_out F (by decide) (by decide) (by rw [show sp_lineR M f k0 a w = (1, 0, M) from (if_neg (by omega)).trans (by rw [if_neg (by omega)])]; exact rdpost.thr)
  refine v_aload_n (pc' := 19) (j := 0) F d_S_line_18 rfl rfl rfl ?_
  refine v_aload (pc' := 21) F d_S_line_19 rfl rfl ?_
  refine v_iload_n (pc' := 22) (j := 3) F d_S_line_21 rfl rfl rfl ?_
  refine v_callVK (pc' := 25) (C := zR_S) (T9 := zF_S) (N := 6) F d_S_line_22 rfl cal_S_latestBill wx_595 wx_597 wp_15 rfl (hC.t_top) (c_S_latestBill l X _ _ _ _ _ _ _ _ ht hC hI hN (by omega) (by omega)) rfl ⟨by decide, by decide, by decide, by decide⟩ (Nat.le_of_ble_eq_true rfl) (fun n22 fs9 => ?_) (fun a22 => ?_)
  · exact v_out F (by decide) (by decide) (by rw [show sp_lineR M f k0 a w = (sp_lb M f a, 0, M) from (if_neg (by rw [sp_has_lb (by omega)]; omega)).trans (by rw [if_pos (by omega), sp_has_lb (by omega)])]; exact rdpost.thk n22)
  have qz := sp_lb_0 a22
  have qh := sp_has_lb (M := M) (f := f) (a := a) (by omega)
  have qt := hI.ht1 a qz.1.1 qz.1.2
  have qe := hI.hed a qz.1.1 (by omega)
  have qv := bl_lv (M := M) (f := f) (a := a) (by omega) qz.1 qz.2.2
  refine v_astore_6 (pc' := 27) F d_S_line_25 rfl rfl (by decide) ?_
  refine v_iload (pc' := 29) F d_S_line_27 rfl rfl ?_
  refine v_iconst (pc' := 30) F d_S_line_29 rfl ?_
  refine v_icmp_ne (tgt := 43) (pc' := 33) F d_S_line_30 (by decide) rfl (by omega) (by omega) (fun c30 => ?_) (fun c30 => ?_)
  · refine v_aload (pc' := 45) F d_S_line_43 rfl rfl ?_
    refine v_getf (pc' := 48) (C := zR_B) (T := zF_B) (N := 3) (ref := "BillShares$Bill") F d_S_line_45 rfl zi_B rfl 0 (by decide) wx_496 (Or.inl rfl) (hC.t_bl (i := (20 * a + f)) qv) rfl ?_
    refine v_iload_n (pc' := 49) (j := 2) F d_S_line_48 rfl rfl rfl ?_
    refine cg_bb (pc' := 50) F hC (f := (20 * a + f)) qv d_S_line_49 rfl (by omega) (by omega) ?_
    refine v_aload (pc' := 52) F d_S_line_50 rfl rfl ?_
    refine v_getf (pc' := 55) (C := zR_B) (T := zF_B) (N := 3) (ref := "BillShares$Bill") F d_S_line_52 rfl zi_B rfl 1 (by decide) wx_498 (Or.inl rfl) (hC.t_bl (i := (20 * a + f)) qv) rfl ?_
    refine v_iload_n (pc' := 56) (j := 2) F d_S_line_55 rfl rfl rfl ?_
    refine cg_bu (pc' := 57) F hC (f := (20 * a + f)) qv d_S_line_56 rfl (by omega) (by omega) ?_
    refine v_ladd (pc' := 58) F d_S_line_57 rfl ?_
    exact v_lreturn F d_S_line_58 rfl (by decide) (by decide) (by first | (rw [show sp_lineR M f k0 a w = (0, M 23 (80 * a + 4 * f + k0) + 0, M) from (if_pos (by omega)).trans (by rw [if_neg (by omega)]), Int.add_zero]; rw [show 4 * (20 * a + f) + k0 = 80 * a + 4 * f + k0 by omega]; exact Or.inl ⟨rfl, rfl, rfl, rfl⟩) | (rw [show sp_lineR M f k0 a w = (0, M 23 (80 * a + 4 * f + k0) + M 24 (80 * a + 4 * f + k0), M) from (if_pos (by omega)).trans (by rw [if_pos (by omega)])]; rw [show 4 * (20 * a + f) + k0 = 80 * a + 4 * f + k0 by omega]; exact Or.inl ⟨rfl, rfl, rfl, rfl⟩))
  · refine v_aload (pc' := 35) F d_S_line_33 rfl rfl ?_
    refine v_getf (pc' := 38) (C := zR_B) (T := zF_B) (N := 3) (ref := "BillShares$Bill") F d_S_line_35 rfl zi_B rfl 0 (by decide) wx_496 (Or.inl rfl) (hC.t_bl (i := (20 * a + f)) qv) rfl ?_
    refine v_iload_n (pc' := 39) (j := 2) F d_S_line_38 rfl rfl rfl ?_
    refine cg_bb (pc' := 40) F hC (f := (20 * a + f)) qv d_S_line_39 rfl (by omega) (by omega) ?_
    refine v_goto (tgt := 58) F d_S_line_40 (by decide) ?_
    exact v_lreturn F d_S_line_58 rfl (by decide) (by decide) (by first | (rw [show sp_lineR M f k0 a w = (0, M 23 (80 * a + 4 * f + k0) + 0, M) from (if_pos (by omega)).trans (by rw [if_neg (by omega)]), Int.add_zero]; rw [show 4 * (20 * a + f) + k0 = 80 * a + 4 * f + k0 by omega]; exact Or.inl ⟨rfl, rfl, rfl, rfl⟩) | (rw [show sp_lineR M f k0 a w = (0, M 23 (80 * a + 4 * f + k0) + M 24 (80 * a + 4 * f + k0), M) from (if_pos (by omega)).trans (by rw [if_pos (by omega)])]; rw [show 4 * (20 * a + f) + k0 = 80 * a + 4 * f + k0 by omega]; exact Or.inl ⟨rfl, rfl, rfl, rfl⟩))
