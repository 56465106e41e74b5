/-! java.util.ArrayList and what it calls (written by wip/whole/cl1.py) -/
set_option maxRecDepth 100000 in
set_option maxHeartbeats 4000000 in
theorem c_PR_checkIndex (l : Launch) (X : am_X) (h : am_H) (nx : Nat) (i n : Int) (hi : 0 ≤ i ∧ i < n) (rn : n < 2147483648) : CnP l X y_PR_checkIndex ({ frames := 0, cells := 0, slots := 0, locals := 0 }) [iV i, iV n, .null] h nx (iV i) := by
  refine cn_of (k := 0) (L0 := [some (iV i), some (iV n), some (.null)]) rfl wx_292 (Nat.le_of_ble_eq_true rfl) rfl (fun p e s m args below meth c F => ?_)
  refine v_iload_n (pc' := 1) (j := 0) F d_PR_checkIndex_0 rfl rfl rfl ?_
  refine v_if_lt (tgt := 9) (pc' := 4) F d_PR_checkIndex_1 (by decide) rfl (by omega) (fun c1 => ?_) (fun c1 => ?_)
  · exfalso; omega
  · refine v_iload_n (pc' := 5) (j := 0) F d_PR_checkIndex_4 rfl rfl rfl ?_
    refine v_iload_n (pc' := 6) (j := 1) F d_PR_checkIndex_5 rfl rfl rfl ?_
    refine v_icmp_lt (tgt := 16) (pc' := 9) F d_PR_checkIndex_6 (by decide) rfl (by omega) (by omega) (fun c6 => ?_) (fun c6 => ?_)
    · refine v_iload_n (pc' := 17) (j := 0) F d_PR_checkIndex_16 rfl rfl rfl ?_
      exact v_ireturn F rfl d_PR_checkIndex_17 rfl rfl (Nat.le_refl _) (Nat.le_refl _) ⟨rfl, rfl, rfl⟩
    · exfalso; omega
set_option maxRecDepth 100000 in
set_option maxHeartbeats 4000000 in
theorem c_OB_checkIndex (l : Launch) (X : am_X) (h : am_H) (nx : Nat) (i n : Int) (hi : 0 ≤ i ∧ i < n) (rn : n < 2147483648) : CnP l X y_OB_checkIndex ({ frames := 1, cells := 0, slots := 0, locals := 22 }) [iV i, iV n] h nx (iV i) := by
  refine cn_of (k := 0) (L0 := [some (iV i), some (iV n)]) rfl wx_289 (Nat.le_of_ble_eq_true rfl) rfl (fun p e s m args below meth c F => ?_)
  refine v_iload_n (pc' := 1) (j := 0) F d_OB_checkIndex_0 rfl rfl rfl ?_
  refine v_iload_n (pc' := 2) (j := 1) F d_OB_checkIndex_1 rfl rfl rfl ?_
  refine v_null (pc' := 3) F d_OB_checkIndex_2 rfl ?_
  refine v_callSP (pc' := 6) F d_OB_checkIndex_3 rfl cal_PR_checkIndex wx_290 wx_291 (c_PR_checkIndex l X _ _ _ _ hi rn) rfl ⟨by decide, by decide, by decide, by decide⟩ (Nat.le_of_ble_eq_true rfl) rfl rfl ?_
  exact v_ireturn F rfl d_OB_checkIndex_6 rfl rfl (Nat.le_refl _) (Nat.le_refl _) ⟨rfl, rfl, rfl⟩
set_option maxRecDepth 100000 in
set_option maxHeartbeats 4000000 in
theorem c_A_size (l : Launch) (X : am_X) (h : am_H) (nx : Nat) (a ar : Nat) (n md : Int) (hl : h a = some (.inr (5, [.ref ar, iV n, iV md]))) : CnP l X y_A_size ({ frames := 0, cells := 0, slots := 0, locals := 0 }) [.ref a] h nx (iV n) := by
  refine cn_of (k := 0) (L0 := [some (.ref a)]) rfl wx_159 (Nat.le_of_ble_eq_true rfl) rfl (fun p e s m args below meth c F => ?_)
  refine v_aload_n (pc' := 1) (j := 0) F d_A_size_0 rfl rfl rfl ?_
  refine v_getf (pc' := 4) (C := zR_A) (T := zF_A) (N := 3) (ref := "java/util/ArrayList") F d_A_size_1 rfl zi_A rfl 1 (by decide) wx_43 (Or.inl rfl) hl rfl ?_
  exact v_ireturn F rfl d_A_size_4 rfl rfl (Nat.le_refl _) (Nat.le_refl _) ⟨rfl, rfl, rfl⟩
set_option maxRecDepth 100000 in
set_option maxHeartbeats 4000000 in
theorem c_A_isEmpty (l : Launch) (X : am_X) (h : am_H) (nx : Nat) (a ar : Nat) (n md : Int) (hl : h a = some (.inr (5, [.ref ar, iV n, iV md]))) (rn : 0 ≤ n ∧ n < 2147483648) : CnP l X y_A_isEmpty ({ frames := 0, cells := 0, slots := 0, locals := 0 }) [.ref a] h nx (iV (bI (n = 0))) := by
  refine cn_of (k := 0) (L0 := [some (.ref a)]) rfl wx_480 (Nat.le_of_ble_eq_true rfl) rfl (fun p e s m args below meth c F => ?_)
  refine v_aload_n (pc' := 1) (j := 0) F d_A_isEmpty_0 rfl rfl rfl ?_
  refine v_getf (pc' := 4) (C := zR_A) (T := zF_A) (N := 3) (ref := "java/util/ArrayList") F d_A_isEmpty_1 rfl zi_A rfl 1 (by decide) wx_43 (Or.inl rfl) hl rfl ?_
  refine v_if_ne (tgt := 11) (pc' := 7) F d_A_isEmpty_4 (by decide) rfl (by omega) (fun c4 => ?_) (fun c4 => ?_)
  · refine v_iconst (pc' := 12) F d_A_isEmpty_11 rfl ?_
    exact v_ireturn F rfl d_A_isEmpty_12 rfl rfl (Nat.le_refl _) (Nat.le_refl _) ⟨by first | rw [bI_t (by omega)] | rw [bI_f (by omega)], rfl, rfl⟩
  · refine v_iconst (pc' := 8) F d_A_isEmpty_7 rfl ?_
    refine v_goto (tgt := 12) F d_A_isEmpty_8 (by decide) ?_
    exact v_ireturn F rfl d_A_isEmpty_12 rfl rfl (Nat.le_refl _) (Nat.le_refl _) ⟨by first | rw [bI_t (by omega)] | rw [bI_f (by omega)], rfl, rfl⟩
set_option maxRecDepth 100000 in
set_option maxHeartbeats 4000000 in
theorem c_A_elementData (l : Launch) (X : am_X) (h : am_H) (nx : Nat) (a ar N r : Nat) (n md i : Int) (g : Nat → Value) (hl : h a = some (.inr (5, [.ref ar, iV n, iV md]))) (ha : h ar = some (.inl (2, N, g))) (hN : N < 2147483648) (hi : 0 ≤ i ∧ i < n) (hn : n ≤ N) (hv : g i.toNat = .ref r) : CnP l X y_A_elementData ({ frames := 0, cells := 0, slots := 0, locals := 0 }) [.ref a, iV i] h nx (.ref r) := by
  refine cn_of (k := 0) (L0 := [some (.ref a), some (iV i)]) rfl wx_296 (Nat.le_of_ble_eq_true rfl) rfl (fun p e s m args below meth c F => ?_)
  refine v_aload_n (pc' := 1) (j := 0) F d_A_elementData_0 rfl rfl rfl ?_
  refine v_getf (pc' := 4) (C := zR_A) (T := zF_A) (N := 3) (ref := "java/util/ArrayList") F d_A_elementData_1 rfl zi_A rfl 0 (by decide) wx_42 (Or.inl rfl) hl rfl ?_
  refine v_iload_n (pc' := 5) (j := 1) F d_A_elementData_4 rfl rfl rfl ?_
  refine v_aald (pc' := 6) (C := "java/lang/Object") F d_A_elementData_5 rfl (by decide) ha (by omega) (by omega) (by omega) hv ?_
  exact v_areturn F d_A_elementData_6 rfl (Or.inl ⟨_, rfl⟩) (Or.inr ⟨_, rfl⟩) (Nat.le_refl _) (Nat.le_refl _) ⟨rfl, rfl, rfl⟩
set_option maxRecDepth 100000 in
set_option maxHeartbeats 4000000 in
theorem c_A_get (l : Launch) (X : am_X) (h : am_H) (nx : Nat) (a ar N r : Nat) (n md i : Int) (g : Nat → Value) (hl : h a = some (.inr (5, [.ref ar, iV n, iV md]))) (ha : h ar = some (.inl (2, N, g))) (hN : N < 2147483648) (hi : 0 ≤ i ∧ i < n) (hn : n ≤ N) (hv : g i.toNat = .ref r) : CnP l X y_A_get ({ frames := 2, cells := 0, slots := 0, locals := 43 }) [.ref a, iV i] h nx (.ref r) := by
  refine cn_of (k := 0) (L0 := [some (.ref a), some (iV i)]) rfl wx_286 (Nat.le_of_ble_eq_true rfl) rfl (fun p e s m args below meth c F => ?_)
  refine v_iload_n (pc' := 1) (j := 1) F d_A_get_0 rfl rfl rfl ?_
  refine v_aload_n (pc' := 2) (j := 0) F d_A_get_1 rfl rfl rfl ?_
  refine v_getf (pc' := 5) (C := zR_A) (T := zF_A) (N := 3) (ref := "java/util/ArrayList") F d_A_get_2 rfl zi_A rfl 1 (by decide) wx_43 (Or.inl rfl) hl rfl ?_
  refine v_callSP (pc' := 8) F d_A_get_5 rfl cal_OB_checkIndex wx_287 wx_288 (c_OB_checkIndex l X _ _ _ _ hi (by omega)) rfl ⟨by decide, by decide, by decide, by decide⟩ (Nat.le_of_ble_eq_true rfl) rfl rfl ?_
  refine v_pop (pc' := 9) F d_A_get_8 rfl rfl ?_
  refine v_aload_n (pc' := 10) (j := 0) F d_A_get_9 rfl rfl rfl ?_
  refine v_iload_n (pc' := 11) (j := 1) F d_A_get_10 rfl rfl rfl ?_
  refine v_callVP (pc' := 14) (C := zR_A) (T9 := zF_A) (N := 3) F d_A_get_11 rfl cal_A_elementData wx_293 wx_294 wx_295 rfl hl (c_A_elementData l X _ _ _ _ _ _ _ _ _ _ hl ha hN hi hn hv) rfl ⟨by decide, by decide, by decide, by decide⟩ (Nat.le_of_ble_eq_true rfl) rfl rfl ?_
  exact v_areturn F d_A_get_14 rfl (Or.inl ⟨_, rfl⟩) (Or.inr ⟨_, rfl⟩) (Nat.le_refl _) (Nat.le_refl _) ⟨rfl, rfl, rfl⟩
set_option maxRecDepth 100000 in
set_option maxHeartbeats 4000000 in
theorem c_AR_newLength (l : Launch) (X : am_X) (h : am_H) (nx : Nat) (o1 a b : Int) (r1 : 0 ≤ o1 ∧ o1 < 1000) (ra : 1 ≤ a ∧ a < 1000) (rb : 0 ≤ b ∧ b < 1000) : CnP l X y_AR_newLength ({ frames := 1, cells := 0, slots := 0, locals := 22 }) [iV o1, iV a, iV b] h nx (iV (o1 + (if a < b then b else a))) := by
  refine cn_of (k := 1) (L0 := [some (iV o1), some (iV a), some (iV b), none]) rfl wx_242 (Nat.le_of_ble_eq_true rfl) rfl (fun p e s m args below meth c F => ?_)
  refine v_iload_n (pc' := 1) (j := 0) F d_AR_newLength_0 rfl rfl rfl ?_
  refine v_iload_n (pc' := 2) (j := 1) F d_AR_newLength_1 rfl rfl rfl ?_
  refine v_iload_n (pc' := 3) (j := 2) F d_AR_newLength_2 rfl rfl rfl ?_
  refine v_mmax (pc' := 6) F d_AR_newLength_3 rfl wx_243 (by decide) (Nat.le_of_ble_eq_true rfl) (by decide) (by decide) (by omega) (by omega) ?_
  refine v_iadd (pc' := 7) F d_AR_newLength_6 rfl ?_
  refine v_istore_3 (pc' := 8) F d_AR_newLength_7 rfl rfl (by decide) ?_
  refine v_iconst (pc' := 9) F d_AR_newLength_8 rfl ?_
  refine v_iload_n (pc' := 10) (j := 3) F d_AR_newLength_9 rfl rfl rfl ?_
  refine v_icmp_ge (tgt := 21) (pc' := 13) F d_AR_newLength_10 (by decide) rfl (by omega) (by split <;> omega) (fun c10 => ?_) (fun c10 => ?_)
  · exfalso; split at c10 <;> omega
  · refine v_iload_n (pc' := 14) (j := 3) F d_AR_newLength_13 rfl rfl rfl ?_
    refine v_ldc (pc' := 16) (z := 2147483639) F d_AR_newLength_14 rfl wx_246 (by decide) ?_
    refine v_icmp_gt (tgt := 21) (pc' := 19) F d_AR_newLength_16 (by decide) rfl (by split <;> omega) (by omega) (fun c16 => ?_) (fun c16 => ?_)
    · exfalso; split at c16 <;> omega
    · refine v_iload_n (pc' := 20) (j := 3) F d_AR_newLength_19 rfl rfl rfl ?_
      exact v_ireturn F rfl d_AR_newLength_20 rfl rfl (Nat.le_refl _) (Nat.le_refl _) ⟨rfl, rfl, rfl⟩
theorem am_up_up {h : am_H} {a : Nat} {e e' : am_E} : am_up (am_up h a e) a e' = am_up h a e' := by
  funext b
  unfold am_up
  by_cases q : b = a
  · rw [if_pos q, if_pos q]
  · rw [if_neg q, if_neg q, if_neg q]
theorem am_ok_up {h : am_H} {a : Nat} {E : String} {v : Value} {ai N : Nat} {g : Nat → Value} (hn : h a = none ∨ ∃ (N' : Nat) (g' : Nat → Value) (ai' : Nat), h a = some (.inl (ai', N', g'))) (hv : am_ok h E v) : am_ok (am_up h a (.inl (ai, N, g))) E v := by
  rcases hv with q | ⟨y, ci, fs, C, T9, N9, q1, q2, q3, q4⟩
  · exact Or.inl q
  · refine Or.inr ⟨y, ci, fs, C, T9, N9, q1, ?_, q3, q4⟩
    rw [am_up_n (fun e => ?_)]
    · exact q2
    · subst e
      rcases hn with w | ⟨_, _, _, w⟩
      · rw [w] at q2; cases q2
      · rw [w] at q2; cases q2
theorem cpy_all {g : Nat → Value} {N : Nat} (hg : ∀ i : Nat, N ≤ i → g i = .null) : va_cpy g (fun _ => Value.null) 0 0 N = g := by
  funext j
  by_cases q : j < N
  · rw [pk_cpy_in (by omega) (by omega), show 0 + (j - 0) = j by omega]
  · rw [pk_cpy_out (by omega), hg j (by omega)]
/-- a heap that knows nothing from nx on -/
def am_fr (h : am_H) (nx : Nat) : Prop := ∀ a : Nat, nx ≤ a → h a = none
theorem v_fr {p : Program} {l : Launch} {e : Env} {R : Room} {s : State} {m : MethodId} {args : Array Value} {below : List Frame} {meth : Method} {c : Code} {nL : Nat} {X : am_X} {Q : State → Prop} {h : am_H} {nx cells slots pc : Nat} {L : List (Option Value)} {st : List Value} (k : am_fr h nx → V p l e R s m args below meth c nL X Q h nx cells slots pc L st) : V p l e R s m args below meth c nL X Q h nx cells slots pc L st := fun H locs ls hR hL hl => k (fun a ha => by
  cases hq : h a with
  | none => rfl
  | some e => have := am_R_lt hR hq; omega) H locs ls hR hL hl
set_option maxRecDepth 100000 in
set_option maxHeartbeats 4000000 in
theorem c_AS_copyOf2 (l : Launch) (X : am_X) (h : am_H) (nx : Nat) (a0 N : Nat) (n1 : Int) (g : Nat → Value) (ha : h a0 = some (.inl (2, N, g))) (hN : (N : Int) ≤ n1 ∧ n1 ≤ 100) (hg : ∀ i : Nat, N ≤ i → g i = .null) (hel : ∀ i : Nat, i < N → am_ok h "java/lang/Object" (g i)) : Cn l X y_AS_copyOf2 ({ frames := 1, cells := 1, slots := 100, locals := 48 }) [.ref a0, iV n1, .ref (X.2.1 9)] h nx (fun o h' nx' => o = .returned (some (.ref nx)) ∧ h' = am_up h nx (.inl (2, n1.toNat, g)) ∧ nx' = nx + 1) := by
  refine cn_of (k := 1) (L0 := [some (.ref a0), some (iV n1), some (.ref (X.2.1 9)), none]) rfl wx_267 (Nat.le_of_ble_eq_true rfl) rfl (fun p e s m args below meth c F => ?_)
  refine v_fr (fun hfr => ?_)
  refine v_aload_n (pc' := 1) (j := 2) F d_AS_copyOf2_0 rfl rfl rfl ?_
  refine v_ldcM (pc' := 3) F d_AS_copyOf2_1 rfl wx_268 ?_
  refine v_acmp_ne (tgt := 13) (pc' := 6) F d_AS_copyOf2_3 (by decide) rfl (fun c3 => ?_) (fun c3 => ?_)
  · exact absurd rfl c3
  · refine v_iload_n (pc' := 7) (j := 1) F d_AS_copyOf2_6 rfl rfl rfl ?_
    refine v_anew (pc' := 10) (ai := 2) (E := "java/lang/Object") F d_AS_copyOf2_7 rfl (by decide) wx_270 wx_269 (by omega) (by omega) (by decide) (by show 0 + n1.toNat ≤ 100; omega) ?_
    refine v_goto (tgt := 24) F d_AS_copyOf2_10 (by decide) ?_
    refine v_astore_3 (pc' := 25) F d_AS_copyOf2_24 rfl rfl (by decide) ?_
    have hne : a0 ≠ nx := fun q => by rw [q, hfr nx (Nat.le_refl _)] at ha; cases ha
    refine v_aload_n (pc' := 26) (j := 0) F d_AS_copyOf2_25 rfl rfl rfl ?_
    refine v_iconst (pc' := 27) F d_AS_copyOf2_26 rfl ?_
    refine v_aload_n (pc' := 28) (j := 3) F d_AS_copyOf2_27 rfl rfl rfl ?_
    refine v_iconst (pc' := 29) F d_AS_copyOf2_28 rfl ?_
    refine v_aload_n (pc' := 30) (j := 0) F d_AS_copyOf2_29 rfl rfl rfl ?_
    refine v_alen (pc' := 31) (ai := 2) (ty := .object "java/lang/Object") F d_AS_copyOf2_30 rfl (by decide) ((am_up_n hne).trans ha) ?_
    refine v_iload_n (pc' := 32) (j := 1) F d_AS_copyOf2_31 rfl rfl rfl ?_
    refine v_mmin (pc' := 35) F d_AS_copyOf2_32 rfl wx_271 (by decide) (Nat.le_of_ble_eq_true rfl) (by decide) (by show 0 + n1.toNat ≤ 100; omega) (by omega) (by omega) ?_
    refine v_copyA (pc' := 38) F d_AS_copyOf2_35 rfl wx_274 wx_276 wx_275 wx_15 ((am_up_n hne).trans ha) am_up_s (by omega) (by omega) (by omega) (by split <;> omega) (by split <;> omega) (by split <;> omega) (fun i hi => am_ok_up (Or.inl (hfr nx (Nat.le_refl _))) (hel _ (by show 0 + i < N; split at hi <;> omega))) (by decide) (Nat.le_of_ble_eq_true rfl) ?_
    rw [show (if n1 < (N : Int) then n1 else (N : Int)) = (N : Int) from if_neg (by omega)]
    refine v_eqh (h' := am_up h nx (.inl (2, n1.toNat, g))) (by rw [am_up_up]; show am_up h nx (.inl (2, n1.toNat, va_cpy g (fun _ => Value.null) 0 0 (((N : Nat) : Int)).toNat)) = _; rw [show (((N : Nat) : Int)).toNat = N by omega, cpy_all hg]) ?_
    refine v_aload_n (pc' := 39) (j := 3) F d_AS_copyOf2_38 rfl rfl rfl ?_
    exact v_areturn F d_AS_copyOf2_39 rfl (Or.inr ⟨_, rfl⟩) (Or.inr ⟨_, rfl⟩) (Nat.le_refl _) (by show 0 + n1.toNat ≤ 100; omega) ⟨rfl, rfl, rfl⟩
set_option maxRecDepth 100000 in
set_option maxHeartbeats 4000000 in
theorem c_AS_copyOf (l : Launch) (X : am_X) (h : am_H) (nx : Nat) (a0 N : Nat) (n1 : Int) (g : Nat → Value) (ha : h a0 = some (.inl (2, N, g))) (hN : (N : Int) ≤ n1 ∧ n1 ≤ 100) (hg : ∀ i : Nat, N ≤ i → g i = .null) (hel : ∀ i : Nat, i < N → am_ok h "java/lang/Object" (g i)) : Cn l X y_AS_copyOf ({ frames := 2, cells := 1, slots := 100, locals := 71 }) [.ref a0, iV n1] h nx (fun o h' nx' => o = .returned (some (.ref nx)) ∧ h' = am_up h nx (.inl (2, n1.toNat, g)) ∧ nx' = nx + 1) := by
  refine cn_of (k := 0) (L0 := [some (.ref a0), some (iV n1)]) rfl wx_252 (Nat.le_of_ble_eq_true rfl) rfl (fun p e s m args below meth c F => ?_)
  refine v_aload_n (pc' := 1) (j := 0) F d_AS_copyOf_0 rfl rfl rfl ?_
  refine v_iload_n (pc' := 2) (j := 1) F d_AS_copyOf_1 rfl rfl rfl ?_
  refine v_aload_n (pc' := 3) (j := 0) F d_AS_copyOf_2 rfl rfl rfl ?_
  refine v_getC (pc' := 6) F d_AS_copyOf_3 rfl wx_253 wx_919 wx_918 wx_254 wx_264 ha (by decide) (Nat.le_of_ble_eq_true rfl) ?_
  refine v_callS (pc' := 9) F d_AS_copyOf_6 rfl cal_AS_copyOf2 wx_265 wx_266 (c_AS_copyOf2 l X _ _ _ _ _ _ ha hN hg hel) rfl ⟨by decide, by decide, by decide, by decide⟩ (Nat.le_of_ble_eq_true rfl) (fun _ _ _ q => by cases q.1) (fun r9 h' nx' q => ?_)
  obtain ⟨q1, rfl, rfl⟩ := q
  cases q1
  exact v_areturn F d_AS_copyOf_9 rfl (Or.inr ⟨_, rfl⟩) (Or.inr ⟨_, rfl⟩) (Nat.le_refl _) (Nat.le_refl _) ⟨rfl, rfl, rfl⟩
