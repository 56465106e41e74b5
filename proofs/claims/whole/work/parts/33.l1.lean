/-! java.util.ArrayList and what it calls (written by wip/whole/cl1.py) -/
set_option maxRecDepth 100000 in
set_option maxHeartbeats 4000000 in
theorem c_PR_checkIndex (l : Launch) (X : am_X) (h : am_H) (nx : Nat) (i n : Int) (hi : 0 ≤ i ∧ i < n) (rn : n < 2147483648) : CnP l X y_PR_checkIndex ({ frames := 0, cells := 0, slots := 0, locals := 0 }) [iV i, iV n, .null] h nx (iV i) := by
  refine cn_of (k := 0) (L0 := [some (iV i), some (iV n), some (.null)]) rfl wx_292 (Nat.le_of_ble_eq_true rfl) rfl (fun p e s m args below meth c F => ?_)
  refine v_iload_n (pc' := 1) (j := 0) F d_PR_checkIndex_0 rfl rfl rfl ?_
  refine v_if_lt (tgt := 9) (pc' := 4) F d_PR_checkIndex_1 (by decide) rfl (by omega) (fun c1 => ?_) (fun c1 => ?_)
  · exfalso; omega
  · refine v_iload_n (pc' := 5) (j := 0) F d_PR_checkIndex_4 rfl rfl rfl ?_
    refine v_iload_n (pc' := 6) (j := 1) F d_PR_checkIndex_5 rfl rfl rfl ?_
    refine v_icmp_lt (tgt := 16) (pc' := 9) F d_PR_checkIndex_6 (by decide) rfl (by omega) (by omega) (fun c6 => ?_) (fun c6 => ?_)
    · refine v_iload_n (pc' := 17) (j := 0) F d_PR_checkIndex_16 rfl rfl rfl ?_
      exact v_ireturn F rfl d_PR_checkIndex_17 rfl rfl (Nat.le_refl _) (Nat.le_refl _) ⟨rfl, rfl, rfl⟩
    · exfalso; omega
set_option maxRecDepth 100000 in
set_option maxHeartbeats 4000000 in
theorem c_OB_checkIndex (l : Launch) (X : am_X) (h : am_H) (nx : Nat) (i n : Int) (hi : 0 ≤ i ∧ i < n) (rn : n < 2147483648) : CnP l X y_OB_checkIndex ({ frames := 1, cells := 0, slots := 0, locals := 22 }) [iV i, iV n] h nx (iV i) := by
  refine cn_of (k := 0) (L0 := [some (iV i), some (iV n)]) rfl wx_289 (Nat.le_of_ble_eq_true rfl) rfl (fun p e s m args below meth c F => ?_)
  refine v_iload_n (pc' := 1) (j := 0) F d_OB_checkIndex_0 rfl rfl rfl ?_
  refine v_iload_n (pc' := 2) (j := 1) F d_OB_checkIndex_1 rfl rfl rfl ?_
  refine v_null (pc' := 3) F d_OB_checkIndex_2 rfl ?_
  refine v_callSP (pc' := 6) F d_OB_checkIndex_3 rfl cal_PR_checkIndex wx_290 wx_291 (c_PR_checkIndex l X _ _ _ _ hi rn) rfl ⟨by decide, by decide, by decide, by decide⟩ (Nat.le_of_ble_eq_true rfl) rfl rfl ?_
  exact v_ireturn F rfl d_OB_checkIndex_6 rfl rfl (Nat.le_refl _) (Nat.le_refl _) ⟨rfl, rfl, rfl⟩
set_option maxRecDepth 100000 in
set_option maxHeartbeats 4000000 in
theorem c_A_size (l : Launch) (X : am_X) (h : am_H) (nx : Nat) (a ar : Nat) (n md : Int) (hl : h a = some (.inr (5, [.ref ar, iV n, iV md]))) : CnP l X y_A_size ({ frames := 0, cells := 0, slots := 0, locals := 0 }) [.ref a] h nx (iV n) := by
  refine cn_of (k := 0) (L0 := [some (.ref a)]) rfl wx_159 (Nat.le_of_ble_eq_true rfl) rfl (fun p e s m args below meth c F => ?_)
  refine v_aload_n (pc' := 1) (j := 0) F d_A_size_0 rfl rfl rfl ?_
  refine v_getf (pc' := 4) (C := zR_A) (T := zF_A) (N := 3) (ref := "java/util/ArrayList") F d_A_size_1 rfl zi_A rfl 1 (by decide) wx_43 (Or.inl rfl) hl rfl ?_
  exact v_ireturn F rfl d_A_size_4 rfl rfl (Nat.le_refl _) (Nat.le_refl _) ⟨rfl, rfl, rfl⟩
set_option maxRecDepth 100000 in
set_option maxHeartbeats 4000000 in
theorem c_A_isEmpty (l : Launch) (X : am_X) (h : am_H) (nx : Nat) (a ar : Nat) (n md : Int) (hl : h a = some (.inr (5, [.ref ar, iV n, iV md]))) (rn : 0 ≤ n ∧ n < 2147483648) : CnP l X y_A_isEmpty ({ frames := 0, cells := 0, slots := 0, locals := 0 }) [.ref a] h nx (iV (bI (n = 0))) := by
  refine cn_of (k := 0) (L0 := [some (.ref a)]) rfl wx_480 (Nat.le_of_ble_eq_true rfl) rfl (fun p e s m args below meth c F => ?_)
  refine v_aload_n (pc' := 1) (j := 0) F d_A_isEmpty_0 rfl rfl rfl ?_
  refine v_getf (pc' := 4) (C := zR_A) (T := zF_A) (N := 3) (ref := "java/util/ArrayList") F d_A_isEmpty_1 rfl zi_A rfl 1 (by decide) wx_43 (Or.inl rfl) hl rfl ?_
  refine v_if_ne (tgt := 11) (pc' := 7) F d_A_isEmpty_4 (by decide) rfl (by omega) (fun c4 => ?_) (fun c4 => ?_)
  · refine v_iconst (pc' := 12) F d_A_isEmpty_11 rfl ?_
    exact v_ireturn F rfl d_A_isEmpty_12 rfl rfl (Nat.le_refl _) (Nat.le_refl _) ⟨by first | rw [bI_t (by omega)] | rw [bI_f (by omega)], rfl, rfl⟩
  · refine v_iconst (pc' := 8) F d_A_isEmpty_7 rfl ?_
    refine v_goto (tgt := 12) F d_A_isEmpty_8 (by decide) ?_
    exact v_ireturn F rfl d_A_isEmpty_12 rfl rfl (Nat.le_refl _) (Nat.le_refl _) ⟨by first | rw [bI_t (by omega)] | rw [bI_f (by omega)], rfl, rfl⟩
set_option maxRecDepth 100000 in
set_option maxHeartbeats 4000000 in
theorem c_A_elementData (l : Launch) (X : am_X) (h : am_H) (nx : Nat) (a ar N r : Nat) (n md i : Int) (g : Nat → Value) (hl : h a = some (.inr (5, [.ref ar, iV n, iV md]))) (ha : h ar = some (.inl (2, N, g))) (hN : N < 2147483648) (hi : 0 ≤ i ∧ i < n) (hn : n ≤ N) (hv : g i.toNat = .ref r) : CnP l X y_A_elementData ({ frames := 0, cells := 0, slots := 0, locals := 0 }) [.ref a, iV i] h nx (.ref r) := by
  refine cn_of (k := 0) (L0 := [some (.ref a), some (iV i)]) rfl wx_296 (Nat.le_of_ble_eq_true rfl) rfl (fun p e s m args below meth c F => ?_)
  refine v_aload_n (pc' := 1) (j := 0) F d_A_elementData_0 rfl rfl rfl ?_
  refine v_getf (pc' := 4) (C := zR_A) (T := zF_A) (N := 3) (ref := "java/util/ArrayList") F d_A_elementData_1 rfl zi_A rfl 0 (by decide) wx_42 (Or.inl rfl) hl rfl ?_
  refine v_iload_n (pc' := 5) (j := 1) F d_A_elementData_4 rfl rfl rfl ?_
  refine v_aald (pc' := 6) (C := "java/lang/Object") F d_A_elementData_5 rfl (by decide) ha (by omega) (by omega) (by omega) hv ?_
  exact v_areturn F d_A_elementData_6 rfl (Or.inl ⟨_, rfl⟩) (Or.inr ⟨_, rfl⟩) (Nat.le_refl _) (Nat.le_refl _) ⟨rfl, rfl, rfl⟩
set_option maxRecDepth 100000 in
set_option maxHeartbeats 4000000 in
theorem c_A_get (l : Launch) (X : am_X) (h : am_H) (nx : Nat) (a ar N r : Nat) (n md i : Int) (g : Nat → Value) (hl : h a = some (.inr (5, [.ref ar, iV n, iV md]))) (ha : h ar = some (.inl (2, N, g))) (hN : N < 2147483648) (hi : 0 ≤ i ∧ i < n) (hn : n ≤ N) (hv : g i.toNat = .ref r) : CnP l X y_A_get ({ frames := 2, cells := 0, slots := 0, locals := 43 }) [.ref a, iV i] h nx (.ref r) := by
  refine cn_of (k := 0) (L0 := [some (.ref a), some (iV i)]) rfl wx_286 (Nat.le_of_ble_eq_true rfl) rfl (fun p e s m args below meth c F => ?_)
  refine v_iload_n (pc' := 1) (j := 1) F d_A_get_0 rfl rfl rfl ?_
  refine v_aload_n (pc' := 2) (j := 0) F d_A_get_1 rfl rfl rfl ?_
  refine v_getf (pc' := 5) (C := zR_A) (T := zF_A) (N := 3) (ref := "java/util/ArrayList") F d_A_get_2 rfl zi_A rfl 1 (by decide) wx_43 (Or.inl rfl) hl rfl ?_
  refine v_callSP (pc' := 8) F d_A_get_5 rfl cal_OB_checkIndex wx_287 wx_288 (c_OB_checkIndex l X _ _ _ _ hi (by omega)) rfl ⟨by decide, by decide, by decide, by decide⟩ (Nat.le_of_ble_eq_true rfl) rfl rfl ?_
  refine v_pop (pc' := 9) F d_A_get_8 rfl rfl ?_
  refine v_aload_n (pc' := 10) (j := 0) F d_A_get_9 rfl rfl rfl ?_
  refine v_iload_n (pc' := 11) (j := 1) F d_A_get_10 rfl rfl rfl ?_
  refine v_callVP (pc' := 14) (C := zR_A) (T9 := zF_A) (N := 3) F d_A_get_11 rfl cal_A_elementData wx_293 wx_294 wx_295 rfl hl (c_A_elementData l X _ _ _ _ _ _ _ _ _ _ hl ha hN hi hn hv) rfl ⟨by decide, by decide, by decide, by decide⟩ (Nat.le_of_ble_eq_true rfl) rfl rfl ?_
  exact v_areturn F d_A_get_14 rfl (Or.inl ⟨_, rfl⟩) (Or.inr ⟨_, rfl⟩) (Nat.le_refl _) (Nat.le_refl _) ⟨rfl, rfl, rfl⟩
set_option maxRecDepth 100000 in
set_option maxHeartbeats 4000000 in
theorem c_AR_newLength (l : Launch) (X : am_X) (h : am_H) (nx : Nat) (o1 a b : Int) (r1 : 0 ≤ o1 ∧ o1 < 1000) (ra : 1 ≤ a ∧ a < 1000) (rb : 0 ≤ b ∧ b < 1000) : CnP l X y_AR_newLength ({ frames := 1, cells := 0, slots := 0, locals := 22 }) [iV o1, iV a, iV b] h nx (iV (o1 + (if a < b then b else a))) := by
  refine cn_of (k := 1) (L0 := [some (iV o1), some (iV a), some (iV b), none]) rfl wx_242 (Nat.le_of_ble_eq_true rfl) rfl (fun p e s m args below meth c F => ?_)
  refine v_iload_n (pc' := 1) (j := 0) F d_AR_newLength_0 rfl rfl rfl ?_
  refine v_iload_n (pc' := 2) (j := 1) F d_AR_newLength_1 rfl rfl rfl ?_
  refine v_iload_n (pc' := 3) (j := 2) F d_AR_newLength_2 rfl rfl rfl ?_
  refine v_mmax (pc' := 6) F d_AR_newLength_3 rfl wx_243 (by decide) (Nat.le_of_ble_eq_true rfl) (by decide) (by decide) (by omega) (by omega) ?_
  refine v_iadd (pc' := 7) F d_AR_newLength_6 rfl ?_
  refine v_istore_3 (pc' := 8) F d_AR_newLength_7 rfl rfl (by decide) ?_
  refine v_iconst (pc' := 9) F d_AR_newLength_8 rfl ?_
  refine v_iload_n (pc' := 10) (j := 3) F d_AR_newLength_9 rfl rfl rfl ?_
  refine v_icmp_ge (tgt := 21) (pc' := 13) F d_AR_newLength_10 (by decide) rfl (by omega) (by split <;> omega) (fun c10 => ?_) (fun c10 => ?_)
  · exfalso; split at c10 <;> omega
  · refine v_iload_n (pc' := 14) (j := 3) F d_AR_newLength_13 rfl rfl rfl ?_
    refine v_ldc (pc' := 16) (z := 2147483639) F d_AR_newLength_14 rfl wx_246 (by decide) ?_
    refine v_icmp_gt (tgt := 21) (pc' := 19) F d_AR_newLength_16 (by decide) rfl (by split <;> omega) (by omega) (fun c16 => ?_) (fun c16 => ?_)
    · exfalso; split at c16 <;> omega
    · refine v_iload_n (pc' := 20) (j := 3) F d_AR_newLength_19 rfl rfl rfl ?_
      exact v_ireturn F rfl d_AR_newLength_20 rfl rfl (Nat.le_refl _) (Nat.le_refl _) ⟨rfl, rfl, rfl⟩
theorem am_up_up {h : am_H} {a : Nat} {e e' : am_E} : am_up (am_up h a e) a e' = am_up h a e' := by
  funext b
  unfold am_up
  by_cases q : b = a
  · rw [if_pos q, if_pos q]
  · rw [if_neg q, if_neg q, if_neg q]
theorem am_ok_up {h : am_H} {a : Nat} {E : String} {v : Value} {ai N : Nat} {g : Nat → Value} (hn : h a = none ∨ ∃ (N' : Nat) (g' : Nat → Value) (ai' : Nat), h a = some (.inl (ai', N', g'))) (hv : am_ok h E v) : am_ok (am_up h a (.inl (ai, N, g))) E v := by
  rcases hv with q | ⟨y, ci, fs, C, T9, N9, q1, q2, q3, q4⟩
  · exact Or.inl q
  · refine Or.inr ⟨y, ci, fs, C, T9, N9, q1, ?_, q3, q4⟩
    rw [am_up_n (fun e => ?_)]
    · exact q2
    · subst e
      rcases hn with w | ⟨_, _, _, w⟩
      · rw [w] at q2; cases q2
      · rw [w] at q2; cases q2
theorem cpy_all {g : Nat → Value} {N : Nat} (hg : ∀ i : Nat, N ≤ i → g i = .null) : va_cpy g (fun _ => Value.null) 0 0 N = g := by
  funext j
  by_cases q : j < N
  · rw [pk_cpy_in (by omega) (by omega), show 0 + (j - 0) = j by omega]
  · rw [pk_cpy_out (by omega), hg j (by omega)]
/-- a heap that knows nothing from nx on -/
def am_fr (h : am_H) (nx : Nat) : Prop := ∀ a : Nat, nx ≤ a → h a = none
theorem v_fr {p : Program} {l : Launch} {e : Env} {R : Room} {s : State} {m : MethodId} {args : Array Value} {below : List Frame} {meth : Method} {c : Code} {nL : Nat} {X : am_X} {Q : State → Prop} {h : am_H} {nx cells slots pc : Nat} {L : List (Option Value)} {st : List Value} (k : am_fr h nx → V p l e R s m args below meth c nL X Q h nx cells slots pc L st) : V p l e R s m args below meth c nL X Q h nx cells slots pc L st := fun H locs ls hR hL hl => k (fun a ha => by
  cases hq : h a with
  | none => rfl
  | some e => have := am_R_lt hR hq; omega) H locs ls hR hL hl
set_option maxRecDepth 100000 in
set_option maxHeartbeats 4000000 in
theorem c_AS_copyOf2 (l : Launch) (X : am_X) (h : am_H) (nx : Nat) (a0 N : Nat) (n1 : Int) (g : Nat → Value) (ha : h a0 = some (.inl (2, N, g))) (hN : (N : Int) ≤ n1 ∧ n1 ≤ 100) (hg : ∀ i : Nat, N ≤ i → g i = .null) (hel : ∀ i : Nat, i < N → am_ok h "java/lang/Object" (g i)) : Cn l X y_AS_copyOf2 ({ frames := 1, cells := 1, slots := 100, locals := 48 }) [.ref a0, iV n1, .ref (X.2.1 9)] h nx (fun o h' nx' => o = .returned (some (.ref nx)) ∧ h' = am_up h nx (.inl (2, n1.toNat, g)) ∧ nx' = nx + 1) := by
  refine cn_of (k := 1) (L0 := [some (.ref a0), some (iV n1), some (.ref (X.2.1 9)), none]) rfl wx_267 (Nat.le_of_ble_eq_true rfl) rfl (fun p e s m args below meth c F => ?_)
  refine v_fr (fun hfr => ?_)
  refine v_aload_n (pc' := 1) (j := 2) F d_AS_copyOf2_0 rfl rfl rfl ?_
  refine v_ldcM (pc' := 3) F d_AS_copyOf2_1 rfl wx_268 ?_
  refine v_acmp_ne (tgt := 13) (pc' := 6) F d_AS_copyOf2_3 (by decide) rfl (fun c3 => ?_) (fun c3 => ?_)
  · exact absurd rfl c3
  · refine v_iload_n (pc' := 7) (j := 1) F d_AS_copyOf2_6 rfl rfl rfl ?_
    refine v_anew (pc' := 10) (ai := 2) (E := "java/lang/Object") F d_AS_copyOf2_7 rfl (by decide) wx_270 wx_269 (by omega) (by omega) (by decide) (by show 0 + n1.toNat ≤ 100; omega) ?_
    refine v_goto (tgt := 24) F d_AS_copyOf2_10 (by decide) ?_
    refine v_astore_3 (pc' := 25) F d_AS_copyOf2_24 rfl rfl (by decide) ?_
    have hne : a0 ≠ nx := fun q => by rw [q, hfr nx (Nat.le_refl _)] at ha; cases ha
    refine v_aload_n (pc' := 26) (j := 0) F d_AS_copyOf2_25 rfl rfl rfl ?_
    refine v_iconst (pc' := 27) F d_AS_copyOf2_26 rfl ?_
    refine v_aload_n (pc' := 28) (j := 3) F d_AS_copyOf2_27 rfl rfl rfl ?_
    refine v_iconst (pc' := 29) F d_AS_copyOf2_28 rfl ?_
    refine v_aload_n (pc' := 30) (j := 0) F d_AS_copyOf2_29 rfl rfl rfl ?_
    refine v_alen (pc' := 31) (ai := 2) (ty := .object "java/lang/Object") F d_AS_copyOf2_30 rfl (by decide) ((am_up_n hne).trans ha) ?_
    refine v_iload_n (pc' := 32) (j := 1) F d_AS_copyOf2_31 rfl rfl rfl ?_
    refine v_mmin (pc' := 35) F d_AS_copyOf2_32 rfl wx_271 (by decide) (Nat.le_of_ble_eq_true rfl) (by decide) (by show 0 + n1.toNat ≤ 100; omega) (by omega) (by omega) ?_
    refine v_copyA (pc' := 38) F d_AS_copyOf2_35 rfl wx_274 wx_276 wx_275 wx_15 ((am_up_n hne).trans ha) am_up_s (by omega) (by omega) (by omega) (by split <;> omega) (by split <;> omega) (by split <;> omega) (fun i hi => am_ok_up (Or.inl (hfr nx (Nat.le_refl _))) (hel _ (by show 0 + i < N; split at hi <;> omega))) (by decide) (Nat.le_of_ble_eq_true rfl) ?_
    rw [show (if n1 < (N : Int) then n1 else (N : Int)) = (N : Int) from if_neg (by omega)]
    refine v_eqh (h' := am_up h nx (.inl (2, n1.toNat, g))) (by rw [am_up_up]; show am_up h nx (.inl (2, n1.toNat, va_cpy g (fun _ => Value.null) 0 0 (((N : Nat) : Int)).toNat)) = _; rw [show (((N : Nat) : Int)).toNat = N by omega, cpy_all hg]) ?_
    refine v_aload_n (pc' := 39) (j := 3) F d_AS_copyOf2_38 rfl rfl rfl ?_
    exact v_areturn F d_AS_copyOf2_39 rfl (Or.inr ⟨_, rfl⟩) (Or.inr ⟨_, rfl⟩) (Nat.le_refl _) (by show 0 + n1.toNat ≤ 100; omega) ⟨rfl, rfl, rfl⟩
set_option maxRecDepth 100000 in
set_option maxHeartbeats 4000000 in
theorem c_AS_copyOf (l : Launch) (X : am_X) (h : am_H) (nx : Nat) (a0 N : Nat) (n1 : Int) (g : Nat → Value) (ha : h a0 = some (.inl (2, N, g))) (hN : (N : Int) ≤ n1 ∧ n1 ≤ 100) (hg : ∀ i : Nat, N ≤ i → g i = .null) (hel : ∀ i : Nat, i < N → am_ok h "java/lang/Object" (g i)) : Cn l X y_AS_copyOf ({ frames := 2, cells := 1, slots := 100, locals := 71 }) [.ref a0, iV n1] h nx (fun o h' nx' => o = .returned (some (.ref nx)) ∧ h' = am_up h nx (.inl (2, n1.toNat, g)) ∧ nx' = nx + 1) := by
  refine cn_of (k := 0) (L0 := [some (.ref a0), some (iV n1)]) rfl wx_252 (Nat.le_of_ble_eq_true rfl) rfl (fun p e s m args below meth c F => ?_)
  refine v_aload_n (pc' := 1) (j := 0) F d_AS_copyOf_0 rfl rfl rfl ?_
  refine v_iload_n (pc' := 2) (j := 1) F d_AS_copyOf_1 rfl rfl rfl ?_
  refine v_aload_n (pc' := 3) (j := 0) F d_AS_copyOf_2 rfl rfl rfl ?_
  refine v_getC (pc' := 6) F d_AS_copyOf_3 rfl wx_253 wx_919 wx_918 wx_254 wx_264 ha (by decide) (Nat.le_of_ble_eq_true rfl) ?_
  refine v_callS (pc' := 9) F d_AS_copyOf_6 rfl cal_AS_copyOf2 wx_265 wx_266 (c_AS_copyOf2 l X _ _ _ _ _ _ ha hN hg hel) rfl ⟨by decide, by decide, by decide, by decide⟩ (Nat.le_of_ble_eq_true rfl) (fun _ _ _ q => by cases q.1) (fun r9 h' nx' q => ?_)
  obtain ⟨q1, rfl, rfl⟩ := q
  cases q1
  exact v_areturn F d_AS_copyOf_9 rfl (Or.inr ⟨_, rfl⟩) (Or.inr ⟨_, rfl⟩) (Nat.le_refl _) (Nat.le_refl _) ⟨rfl, rfl, rfl⟩
/-- a list at a: n elements in an array of N places at ar -/
def am_ls (X : am_X) (h : am_H) (a ar N : Nat) (n md : Int) (g : Nat → Value) : Prop := h a = some (.inr (5, [.ref ar, iV n, iV md])) ∧ (0 ≤ n ∧ n ≤ N ∧ N ≤ 90) ∧ (∀ i : Nat, n ≤ i → g i = .null) ∧ ((N = 0 ∧ ar = X.2.2.2) ∨ (0 < N ∧ h ar = some (.inl (2, N, g)))) ∧ ∀ i : Nat, (i : Int) < n → am_ok h "java/lang/Object" (g i)
theorem am_up4 {h : am_H} {a b : Nat} {e1 e2 e3 e4 : am_E} (hne : a ≠ b) : am_up (am_up (am_up (am_up h b e1) a e2) b e3) a e4 = am_up (am_up h b e3) a e4 := by
  funext q
  unfold am_up
  by_cases q1 : q = a
  · rw [if_pos q1, if_pos q1]
  · by_cases q2 : q = b
    · rw [if_neg q1, if_pos q2, if_neg q1, if_pos q2]
    · rw [if_neg q1, if_neg q2, if_neg q1, if_neg q2, if_neg q1, if_neg q2]
theorem am_up3 {h : am_H} {a b : Nat} {e1 e2 e3 : am_E} (hne : a ≠ b) : am_up (am_up (am_up h a e1) b e2) a e3 = am_up (am_up h b e2) a e3 := by
  funext q
  unfold am_up
  by_cases q1 : q = a
  · rw [if_pos q1, if_pos q1]
  · by_cases q2 : q = b
    · rw [if_neg q1, if_pos q2, if_neg q1, if_pos q2]
    · rw [if_neg q1, if_neg q2, if_neg q1, if_neg q1, if_neg q2]
theorem am_ok_o {h : am_H} {a ci : Nat} {fs fs' : List Value} {E : String} {v : Value} (ha : h a = some (.inr (ci, fs))) (hv : am_ok h E v) : am_ok (am_up h a (.inr (ci, fs'))) E v := by
  rcases hv with q | ⟨y, cj, fy, C, T9, N9, q1, q2, q3, q4⟩
  · exact Or.inl q
  · by_cases e : y = a
    · subst e
      rw [ha] at q2
      cases q2
      exact Or.inr ⟨y, ci, fs', C, T9, N9, q1, am_up_s, q3, q4⟩
    · exact Or.inr ⟨y, cj, fy, C, T9, N9, q1, by rw [am_up_n e]; exact q2, q3, q4⟩
set_option maxRecDepth 100000 in
set_option maxHeartbeats 4000000 in
theorem c_A_grow2 (l : Launch) (X : am_X) (h : am_H) (nx : Nat) (a ar N : Nat) (n md : Int) (g : Nat → Value) (hls : am_ls X h a ar N n md g) (hn : n = (N : Int)) (hN : N < 60) : Cn l X y_A_grow2 ({ frames := 3, cells := 1, slots := 100, locals := 92 }) [.ref a, iV (n + 1)] h nx (fun o h' nx' => ∃ N' : Nat, (N < N' ∧ N' ≤ 90) ∧ o = .returned (some (.ref nx)) ∧ h' = am_up (am_up h nx (.inl (2, N', g))) a (.inr (5, [.ref nx, iV n, iV md])) ∧ nx' = nx + 1) := by
  refine cn_of (k := 2) (L0 := [some (.ref a), some (iV (n + 1)), none, none]) rfl wx_239 (Nat.le_of_ble_eq_true rfl) rfl (fun p e s m args below meth c F => ?_)
  refine v_fr (fun hfr => ?_)
  obtain ⟨hl, h2, hg, h4, hel⟩ := hls
  have hne : a ≠ nx := fun q => by rw [q, hfr nx (Nat.le_refl _)] at hl; cases hl
  rcases h4 with ⟨rfl, rfl⟩ | ⟨hN0, ha⟩
  · refine v_aload_n (pc' := 1) (j := 0) F d_A_grow2_0 rfl rfl rfl ?_
    refine v_getf (pc' := 4) (C := zR_A) (T := zF_A) (N := 3) (ref := "java/util/ArrayList") F d_A_grow2_1 rfl zi_A rfl 0 (by decide) wx_42 (Or.inl rfl) hl rfl ?_
    refine v_alenE (pc' := 5) F d_A_grow2_4 rfl ?_
    refine v_istore_2 (pc' := 6) F d_A_grow2_5 rfl rfl (by decide) ?_
    refine v_iload_n (pc' := 7) (j := 2) F d_A_grow2_6 rfl rfl rfl ?_
    refine v_if_gt (tgt := 20) (pc' := 10) F d_A_grow2_7 (by decide) rfl (by omega) (fun c7 => ?_) (fun c7 => ?_)
    · exfalso; omega
    · refine v_aload_n (pc' := 11) (j := 0) F d_A_grow2_10 rfl rfl rfl ?_
      refine v_getf (pc' := 14) (C := zR_A) (T := zF_A) (N := 3) (ref := "java/util/ArrayList") F d_A_grow2_11 rfl zi_A rfl 0 (by decide) wx_42 (Or.inl rfl) hl rfl ?_
      refine v_getDE (pc' := 17) F d_A_grow2_14 rfl wx_40 ?_
      refine v_acmp_eq (tgt := 45) (pc' := 20) F d_A_grow2_17 (by decide) rfl (fun c17 => ?_) (fun c17 => ?_)
      · refine v_aload_n (pc' := 46) (j := 0) F d_A_grow2_45 rfl rfl rfl ?_
        refine v_bipush (pc' := 48) F d_A_grow2_46 rfl (by decide) ?_
        refine v_iload_n (pc' := 49) (j := 1) F d_A_grow2_48 rfl rfl rfl ?_
        refine v_mmax (pc' := 52) F d_A_grow2_49 rfl wx_277 (by decide) (Nat.le_of_ble_eq_true rfl) (by decide) (by decide) (by omega) (by omega) ?_
        refine v_topi (b := 10) (if_neg (by omega)) ?_
        refine v_anew (pc' := 55) (ai := 2) (E := "java/lang/Object") F d_A_grow2_52 rfl (by decide) wx_278 wx_269 (by decide) (by decide) (by decide) (by decide) ?_
        refine v_dup_x1 (pc' := 56) F d_A_grow2_55 rfl rfl rfl ?_
        refine v_putf (pc' := 59) (C := zR_A) (T := zF_A) (N := 3) (ref := "java/util/ArrayList") F d_A_grow2_56 rfl zi_A zt_A zk_A zn_A rfl 0 (by decide) wx_42 (Or.inl rfl) (Or.inl rfl) (zk_A 0 (by decide)) rfl rfl ((am_up_n hne).trans hl) (by show 0 < 3; decide) ?_
        exact v_areturn F d_A_grow2_59 rfl (Or.inr ⟨_, rfl⟩) (Or.inr ⟨_, rfl⟩) (by decide) (by decide) ⟨10, by omega, rfl, by rw [show g = (fun _ => Value.null) from funext (fun i => hg i (by omega))]; rfl, rfl⟩
      · exact absurd rfl c17
  · refine v_aload_n (pc' := 1) (j := 0) F d_A_grow2_0 rfl rfl rfl ?_
    refine v_getf (pc' := 4) (C := zR_A) (T := zF_A) (N := 3) (ref := "java/util/ArrayList") F d_A_grow2_1 rfl zi_A rfl 0 (by decide) wx_42 (Or.inl rfl) hl rfl ?_
    refine v_alen (pc' := 5) (ai := 2) (ty := .object "java/lang/Object") F d_A_grow2_4 rfl (by decide) ha ?_
    refine v_istore_2 (pc' := 6) F d_A_grow2_5 rfl rfl (by decide) ?_
    refine v_iload_n (pc' := 7) (j := 2) F d_A_grow2_6 rfl rfl rfl ?_
    refine v_if_gt (tgt := 20) (pc' := 10) F d_A_grow2_7 (by decide) rfl (by omega) (fun c7 => ?_) (fun c7 => ?_)
    · refine v_iload_n (pc' := 21) (j := 2) F d_A_grow2_20 rfl rfl rfl ?_
      refine v_iload_n (pc' := 22) (j := 1) F d_A_grow2_21 rfl rfl rfl ?_
      refine v_iload_n (pc' := 23) (j := 2) F d_A_grow2_22 rfl rfl rfl ?_
      refine v_isub (pc' := 24) F d_A_grow2_23 rfl ?_
      refine v_iload_n (pc' := 25) (j := 2) F d_A_grow2_24 rfl rfl rfl ?_
      refine v_iconst (pc' := 26) F d_A_grow2_25 rfl ?_
      refine v_ishr1 (pc' := 27) F d_A_grow2_26 rfl (by omega) ?_
      refine v_callSP (pc' := 30) F d_A_grow2_27 rfl cal_AR_newLength wx_240 wx_241 (c_AR_newLength l X _ _ _ _ _ (by omega) (by omega) (by omega)) rfl ⟨by decide, by decide, by decide, by decide⟩ (Nat.le_of_ble_eq_true rfl) rfl rfl ?_
      refine v_istore_3 (pc' := 31) F d_A_grow2_30 rfl rfl (by decide) ?_
      refine v_aload_n (pc' := 32) (j := 0) F d_A_grow2_31 rfl rfl rfl ?_
      refine v_aload_n (pc' := 33) (j := 0) F d_A_grow2_32 rfl rfl rfl ?_
      refine v_getf (pc' := 36) (C := zR_A) (T := zF_A) (N := 3) (ref := "java/util/ArrayList") F d_A_grow2_33 rfl zi_A rfl 0 (by decide) wx_42 (Or.inl rfl) hl rfl ?_
      refine v_iload_n (pc' := 37) (j := 3) F d_A_grow2_36 rfl rfl rfl ?_
      refine v_callS (pc' := 40) F d_A_grow2_37 rfl cal_AS_copyOf wx_250 wx_251 (c_AS_copyOf l X _ _ _ _ _ _ ha (by split <;> omega) (fun i hi => hg i (by omega)) (fun i hi => hel i (by omega))) rfl ⟨by decide, by decide, by decide, by decide⟩ (Nat.le_of_ble_eq_true rfl) (fun _ _ _ q => by cases q.1) (fun r9 h' nx' q => ?_)
      obtain ⟨q1, rfl, rfl⟩ := q
      cases q1
      refine v_dup_x1 (pc' := 41) F d_A_grow2_40 rfl rfl rfl ?_
      refine v_putf (pc' := 44) (C := zR_A) (T := zF_A) (N := 3) (ref := "java/util/ArrayList") F d_A_grow2_41 rfl zi_A zt_A zk_A zn_A rfl 0 (by decide) wx_42 (Or.inl rfl) (Or.inl rfl) (zk_A 0 (by decide)) rfl rfl ((am_up_n hne).trans hl) (by show 0 < 3; decide) ?_
      exact v_areturn F d_A_grow2_44 rfl (Or.inr ⟨_, rfl⟩) (Or.inr ⟨_, rfl⟩) (by decide) (Nat.le_refl _) ⟨((N : Int) + (if n + 1 - (N : Int) < (N : Int) / 2 then (N : Int) / 2 else n + 1 - (N : Int))).toNat, by split <;> omega, rfl, rfl, rfl⟩
    · exfalso; omega
set_option maxRecDepth 100000 in
set_option maxHeartbeats 4000000 in
theorem c_A_grow (l : Launch) (X : am_X) (h : am_H) (nx : Nat) (a ar N : Nat) (n md : Int) (g : Nat → Value) (hls : am_ls X h a ar N n md g) (hn : n = (N : Int)) (hN : N < 60) : Cn l X y_A_grow ({ frames := 4, cells := 1, slots := 100, locals := 115 }) [.ref a] h nx (fun o h' nx' => ∃ N' : Nat, (N < N' ∧ N' ≤ 90) ∧ o = .returned (some (.ref nx)) ∧ h' = am_up (am_up h nx (.inl (2, N', g))) a (.inr (5, [.ref nx, iV n, iV md])) ∧ nx' = nx + 1) := by
  refine cn_of (k := 0) (L0 := [some (.ref a)]) rfl wx_235 (Nat.le_of_ble_eq_true rfl) rfl (fun p e s m args below meth c F => ?_)
  refine v_aload_n (pc' := 1) (j := 0) F d_A_grow_0 rfl rfl rfl ?_
  refine v_aload_n (pc' := 2) (j := 0) F d_A_grow_1 rfl rfl rfl ?_
  refine v_getf (pc' := 5) (C := zR_A) (T := zF_A) (N := 3) (ref := "java/util/ArrayList") F d_A_grow_2 rfl zi_A rfl 1 (by decide) wx_43 (Or.inl rfl) hls.1 rfl ?_
  refine v_iconst (pc' := 6) F d_A_grow_5 rfl ?_
  refine v_iadd (pc' := 7) F d_A_grow_6 rfl ?_
  refine v_callV (pc' := 10) (C := zR_A) (T9 := zF_A) (N := 3) F d_A_grow_7 rfl cal_A_grow2 wx_236 wx_238 wp_3 rfl hls.1 (c_A_grow2 l X _ _ _ _ _ _ _ _ hls hn hN) rfl ⟨by decide, by decide, by decide, by decide⟩ (Nat.le_of_ble_eq_true rfl) (fun _ _ _ q => by obtain ⟨_, _, q1, _⟩ := q; cases q1) (fun r9 h' nx' q => ?_)
  obtain ⟨N', hN', q1, rfl, rfl⟩ := q
  cases q1
  exact v_areturn F d_A_grow_10 rfl (Or.inr ⟨_, rfl⟩) (Or.inr ⟨_, rfl⟩) (Nat.le_refl _) (Nat.le_refl _) ⟨N', hN', rfl, rfl, rfl⟩
set_option maxRecDepth 100000 in
set_option maxHeartbeats 4000000 in
theorem c_A_add2 (l : Launch) (X : am_X) (h : am_H) (nx : Nat) (a ar N : Nat) (n md : Int) (g : Nat → Value) (hls : am_ls X h a ar N n md g) (hn : n < 60) {ci N9 v : Nat} {C : String} {T9 : u_T} {fs : List Value} (hc : am_cl[ci]? = some (C, T9, N9)) (hv : h v = some (.inr (ci, fs))) (hcast : Cond.castable C "java/lang/Object" ∈ lw_tbl) (hva : v ≠ a) : Cn l X y_A_add2 ({ frames := 5, cells := 1, slots := 100, locals := 135 }) [.ref a, .ref v, .ref ar, iV n] h nx (fun o h' nx' => ∃ (ar' N' : Nat), ((ar' = ar ∧ N' = N ∧ nx' = nx ∧ n < N) ∨ (ar' = nx ∧ nx' = nx + 1 ∧ n < N' ∧ N' ≤ 90)) ∧ o = .returned none ∧ h' = am_up (am_up h ar' (.inl (2, N', updV g n.toNat (.ref v)))) a (.inr (5, [.ref ar', iV (n + 1), iV md]))) := by
  refine cn_of (k := 0) (L0 := [some (.ref a), some (.ref v), some (.ref ar), some (iV n)]) rfl wx_231 (Nat.le_of_ble_eq_true rfl) rfl (fun p e s m args below meth c F => ?_)
  refine v_fr (fun hfr => ?_)
  obtain ⟨hl, h2, hg, h4, hel⟩ := id hls
  have hne : a ≠ nx := fun q => by rw [q, hfr nx (Nat.le_refl _)] at hl; cases hl
  have hvn : v ≠ nx := fun q => by rw [q, hfr nx (Nat.le_refl _)] at hv; cases hv
  rcases h4 with ⟨rfl, rfl⟩ | ⟨hN0, ha⟩
  · refine v_iload_n (pc' := 1) (j := 3) F d_A_add2_0 rfl rfl rfl ?_
    refine v_aload_n (pc' := 2) (j := 2) F d_A_add2_1 rfl rfl rfl ?_
    refine v_alenE (pc' := 3) F d_A_add2_2 rfl ?_
    refine v_icmp_ne (tgt := 11) (pc' := 6) F d_A_add2_3 (by decide) rfl (by omega) (by omega) (fun c3 => ?_) (fun c3 => ?_)
    · exact absurd (show n = 0 by omega) c3
    · refine v_aload_n (pc' := 7) (j := 0) F d_A_add2_6 rfl rfl rfl ?_
      refine v_callV (pc' := 10) (C := zR_A) (T9 := zF_A) (N := 3) F d_A_add2_7 rfl cal_A_grow wx_232 wx_234 wp_2 rfl hls.1 (c_A_grow l X _ _ _ _ _ _ _ _ hls (by omega) (by omega)) rfl ⟨by decide, by decide, by decide, by decide⟩ (Nat.le_of_ble_eq_true rfl) (fun _ _ _ q => by obtain ⟨_, _, q1, _⟩ := q; cases q1) (fun r9 h' nx' q => ?_)
      obtain ⟨N', hN', q1, rfl, rfl⟩ := q
      cases q1
      refine v_astore_2 (pc' := 11) F d_A_add2_10 rfl rfl (by decide) ?_
      refine v_aload_n (pc' := 12) (j := 2) F d_A_add2_11 rfl rfl rfl ?_
      refine v_iload_n (pc' := 13) (j := 3) F d_A_add2_12 rfl rfl rfl ?_
      refine v_aload_n (pc' := 14) (j := 1) F d_A_add2_13 rfl rfl rfl ?_
      refine v_aast (pc' := 15) (ai := 2) (E := "java/lang/Object") F d_A_add2_14 rfl (by decide) ((am_up_n (fun q => hne q.symm)).trans am_up_s) (by omega) (by omega) (by omega) hc (by rw [am_up_n hva, am_up_n hvn]; exact hv) (Or.inl hcast) ?_
      refine v_aload_n (pc' := 16) (j := 0) F d_A_add2_15 rfl rfl rfl ?_
      refine v_iload_n (pc' := 17) (j := 3) F d_A_add2_16 rfl rfl rfl ?_
      refine v_iconst (pc' := 18) F d_A_add2_17 rfl ?_
      refine v_iadd (pc' := 19) F d_A_add2_18 rfl ?_
      refine v_putf (pc' := 22) (C := zR_A) (T := zF_A) (N := 3) (ref := "java/util/ArrayList") F d_A_add2_19 rfl zi_A zt_A zk_A zn_A rfl 1 (by decide) wx_43 (Or.inl rfl) (Or.inl rfl) (zk_A 1 (by decide)) rfl rfl ((am_up_n hne).trans am_up_s) (by show 1 < 3; decide) ?_
      exact v_return F d_A_add2_22 rfl (by decide) (by decide) ⟨nx, N', Or.inr ⟨rfl, rfl, by omega, hN'.2⟩, rfl, am_up4 hne⟩
  · have hnea : ar ≠ a := fun q => by rw [q, hl] at ha; cases ha
    have hvr : v ≠ ar := fun q => by rw [q, ha] at hv; cases hv
    by_cases hnN : n = (N : Int)
    · refine v_iload_n (pc' := 1) (j := 3) F d_A_add2_0 rfl rfl rfl ?_
      refine v_aload_n (pc' := 2) (j := 2) F d_A_add2_1 rfl rfl rfl ?_
      refine v_alen (pc' := 3) (ai := 2) (ty := .object "java/lang/Object") F d_A_add2_2 rfl (by decide) ha ?_
      refine v_icmp_ne (tgt := 11) (pc' := 6) F d_A_add2_3 (by decide) rfl (by omega) (by omega) (fun c3 => ?_) (fun c3 => ?_)
      · exact absurd hnN c3
      · refine v_aload_n (pc' := 7) (j := 0) F d_A_add2_6 rfl rfl rfl ?_
        refine v_callV (pc' := 10) (C := zR_A) (T9 := zF_A) (N := 3) F d_A_add2_7 rfl cal_A_grow wx_232 wx_234 wp_2 rfl hls.1 (c_A_grow l X _ _ _ _ _ _ _ _ hls (by omega) (by omega)) rfl ⟨by decide, by decide, by decide, by decide⟩ (Nat.le_of_ble_eq_true rfl) (fun _ _ _ q => by obtain ⟨_, _, q1, _⟩ := q; cases q1) (fun r9 h' nx' q => ?_)
        obtain ⟨N', hN', q1, rfl, rfl⟩ := q
        cases q1
        refine v_astore_2 (pc' := 11) F d_A_add2_10 rfl rfl (by decide) ?_
        refine v_aload_n (pc' := 12) (j := 2) F d_A_add2_11 rfl rfl rfl ?_
        refine v_iload_n (pc' := 13) (j := 3) F d_A_add2_12 rfl rfl rfl ?_
        refine v_aload_n (pc' := 14) (j := 1) F d_A_add2_13 rfl rfl rfl ?_
        refine v_aast (pc' := 15) (ai := 2) (E := "java/lang/Object") F d_A_add2_14 rfl (by decide) ((am_up_n (fun q => hne q.symm)).trans am_up_s) (by omega) (by omega) (by omega) hc (by rw [am_up_n hva, am_up_n hvn]; exact hv) (Or.inl hcast) ?_
        refine v_aload_n (pc' := 16) (j := 0) F d_A_add2_15 rfl rfl rfl ?_
        refine v_iload_n (pc' := 17) (j := 3) F d_A_add2_16 rfl rfl rfl ?_
        refine v_iconst (pc' := 18) F d_A_add2_17 rfl ?_
        refine v_iadd (pc' := 19) F d_A_add2_18 rfl ?_
        refine v_putf (pc' := 22) (C := zR_A) (T := zF_A) (N := 3) (ref := "java/util/ArrayList") F d_A_add2_19 rfl zi_A zt_A zk_A zn_A rfl 1 (by decide) wx_43 (Or.inl rfl) (Or.inl rfl) (zk_A 1 (by decide)) rfl rfl ((am_up_n hne).trans am_up_s) (by show 1 < 3; decide) ?_
        exact v_return F d_A_add2_22 rfl (by decide) (by decide) ⟨nx, N', Or.inr ⟨rfl, rfl, by omega, hN'.2⟩, rfl, am_up4 hne⟩
    · refine v_iload_n (pc' := 1) (j := 3) F d_A_add2_0 rfl rfl rfl ?_
      refine v_aload_n (pc' := 2) (j := 2) F d_A_add2_1 rfl rfl rfl ?_
      refine v_alen (pc' := 3) (ai := 2) (ty := .object "java/lang/Object") F d_A_add2_2 rfl (by decide) ha ?_
      refine v_icmp_ne (tgt := 11) (pc' := 6) F d_A_add2_3 (by decide) rfl (by omega) (by omega) (fun c3 => ?_) (fun c3 => ?_)
      · refine v_aload_n (pc' := 12) (j := 2) F d_A_add2_11 rfl rfl rfl ?_
        refine v_iload_n (pc' := 13) (j := 3) F d_A_add2_12 rfl rfl rfl ?_
        refine v_aload_n (pc' := 14) (j := 1) F d_A_add2_13 rfl rfl rfl ?_
        refine v_aast (pc' := 15) (ai := 2) (E := "java/lang/Object") F d_A_add2_14 rfl (by decide) ha (by omega) (by omega) (by omega) hc hv (Or.inl hcast) ?_
        refine v_aload_n (pc' := 16) (j := 0) F d_A_add2_15 rfl rfl rfl ?_
        refine v_iload_n (pc' := 17) (j := 3) F d_A_add2_16 rfl rfl rfl ?_
        refine v_iconst (pc' := 18) F d_A_add2_17 rfl ?_
        refine v_iadd (pc' := 19) F d_A_add2_18 rfl ?_
        refine v_putf (pc' := 22) (C := zR_A) (T := zF_A) (N := 3) (ref := "java/util/ArrayList") F d_A_add2_19 rfl zi_A zt_A zk_A zn_A rfl 1 (by decide) wx_43 (Or.inl rfl) (Or.inl rfl) (zk_A 1 (by decide)) rfl rfl ((am_up_n (fun q => hnea q.symm)).trans hl) (by show 1 < 3; decide) ?_
        exact v_return F d_A_add2_22 rfl (by decide) (by decide) ⟨ar, N, Or.inl ⟨rfl, rfl, rfl, by omega⟩, rfl, rfl⟩
      · exact absurd c3 hnN
theorem am_ls.md {X : am_X} {h : am_H} {a ar N : Nat} {n md md' : Int} {g : Nat → Value} (hls : am_ls X h a ar N n md g) : am_ls X (am_up h a (.inr (5, [.ref ar, iV n, iV md']))) a ar N n md' g := by
  obtain ⟨hl, h2, hg, h4, hel⟩ := hls
  refine ⟨am_up_s, h2, hg, ?_, fun i hi => am_ok_o hl (hel i hi)⟩
  rcases h4 with q | ⟨q1, q2⟩
  · exact Or.inl q
  · refine Or.inr ⟨q1, ?_⟩
    rw [am_up_n (fun q => by rw [q, hl] at q2; cases q2)]
    exact q2
theorem am_ls.ne {X : am_X} {h : am_H} {a ar N nx ar' N' nx' : Nat} {n md : Int} {g : Nat → Value} (hls : am_ls X h a ar N n md g) (hfr : am_fr h nx) (hq : (ar' = ar ∧ N' = N ∧ nx' = nx ∧ n < N) ∨ (ar' = nx ∧ nx' = nx + 1 ∧ n < N' ∧ N' ≤ 90)) : a ≠ ar' := by
  intro q
  obtain ⟨hl, h2, -, h4, -⟩ := hls
  rcases hq with ⟨z, -, -, z3⟩ | ⟨z, -⟩
  · rcases h4 with ⟨w, -⟩ | ⟨-, w⟩
    · omega
    · rw [← z, ← q, hl] at w; cases w
  · have w := hfr nx (Nat.le_refl _)
    rw [← z, ← q, hl] at w; cases w
set_option maxRecDepth 100000 in
set_option maxHeartbeats 4000000 in
theorem c_A_add (l : Launch) (X : am_X) (h : am_H) (nx : Nat) (a ar N : Nat) (n md : Int) (g : Nat → Value) (hls : am_ls X h a ar N n md g) (hn : n < 60) {ci N9 v : Nat} {C : String} {T9 : u_T} {fs : List Value} (hc : am_cl[ci]? = some (C, T9, N9)) (hv : h v = some (.inr (ci, fs))) (hcast : Cond.castable C "java/lang/Object" ∈ lw_tbl) (hva : v ≠ a) : Cn l X y_A_add ({ frames := 6, cells := 1, slots := 100, locals := 158 }) [.ref a, .ref v] h nx (fun o h' nx' => ∃ (ar' N' : Nat), ((ar' = ar ∧ N' = N ∧ nx' = nx ∧ n < N) ∨ (ar' = nx ∧ nx' = nx + 1 ∧ n < N' ∧ N' ≤ 90)) ∧ o = .returned (some (iV 1)) ∧ h' = am_up (am_up h ar' (.inl (2, N', updV g n.toNat (.ref v)))) a (.inr (5, [.ref ar', iV (n + 1), iV (md + 1)]))) := by
  refine cn_of (k := 0) (L0 := [some (.ref a), some (.ref v)]) rfl wx_227 (Nat.le_of_ble_eq_true rfl) rfl (fun p e s m args below meth c F => ?_)
  refine v_fr (fun hfr => ?_)
  refine v_aload_n (pc' := 1) (j := 0) F d_A_add_0 rfl rfl rfl ?_
  refine v_dup (pc' := 2) F d_A_add_1 rfl rfl ?_
  refine v_getf (pc' := 5) (C := zR_A) (T := zF_A) (N := 3) (ref := "java/util/ArrayList") F d_A_add_2 rfl zi_A rfl 2 (by decide) wx_45 (Or.inr wx_46) hls.1 rfl ?_
  refine v_iconst (pc' := 6) F d_A_add_5 rfl ?_
  refine v_iadd (pc' := 7) F d_A_add_6 rfl ?_
  refine v_putf (pc' := 10) (C := zR_A) (T := zF_A) (N := 3) (ref := "java/util/ArrayList") F d_A_add_7 rfl zi_A zt_A zk_A zn_A rfl 2 (by decide) wx_45 (Or.inr wx_46) (Or.inl rfl) (zk_A 2 (by decide)) rfl rfl hls.1 (by show 2 < 3; decide) ?_
  refine v_aload_n (pc' := 11) (j := 0) F d_A_add_10 rfl rfl rfl ?_
  refine v_aload_n (pc' := 12) (j := 1) F d_A_add_11 rfl rfl rfl ?_
  refine v_aload_n (pc' := 13) (j := 0) F d_A_add_12 rfl rfl rfl ?_
  refine v_getf (pc' := 16) (C := zR_A) (T := zF_A) (N := 3) (ref := "java/util/ArrayList") F d_A_add_13 rfl zi_A rfl 0 (by decide) wx_42 (Or.inl rfl) am_up_s rfl ?_
  refine v_aload_n (pc' := 17) (j := 0) F d_A_add_16 rfl rfl rfl ?_
  refine v_getf (pc' := 20) (C := zR_A) (T := zF_A) (N := 3) (ref := "java/util/ArrayList") F d_A_add_17 rfl zi_A rfl 1 (by decide) wx_43 (Or.inl rfl) am_up_s rfl ?_
  refine v_callV (pc' := 23) (C := zR_A) (T9 := zF_A) (N := 3) F d_A_add_20 rfl cal_A_add2 wx_228 wx_230 wp_1 rfl am_up_s (c_A_add2 l X _ _ _ _ _ _ _ _ (hls.md (md' := md + 1)) hn hc (by rw [am_up_n hva]; exact hv) hcast hva) rfl ⟨by decide, by decide, by decide, by decide⟩ (Nat.le_of_ble_eq_true rfl) (fun _ _ _ q => by obtain ⟨_, _, _, q1, _⟩ := q; cases q1) (fun r9 h' nx' q => ?_)
  obtain ⟨ar', N', hq, q1, rfl⟩ := q
  cases q1
  refine v_iconst (pc' := 24) F d_A_add_23 rfl ?_
  exact v_ireturn F rfl d_A_add_24 rfl rfl (Nat.le_refl _) (Nat.le_refl _) ⟨ar', N', hq, rfl, am_up3 (hls.ne hfr hq)⟩
set_option maxRecDepth 100000 in
set_option maxHeartbeats 4000000 in
theorem c_A_rangeCheckForAdd (l : Launch) (X : am_X) (h : am_H) (nx : Nat) (a ar : Nat) (n md i : Int) (hl : h a = some (.inr (5, [.ref ar, iV n, iV md]))) (hi : 0 ≤ i ∧ i ≤ n) (rn : n < 2147483648) : Cn l X y_A_rangeCheckForAdd ({ frames := 0, cells := 0, slots := 0, locals := 0 }) [.ref a, iV i] h nx (fun o h' nx' => o = .returned none ∧ h' = h ∧ nx' = nx) := by
  refine cn_of (k := 0) (L0 := [some (.ref a), some (iV i)]) rfl wx_304 (Nat.le_of_ble_eq_true rfl) rfl (fun p e s m args below meth c F => ?_)
  refine v_iload_n (pc' := 1) (j := 1) F d_A_rangeCheckForAdd_0 rfl rfl rfl ?_
  refine v_aload_n (pc' := 2) (j := 0) F d_A_rangeCheckForAdd_1 rfl rfl rfl ?_
  refine v_getf (pc' := 5) (C := zR_A) (T := zF_A) (N := 3) (ref := "java/util/ArrayList") F d_A_rangeCheckForAdd_2 rfl zi_A rfl 1 (by decide) wx_43 (Or.inl rfl) hl rfl ?_
  refine v_icmp_gt (tgt := 12) (pc' := 8) F d_A_rangeCheckForAdd_5 (by decide) rfl (by omega) (by omega) (fun c5 => ?_) (fun c5 => ?_)
  · exfalso; omega
  · refine v_iload_n (pc' := 9) (j := 1) F d_A_rangeCheckForAdd_8 rfl rfl rfl ?_
    refine v_if_ge (tgt := 25) (pc' := 12) F d_A_rangeCheckForAdd_9 (by decide) rfl (by omega) (fun c9 => ?_) (fun c9 => ?_)
    · exact v_return F d_A_rangeCheckForAdd_25 rfl (Nat.le_refl _) (Nat.le_refl _) ⟨rfl, rfl, rfl⟩
    · exfalso; omega
set_option maxRecDepth 100000 in
set_option maxHeartbeats 4000000 in
theorem c_A_add3 (l : Launch) (X : am_X) (h : am_H) (nx : Nat) (a ar N : Nat) (n md : Int) (g : Nat → Value) (i : Int) (hls : am_ls X h a ar N n md g) (hn : n < 60) (hi : 0 ≤ i ∧ i ≤ n) {ci N9 v : Nat} {C : String} {T9 : u_T} {fs : List Value} (hc : am_cl[ci]? = some (C, T9, N9)) (hv : h v = some (.inr (ci, fs))) (hcast : Cond.castable C "java/lang/Object" ∈ lw_tbl) (hva : v ≠ a) : Cn l X y_A_add3 ({ frames := 5, cells := 1, slots := 100, locals := 135 }) [.ref a, iV i, .ref v] h nx (fun o h' nx' => ∃ (ar' N' : Nat), ((ar' = ar ∧ N' = N ∧ nx' = nx ∧ n < N) ∨ (ar' = nx ∧ nx' = nx + 1 ∧ n < N' ∧ N' ≤ 90)) ∧ o = .returned none ∧ h' = am_up (am_up h ar' (.inl (2, N', updV (va_cpy g g i.toNat (i + 1).toNat (n - i).toNat) i.toNat (.ref v)))) a (.inr (5, [.ref ar', iV (n + 1), iV (md + 1)]))) := by
  refine cn_of (k := 2) (L0 := [some (.ref a), some (iV i), some (.ref v), none, none]) rfl wx_300 (Nat.le_of_ble_eq_true rfl) rfl (fun p e s m args below meth c F => ?_)
  refine v_fr (fun hfr => ?_)
  obtain ⟨hl, h2, hg, h4, hel⟩ := id hls
  have hne : a ≠ nx := fun q => by rw [q, hfr nx (Nat.le_refl _)] at hl; cases hl
  have hvn : v ≠ nx := fun q => by rw [q, hfr nx (Nat.le_refl _)] at hv; cases hv
  have hls1 := hls.md (md' := md + 1)
  have e5 : ∀ {e1 e2 e3 e4 e5 e6 : am_E}, am_up (am_up (am_up (am_up (am_up (am_up h a e1) nx e2) a e3) nx e4) nx e5) a e6 = am_up (am_up h nx e5) a e6 := fun {e1 e2 e3 e4 e5 e6} => by
    funext q
    unfold am_up
    by_cases q1 : q = a
    · rw [if_pos q1, if_pos q1]
    · by_cases q2 : q = nx
      · rw [if_neg q1, if_pos q2, if_neg q1, if_pos q2]
      · rw [if_neg q1, if_neg q2, if_neg q2, if_neg q1, if_neg q2, if_neg q1, if_neg q1, if_neg q2]
  rcases h4 with ⟨rfl, rfl⟩ | ⟨hN0, ha⟩
  · refine v_aload_n (pc' := 1) (j := 0) F d_A_add3_0 rfl rfl rfl ?_
    refine v_iload_n (pc' := 2) (j := 1) F d_A_add3_1 rfl rfl rfl ?_
    refine v_callV (pc' := 5) (C := zR_A) (T9 := zF_A) (N := 3) F d_A_add3_2 rfl cal_A_rangeCheckForAdd wx_301 wx_303 wp_5 rfl hls.1 (c_A_rangeCheckForAdd l X _ _ _ _ _ _ _ hls.1 hi (by omega)) rfl ⟨by decide, by decide, by decide, by decide⟩ (Nat.le_of_ble_eq_true rfl) (fun _ _ _ q => by cases q.1) (fun r9 h' nx' q => ?_)
    obtain ⟨q1, q2, q3⟩ := q
    cases q1
    rw [q2, q3]
    refine v_aload_n (pc' := 6) (j := 0) F d_A_add3_5 rfl rfl rfl ?_
    refine v_dup (pc' := 7) F d_A_add3_6 rfl rfl ?_
    refine v_getf (pc' := 10) (C := zR_A) (T := zF_A) (N := 3) (ref := "java/util/ArrayList") F d_A_add3_7 rfl zi_A rfl 2 (by decide) wx_45 (Or.inr wx_46) hls.1 rfl ?_
    refine v_iconst (pc' := 11) F d_A_add3_10 rfl ?_
    refine v_iadd (pc' := 12) F d_A_add3_11 rfl ?_
    refine v_putf (pc' := 15) (C := zR_A) (T := zF_A) (N := 3) (ref := "java/util/ArrayList") F d_A_add3_12 rfl zi_A zt_A zk_A zn_A rfl 2 (by decide) wx_45 (Or.inr wx_46) (Or.inl rfl) (zk_A 2 (by decide)) rfl rfl hls.1 (by show 2 < 3; decide) ?_
    refine v_aload_n (pc' := 16) (j := 0) F d_A_add3_15 rfl rfl rfl ?_
    refine v_getf (pc' := 19) (C := zR_A) (T := zF_A) (N := 3) (ref := "java/util/ArrayList") F d_A_add3_16 rfl zi_A rfl 1 (by decide) wx_43 (Or.inl rfl) am_up_s rfl ?_
    refine v_dup (pc' := 20) F d_A_add3_19 rfl rfl ?_
    refine v_istore_3 (pc' := 21) F d_A_add3_20 rfl rfl (by decide) ?_
    refine v_aload_n (pc' := 22) (j := 0) F d_A_add3_21 rfl rfl rfl ?_
    refine v_getf (pc' := 25) (C := zR_A) (T := zF_A) (N := 3) (ref := "java/util/ArrayList") F d_A_add3_22 rfl zi_A rfl 0 (by decide) wx_42 (Or.inl rfl) am_up_s rfl ?_
    refine v_dup (pc' := 26) F d_A_add3_25 rfl rfl ?_
    refine v_astore_4 (pc' := 28) F d_A_add3_26 rfl rfl (by decide) ?_
    refine v_alenE (pc' := 29) F d_A_add3_28 rfl ?_
    refine v_icmp_ne (tgt := 38) (pc' := 32) F d_A_add3_29 (by decide) rfl (by omega) (by omega) (fun c29 => ?_) (fun c29 => ?_)
    · exact absurd (show n = 0 by omega) c29
    · refine v_aload_n (pc' := 33) (j := 0) F d_A_add3_32 rfl rfl rfl ?_
      refine v_callV (pc' := 36) (C := zR_A) (T9 := zF_A) (N := 3) F d_A_add3_33 rfl cal_A_grow wx_232 wx_234 wp_2 rfl am_up_s (c_A_grow l X _ _ _ _ _ _ _ _ hls1 (by omega) (by omega)) rfl ⟨by decide, by decide, by decide, by decide⟩ (Nat.le_of_ble_eq_true rfl) (fun _ _ _ q => by obtain ⟨_, _, q1, _⟩ := q; cases q1) (fun r9 h' nx' q => ?_)
      obtain ⟨N', hN', q1, rfl, rfl⟩ := q
      cases q1
      refine v_astore_4 (pc' := 38) F d_A_add3_36 rfl rfl (by decide) ?_
      refine v_aload (pc' := 40) F d_A_add3_38 rfl rfl ?_
      refine v_iload_n (pc' := 41) (j := 1) F d_A_add3_40 rfl rfl rfl ?_
      refine v_aload (pc' := 43) F d_A_add3_41 rfl rfl ?_
      refine v_iload_n (pc' := 44) (j := 1) F d_A_add3_43 rfl rfl rfl ?_
      refine v_iconst (pc' := 45) F d_A_add3_44 rfl ?_
      refine v_iadd (pc' := 46) F d_A_add3_45 rfl ?_
      refine v_iload_n (pc' := 47) (j := 3) F d_A_add3_46 rfl rfl rfl ?_
      refine v_iload_n (pc' := 48) (j := 1) F d_A_add3_47 rfl rfl rfl ?_
      refine v_isub (pc' := 49) F d_A_add3_48 rfl ?_
      refine v_copyA (pc' := 52) F d_A_add3_49 rfl wx_305 wx_276 wx_275 wx_15 ((am_up_n (fun q => hne q.symm)).trans am_up_s) ((am_up_n (fun q => hne q.symm)).trans am_up_s) (by omega) (by omega) (by omega) (by omega) (by omega) (by omega) (fun j hj => am_ok_o (a := a) (ci := 5) ((am_up_n hne).trans am_up_s) (am_ok_up (Or.inl (by rw [am_up_n (fun q => hne q.symm)]; exact hfr nx (Nat.le_refl _))) (hls1.2.2.2.2 _ (by omega)))) (by decide) (Nat.le_of_ble_eq_true rfl) ?_
      refine v_aload (pc' := 54) F d_A_add3_52 rfl rfl ?_
      refine v_iload_n (pc' := 55) (j := 1) F d_A_add3_54 rfl rfl rfl ?_
      refine v_aload_n (pc' := 56) (j := 2) F d_A_add3_55 rfl rfl rfl ?_
      refine v_aast (pc' := 57) (ai := 2) (E := "java/lang/Object") F d_A_add3_56 rfl (by decide) am_up_s (by omega) (by omega) (by omega) hc (by rw [am_up_n hvn, am_up_n hva, am_up_n hvn, am_up_n hva]; exact hv) (Or.inl hcast) ?_
      refine v_aload_n (pc' := 58) (j := 0) F d_A_add3_57 rfl rfl rfl ?_
      refine v_iload_n (pc' := 59) (j := 3) F d_A_add3_58 rfl rfl rfl ?_
      refine v_iconst (pc' := 60) F d_A_add3_59 rfl ?_
      refine v_iadd (pc' := 61) F d_A_add3_60 rfl ?_
      refine v_putf (pc' := 64) (C := zR_A) (T := zF_A) (N := 3) (ref := "java/util/ArrayList") F d_A_add3_61 rfl zi_A zt_A zk_A zn_A rfl 1 (by decide) wx_43 (Or.inl rfl) (Or.inl rfl) (zk_A 1 (by decide)) rfl rfl (by rw [am_up_n hne, am_up_n hne]; exact am_up_s) (by show 1 < 3; decide) ?_
      exact v_return F d_A_add3_64 rfl (by decide) (by decide) ⟨nx, N', Or.inr ⟨rfl, rfl, by omega, hN'.2⟩, rfl, e5⟩
  · have hnea : ar ≠ a := fun q => by rw [q, hl] at ha; cases ha
    have hvr : v ≠ ar := fun q => by rw [q, ha] at hv; cases hv
    by_cases hnN : n = (N : Int)
    · refine v_aload_n (pc' := 1) (j := 0) F d_A_add3_0 rfl rfl rfl ?_
      refine v_iload_n (pc' := 2) (j := 1) F d_A_add3_1 rfl rfl rfl ?_
      refine v_callV (pc' := 5) (C := zR_A) (T9 := zF_A) (N := 3) F d_A_add3_2 rfl cal_A_rangeCheckForAdd wx_301 wx_303 wp_5 rfl hls.1 (c_A_rangeCheckForAdd l X _ _ _ _ _ _ _ hls.1 hi (by omega)) rfl ⟨by decide, by decide, by decide, by decide⟩ (Nat.le_of_ble_eq_true rfl) (fun _ _ _ q => by cases q.1) (fun r9 h' nx' q => ?_)
      obtain ⟨q1, q2, q3⟩ := q
      cases q1
      rw [q2, q3]
      refine v_aload_n (pc' := 6) (j := 0) F d_A_add3_5 rfl rfl rfl ?_
      refine v_dup (pc' := 7) F d_A_add3_6 rfl rfl ?_
      refine v_getf (pc' := 10) (C := zR_A) (T := zF_A) (N := 3) (ref := "java/util/ArrayList") F d_A_add3_7 rfl zi_A rfl 2 (by decide) wx_45 (Or.inr wx_46) hls.1 rfl ?_
      refine v_iconst (pc' := 11) F d_A_add3_10 rfl ?_
      refine v_iadd (pc' := 12) F d_A_add3_11 rfl ?_
      refine v_putf (pc' := 15) (C := zR_A) (T := zF_A) (N := 3) (ref := "java/util/ArrayList") F d_A_add3_12 rfl zi_A zt_A zk_A zn_A rfl 2 (by decide) wx_45 (Or.inr wx_46) (Or.inl rfl) (zk_A 2 (by decide)) rfl rfl hls.1 (by show 2 < 3; decide) ?_
      refine v_aload_n (pc' := 16) (j := 0) F d_A_add3_15 rfl rfl rfl ?_
      refine v_getf (pc' := 19) (C := zR_A) (T := zF_A) (N := 3) (ref := "java/util/ArrayList") F d_A_add3_16 rfl zi_A rfl 1 (by decide) wx_43 (Or.inl rfl) am_up_s rfl ?_
      refine v_dup (pc' := 20) F d_A_add3_19 rfl rfl ?_
      refine v_istore_3 (pc' := 21) F d_A_add3_20 rfl rfl (by decide) ?_
      refine v_aload_n (pc' := 22) (j := 0) F d_A_add3_21 rfl rfl rfl ?_
      refine v_getf (pc' := 25) (C := zR_A) (T := zF_A) (N := 3) (ref := "java/util/ArrayList") F d_A_add3_22 rfl zi_A rfl 0 (by decide) wx_42 (Or.inl rfl) am_up_s rfl ?_
      refine v_dup (pc' := 26) F d_A_add3_25 rfl rfl ?_
      refine v_astore_4 (pc' := 28) F d_A_add3_26 rfl rfl (by decide) ?_
      refine v_alen (pc' := 29) (ai := 2) (ty := .object "java/lang/Object") F d_A_add3_28 rfl (by decide) ((am_up_n hnea).trans ha) ?_
      refine v_icmp_ne (tgt := 38) (pc' := 32) F d_A_add3_29 (by decide) rfl (by omega) (by omega) (fun c29 => ?_) (fun c29 => ?_)
      · exact absurd hnN c29
      · refine v_aload_n (pc' := 33) (j := 0) F d_A_add3_32 rfl rfl rfl ?_
        refine v_callV (pc' := 36) (C := zR_A) (T9 := zF_A) (N := 3) F d_A_add3_33 rfl cal_A_grow wx_232 wx_234 wp_2 rfl am_up_s (c_A_grow l X _ _ _ _ _ _ _ _ hls1 (by omega) (by omega)) rfl ⟨by decide, by decide, by decide, by decide⟩ (Nat.le_of_ble_eq_true rfl) (fun _ _ _ q => by obtain ⟨_, _, q1, _⟩ := q; cases q1) (fun r9 h' nx' q => ?_)
        obtain ⟨N', hN', q1, rfl, rfl⟩ := q
        cases q1
        refine v_astore_4 (pc' := 38) F d_A_add3_36 rfl rfl (by decide) ?_
        refine v_aload (pc' := 40) F d_A_add3_38 rfl rfl ?_
        refine v_iload_n (pc' := 41) (j := 1) F d_A_add3_40 rfl rfl rfl ?_
        refine v_aload (pc' := 43) F d_A_add3_41 rfl rfl ?_
        refine v_iload_n (pc' := 44) (j := 1) F d_A_add3_43 rfl rfl rfl ?_
        refine v_iconst (pc' := 45) F d_A_add3_44 rfl ?_
        refine v_iadd (pc' := 46) F d_A_add3_45 rfl ?_
        refine v_iload_n (pc' := 47) (j := 3) F d_A_add3_46 rfl rfl rfl ?_
        refine v_iload_n (pc' := 48) (j := 1) F d_A_add3_47 rfl rfl rfl ?_
        refine v_isub (pc' := 49) F d_A_add3_48 rfl ?_
        refine v_copyA (pc' := 52) F d_A_add3_49 rfl wx_305 wx_276 wx_275 wx_15 ((am_up_n (fun q => hne q.symm)).trans am_up_s) ((am_up_n (fun q => hne q.symm)).trans am_up_s) (by omega) (by omega) (by omega) (by omega) (by omega) (by omega) (fun j hj => am_ok_o (a := a) (ci := 5) ((am_up_n hne).trans am_up_s) (am_ok_up (Or.inl (by rw [am_up_n (fun q => hne q.symm)]; exact hfr nx (Nat.le_refl _))) (hls1.2.2.2.2 _ (by omega)))) (by decide) (Nat.le_of_ble_eq_true rfl) ?_
        refine v_aload (pc' := 54) F d_A_add3_52 rfl rfl ?_
        refine v_iload_n (pc' := 55) (j := 1) F d_A_add3_54 rfl rfl rfl ?_
        refine v_aload_n (pc' := 56) (j := 2) F d_A_add3_55 rfl rfl rfl ?_
        refine v_aast (pc' := 57) (ai := 2) (E := "java/lang/Object") F d_A_add3_56 rfl (by decide) am_up_s (by omega) (by omega) (by omega) hc (by rw [am_up_n hvn, am_up_n hva, am_up_n hvn, am_up_n hva]; exact hv) (Or.inl hcast) ?_
        refine v_aload_n (pc' := 58) (j := 0) F d_A_add3_57 rfl rfl rfl ?_
        refine v_iload_n (pc' := 59) (j := 3) F d_A_add3_58 rfl rfl rfl ?_
        refine v_iconst (pc' := 60) F d_A_add3_59 rfl ?_
        refine v_iadd (pc' := 61) F d_A_add3_60 rfl ?_
        refine v_putf (pc' := 64) (C := zR_A) (T := zF_A) (N := 3) (ref := "java/util/ArrayList") F d_A_add3_61 rfl zi_A zt_A zk_A zn_A rfl 1 (by decide) wx_43 (Or.inl rfl) (Or.inl rfl) (zk_A 1 (by decide)) rfl rfl (by rw [am_up_n hne, am_up_n hne]; exact am_up_s) (by show 1 < 3; decide) ?_
        exact v_return F d_A_add3_64 rfl (by decide) (by decide) ⟨nx, N', Or.inr ⟨rfl, rfl, by omega, hN'.2⟩, rfl, e5⟩
    · refine v_aload_n (pc' := 1) (j := 0) F d_A_add3_0 rfl rfl rfl ?_
      refine v_iload_n (pc' := 2) (j := 1) F d_A_add3_1 rfl rfl rfl ?_
      refine v_callV (pc' := 5) (C := zR_A) (T9 := zF_A) (N := 3) F d_A_add3_2 rfl cal_A_rangeCheckForAdd wx_301 wx_303 wp_5 rfl hls.1 (c_A_rangeCheckForAdd l X _ _ _ _ _ _ _ hls.1 hi (by omega)) rfl ⟨by decide, by decide, by decide, by decide⟩ (Nat.le_of_ble_eq_true rfl) (fun _ _ _ q => by cases q.1) (fun r9 h' nx' q => ?_)
      obtain ⟨q1, q2, q3⟩ := q
      cases q1
      rw [q2, q3]
      refine v_aload_n (pc' := 6) (j := 0) F d_A_add3_5 rfl rfl rfl ?_
      refine v_dup (pc' := 7) F d_A_add3_6 rfl rfl ?_
      refine v_getf (pc' := 10) (C := zR_A) (T := zF_A) (N := 3) (ref := "java/util/ArrayList") F d_A_add3_7 rfl zi_A rfl 2 (by decide) wx_45 (Or.inr wx_46) hls.1 rfl ?_
      refine v_iconst (pc' := 11) F d_A_add3_10 rfl ?_
      refine v_iadd (pc' := 12) F d_A_add3_11 rfl ?_
      refine v_putf (pc' := 15) (C := zR_A) (T := zF_A) (N := 3) (ref := "java/util/ArrayList") F d_A_add3_12 rfl zi_A zt_A zk_A zn_A rfl 2 (by decide) wx_45 (Or.inr wx_46) (Or.inl rfl) (zk_A 2 (by decide)) rfl rfl hls.1 (by show 2 < 3; decide) ?_
      refine v_aload_n (pc' := 16) (j := 0) F d_A_add3_15 rfl rfl rfl ?_
      refine v_getf (pc' := 19) (C := zR_A) (T := zF_A) (N := 3) (ref := "java/util/ArrayList") F d_A_add3_16 rfl zi_A rfl 1 (by decide) wx_43 (Or.inl rfl) am_up_s rfl ?_
      refine v_dup (pc' := 20) F d_A_add3_19 rfl rfl ?_
      refine v_istore_3 (pc' := 21) F d_A_add3_20 rfl rfl (by decide) ?_
      refine v_aload_n (pc' := 22) (j := 0) F d_A_add3_21 rfl rfl rfl ?_
      refine v_getf (pc' := 25) (C := zR_A) (T := zF_A) (N := 3) (ref := "java/util/ArrayList") F d_A_add3_22 rfl zi_A rfl 0 (by decide) wx_42 (Or.inl rfl) am_up_s rfl ?_
      refine v_dup (pc' := 26) F d_A_add3_25 rfl rfl ?_
      refine v_astore_4 (pc' := 28) F d_A_add3_26 rfl rfl (by decide) ?_
      refine v_alen (pc' := 29) (ai := 2) (ty := .object "java/lang/Object") F d_A_add3_28 rfl (by decide) ((am_up_n hnea).trans ha) ?_
      refine v_icmp_ne (tgt := 38) (pc' := 32) F d_A_add3_29 (by decide) rfl (by omega) (by omega) (fun c29 => ?_) (fun c29 => ?_)
      · refine v_aload (pc' := 40) F d_A_add3_38 rfl rfl ?_
        refine v_iload_n (pc' := 41) (j := 1) F d_A_add3_40 rfl rfl rfl ?_
        refine v_aload (pc' := 43) F d_A_add3_41 rfl rfl ?_
        refine v_iload_n (pc' := 44) (j := 1) F d_A_add3_43 rfl rfl rfl ?_
        refine v_iconst (pc' := 45) F d_A_add3_44 rfl ?_
        refine v_iadd (pc' := 46) F d_A_add3_45 rfl ?_
        refine v_iload_n (pc' := 47) (j := 3) F d_A_add3_46 rfl rfl rfl ?_
        refine v_iload_n (pc' := 48) (j := 1) F d_A_add3_47 rfl rfl rfl ?_
        refine v_isub (pc' := 49) F d_A_add3_48 rfl ?_
        refine v_copyA (pc' := 52) F d_A_add3_49 rfl wx_305 wx_276 wx_275 wx_15 ((am_up_n hnea).trans ha) ((am_up_n hnea).trans ha) (by omega) (by omega) (by omega) (by omega) (by omega) (by omega) (fun j hj => hls1.2.2.2.2 _ (by omega)) (by decide) (Nat.le_of_ble_eq_true rfl) ?_
        refine v_aload (pc' := 54) F d_A_add3_52 rfl rfl ?_
        refine v_iload_n (pc' := 55) (j := 1) F d_A_add3_54 rfl rfl rfl ?_
        refine v_aload_n (pc' := 56) (j := 2) F d_A_add3_55 rfl rfl rfl ?_
        refine v_aast (pc' := 57) (ai := 2) (E := "java/lang/Object") F d_A_add3_56 rfl (by decide) am_up_s (by omega) (by omega) (by omega) hc (by rw [am_up_n hvr, am_up_n hva]; exact hv) (Or.inl hcast) ?_
        refine v_aload_n (pc' := 58) (j := 0) F d_A_add3_57 rfl rfl rfl ?_
        refine v_iload_n (pc' := 59) (j := 3) F d_A_add3_58 rfl rfl rfl ?_
        refine v_iconst (pc' := 60) F d_A_add3_59 rfl ?_
        refine v_iadd (pc' := 61) F d_A_add3_60 rfl ?_
        refine v_putf (pc' := 64) (C := zR_A) (T := zF_A) (N := 3) (ref := "java/util/ArrayList") F d_A_add3_61 rfl zi_A zt_A zk_A zn_A rfl 1 (by decide) wx_43 (Or.inl rfl) (Or.inl rfl) (zk_A 1 (by decide)) rfl rfl (by rw [am_up_n (fun q => hnea q.symm), am_up_n (fun q => hnea q.symm)]; exact am_up_s) (by show 1 < 3; decide) ?_
        exact v_return F d_A_add3_64 rfl (by decide) (by decide) ⟨ar, N, Or.inl ⟨rfl, rfl, rfl, by omega⟩, rfl, by rw [am_up_up]; exact am_up3 (fun q => hnea q.symm)⟩
      · exact absurd c29 hnN
set_option maxRecDepth 100000 in
set_option maxHeartbeats 4000000 in
theorem c_AC_init (l : Launch) (X : am_X) (h : am_H) (nx : Nat) (a : Nat)  : Cn l X y_AC_init ({ frames := 1, cells := 0, slots := 0, locals := 20 }) [.ref a] h nx (fun o h' nx' => o = .returned none ∧ h' = h ∧ nx' = nx) := by
  refine cn_of (k := 0) (L0 := [some (.ref a)]) rfl wx_38 (Nat.le_of_ble_eq_true rfl) rfl (fun p e s m args below meth c F => ?_)
  refine v_aload_n (pc' := 1) (j := 0) F d_AC_init_0 rfl rfl rfl ?_
  refine v_obj (pc' := 4) F d_AC_init_1 rfl wx_39 wx_26 wx_27 (by decide) (Nat.le_of_ble_eq_true rfl) ?_
  exact v_return F d_AC_init_4 rfl (Nat.le_refl _) (Nat.le_refl _) ⟨rfl, rfl, rfl⟩
set_option maxRecDepth 100000 in
set_option maxHeartbeats 4000000 in
theorem c_AL_init (l : Launch) (X : am_X) (h : am_H) (nx : Nat) (a : Nat) (hl : h a = some (.inr (5, [.null, iV 0, iV 0]))) : Cn l X y_AL_init ({ frames := 2, cells := 0, slots := 0, locals := 40 }) [.ref a] h nx (fun o h' nx' => o = .returned none ∧ h' = am_up h a (.inr (5, [.null, iV 0, iV 0])) ∧ nx' = nx) := by
  refine cn_of (k := 0) (L0 := [some (.ref a)]) rfl wx_35 (Nat.le_of_ble_eq_true rfl) rfl (fun p e s m args below meth c F => ?_)
  refine v_aload_n (pc' := 1) (j := 0) F d_AL_init_0 rfl rfl rfl ?_
  refine v_callI (pc' := 4) (av := []) F d_AL_init_1 rfl wx_38 cal_AC_init rfl wx_36 wx_37 (c_AC_init l X _ _ _) rfl ⟨by decide, by decide, by decide, by decide⟩ (Nat.le_of_ble_eq_true rfl) (fun _ _ _ q => by cases q.1) (fun r9 h' nx' q => ?_)
  obtain ⟨q1, rfl, rfl⟩ := q
  cases q1
  refine v_aload_n (pc' := 5) (j := 0) F d_AL_init_4 rfl rfl rfl ?_
  refine v_iconst (pc' := 6) F d_AL_init_5 rfl ?_
  refine v_putf (pc' := 9) (C := zR_A) (T := zF_A) (N := 3) (ref := "java/util/AbstractList") F d_AL_init_6 rfl zi_A zt_A zk_A zn_A rfl 2 (by decide) wx_44 (Or.inl rfl) (Or.inl rfl) (zk_A 2 (by decide)) rfl rfl hl (by show 2 < 3; decide) ?_
  exact v_return F d_AL_init_9 rfl (Nat.le_refl _) (Nat.le_refl _) ⟨rfl, rfl, rfl⟩
set_option maxRecDepth 100000 in
set_option maxHeartbeats 4000000 in
theorem c_A_init (l : Launch) (X : am_X) (h : am_H) (nx : Nat) (a : Nat) (hl : h a = some (.inr (5, [.null, iV 0, iV 0]))) : Cn l X y_A_init ({ frames := 3, cells := 0, slots := 0, locals := 60 }) [.ref a] h nx (fun o h' nx' => o = .returned none ∧ h' = am_up h a (.inr (5, [.ref X.2.2.2, iV 0, iV 0])) ∧ nx' = nx) := by
  refine cn_of (k := 0) (L0 := [some (.ref a)]) rfl wx_32 (Nat.le_of_ble_eq_true rfl) rfl (fun p e s m args below meth c F => ?_)
  refine v_aload_n (pc' := 1) (j := 0) F d_A_init_0 rfl rfl rfl ?_
  refine v_callI (pc' := 4) (av := []) F d_A_init_1 rfl wx_35 cal_AL_init rfl wx_33 wx_34 (c_AL_init l X _ _ _ hl) rfl ⟨by decide, by decide, by decide, by decide⟩ (Nat.le_of_ble_eq_true rfl) (fun _ _ _ q => by cases q.1) (fun r9 h' nx' q => ?_)
  obtain ⟨q1, rfl, rfl⟩ := q
  cases q1
  refine v_aload_n (pc' := 5) (j := 0) F d_A_init_4 rfl rfl rfl ?_
  refine v_getDE (pc' := 8) F d_A_init_5 rfl wx_40 ?_
  refine v_putf (pc' := 11) (C := zR_A) (T := zF_A) (N := 3) (ref := "java/util/ArrayList") F d_A_init_8 rfl zi_A zt_A zk_A zn_A rfl 0 (by decide) wx_42 (Or.inl rfl) (Or.inl rfl) (zk_A 0 (by decide)) rfl rfl am_up_s (by show 0 < 3; decide) ?_
  exact v_return F d_A_init_11 rfl (Nat.le_refl _) (Nat.le_refl _) ⟨rfl, by rw [am_up_up]; rfl, rfl⟩
