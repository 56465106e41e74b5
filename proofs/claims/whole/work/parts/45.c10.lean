/-! lists of the picture as lists; placeByRank, flat, meter of the class (written by wip/whole/cc10.py) -/
theorem RepC.of {X : am_X} {x : Nat} {A : Nat → Prop} {P : Tg → Nat} {M : MS} {h : am_H} {M' : MS} (hC : RepC X x A P M h) (h1 : ∀ t, Lv M' t → Lv M t) (h2 : ∀ t, Lv M t → cellC X P M' t = cellC X P M t) : RepC X x A P M' h :=
  ⟨hC.1, fun t ht => (hC.2.1 t (h1 t ht)).trans (congrArg some (h2 t (h1 t ht)).symm), fun t t' ht ht' => hC.2.2.1 t t' (h1 t ht) (h1 t' ht'), fun t ht => hC.2.2.2 t (h1 t ht)⟩
/-- what the picture depends on -/
def erC (M : MS) : MS := fun k => if k = 0 then (fun _ => 0) else if k = 8 then (fun _ => 0) else if k = 16 then (fun _ => 0) else if k = 17 then (fun _ => 0) else if k = 22 then (fun _ => 0) else if k = 25 then (fun _ => 0) else if k = 26 then (fun _ => 0) else if k = 27 then (fun _ => 0) else M k
theorem erC_c {M M' : MS} (he : ∀ k : Nat, k ≠ 0 → k ≠ 8 → k ≠ 16 → k ≠ 17 → k ≠ 22 → k ≠ 25 → k ≠ 26 → k ≠ 27 → M' k = M k) : erC M' = erC M := by
  funext k
  unfold erC
  (repeat' split) <;> first | rfl | exact he k (by assumption) (by assumption) (by assumption) (by assumption) (by assumption) (by assumption) (by assumption) (by assumption)
theorem erC_l (M : MS) (t' : Tg) : Lv M t' = Lv (erC M) t' := by
  rcases t' with ⟨_ | _ | _ | _ | _ | _ | _ | _ | _ | _ | _ | _ | _ | _ | _ | _ | _ | _ | _ | n, g⟩ <;> rfl
theorem erC_x (X : am_X) (P : Tg → Nat) (M : MS) (t' : Tg) (ht : Lv M t') : cellC X P M t' = cellC X P (erC M) t' := by
  rcases t' with ⟨_ | _ | _ | _ | _ | _ | _ | _ | _ | _ | _ | _ | _ | _ | _ | _ | _ | _ | _ | n, g⟩ <;> first | rfl | exact ht.elim
theorem RepC.note {X : am_X} {x : Nat} {A : Nat → Prop} {P : Tg → Nat} {M : MS} {h : am_H} {M' : MS} (hC : RepC X x A P M h) (he : ∀ k : Nat, k ≠ 0 → k ≠ 8 → k ≠ 16 → k ≠ 17 → k ≠ 22 → k ≠ 25 → k ≠ 26 → k ≠ 27 → M' k = M k) : RepC X x A P M' h := by
  have e := erC_c he
  have hl : ∀ t, Lv M' t = Lv M t := fun t => by rw [erC_l M', erC_l M, e]
  refine hC.of (fun t ht => by rw [← hl t]; exact ht) (fun t ht => ?_)
  rw [erC_x X P M' t (by rw [hl t]; exact ht), erC_x X P M t ht, e]
theorem RepC.ok_fl {X : am_X} {x : Nat} {A : Nat → Prop} {P : Tg → Nat} {M : MS} {h : am_H} (hC : RepC X x A P M h) {f : Int} (hf : 0 ≤ f ∧ f < M 1 0) : am_ok h "java/lang/Object" (.ref (P (6, f))) := Or.inr ⟨_, 1, _, _, _, _, rfl, hC.at_ (6, f) hf, rfl, wx_922⟩
theorem RepC.ok_mt {X : am_X} {x : Nat} {A : Nat → Prop} {P : Tg → Nat} {M : MS} {h : am_H} (hC : RepC X x A P M h) {f : Int} (hf : 0 ≤ f ∧ f < M 7 0) : am_ok h "java/lang/Object" (.ref (P (12, f))) := Or.inr ⟨_, 2, _, _, _, _, rfl, hC.at_ (12, f) hf, rfl, wx_923⟩
theorem refs_in {P : Tg → Nat} {g : Int → Tg} {n : Int} {i : Nat} (h : (i : Int) < n) : refs P g n i = .ref (P (g (i : Int))) := if_pos h
theorem refs_out {P : Tg → Nat} {g : Int → Tg} {n : Int} {i : Nat} (h : n ≤ (i : Int)) : refs P g n i = .null := if_neg (by omega)
theorem RepC.ls {X : am_X} {x : Nat} {A : Nat → Prop} {P : Tg → Nat} {M : MS} {h : am_H} (hC : RepC X x A P M h) (k n : Int) (hk : 0 ≤ k ∧ k < 3) (hn : M 36 k = n) (h0 : 0 ≤ n) (hcp : n ≤ M 37 k ∧ M 37 k ≤ 90) (hel : ∀ i : Int, 0 ≤ i → i < n → am_ok h "java/lang/Object" (.ref (P (elt M k i)))) : ∃ ar N : Nat, am_ls X h (P (4, k)) ar N n (M 38 k) (refs P (elt M k) n) ∧ ((n = 0 ∧ N = 0) ∨ (0 < n ∧ ar = P (5, k))) := by
  subst hn
  have h1 := hC.t_ls (i := k) hk
  by_cases c : 0 < M 36 k
  · rw [if_pos c] at h1
    exact ⟨P (5, k), (M 37 k).toNat, ⟨h1, by omega, fun i hi => refs_out hi, Or.inr ⟨by omega, hC.t_la (i := k) ⟨hk, c⟩⟩, fun i hi => by rw [refs_in hi]; exact hel _ (by omega) hi⟩, Or.inr ⟨c, rfl⟩⟩
  · rw [if_neg c] at h1
    exact ⟨X.2.2.2, 0, ⟨h1, by omega, fun i hi => refs_out hi, Or.inl ⟨rfl, rfl⟩, fun i hi => absurd hi (by omega)⟩, Or.inl ⟨by omega, rfl⟩⟩
theorem RepC.lf {X : am_X} {x : Nat} {A : Nat → Prop} {P : Tg → Nat} {M : MS} {h : am_H} (hC : RepC X x A P M h) (f n : Int) (hf : 0 ≤ f ∧ f < M 1 0) (hn : M 35 f = n) (h0 : 0 ≤ n) (hcp : n ≤ M 39 f ∧ M 39 f ≤ 90) (hel : ∀ i : Int, 0 ≤ i → i < n → am_ok h "java/lang/Object" (.ref (P (12, M 34 (60 * f + i))))) : ∃ ar N : Nat, am_ls X h (P (7, f)) ar N n (M 40 f) (refs P (fun j => ((12, M 34 (60 * f + j)) : Tg)) n) ∧ ((n = 0 ∧ N = 0) ∨ (0 < n ∧ ar = P (8, f))) := by
  subst hn
  have h1 := hC.t_fm (i := f) hf
  by_cases c : 0 < M 35 f
  · rw [if_pos c] at h1
    exact ⟨P (8, f), (M 39 f).toNat, ⟨h1, by omega, fun i hi => refs_out hi, Or.inr ⟨by omega, hC.t_fa (i := f) ⟨hf, c⟩⟩, fun i hi => by rw [refs_in hi]; exact hel _ (by omega) hi⟩, Or.inr ⟨c, rfl⟩⟩
  · rw [if_neg c] at h1
    exact ⟨X.2.2.2, 0, ⟨h1, by omega, fun i hi => refs_out hi, Or.inl ⟨rfl, rfl⟩, fun i hi => absurd hi (by omega)⟩, Or.inl ⟨by omega, rfl⟩⟩
theorem RepC.add {X : am_X} {x : Nat} {A : Nat → Prop} {P : Tg → Nat} {M : MS} {h : am_H} {nx : Nat} {h' : am_H} (hC : RepC X x A P M h) (hfr : am_fr h nx) (hA : ∀ q : Nat, nx ≤ q → A q) (k n : Int) (hk : 0 ≤ k ∧ k < 3) (hn : M 36 k = n) (h0 : 0 ≤ n) {ar N ar' N' nx' : Nat} {g' : Int → Int} {c : Nat → Value} (hl : (n = 0 ∧ N = 0) ∨ (0 < n ∧ ar = P (5, k))) (hg : k = 1 ∨ g' = M 32) (hq : (ar' = ar ∧ N' = N ∧ nx' = nx ∧ n < N) ∨ (ar' = nx ∧ nx' = nx + 1 ∧ n < N' ∧ N' ≤ 90)) (hc : c = refs P (elt (lsM M k (n + 1) (N' : Int) (M 38 k + 1) g') k) (n + 1)) (he : h' = am_up (am_up h ar' (.inl (2, N', c))) (P (4, k)) (.inr (5, [.ref ar', iV (n + 1), iV (M 38 k + 1)]))) : (RepC X x A (pL P k ar') (lsM M k (n + 1) (N' : Int) (M 38 k + 1) g') h' ∧ OF A h h') ∧ nx ≤ nx' := by
  refine ⟨hC.chL (n' := n + 1) (N := (N' : Int)) (md := M 38 k + 1) (g := g') hfr hA hk (by omega) hg ?_ ?_, by omega⟩
  · rcases hq with ⟨z1, z2, z3, z4⟩ | ⟨z, _⟩
    · rcases hl with w | ⟨w1, w2⟩
      · omega
      · exact Or.inl ⟨z1.trans w2, by omega⟩
    · exact Or.inr z
  · rw [he, hc, Int.toNat_natCast]
theorem RepC.addF {X : am_X} {x : Nat} {A : Nat → Prop} {P : Tg → Nat} {M : MS} {h : am_H} {nx : Nat} {h' : am_H} (hC : RepC X x A P M h) (hfr : am_fr h nx) (hA : ∀ q : Nat, nx ≤ q → A q) (f m : Int) (hf : 0 ≤ f ∧ f < M 1 0) (hfs : ∀ g : Int, 0 ≤ g → g < M 1 0 → M 35 g ≤ 60) (h60 : 0 ≤ M 35 f ∧ M 35 f < 60) {ar N ar' N' nx' v : Nat} (hl : (M 35 f = 0 ∧ N = 0) ∨ (0 < M 35 f ∧ ar = P (8, f))) (hq : (ar' = ar ∧ N' = N ∧ nx' = nx ∧ M 35 f < N) ∨ (ar' = nx ∧ nx' = nx + 1 ∧ M 35 f < N' ∧ N' ≤ 90)) (hv : v = P (12, m)) (he : h' = am_up (am_up h ar' (.inl (2, N', updV (refs P (fun j => ((12, M 34 (60 * f + j)) : Tg)) (M 35 f)) (M 35 f).toNat (.ref v)))) (P (7, f)) (.inr (5, [.ref ar', iV (M 35 f + 1), iV (M 40 f + 1)]))) : (RepC X x A (pG P f ar') (lfM M f m (N' : Int) (M 40 f + 1)) h' ∧ OF A h h') ∧ nx ≤ nx' := by
  refine ⟨hC.chF (N := (N' : Int)) (md := M 40 f + 1) hfr hA hf hfs h60 ?_ ?_, by omega⟩
  · rcases hq with ⟨z1, z2, z3, z4⟩ | ⟨z, _⟩
    · rcases hl with w | ⟨w1, w2⟩
      · omega
      · exact Or.inl ⟨z1.trans w2, by omega⟩
    · exact Or.inr z
  · rw [he, hv, Int.toNat_natCast]
theorem ins_refs {P : Tg → Nat} {g g' : Int → Tg} {n p : Int} {v : Nat} (hp : 0 ≤ p ∧ p ≤ n) (h1 : ∀ i : Int, 0 ≤ i → i < p → P (g' i) = P (g i)) (h2 : P (g' p) = v) (h3 : ∀ i : Int, p < i → i < n + 1 → P (g' i) = P (g (i - 1))) : updV (va_cpy (refs P g n) (refs P g n) p.toNat (p + 1).toNat (n - p).toNat) p.toNat (.ref v) = refs P g' (n + 1) := by
  funext i
  show (if i = p.toNat then Value.ref v else va_cpy (refs P g n) (refs P g n) p.toNat (p + 1).toNat (n - p).toNat i) = refs P g' (n + 1) i
  by_cases c1 : i = p.toNat
  · rw [if_pos c1, refs_in (by omega), show (i : Int) = p by omega, h2]
  · rw [if_neg c1]
    by_cases c2 : i < p.toNat
    · rw [pk_cpy_out (by omega), refs_in (by omega), refs_in (by omega), h1 _ (by omega) (by omega)]
    · by_cases c3 : (i : Int) < n + 1
      · rw [pk_cpy_in (by omega) (by omega), refs_in (by omega), refs_in (by omega), h3 _ (by omega) c3]
        congr 3
        omega
      · rw [pk_cpy_out (by omega), refs_out (by omega), refs_out (by omega)]
set_option maxRecDepth 100000 in
set_option maxHeartbeats 4000000 in
theorem lp_S_placeByRank {p : Program} {l : Launch} {e : Env} {s : State} {m : MethodId} {args : Array Value} {below : List Frame} {meth : Method} {c : Code} {X : am_X} {h : am_H} {nx : Nat} {x : Nat} {A : Nat → Prop} {P : Tg → Nat} {M : MS}  {r n0 : Int} (F : am_Fx p s m args meth c y_S_placeByRank b_S_placeByRank 3 (some .int) [] X) (hC : RepC X x A P M h) (hz : M 36 1 = n0) (h0 : 0 ≤ n0 ∧ n0 ≤ 60) (hcp : M 36 1 ≤ M 37 1 ∧ M 37 1 ≤ 90) (hel : ∀ i : Int, 0 ≤ i → i < n0 → 0 ≤ M 32 i ∧ M 32 i < M 1 0) (hf20 : M 1 0 ≤ 20) (hrk : ∀ i : Int, 0 ≤ i → i < 20 → 0 ≤ M 3 i ∧ M 3 i ≤ 99) (hr : 0 ≤ r ∧ r ≤ 99) : ∀ (n k : Nat), n0.toNat < k + n → k ≤ n0.toNat → (∀ i : Int, 0 ≤ i → i < (k : Int) → M 3 (M 32 i) ≤ r) → V p l e ({ frames := 3, cells := 0, slots := 0, locals := 64 }) s m args below meth c 3 X (am_Q X below s 0 0 (fun o h' nx' => ∃ p0 : Int, (0 ≤ p0 ∧ p0 ≤ n0) ∧ (∀ i : Int, 0 ≤ i → i < p0 → M 3 (M 32 i) ≤ r) ∧ (p0 < n0 → r < M 3 (M 32 p0)) ∧ o = .returned (some (iV p0)) ∧ h' = h ∧ nx' = nx)) h nx 0 0 2 [some (.ref (P (0, 0))), some (iV r), some (iV (k : Int))] [] := by
  intro n
  induction n with
  | zero =>
    intro k hk hk2
    exact absurd hk (by omega)
  | succ n ih =>
    intro k hk hk2 hno
    refine v_iload_n (pc' := 3) (j := 2) F d_S_placeByRank_2 rfl rfl rfl ?_
    refine v_aload_n (pc' := 4) (j := 0) F d_S_placeByRank_3 rfl rfl rfl ?_
    refine v_getf (pc' := 7) (C := zR_S) (T := zF_S) (N := 6) (ref := "BillShares") F d_S_placeByRank_4 rfl zi_S rfl 1 (by decide) wx_58 (Or.inl rfl) (hC.t_top) rfl ?_
    refine v_callVP (pc' := 10) (C := zR_A) (T9 := zF_A) (N := 3) F d_S_placeByRank_7 rfl cal_A_size wx_156 wx_157 wx_158 rfl (hC.t_ls (i := 1) ⟨by decide, by decide⟩) (c_size l X _ _ _ _ 1 _ hC ⟨by decide, by decide⟩ hz) rfl ⟨by decide, by decide, by decide, by decide⟩ (Nat.le_of_ble_eq_true rfl) rfl rfl ?_
    refine v_icmp_ge (tgt := 37) (pc' := 13) F d_S_placeByRank_10 (by decide) rfl (by omega) (by omega) (fun c10 => ?_) (fun c10 => ?_)
    · refine v_iload_n (pc' := 38) (j := 2) F d_S_placeByRank_37 rfl rfl rfl ?_
      exact v_ireturn F rfl d_S_placeByRank_38 rfl rfl (Nat.le_refl _) (Nat.le_refl _) ⟨(k : Int), by omega, hno, fun z => by omega, rfl, rfl, rfl⟩
    · refine v_aload_n (pc' := 14) (j := 0) F d_S_placeByRank_13 rfl rfl rfl ?_
      refine v_getf (pc' := 17) (C := zR_S) (T := zF_S) (N := 6) (ref := "BillShares") F d_S_placeByRank_14 rfl zi_S rfl 1 (by decide) wx_58 (Or.inl rfl) (hC.t_top) rfl ?_
      refine v_iload_n (pc' := 18) (j := 2) F d_S_placeByRank_17 rfl rfl rfl ?_
      refine v_callVP (pc' := 21) (C := zR_A) (T9 := zF_A) (N := 3) F d_S_placeByRank_18 rfl cal_A_get wx_283 wx_284 wx_285 rfl (hC.t_ls (i := 1) ⟨by decide, by decide⟩) (c_get l X _ _ _ _ 1 _ hC ⟨by decide, by decide⟩ hcp (by omega)) rfl ⟨by decide, by decide, by decide, by decide⟩ (Nat.le_of_ble_eq_true rfl) rfl rfl ?_
      refine v_cast (pc' := 24) (C := zR_F) (T9 := zF_F) (N := 10) F d_S_placeByRank_21 rfl wx_176 wx_915 rfl (hC.t_fl (i := (M 32 (k : Int))) (hel (k : Int) (by omega) (by omega))) ?_
      refine v_getf (pc' := 27) (C := zR_F) (T := zF_F) (N := 10) (ref := "BillShares$Flat") F d_S_placeByRank_24 rfl zi_F rfl 1 (by decide) wx_189 (Or.inl rfl) (hC.t_fl (i := (M 32 (k : Int))) (hel (k : Int) (by omega) (by omega))) rfl ?_
      refine v_iload_n (pc' := 28) (j := 1) F d_S_placeByRank_27 rfl rfl rfl ?_
      have q2 := hel (k : Int) (by omega) (by omega)
      have q3 := hrk (M 32 (k : Int)) (by omega) (by omega)
      refine v_icmp_gt (tgt := 37) (pc' := 31) F d_S_placeByRank_28 (by decide) rfl (by omega) (by omega) (fun c28 => ?_) (fun c28 => ?_)
      · refine v_iload_n (pc' := 38) (j := 2) F d_S_placeByRank_37 rfl rfl rfl ?_
        exact v_ireturn F rfl d_S_placeByRank_38 rfl rfl (Nat.le_refl _) (Nat.le_refl _) ⟨(k : Int), by omega, hno, fun z => by omega, rfl, rfl, rfl⟩
      · refine v_iinc_2 (pc' := 34) F d_S_placeByRank_31 rfl rfl (by decide) ?_
        refine v_goto (tgt := 2) F d_S_placeByRank_34 (by decide) ?_
        refine ih (k + 1) (by omega) (by omega) (fun i z0 z1 => ?_)
        by_cases e9 : i = (k : Int)
        · rw [e9]; omega
        · exact hno i z0 (by omega)
set_option maxRecDepth 100000 in
set_option maxHeartbeats 4000000 in
theorem c_S_placeByRank (l : Launch) (X : am_X) (h : am_H) (nx : Nat) (x : Nat) (A : Nat → Prop) (P : Tg → Nat) (M : MS) (r n0 : Int) (hC : RepC X x A P M h) (hz : M 36 1 = n0) (h0 : 0 ≤ n0 ∧ n0 ≤ 60) (hcp : M 36 1 ≤ M 37 1 ∧ M 37 1 ≤ 90) (hel : ∀ i : Int, 0 ≤ i → i < n0 → 0 ≤ M 32 i ∧ M 32 i < M 1 0) (hf20 : M 1 0 ≤ 20) (hrk : ∀ i : Int, 0 ≤ i → i < 20 → 0 ≤ M 3 i ∧ M 3 i ≤ 99) (hr : 0 ≤ r ∧ r ≤ 99) : Cn l X y_S_placeByRank ({ frames := 3, cells := 0, slots := 0, locals := 64 }) [.ref (P (0, 0)), iV r] h nx (fun o h' nx' => ∃ p0 : Int, (0 ≤ p0 ∧ p0 ≤ n0) ∧ (∀ i : Int, 0 ≤ i → i < p0 → M 3 (M 32 i) ≤ r) ∧ (p0 < n0 → r < M 3 (M 32 p0)) ∧ o = .returned (some (iV p0)) ∧ h' = h ∧ nx' = nx) := by
  refine cn_of (k := 1) (L0 := [some (.ref (P (0, 0))), some (iV r), none]) rfl wx_282 (Nat.le_of_ble_eq_true rfl) rfl (fun p e s m args below meth c F => ?_)
  refine v_iconst (pc' := 1) F d_S_placeByRank_0 rfl ?_
  refine v_istore_2 (pc' := 2) F d_S_placeByRank_1 rfl rfl (by decide) ?_
  exact lp_S_placeByRank F hC hz h0 hcp hel hf20 hrk hr (n0.toNat + 1) 0 (by omega) (by omega) (fun i z0 z1 => absurd z1 (by omega))
set_option maxRecDepth 100000 in
set_option maxHeartbeats 4000000 in
theorem c_S_flat (l : Launch) (X : am_X) (h : am_H) (nx : Nat) (x : Nat) (A : Nat → Prop) (P : Tg → Nat) (M : MS) (a r : Int) (ht : l.flags = pinnedFlags ++ [noTraceFlag]) (hC : RepC X x A P M h) (hI : RI M) (hN : NI M) (ra : -2147483648 ≤ a ∧ a < 2147483648) (rr : -2147483648 ≤ r ∧ r < 2147483648) (hA : ∀ q : Nat, nx ≤ q → A q) : Cn l X y_S_flat ({ frames := 7, cells := 12, slots := 320, locals := 179 }) [.ref (P (0, 0)), iV a, iV r] h nx (wpost X x A iV (sp_flat M a r) h nx) := by
  refine cn_of (k := 1) (L0 := [some (.ref (P (0, 0))), some (iV a), some (iV r), none]) rfl wx_85 (Nat.le_of_ble_eq_true rfl) rfl (fun p e s m args below meth c F => ?_)
  have q1 := hI.hfl
  have q7 := hI.hme
  have hcp0 : M 1 0 ≤ M 37 0 ∧ M 37 0 ≤ 90 := by have := hN.hcp 0 (by decide) (by decide); have := hN.z0; omega
  have hcp1 : M 1 0 ≤ M 37 1 ∧ M 37 1 ≤ 90 := by have := hN.hcp 1 (by decide) (by decide); have := hN.z1; omega
  refine v_iload_n (pc' := 1) (j := 1) F d_S_flat_0 rfl rfl rfl ?_
  refine v_iconst (pc' := 2) F d_S_flat_1 rfl ?_
  refine v_sipush (pc' := 5) F d_S_flat_2 rfl (by decide) ?_
  refine v_callSR (pc' := 8) F d_S_flat_5 rfl cal_S_checkBounds wx_86 wx_87 (c_S_checkBounds l X _ _ _ _ _ ht (by omega) (by omega) (by omega)) rfl ⟨by decide, by decide, by decide, by decide⟩ (Nat.le_of_ble_eq_true rfl) (fun n5 fs9 => ?_) (fun a5 => ?_)
  · exact v_out F (by decide) (by decide) (by rw [show sp_flat M a r = (1, 0, M) from if_neg (by omega)]; exact wpost.thr (k := 1) (by decide))
  refine v_iload_n (pc' := 9) (j := 2) F d_S_flat_8 rfl rfl rfl ?_
  refine v_iconst (pc' := 10) F d_S_flat_9 rfl ?_
  refine v_bipush (pc' := 12) F d_S_flat_10 rfl (by decide) ?_
  refine v_callSR (pc' := 15) F d_S_flat_12 rfl cal_S_checkBounds wx_86 wx_87 (c_S_checkBounds l X _ _ _ _ _ ht (by omega) (by omega) (by omega)) rfl ⟨by decide, by decide, by decide, by decide⟩ (Nat.le_of_ble_eq_true rfl) (fun n12 fs9 => ?_) (fun a12 => ?_)
  · exact v_out F (by decide) (by decide) (by rw [show sp_flat M a r = (1, 0, M) from if_neg (by omega)]; exact wpost.thr (k := 1) (by decide))
  refine v_aload_n (pc' := 16) (j := 0) F d_S_flat_15 rfl rfl rfl ?_
  refine v_getf (pc' := 19) (C := zR_S) (T := zF_S) (N := 6) (ref := "BillShares") F d_S_flat_16 rfl zi_S rfl 0 (by decide) wx_57 (Or.inl rfl) (hC.t_top) rfl ?_
  refine v_callVP (pc' := 22) (C := zR_A) (T9 := zF_A) (N := 3) F d_S_flat_19 rfl cal_A_size wx_156 wx_157 wx_158 rfl (hC.t_ls (i := 0) ⟨by decide, by decide⟩) (c_size l X _ _ _ _ 0 _ hC ⟨by decide, by decide⟩ hN.z0) rfl ⟨by decide, by decide, by decide, by decide⟩ (Nat.le_of_ble_eq_true rfl) rfl rfl ?_
  refine v_bipush (pc' := 24) F d_S_flat_22 rfl (by decide) ?_
  refine v_icmp_lt (tgt := 37) (pc' := 27) F d_S_flat_24 (by decide) rfl (by omega) (by omega) (fun c24 => ?_) (fun c24 => ?_)
  · refine v_fr (fun hfr => ?_)
    refine v_new (pc' := 40) (ci := 1) (C := zR_F) (T := zF_F) (N := 10) (fs := [iV 0, iV 0, .null, .null, iV 0, .null, .null, iV 0, lV 0, lV 0]) F d_S_flat_37 rfl zi_F zt_F zk_F rfl wx_176 wx_177 wx_12 (by decide +kernel) (by decide) (by decide) ?_
    refine v_dup (pc' := 41) F d_S_flat_40 rfl rfl ?_
    refine v_iload_n (pc' := 42) (j := 1) F d_S_flat_41 rfl rfl rfl ?_
    refine v_iload_n (pc' := 43) (j := 2) F d_S_flat_42 rfl rfl rfl ?_
    refine v_callI (pc' := 46) (av := [iV a, iV r]) F d_S_flat_43 rfl wx_180 cal_F_init rfl wx_178 wx_179 (c_F_init l X _ _ _ _ _ am_up_s (Nat.lt_succ_self _)) rfl ⟨by decide, by decide, by decide, by decide⟩ (Nat.le_of_ble_eq_true rfl) (fun _ _ _ q => by cases q.1) (fun r9 h4 n4 q => ?_)
    obtain ⟨q9, rfl, hk4, k0, k1, k2, k3, k4⟩ := q
    cases q9
    refine v_fr (fun hfr4 => ?_)
    have hC4 := hC.newFlat (a := a) (r := r) hfr hA hI hN (by omega) (fun q hq => (hk4 q (by omega) (by omega)).trans (am_up_n (by omega))) k0 k1 k2 k3 k4
    have hF4 : OF A h h4 := fun q hq => by
      by_cases c : q < nx
      · exact (hk4 q (by omega) (by omega)).trans (am_up_n (by omega))
      · exact absurd (hA q (by omega)) hq
    obtain ⟨ar0, N0, hls0, hl0⟩ := hC4.ls 0 (M 1 0) (by decide) hN.z0 q1.1 hcp0 (fun i z0 z1 => hC4.ok_fl (f := i) ⟨z0, by rw [newF_1]; omega⟩)
    have hNa := hls0.2.1
    refine v_astore_3 (pc' := 47) F d_S_flat_46 rfl rfl (by decide) ?_
    refine v_aload_n (pc' := 48) (j := 0) F d_S_flat_47 rfl rfl rfl ?_
    refine v_getf (pc' := 51) (C := zR_S) (T := zF_S) (N := 6) (ref := "BillShares") F d_S_flat_48 rfl zi_S rfl 0 (by decide) wx_57 (Or.inl rfl) (hC4.t_top) rfl ?_
    refine v_aload_n (pc' := 52) (j := 3) F d_S_flat_51 rfl rfl rfl ?_
    refine v_callV (pc' := 55) (C := zR_A) (T9 := zF_A) (N := 3) F d_S_flat_52 rfl cal_A_add wx_224 wx_225 wx_226 rfl (hC4.t_ls (i := 0) ⟨by decide, by decide⟩) (c_A_add l X _ _ _ _ _ _ _ _ hls0 (by omega) (ci := 1) rfl k0 wx_922 (Nat.ne_of_gt (hC.lt hfr (t := (4, 0)) ⟨by decide, by decide⟩))) rfl ⟨by decide, by decide, by decide, by decide⟩ (Nat.le_of_ble_eq_true rfl) (fun _ _ _ q => by obtain ⟨_, _, _, q9, _⟩ := q; cases q9) (fun r9 h5 n5 q => ?_)
    obtain ⟨ar1, N1, hq1, q9, he5⟩ := q
    cases q9
    refine v_fr (fun hfr5 => ?_)
    obtain ⟨⟨hC5, hF5⟩, hn5⟩ := hC4.add (g' := M 32) hfr4 (fun q hq => hA q (by omega)) 0 (M 1 0) (by decide) hN.z0 q1.1 hl0 (Or.inr rfl) hq1 (by rw [elt_ls (Or.inl (by decide)), refs_s q1.1, show pF P (M 1 0) nx (elt (newF M a r) 0 (M 1 0)) = nx from pF_6]) he5
    have k5 : h5 nx = some (flC (pL (pF P (M 1 0) nx) 0 ar1) (M 1 0) _ _ _ _ _ _) := (congrArg h5 (show nx = pL (pF P (M 1 0) nx) 0 ar1 (6, M 1 0) from pF_6.symm)).trans (hC5.t_fl (i := M 1 0) ⟨q1.1, by show M 1 0 < newF M a r 1 0; rw [newF_1]; omega⟩)
    obtain ⟨ar2, N2, hls2, hl2⟩ := hC5.ls 1 (M 1 0) (by decide) hN.z1 q1.1 hcp1 (fun i z0 z1 => hC5.ok_fl (f := M 32 i) (by have := (hN.hor i z0 z1).1; exact ⟨this.1, by show M 32 i < newF M a r 1 0; rw [newF_1]; omega⟩))
    have hNb := hls2.2.1
    refine v_pop (pc' := 56) F d_S_flat_55 rfl rfl ?_
    refine v_aload_n (pc' := 57) (j := 0) F d_S_flat_56 rfl rfl rfl ?_
    refine v_getf (pc' := 60) (C := zR_S) (T := zF_S) (N := 6) (ref := "BillShares") F d_S_flat_57 rfl zi_S rfl 1 (by decide) wx_58 (Or.inl rfl) (hC5.t_top) rfl ?_
    refine v_aload_n (pc' := 61) (j := 0) F d_S_flat_60 rfl rfl rfl ?_
    refine v_iload_n (pc' := 62) (j := 2) F d_S_flat_61 rfl rfl rfl ?_
    refine v_callV (pc' := 65) (C := zR_S) (T9 := zF_S) (N := 6) F d_S_flat_62 rfl cal_S_placeByRank wx_279 wx_281 wp_4 rfl (hC5.t_top) (c_S_placeByRank l X _ _ _ _ _ _ _ (M 1 0) hC5 hN.z1 (by omega) (hN.hcp 1 (by decide) (by decide)) (fun i z0 z1 => by have := (hN.hor i z0 z1).1; exact ⟨this.1, by show M 32 i < newF M a r 1 0; rw [newF_1]; omega⟩) (by show newF M a r 1 0 ≤ 20; rw [newF_1]; omega) (fun i z0 z1 => by have := hI.hrk i z0 z1; show 0 ≤ upI (M 3) (M 1 0) r i ∧ upI (M 3) (M 1 0) r i ≤ 99; unfold upI; split <;> omega) (by omega)) rfl ⟨by decide, by decide, by decide, by decide⟩ (Nat.le_of_ble_eq_true rfl) (fun _ _ _ q => by obtain ⟨_, _, _, _, q9, _⟩ := q; cases q9) (fun r9 h6 n6 q => ?_)
    obtain ⟨p0, hp0, hp1, hp2, q9, rfl, rfl⟩ := q
    cases q9
    refine v_aload_n (pc' := 66) (j := 3) F d_S_flat_65 rfl rfl rfl ?_
    refine v_callV (pc' := 69) (C := zR_A) (T9 := zF_A) (N := 3) F d_S_flat_66 rfl cal_A_add3 wx_297 wx_298 wx_299 rfl (hC5.t_ls (i := 1) ⟨by decide, by decide⟩) (c_A_add3 l X _ _ _ _ _ _ _ _ _ hls2 (by omega) hp0 (ci := 1) rfl k5 wx_922 (Nat.ne_of_gt (hC.lt hfr (t := (4, 1)) ⟨by decide, by decide⟩))) rfl ⟨by decide, by decide, by decide, by decide⟩ (Nat.le_of_ble_eq_true rfl) (fun _ _ _ q => by obtain ⟨_, _, _, q9, _⟩ := q; cases q9) (fun r9 h7 n7 q => ?_)
    obtain ⟨ar3, N3, hq3, q9, he7⟩ := q
    cases q9
    obtain ⟨⟨hC7, hF7⟩, hn7⟩ := hC5.add (g' := insO (M 32) p0 (M 1 0)) hfr5 (fun q hq => hA q (by omega)) 1 (M 1 0) (by decide) hN.z1 q1.1 hl2 (Or.inl rfl) hq3 (ins_refs hp0 (fun i z0 z1 => congrArg (fun w => pL (pF P (M 1 0) nx) 0 ar1 (6, w)) (if_pos z1)) ((congrArg (fun w => pL (pF P (M 1 0) nx) 0 ar1 (6, w)) ((if_neg (Int.lt_irrefl p0)).trans (if_pos rfl))).trans pF_6) (fun i z0 z1 => congrArg (fun w => pL (pF P (M 1 0) nx) 0 ar1 (6, w)) ((if_neg (by omega)).trans (if_neg (by omega))))) he7
    refine v_aload_n (pc' := 70) (j := 0) F d_S_flat_69 rfl rfl rfl ?_
    refine v_getf (pc' := 73) (C := zR_S) (T := zF_S) (N := 6) (ref := "BillShares") F d_S_flat_70 rfl zi_S rfl 0 (by decide) wx_57 (Or.inl rfl) (hC7.t_top) rfl ?_
    refine v_callVP (pc' := 76) (C := zR_A) (T9 := zF_A) (N := 3) F d_S_flat_73 rfl cal_A_size wx_156 wx_157 wx_158 rfl (hC7.t_ls (i := 0) ⟨by decide, by decide⟩) (c_size l X _ _ _ _ 0 (M 1 0 + 1) hC7 ⟨by decide, by decide⟩ (show upM (upM (newF M a r) 36 0 (M 1 0 + 1)) 36 1 (M 1 0 + 1) 36 0 = M 1 0 + 1 by rw [upM_sn (by decide), upM_ss])) rfl ⟨by decide, by decide, by decide, by decide⟩ (Nat.le_of_ble_eq_true rfl) rfl rfl ?_
    refine v_iconst (pc' := 77) F d_S_flat_76 rfl ?_
    refine v_isub (pc' := 78) F d_S_flat_77 rfl ?_
    refine v_topi (b := M 1 0) (by omega) ?_
    have hpl1 : ∀ i : Int, 0 ≤ i → i < p0 → M 3 (M 32 i) ≤ r := fun i z0 z1 => by have w := hp1 i z0 z1; have := (hN.hor i z0 (by omega)).1; have w2 : upI (M 3) (M 1 0) r (M 32 i) ≤ r := w; rw [upI_n (by omega)] at w2; exact w2
    have hpl2 : p0 < M 1 0 → r < M 3 (M 32 p0) := fun z => by have w := hp2 z; have := (hN.hor p0 hp0.1 z).1; have w2 : r < upI (M 3) (M 1 0) r (M 32 p0) := w; rw [upI_n (by omega)] at w2; exact w2
    exact v_ireturn F rfl d_S_flat_78 rfl rfl (by decide) (by decide) (by rw [show sp_flat M a r = (0, M 1 0, upM (upM (upM (upM M 2 (M 1 0) a) 3 (M 1 0) r) 4 (M 1 0) 1) 1 0 (M 1 0 + 1)) from (if_pos (by omega)).trans (if_pos (by omega))]; exact Or.inl ⟨rfl, rfl, ((((((OF.rf).tr hF4)).tr hF5)).tr hF7), by omega, _, _, hC7, NI.flat hI hN (by omega) hp0 hpl1 hpl2 (by omega) (by omega), flat_c⟩)
  · refine v_newE (pc' := 36) (C := zR_IS) (T9 := zF_IS) (ci := 7) F ht am_exIS rfl wx_160 wx_161 wx_11 zi_IS wx_169 d_S_flat_27 d_S_flat_30 d_S_flat_31 d_S_flat_33 rfl (by decide) (by decide) (by decide) (Nat.le_of_ble_eq_true rfl) (fun fs9 => ?_)
    refine v_athrow F d_S_flat_36 ?_
    exact v_out F (by decide) (by decide) (by rw [show sp_flat M a r = (2, 0, M) from (if_pos (by omega)).trans (if_neg (by omega))]; exact wpost.thr (k := 2) (by decide))
set_option maxRecDepth 100000 in
set_option maxHeartbeats 4000000 in
theorem c_S_meter (l : Launch) (X : am_X) (h : am_H) (nx : Nat) (x : Nat) (A : Nat → Prop) (P : Tg → Nat) (M : MS) (f k0 a b t : Int) (ht : l.flags = pinnedFlags ++ [noTraceFlag]) (hC : RepC X x A P M h) (hI : RI M) (hN : NI M) (rf : -2147483648 ≤ f ∧ f < 2147483648) (rk : -2147483648 ≤ k0 ∧ k0 < 2147483648) (ra : -2147483648 ≤ a ∧ a < 2147483648) (rb : -2147483648 ≤ b ∧ b < 2147483648) (rt : -2147483648 ≤ t ∧ t < 2147483648) (hA : ∀ q : Nat, nx ≤ q → A q) : Cn l X y_S_meter ({ frames := 8, cells := 14, slots := 420, locals := 179 }) [.ref (P (0, 0)), iV f, iV k0, iV a, iV b, iV t] h nx (wpost X x A iV (sp_meter M f k0 a b t) h nx) := by
  refine cn_of (k := 2) (L0 := [some (.ref (P (0, 0))), some (iV f), some (iV k0), some (iV a), some (iV b), some (iV t), none, none]) rfl wx_312 (Nat.le_of_ble_eq_true rfl) rfl (fun p e s m args below meth c F => ?_)
  have q1 := hI.hfl
  have q7 := hI.hme
  have hcp2 : M 7 0 ≤ M 37 2 ∧ M 37 2 ≤ 90 := by have := hN.hcp 2 (by decide) (by decide); have := hN.z2; omega
  refine v_aload_n (pc' := 1) (j := 0) F d_S_meter_0 rfl rfl rfl ?_
  refine v_iload_n (pc' := 2) (j := 1) F d_S_meter_1 rfl rfl rfl ?_
  refine v_callVR (pc' := 5) (C := zR_S) (T9 := zF_S) (N := 6) F d_S_meter_2 rfl cal_S_flatAt wx_313 wx_315 wp_6 rfl (hC.t_top) (c_S_flatAt l X _ _ _ _ _ _ _ ht hC hI hN (by omega)) rfl ⟨by decide, by decide, by decide, by decide⟩ (Nat.le_of_ble_eq_true rfl) (fun n2 fs9 => ?_) (fun a2 => ?_)
  · exact v_out F (by decide) (by decide) (by rw [show sp_meter M f k0 a b t = (1, 0, M) from if_neg (by omega)]; exact wpost.thr (k := 1) (by decide))
  refine v_astore_6 (pc' := 7) F d_S_meter_5 rfl rfl (by decide) ?_
  refine v_iload_n (pc' := 8) (j := 2) F d_S_meter_7 rfl rfl rfl ?_
  refine v_callSR (pc' := 11) F d_S_meter_8 rfl cal_S_checkKind wx_318 wx_319 (c_S_checkKind l X _ _ _ ht (by omega)) rfl ⟨by decide, by decide, by decide, by decide⟩ (Nat.le_of_ble_eq_true rfl) (fun n8 fs9 => ?_) (fun a8 => ?_)
  · exact v_out F (by decide) (by decide) (by rw [show sp_meter M f k0 a b t = (1, 0, M) from if_neg (by omega)]; exact wpost.thr (k := 1) (by decide))
  refine v_iload_n (pc' := 12) (j := 3) F d_S_meter_11 rfl rfl rfl ?_
  refine v_iconst (pc' := 13) F d_S_meter_12 rfl ?_
  refine v_sipush (pc' := 16) F d_S_meter_13 rfl (by decide) ?_
  refine v_callSR (pc' := 19) F d_S_meter_16 rfl cal_S_checkBounds wx_86 wx_87 (c_S_checkBounds l X _ _ _ _ _ ht (by omega) (by omega) (by omega)) rfl ⟨by decide, by decide, by decide, by decide⟩ (Nat.le_of_ble_eq_true rfl) (fun n16 fs9 => ?_) (fun a16 => ?_)
  · exact v_out F (by decide) (by decide) (by rw [show sp_meter M f k0 a b t = (1, 0, M) from if_neg (by omega)]; exact wpost.thr (k := 1) (by decide))
  refine v_iload (pc' := 21) F d_S_meter_19 rfl rfl ?_
  refine v_iconst (pc' := 22) F d_S_meter_21 rfl ?_
  refine v_sipush (pc' := 25) F d_S_meter_22 rfl (by decide) ?_
  refine v_callSR (pc' := 28) F d_S_meter_25 rfl cal_S_checkBounds wx_86 wx_87 (c_S_checkBounds l X _ _ _ _ _ ht (by omega) (by omega) (by omega)) rfl ⟨by decide, by decide, by decide, by decide⟩ (Nat.le_of_ble_eq_true rfl) (fun n25 fs9 => ?_) (fun a25 => ?_)
  · exact v_out F (by decide) (by decide) (by rw [show sp_meter M f k0 a b t = (1, 0, M) from if_neg (by omega)]; exact wpost.thr (k := 1) (by decide))
  refine v_iload (pc' := 30) F d_S_meter_28 rfl rfl ?_
  refine v_callSR (pc' := 33) F d_S_meter_30 rfl cal_S_checkDay wx_321 wx_322 (c_S_checkDay l X _ _ _ ht (by omega)) rfl ⟨by decide, by decide, by decide, by decide⟩ (Nat.le_of_ble_eq_true rfl) (fun n30 fs9 => ?_) (fun a30 => ?_)
  · exact v_out F (by decide) (by decide) (by rw [show sp_meter M f k0 a b t = (1, 0, M) from if_neg (by omega)]; exact wpost.thr (k := 1) (by decide))
  refine v_aload_n (pc' := 34) (j := 0) F d_S_meter_33 rfl rfl rfl ?_
  refine v_getf (pc' := 37) (C := zR_S) (T := zF_S) (N := 6) (ref := "BillShares") F d_S_meter_34 rfl zi_S rfl 2 (by decide) wx_59 (Or.inl rfl) (hC.t_top) rfl ?_
  refine v_callVP (pc' := 40) (C := zR_A) (T9 := zF_A) (N := 3) F d_S_meter_37 rfl cal_A_size wx_156 wx_157 wx_158 rfl (hC.t_ls (i := 2) ⟨by decide, by decide⟩) (c_size l X _ _ _ _ 2 _ hC ⟨by decide, by decide⟩ hN.z2) rfl ⟨by decide, by decide, by decide, by decide⟩ (Nat.le_of_ble_eq_true rfl) rfl rfl ?_
  refine v_bipush (pc' := 42) F d_S_meter_40 rfl (by decide) ?_
  refine v_icmp_lt (tgt := 55) (pc' := 45) F d_S_meter_42 (by decide) rfl (by omega) (by omega) (fun c42 => ?_) (fun c42 => ?_)
  · have hfv : 0 ≤ f ∧ f < M 1 0 := by omega
    have hq60 := hN.c60 hI hfv
    have hcpf := hN.hfc f hfv.1 hfv.2
    have h35 : M 35 f < 60 := by have := cntf_r (M 8) f (M 7 0).toNat; have := hN.hcn f hfv.1 hfv.2; omega
    refine v_fr (fun hfr => ?_)
    refine v_new (pc' := 58) (ci := 2) (C := zR_T) (T := zF_T) (N := 8) (fs := [iV 0, iV 0, iV 0, iV 0, iV 0, .null, .null, .null]) F d_S_meter_55 rfl zi_T zt_T zk_T rfl wx_325 wx_326 wx_18 (by decide +kernel) (by decide) (by decide) ?_
    refine v_dup (pc' := 59) F d_S_meter_58 rfl rfl ?_
    refine v_iload_n (pc' := 60) (j := 2) F d_S_meter_59 rfl rfl rfl ?_
    refine v_iload_n (pc' := 61) (j := 3) F d_S_meter_60 rfl rfl rfl ?_
    refine v_iload (pc' := 63) F d_S_meter_61 rfl rfl ?_
    refine v_iload (pc' := 65) F d_S_meter_63 rfl rfl ?_
    refine v_callI (pc' := 68) (av := [iV k0, iV a, iV b, iV t]) F d_S_meter_65 rfl wx_329 cal_T_init rfl wx_327 wx_328 (c_T_init l X _ _ _ _ _ _ _ am_up_s (Nat.lt_succ_self _)) rfl ⟨by decide, by decide, by decide, by decide⟩ (Nat.le_of_ble_eq_true rfl) (fun _ _ _ q => by cases q.1) (fun r9 h4 n4 q => ?_)
    obtain ⟨q9, rfl, hk4, k9, k1, k2, k3⟩ := q
    cases q9
    refine v_fr (fun hfr4 => ?_)
    have hC4 := hC.newMeter (f := f) (k := k0) (a := a) (b := b) (t0 := t) hfr hA hI hN (by omega) (fun q hq => (hk4 q (by omega) (by omega)).trans (am_up_n (by omega))) k9 k1 k2 k3
    have hF4 : OF A h h4 := fun q hq => by
      by_cases c : q < nx
      · exact (hk4 q (by omega) (by omega)).trans (am_up_n (by omega))
      · exact absurd (hA q (by omega)) hq
    obtain ⟨ar0, N0, hls0, hl0⟩ := hC4.ls 2 (M 7 0) (by decide) hN.z2 q7.1 hcp2 (fun i z0 z1 => hC4.ok_mt (f := i) ⟨z0, by rw [newT_7]; omega⟩)
    have hNa := hls0.2.1
    refine v_astore_7 (pc' := 70) F d_S_meter_68 rfl rfl (by decide) ?_
    refine v_aload_n (pc' := 71) (j := 0) F d_S_meter_70 rfl rfl rfl ?_
    refine v_getf (pc' := 74) (C := zR_S) (T := zF_S) (N := 6) (ref := "BillShares") F d_S_meter_71 rfl zi_S rfl 2 (by decide) wx_59 (Or.inl rfl) (hC4.t_top) rfl ?_
    refine v_aload (pc' := 76) F d_S_meter_74 rfl rfl ?_
    refine v_callV (pc' := 79) (C := zR_A) (T9 := zF_A) (N := 3) F d_S_meter_76 rfl cal_A_add wx_224 wx_225 wx_226 rfl (hC4.t_ls (i := 2) ⟨by decide, by decide⟩) (c_A_add l X _ _ _ _ _ _ _ _ hls0 (by omega) (ci := 2) rfl k9 wx_923 (Nat.ne_of_gt (hC.lt hfr (t := (4, 2)) ⟨by decide, by decide⟩))) rfl ⟨by decide, by decide, by decide, by decide⟩ (Nat.le_of_ble_eq_true rfl) (fun _ _ _ q => by obtain ⟨_, _, _, q9, _⟩ := q; cases q9) (fun r9 h5 n5 q => ?_)
    obtain ⟨ar1, N1, hq1, q9, he5⟩ := q
    cases q9
    refine v_fr (fun hfr5 => ?_)
    obtain ⟨⟨hC5, hF5⟩, hn5⟩ := hC4.add (g' := M 32) hfr4 (fun q hq => hA q (by omega)) 2 (M 7 0) (by decide) hN.z2 q7.1 hl0 (Or.inr rfl) hq1 (by rw [elt_ls (Or.inl (by decide)), refs_s q7.1, show pT P (M 7 0) nx (elt (newT M f k0 a b t) 2 (M 7 0)) = nx from pT_12]) he5
    have k5 : h5 nx = some (mtC (pL (pT P (M 7 0) nx) 2 ar1) (M 7 0) _ _ _ _ _) := (congrArg h5 (show nx = pL (pT P (M 7 0) nx) 2 ar1 (12, M 7 0) from pT_12.symm)).trans (hC5.t_mt (i := M 7 0) ⟨q7.1, by show M 7 0 < newT M f k0 a b t 7 0; rw [newT_7]; omega⟩)
    obtain ⟨ar2, N2, hls2, hl2⟩ := hC5.lf f (M 35 f) hfv rfl hq60.1 hcpf (fun i z0 z1 => hC5.ok_mt (f := M 34 (60 * f + i)) (by have := hN.mt hI hfv z0 z1; exact ⟨this.1, by show M 34 (60 * f + i) < newT M f k0 a b t 7 0; rw [newT_7]; omega⟩))
    have hNb := hls2.2.1
    refine v_pop (pc' := 80) F d_S_meter_79 rfl rfl ?_
    refine v_aload (pc' := 82) F d_S_meter_80 rfl rfl ?_
    refine v_getf (pc' := 85) (C := zR_F) (T := zF_F) (N := 10) (ref := "BillShares$Flat") F d_S_meter_82 rfl zi_F rfl 2 (by decide) wx_191 (Or.inl rfl) (hC5.t_fl (i := f) hfv) rfl ?_
    refine v_aload (pc' := 87) F d_S_meter_85 rfl rfl ?_
    refine v_callV (pc' := 90) (C := zR_A) (T9 := zF_A) (N := 3) F d_S_meter_87 rfl cal_A_add wx_224 wx_225 wx_226 rfl (hC5.t_fm (i := f) hfv) (c_A_add l X _ _ _ _ _ _ _ _ hls2 (by omega) (ci := 2) rfl k5 wx_923 (Nat.ne_of_gt (hC.lt hfr (t := (7, f)) hfv))) rfl ⟨by decide, by decide, by decide, by decide⟩ (Nat.le_of_ble_eq_true rfl) (fun _ _ _ q => by obtain ⟨_, _, _, q9, _⟩ := q; cases q9) (fun r9 h7 n7 q => ?_)
    obtain ⟨ar3, N3, hq3, q9, he7⟩ := q
    cases q9
    obtain ⟨⟨hC7, hF7⟩, hn7⟩ := hC5.addF hfr5 (fun q hq => hA q (by omega)) f (M 7 0) hfv (fun g z0 z1 => (hN.c60 hI ⟨z0, z1⟩).2) (by show 0 ≤ M 35 f ∧ M 35 f < 60; omega) hl2 hq3 (show nx = pL (pT P (M 7 0) nx) 2 ar1 (12, M 7 0) from pT_12.symm) he7
    refine v_pop (pc' := 91) F d_S_meter_90 rfl rfl ?_
    refine v_aload_n (pc' := 92) (j := 0) F d_S_meter_91 rfl rfl rfl ?_
    refine v_getf (pc' := 95) (C := zR_S) (T := zF_S) (N := 6) (ref := "BillShares") F d_S_meter_92 rfl zi_S rfl 2 (by decide) wx_59 (Or.inl rfl) (hC7.t_top) rfl ?_
    refine v_callVP (pc' := 98) (C := zR_A) (T9 := zF_A) (N := 3) F d_S_meter_95 rfl cal_A_size wx_156 wx_157 wx_158 rfl (hC7.t_ls (i := 2) ⟨by decide, by decide⟩) (c_size l X _ _ _ _ 2 (M 7 0 + 1) hC7 ⟨by decide, by decide⟩ (show upM (newT M f k0 a b t) 36 2 (M 7 0 + 1) 36 2 = M 7 0 + 1 from upM_ss)) rfl ⟨by decide, by decide, by decide, by decide⟩ (Nat.le_of_ble_eq_true rfl) rfl rfl ?_
    refine v_iconst (pc' := 99) F d_S_meter_98 rfl ?_
    refine v_isub (pc' := 100) F d_S_meter_99 rfl ?_
    refine v_topi (b := M 7 0) (by omega) ?_
    exact v_ireturn F rfl d_S_meter_100 rfl rfl (by decide) (by decide) (by rw [show sp_meter M f k0 a b t = (0, M 7 0, upM (upM (upM (upM (upM (upM M 8 (M 7 0) f) 9 (M 7 0) k0) 10 (M 7 0) a) 11 (M 7 0) b) 12 (M 7 0) t) 7 0 (M 7 0 + 1)) from (if_pos (by omega)).trans (if_pos (by omega))]; exact Or.inl ⟨rfl, rfl, ((((((OF.rf).tr hF4)).tr hF5)).tr hF7), by omega, _, _, hC7, NI.meter hI hN (by omega) hfv (by omega) (by omega), meter_c⟩)
  · refine v_newE (pc' := 54) (C := zR_IS) (T9 := zF_IS) (ci := 7) F ht am_exIS rfl wx_160 wx_161 wx_11 zi_IS wx_324 d_S_meter_45 d_S_meter_48 d_S_meter_49 d_S_meter_51 rfl (by decide) (by decide) (by decide) (Nat.le_of_ble_eq_true rfl) (fun fs9 => ?_)
    refine v_athrow F d_S_meter_54 ?_
    exact v_out F (by decide) (by decide) (by rw [show sp_meter M f k0 a b t = (2, 0, M) from (if_pos (by omega)).trans (if_neg (by omega))]; exact wpost.thr (k := 2) (by decide))
