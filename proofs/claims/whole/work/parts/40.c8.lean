/-! how the picture of the class grows (written by wip/whole/cc8.py) -/
theorem RepC.lt {X : am_X} {x : Nat} {A : Nat → Prop} {P : Tg → Nat} {M : MS} {h : am_H} {nx : Nat} (hC : RepC X x A P M h) (hfr : am_fr h nx) {t : Tg} (ht : Lv M t) : P t < nx := by
  refine Nat.not_le.mp (fun q => ?_)
  have := hC.at_ t ht
  rw [hfr _ q] at this
  cases this
theorem RepC.ext {X : am_X} {x : Nat} {A : Nat → Prop} {P : Tg → Nat} {M : MS} {h : am_H} {P' : Tg → Nat} {M' : MS} {h' : am_H} {nx : Nat} (hC : RepC X x A P M h) (hA : ∀ q : Nat, nx ≤ q → A q) (htop : P' (0, 0) = P (0, 0)) (hold : ∀ t, Lv M' t → (P' t = P t ∧ Lv M t) ∨ nx ≤ P' t) (hinj : ∀ t t', Lv M' t → Lv M' t' → nx ≤ P' t → P' t = P' t' → t = t') (hat : ∀ t, Lv M' t → h' (P' t) = some (cellC X P' M' t)) : RepC X x A P' M' h' := by
  refine ⟨htop.trans hC.top, hat, fun t t' ht ht' e => ?_, fun t ht => ?_⟩
  · rcases hold t ht with ⟨a1, a2⟩ | a
    · rcases hold t' ht' with ⟨b1, b2⟩ | b
      · exact hC.inj t t' a2 b2 (by rw [← a1, ← b1, e])
      · exact (hinj t' t ht' ht b e.symm).symm
    · exact hinj t t' ht ht' a e
  · rcases hold t ht with ⟨a1, a2⟩ | a
    · rw [a1]; exact hC.own t a2
    · exact hA _ a
theorem refs_c {P P' : Tg → Nat} {g g' : Int → Tg} {n : Int} (h : ∀ i : Int, 0 ≤ i → i < n → P' (g' i) = P (g i)) : refs P' g' n = refs P g n := by
  funext i
  unfold refs
  by_cases hi : (i : Int) < n
  · rw [if_pos hi, if_pos hi, h _ (by omega) hi]
  · rw [if_neg hi, if_neg hi]
theorem refs_s {P : Tg → Nat} {g : Int → Tg} {n : Int} (hn : 0 ≤ n) : refs P g (n + 1) = updV (refs P g n) n.toNat (.ref (P (g n))) := by
  funext i
  show (if (i : Int) < n + 1 then Value.ref (P (g i)) else .null) = (if i = n.toNat then Value.ref (P (g n)) else if (i : Int) < n then Value.ref (P (g i)) else .null)
  by_cases hi : i = n.toNat
  · subst hi
    rw [if_pos (by omega), if_pos rfl, Int.toNat_of_nonneg hn]
  · rw [if_neg hi]
    by_cases h2 : (i : Int) < n
    · rw [if_pos h2, if_pos (by omega)]
    · rw [if_neg h2, if_neg (by omega)]
theorem rowI_0 {M : MS} {k : Nat} {w f : Int} (h : ∀ i : Int, 0 ≤ i → i < w → M k (w * f + i) = 0) : rowI M k w f = (fun _ => 0) := by
  funext i
  unfold rowI
  by_cases hq : 0 ≤ i ∧ i < w
  · rw [if_pos hq]; exact h i hq.1 hq.2
  · rw [if_neg hq]
theorem bsF_0 {P : Tg → Nat} {M : MS} {i : Int} (h : ∀ a : Int, 0 ≤ a → a ≤ 9 → M 21 a ≤ i) : bsF P M i = (fun _ => .null) := by
  funext a
  unfold bsF
  rw [if_neg (fun q => by have := h (a : Int) (by omega) (by omega); omega)]
/-- a new flat's addresses -/
def pF (P : Tg → Nat) (n : Int) (b : Nat) : Tg → Nat := fun t => if t.1 = 6 ∧ t.2 = n then b else if t.1 = 7 ∧ t.2 = n then b + 1 else if t.1 = 9 ∧ t.2 = n then b + 2 else if t.1 = 10 ∧ t.2 = n then b + 3 else if t.1 = 11 ∧ t.2 = n then b + 4 else P t
theorem pF_o {P : Tg → Nat} {n : Int} {b : Nat} {t : Tg} (h : t.2 ≠ n) : pF P n b t = P t := by
  unfold pF
  rw [if_neg (fun q => h q.2), if_neg (fun q => h q.2), if_neg (fun q => h q.2), if_neg (fun q => h q.2), if_neg (fun q => h q.2)]
theorem pF_6 {P : Tg → Nat} {n : Int} {b : Nat} : pF P n b (6, n) = b := if_pos ⟨rfl, rfl⟩
theorem pF_7 {P : Tg → Nat} {n : Int} {b : Nat} : pF P n b (7, n) = b + 1 := by simp [pF]
theorem pF_9 {P : Tg → Nat} {n : Int} {b : Nat} : pF P n b (9, n) = b + 2 := by simp [pF]
theorem pF_10 {P : Tg → Nat} {n : Int} {b : Nat} : pF P n b (10, n) = b + 3 := by simp [pF]
theorem pF_11 {P : Tg → Nat} {n : Int} {b : Nat} : pF P n b (11, n) = b + 4 := by simp [pF]
def newF (M : MS) (a r : Int) : MS := upM (upM (upM (upM (upM (upM (upM (upM (upM (upM M 2 (M 1 0) a) 3 (M 1 0) r) 4 (M 1 0) 1) 28 (M 1 0) 0) 29 (M 1 0) 0) 30 (M 1 0) 0) 35 (M 1 0) 0) 40 (M 1 0) 0) 39 (M 1 0) 0) 1 0 (M 1 0 + 1)
theorem newF_1 {M : MS} {a r : Int} : newF M a r 1 0 = M 1 0 + 1 := upM_ss
set_option maxHeartbeats 4000000 in
theorem RepC.newFlat {X : am_X} {x : Nat} {A : Nat → Prop} {P : Tg → Nat} {M : MS} {h : am_H} {nx : Nat} {h1 : am_H} {a r : Int} (hC : RepC X x A P M h) (hfr : am_fr h nx) (hA : ∀ q : Nat, nx ≤ q → A q) (hI : RI M) (hN : NI M) (hn : M 1 0 < 20) (hk : ∀ q : Nat, q < nx → h1 q = h q)
    (k0 : h1 nx = some (.inr (1, [iV a, iV r, .ref (nx + 1), .ref (nx + 2), iV 1, .ref (nx + 3), .ref (nx + 4), iV 0, lV 0, lV 0]))) (k1 : h1 (nx + 1) = some (.inr (5, [.ref X.2.2.2, iV 0, iV 0]))) (k2 : h1 (nx + 2) = some (am_ia 12 (fun _ => 0))) (k3 : h1 (nx + 3) = some (am_la 10 (fun _ => 0))) (k4 : h1 (nx + 4) = some (.inl (3, 10, fun _ => .null))) : RepC X x A (pF P (M 1 0) nx) (newF M a r) h1 := by
  have q1 := hI.hfl
  have old : ∀ t, Lv M t → h1 (P t) = some (cellC X P M t) := fun t ht => (hk _ (hC.lt hfr ht)).trans (hC.at_ t ht)
  have lo : ∀ g : Int, (0 ≤ g ∧ g < newF M a r 1 0) → ¬ g = M 1 0 → 0 ≤ g ∧ g < M 1 0 := fun g z1 z2 => by rw [newF_1] at z1; omega
  refine hC.ext hA rfl (fun t ht => ?_) (fun t t' ht ht' hge e => ?_) (fun t ht => ?_)
  · by_cases hi : t.2 = M 1 0
    · obtain ⟨s0, i⟩ := t
      have hi' : i = M 1 0 := hi
      subst hi'
      rcases s0 with _ | _ | _ | _ | _ | _ | _ | _ | _ | _ | _ | _ | _ | _ | _ | _ | _ | _ | _ | n
      · exact Or.inl ⟨rfl, ht⟩
      · exact Or.inl ⟨rfl, ht⟩
      · exact Or.inl ⟨rfl, ht⟩
      · exact Or.inl ⟨rfl, ht⟩
      · exact Or.inl ⟨rfl, ht⟩
      · exact Or.inl ⟨rfl, ht⟩
      · exact Or.inr (Nat.le_of_eq pF_6.symm)
      · exact Or.inr (Nat.le_trans (Nat.le_add_right nx 1) (Nat.le_of_eq pF_7.symm))
      · exfalso; have z : 0 < upM M 35 (M 1 0) 0 35 (M 1 0) := ht.2; rw [upM_ss] at z; omega
      · exact Or.inr (Nat.le_trans (Nat.le_add_right nx 2) (Nat.le_of_eq pF_9.symm))
      · exact Or.inr (Nat.le_trans (Nat.le_add_right nx 3) (Nat.le_of_eq pF_10.symm))
      · exact Or.inr (Nat.le_trans (Nat.le_add_right nx 4) (Nat.le_of_eq pF_11.symm))
      · exact Or.inl ⟨rfl, ht⟩
      · exact Or.inl ⟨rfl, ht⟩
      · exact Or.inl ⟨rfl, ht⟩
      · exact Or.inl ⟨rfl, ht⟩
      · exact Or.inl ⟨rfl, ht⟩
      · exact Or.inl ⟨rfl, ht⟩
      · exact Or.inl ⟨rfl, ht⟩
      · exact ht.elim
    · refine Or.inl ⟨pF_o hi, ?_⟩
      obtain ⟨s0, g⟩ := t
      rcases s0 with _ | _ | _ | _ | _ | _ | _ | _ | _ | _ | _ | _ | _ | _ | _ | _ | _ | _ | _ | n
      · exact ht
      · exact ht
      · exact ht
      · exact ht
      · exact ht
      · exact ht
      · exact lo g ht hi
      · exact lo g ht hi
      · exact ⟨lo g ht.1 hi, by have z : 0 < upM M 35 (M 1 0) 0 35 g := ht.2; rw [upM_sn hi] at z; exact z⟩
      · exact lo g ht hi
      · exact lo g ht hi
      · exact lo g ht hi
      · exact ht
      · exact ht
      · exact ht
      · exact ht
      · exact ht
      · exact ht
      · exact ht
      · exact ht
  · have key : ∀ u : Tg, Lv (newF M a r) u → nx ≤ pF P (M 1 0) nx u → u.2 = M 1 0 ∧ ((u.1 = 6 ∧ pF P (M 1 0) nx u = nx) ∨ (u.1 = 7 ∧ pF P (M 1 0) nx u = nx + 1) ∨ (u.1 = 9 ∧ pF P (M 1 0) nx u = nx + 2) ∨ (u.1 = 10 ∧ pF P (M 1 0) nx u = nx + 3) ∨ (u.1 = 11 ∧ pF P (M 1 0) nx u = nx + 4)) := fun u hu hge => by
      by_cases hi : u.2 = M 1 0
      · refine ⟨hi, ?_⟩
        obtain ⟨s0, i⟩ := u
        have hi' : i = M 1 0 := hi
        subst hi'
        rcases s0 with _ | _ | _ | _ | _ | _ | _ | _ | _ | _ | _ | _ | _ | _ | _ | _ | _ | _ | _ | n
        · exact absurd hge (Nat.not_le.mpr (hC.lt hfr (t := (0, M 1 0)) hu))
        · exact absurd hge (Nat.not_le.mpr (hC.lt hfr (t := (1, M 1 0)) hu))
        · exact absurd hge (Nat.not_le.mpr (hC.lt hfr (t := (2, M 1 0)) hu))
        · exact absurd hge (Nat.not_le.mpr (hC.lt hfr (t := (3, M 1 0)) hu))
        · exact absurd hge (Nat.not_le.mpr (hC.lt hfr (t := (4, M 1 0)) hu))
        · exact absurd hge (Nat.not_le.mpr (hC.lt hfr (t := (5, M 1 0)) hu))
        · exact Or.inl ⟨rfl, pF_6⟩
        · exact Or.inr (Or.inl ⟨rfl, pF_7⟩)
        · exfalso; have z : 0 < upM M 35 (M 1 0) 0 35 (M 1 0) := hu.2; rw [upM_ss] at z; omega
        · exact Or.inr (Or.inr (Or.inl ⟨rfl, pF_9⟩))
        · exact Or.inr (Or.inr (Or.inr (Or.inl ⟨rfl, pF_10⟩)))
        · exact Or.inr (Or.inr (Or.inr (Or.inr ⟨rfl, pF_11⟩)))
        · exact absurd hge (Nat.not_le.mpr (hC.lt hfr (t := (12, M 1 0)) hu))
        · exact absurd hge (Nat.not_le.mpr (hC.lt hfr (t := (13, M 1 0)) hu))
        · exact absurd hge (Nat.not_le.mpr (hC.lt hfr (t := (14, M 1 0)) hu))
        · exact absurd hge (Nat.not_le.mpr (hC.lt hfr (t := (15, M 1 0)) hu))
        · exact absurd hge (Nat.not_le.mpr (hC.lt hfr (t := (16, M 1 0)) hu))
        · exact absurd hge (Nat.not_le.mpr (hC.lt hfr (t := (17, M 1 0)) hu))
        · exact absurd hge (Nat.not_le.mpr (hC.lt hfr (t := (18, M 1 0)) hu))
        · exact hu.elim
      · exfalso
        rw [pF_o hi] at hge
        refine Nat.not_le.mpr (hC.lt hfr (t := u) ?_) hge
        obtain ⟨s0, g⟩ := u
        rcases s0 with _ | _ | _ | _ | _ | _ | _ | _ | _ | _ | _ | _ | _ | _ | _ | _ | _ | _ | _ | n
        · exact hu
        · exact hu
        · exact hu
        · exact hu
        · exact hu
        · exact hu
        · exact lo g hu hi
        · exact lo g hu hi
        · exact ⟨lo g hu.1 hi, by have z : 0 < upM M 35 (M 1 0) 0 35 g := hu.2; rw [upM_sn hi] at z; exact z⟩
        · exact lo g hu hi
        · exact lo g hu hi
        · exact lo g hu hi
        · exact hu
        · exact hu
        · exact hu
        · exact hu
        · exact hu
        · exact hu
        · exact hu
        · exact hu
    have z1 := key t ht hge
    have z2 := key t' ht' (by rw [← e]; exact hge)
    refine Prod.ext ?_ (z1.1.trans z2.1.symm)
    rcases z1.2 with w | w | w | w | w <;> rcases z2.2 with v | v | v | v | v <;> omega
  · obtain ⟨s0, g⟩ := t
    rcases s0 with _ | _ | _ | _ | _ | _ | _ | _ | _ | _ | _ | _ | _ | _ | _ | _ | _ | _ | _ | n
    · exact old (0, g) ht
    · exact old (1, g) ht
    · exact old (2, g) ht
    · exact old (3, g) ht
    · exact old (4, g) ht
    · have ho := old (5, g) ht
      refine ho.trans ?_
      show some ((.inl (2, (M 37 g).toNat, refs P (elt M g) (M 36 g)) : am_E)) = some ((.inl (2, (M 37 g).toNat, refs (pF P (M 1 0) nx) (elt M g) (M 36 g)) : am_E))
      rw [refs_c (P := P) (P' := pF P (M 1 0) nx) (g := elt M g) (g' := elt M g) (fun i h0 h2 => ?_)]
      have hg : (0 ≤ g ∧ g < 3) ∧ 0 < M 36 g := ht
      unfold elt
      by_cases g0 : g = 0
      · subst g0
        rw [if_pos rfl]
        refine pF_o (t := (6, i)) ?_
        have := hN.z0
        show i ≠ M 1 0
        omega
      · rw [if_neg g0]
        by_cases g1 : g = 1
        · subst g1
          rw [if_pos rfl]
          refine pF_o (t := (6, M 32 i)) ?_
          have z := hN.z1
          have := (hN.hor i h0 (by omega)).1
          show M 32 i ≠ M 1 0
          omega
        · rw [if_neg g1]; rfl
    · by_cases hi : g = M 1 0
      · subst hi
        show h1 (pF P (M 1 0) nx (6, M 1 0)) = some (flC (pF P (M 1 0) nx) (M 1 0) (upM M 2 (M 1 0) a 2 (M 1 0)) (upM M 3 (M 1 0) r 3 (M 1 0)) (upM M 4 (M 1 0) 1 4 (M 1 0)) (upM M 28 (M 1 0) 0 28 (M 1 0)) (upM M 29 (M 1 0) 0 29 (M 1 0)) (upM M 30 (M 1 0) 0 30 (M 1 0)))
        rw [upM_ss, upM_ss, upM_ss, upM_ss, upM_ss, upM_ss]
        unfold flC
        rw [pF_6, pF_7, pF_9, pF_10, pF_11]
        exact k0
      · have ho := old (6, g) (lo g ht hi)
        show h1 (pF P (M 1 0) nx (6, g)) = some (flC (pF P (M 1 0) nx) g (upM M 2 (M 1 0) a 2 g) (upM M 3 (M 1 0) r 3 g) (upM M 4 (M 1 0) 1 4 g) (upM M 28 (M 1 0) 0 28 g) (upM M 29 (M 1 0) 0 29 g) (upM M 30 (M 1 0) 0 30 g))
        rw [upM_sn hi, upM_sn hi, upM_sn hi, upM_sn hi, upM_sn hi, upM_sn hi]
        unfold flC
        rw [pF_o (t := (6, g)) hi, pF_o (t := (7, g)) hi, pF_o (t := (9, g)) hi, pF_o (t := (10, g)) hi, pF_o (t := (11, g)) hi]
        exact ho
    · by_cases hi : g = M 1 0
      · subst hi
        show h1 (pF P (M 1 0) nx (7, M 1 0)) = some (.inr (5, [.ref (if 0 < upM M 35 (M 1 0) 0 35 (M 1 0) then P (8, M 1 0) else X.2.2.2), iV (upM M 35 (M 1 0) 0 35 (M 1 0)), iV (upM M 40 (M 1 0) 0 40 (M 1 0))]))
        rw [upM_ss, upM_ss, pF_7, if_neg (by decide)]
        exact k1
      · show h1 (pF P (M 1 0) nx (7, g)) = some (.inr (5, [.ref (if 0 < upM M 35 (M 1 0) 0 35 g then P (8, g) else X.2.2.2), iV (upM M 35 (M 1 0) 0 35 g), iV (upM M 40 (M 1 0) 0 40 g)]))
        rw [upM_sn hi, upM_sn hi, pF_o (t := (7, g)) hi]
        exact old (7, g) (lo g ht hi)
    · by_cases hi : g = M 1 0
      · exfalso
        subst hi
        have z : 0 < upM M 35 (M 1 0) 0 35 (M 1 0) := ht.2
        rw [upM_ss] at z
        omega
      · have z : 0 < upM M 35 (M 1 0) 0 35 g := ht.2
        show h1 (P (8, g)) = some (.inl (2, (upM M 39 (M 1 0) 0 39 g).toNat, refs P (fun j => ((12, M 34 (60 * g + j)) : Tg)) (upM M 35 (M 1 0) 0 35 g)))
        rw [upM_sn hi] at z
        rw [upM_sn hi, upM_sn hi]
        exact old (8, g) ⟨lo g ht.1 hi, z⟩
    · by_cases hi : g = M 1 0
      · subst hi
        show h1 (pF P (M 1 0) nx (9, M 1 0)) = some (am_ia 12 (rowI M 5 12 (M 1 0)))
        rw [pF_9, k2, rowI_0 (fun i z1 z2 => hI.hl0 (M 1 0) i (by omega) hn z1 z2)]
      · refine (congrArg h1 (pF_o (t := (9, g)) hi)).trans (old (9, g) (lo g ht hi))
    · by_cases hi : g = M 1 0
      · subst hi
        show h1 (pF P (M 1 0) nx (10, M 1 0)) = some (am_la 10 (rowI M 6 10 (M 1 0)))
        rw [pF_10, k3, rowI_0 (fun i z1 z2 => hI.hp0 (M 1 0) i (by omega) hn z1 z2)]
      · refine (congrArg h1 (pF_o (t := (10, g)) hi)).trans (old (10, g) (lo g ht hi))
    · by_cases hi : g = M 1 0
      · subst hi
        show h1 (pF P (M 1 0) nx (11, M 1 0)) = some (.inl (3, 10, bsF P M (M 1 0)))
        rw [pF_11, k4, bsF_0 (fun z z1 z2 => (hI.ht1 z z1 z2).1)]
      · refine (congrArg h1 (pF_o (t := (11, g)) hi)).trans (old (11, g) (lo g ht hi))
    · exact old (12, g) ht
    · exact old (13, g) ht
    · exact old (14, g) ht
    · exact old (15, g) ht
    · exact old (16, g) ht
    · exact old (17, g) ht
    · exact old (18, g) ht
    · exact ht.elim
/-- a list's new array -/
def pL (P : Tg → Nat) (k : Int) (b : Nat) : Tg → Nat := fun t => if t.1 = 5 ∧ t.2 = k then b else P t
theorem pL_s {P : Tg → Nat} {k : Int} {b : Nat} : pL P k b (5, k) = b := if_pos ⟨rfl, rfl⟩
theorem pL_o {P : Tg → Nat} {k : Int} {b : Nat} {t : Tg} (h : t.2 ≠ k) : pL P k b t = P t := if_neg (fun q => h q.2)
def lsM (M : MS) (k n N md : Int) (g : Int → Int) : MS := fun a => if a = 32 then g else upM (upM (upM M 36 k n) 37 k N) 38 k md a
theorem elt_ls {M : MS} {k n N md : Int} {g : Int → Int} {j : Int} (h : j ≠ 1 ∨ g = M 32) : elt (lsM M k n N md g) j = elt M j := by
  funext i
  unfold elt
  by_cases h0 : j = 0
  · rw [if_pos h0, if_pos h0]
  · rw [if_neg h0, if_neg h0]
    by_cases h1 : j = 1
    · rw [if_pos h1, if_pos h1]
      rcases h with h | h
      · exact absurd h1 h
      · show ((6, g i) : Tg) = (6, M 32 i)
        rw [h]
    · rw [if_neg h1, if_neg h1]
theorem RepC.chL {X : am_X} {x : Nat} {A : Nat → Prop} {P : Tg → Nat} {M : MS} {h : am_H} {nx : Nat} {h' : am_H} {k n' N md : Int} {g : Int → Int} {ar : Nat} (hC : RepC X x A P M h) (hfr : am_fr h nx) (hA : ∀ q : Nat, nx ≤ q → A q) (hk : 0 ≤ k ∧ k < 3) (hn : 0 < n') (hg : k = 1 ∨ g = M 32) (har : (ar = P (5, k) ∧ 0 < M 36 k) ∨ ar = nx)
    (he : h' = am_up (am_up h ar (.inl (2, N.toNat, refs P (elt (lsM M k n' N md g) k) n'))) (P (4, k)) (.inr (5, [.ref ar, iV n', iV md]))) : RepC X x A (pL P k ar) (lsM M k n' N md g) h' ∧ OF A h h' := by
  have hl4 : Lv M (4, k) := hk
  have hne4 : P (4, k) ≠ ar := fun q => by
    rcases har with ⟨z1, z2⟩ | z
    · have := hC.inj (4, k) (5, k) hl4 ⟨hk, z2⟩ (q.trans z1)
      cases this
    · have := hC.lt hfr hl4
      omega
  have hAr : A ar := by
    rcases har with ⟨z1, z2⟩ | z
    · rw [z1]; exact hC.own (5, k) ⟨hk, z2⟩
    · rw [z]; exact hA _ (Nat.le_refl _)
  have old : ∀ t, Lv M t → t ≠ (4, k) → t ≠ (5, k) → h' (P t) = some (cellC X P M t) := fun t ht h4 h5 => by
    rw [he, am_up_n (fun q => h4 (hC.inj _ _ ht hl4 q)), am_up_n (fun q => ?_), hC.at_ t ht]
    rcases har with ⟨z1, z2⟩ | z
    · exact h5 (hC.inj t (5, k) ht ⟨hk, z2⟩ (q.trans z1))
    · have := hC.lt hfr ht
      omega
  have hold : ∀ t, Lv (lsM M k n' N md g) t → (pL P k ar t = P t ∧ Lv M t) ∨ (t = (5, k) ∧ ar = nx) := fun t ht => by
    obtain ⟨s0, i⟩ := t
    rcases s0 with _ | _ | _ | _ | _ | _ | _ | _ | _ | _ | _ | _ | _ | _ | _ | _ | _ | _ | _ | n
    · exact Or.inl ⟨rfl, ht⟩
    · exact Or.inl ⟨rfl, ht⟩
    · exact Or.inl ⟨rfl, ht⟩
    · exact Or.inl ⟨rfl, ht⟩
    · exact Or.inl ⟨rfl, ht⟩
    · by_cases hi : i = k
      · subst hi
        rcases har with ⟨z1, z2⟩ | z
        · exact Or.inl ⟨pL_s.trans z1, hk, z2⟩
        · exact Or.inr ⟨rfl, z⟩
      · have z : (0 ≤ i ∧ i < 3) ∧ 0 < upM M 36 k n' 36 i := ht
        rw [upM_sn hi] at z
        exact Or.inl ⟨pL_o (t := (5, i)) hi, z⟩
    · exact Or.inl ⟨rfl, ht⟩
    · exact Or.inl ⟨rfl, ht⟩
    · exact Or.inl ⟨rfl, ht⟩
    · exact Or.inl ⟨rfl, ht⟩
    · exact Or.inl ⟨rfl, ht⟩
    · exact Or.inl ⟨rfl, ht⟩
    · exact Or.inl ⟨rfl, ht⟩
    · exact Or.inl ⟨rfl, ht⟩
    · exact Or.inl ⟨rfl, ht⟩
    · exact Or.inl ⟨rfl, ht⟩
    · exact Or.inl ⟨rfl, ht⟩
    · exact Or.inl ⟨rfl, ht⟩
    · exact Or.inl ⟨rfl, ht⟩
    · exact ht.elim
  refine ⟨hC.ext hA rfl (fun t ht => ?_) (fun t t' ht ht' hge e => ?_) (fun t ht => ?_), fun a ha => ?_⟩
  · rcases hold t ht with z | ⟨z1, z2⟩
    · exact Or.inl z
    · rw [z1, pL_s, z2]; exact Or.inr (Nat.le_refl _)
  · have one : ∀ u, Lv (lsM M k n' N md g) u → nx ≤ pL P k ar u → u = (5, k) := fun u hu hge => by
      rcases hold u hu with ⟨z1, z2⟩ | z
      · rw [z1] at hge
        exact absurd hge (Nat.not_le.mpr (hC.lt hfr z2))
      · exact z.1
    rw [one t ht hge, one t' ht' (by rw [← e]; exact hge)]
  · obtain ⟨s0, i⟩ := t
    rcases s0 with _ | _ | _ | _ | _ | _ | _ | _ | _ | _ | _ | _ | _ | _ | _ | _ | _ | _ | _ | n
    · exact old (0, i) ht (fun q => by cases q) (fun q => by cases q)
    · exact old (1, i) ht (fun q => by cases q) (fun q => by cases q)
    · exact old (2, i) ht (fun q => by cases q) (fun q => by cases q)
    · exact old (3, i) ht (fun q => by cases q) (fun q => by cases q)
    · by_cases hi : i = k
      · subst hi
        show h' (P (4, i)) = some ((.inr (5, [.ref (if 0 < upM M 36 i n' 36 i then pL P i ar (5, i) else X.2.2.2), iV (upM M 36 i n' 36 i), iV (upM M 38 i md 38 i)]) : am_E))
        rw [upM_ss, upM_ss, if_pos hn, pL_s, he, am_up_s]
      · have z := old (4, i) ht (fun q => hi (congrArg Prod.snd q)) (fun q => by cases q)
        show h' (P (4, i)) = some ((.inr (5, [.ref (if 0 < upM M 36 k n' 36 i then pL P k ar (5, i) else X.2.2.2), iV (upM M 36 k n' 36 i), iV (upM M 38 k md 38 i)]) : am_E))
        rw [upM_sn hi, upM_sn hi, pL_o (t := (5, i)) hi]
        exact z
    · by_cases hi : i = k
      · subst hi
        show h' (pL P i ar (5, i)) = some ((.inl (2, (upM M 37 i N 37 i).toNat, refs (pL P i ar) (elt (lsM M i n' N md g) i) (upM M 36 i n' 36 i)) : am_E))
        rw [upM_ss, upM_ss, pL_s, he, am_up_n (fun q => hne4 q.symm), am_up_s, refs_c (P := P) (P' := pL P i ar) (g := elt (lsM M i n' N md g) i) (g' := elt (lsM M i n' N md g) i) (fun j _ _ => ?_)]
        unfold elt
        split
        · rfl
        · split <;> rfl
      · have z0 : (0 ≤ i ∧ i < 3) ∧ 0 < upM M 36 k n' 36 i := ht
        rw [upM_sn hi] at z0
        have z := old (5, i) z0 (fun q => by cases q) (fun q => hi (congrArg Prod.snd q))
        show h' (pL P k ar (5, i)) = some ((.inl (2, (upM M 37 k N 37 i).toNat, refs (pL P k ar) (elt (lsM M k n' N md g) i) (upM M 36 k n' 36 i)) : am_E))
        rw [upM_sn hi, upM_sn hi, pL_o (t := (5, i)) hi, elt_ls (hg.elim (fun q => Or.inl (fun w => hi (w.trans q.symm))) Or.inr), refs_c (P := P) (P' := pL P k ar) (g := elt M i) (g' := elt M i) (fun j _ _ => ?_)]
        · exact z
        · unfold elt
          split
          · rfl
          · split <;> rfl
    · exact old (6, i) ht (fun q => by cases q) (fun q => by cases q)
    · exact old (7, i) ht (fun q => by cases q) (fun q => by cases q)
    · exact old (8, i) ht (fun q => by cases q) (fun q => by cases q)
    · exact old (9, i) ht (fun q => by cases q) (fun q => by cases q)
    · exact old (10, i) ht (fun q => by cases q) (fun q => by cases q)
    · exact old (11, i) ht (fun q => by cases q) (fun q => by cases q)
    · exact old (12, i) ht (fun q => by cases q) (fun q => by cases q)
    · exact old (13, i) ht (fun q => by cases q) (fun q => by cases q)
    · exact old (14, i) ht (fun q => by cases q) (fun q => by cases q)
    · exact old (15, i) ht (fun q => by cases q) (fun q => by cases q)
    · exact old (16, i) ht (fun q => by cases q) (fun q => by cases q)
    · exact old (17, i) ht (fun q => by cases q) (fun q => by cases q)
    · exact old (18, i) ht (fun q => by cases q) (fun q => by cases q)
    · exact ht.elim
  · rw [he, am_up_n (fun q => ha (by rw [q]; exact hC.own (4, k) hl4)), am_up_n (fun q => ha (by rw [q]; exact hAr))]
