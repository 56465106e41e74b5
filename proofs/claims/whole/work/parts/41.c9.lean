/-! a new meter, a flat's list that grows, a new bill (written by wip/whole/cc9.py) -/
/-- a new meter's addresses -/
def pT (P : Tg → Nat) (n : Int) (b : Nat) : Tg → Nat := fun t => if t.1 = 12 ∧ t.2 = n then b else if t.1 = 13 ∧ t.2 = n then b + 1 else if t.1 = 14 ∧ t.2 = n then b + 2 else if t.1 = 15 ∧ t.2 = n then b + 3 else P t
theorem pT_o {P : Tg → Nat} {n : Int} {b : Nat} {t : Tg} (h : t.2 ≠ n) : pT P n b t = P t := by
  unfold pT
  rw [if_neg (fun q => h q.2), if_neg (fun q => h q.2), if_neg (fun q => h q.2), if_neg (fun q => h q.2)]
theorem pT_12 {P : Tg → Nat} {n : Int} {b : Nat} : pT P n b (12, n) = b + 0 := by simp [pT]
theorem pT_13 {P : Tg → Nat} {n : Int} {b : Nat} : pT P n b (13, n) = b + 1 := by simp [pT]
theorem pT_14 {P : Tg → Nat} {n : Int} {b : Nat} : pT P n b (14, n) = b + 2 := by simp [pT]
theorem pT_15 {P : Tg → Nat} {n : Int} {b : Nat} : pT P n b (15, n) = b + 3 := by simp [pT]
def newT (M : MS) (f k a b t : Int) : MS := fun j => if j = 33 then (fun i => if 40 * M 7 0 ≤ i ∧ i < 40 * M 7 0 + 40 then 0 else M 33 i) else upM (upM (upM (upM (upM (upM M 8 (M 7 0) f) 9 (M 7 0) k) 10 (M 7 0) a) 11 (M 7 0) b) 12 (M 7 0) t) 7 0 (M 7 0 + 1) j
theorem newT_7 {M : MS} {f k a b t : Int} : newT M f k a b t 7 0 = M 7 0 + 1 := (show upM (upM (upM (upM (upM (upM M 8 (M 7 0) f) 9 (M 7 0) k) 10 (M 7 0) a) 11 (M 7 0) b) 12 (M 7 0) t) 7 0 (M 7 0 + 1) 7 0 = _ from upM_ss)
theorem row33_n {M : MS} {f k a b t : Int} : rowI (newT M f k a b t) 33 40 (M 7 0) = (fun _ => 0) := rowI_0 (fun i h0 h1 => if_pos (by omega))
theorem row33_o {M : MS} {f k a b t g : Int} (hg : g ≠ M 7 0) : rowI (newT M f k a b t) 33 40 g = rowI M 33 40 g := by
  funext i
  unfold rowI
  by_cases hq : 0 ≤ i ∧ i < 40
  · rw [if_pos hq, if_pos hq]
    exact if_neg (by omega)
  · rw [if_neg hq, if_neg hq]
set_option maxHeartbeats 4000000 in
theorem RepC.newMeter {X : am_X} {x : Nat} {A : Nat → Prop} {P : Tg → Nat} {M : MS} {h : am_H} {nx : Nat} {h1 : am_H} {f k a b t0 : Int} (hC : RepC X x A P M h) (hfr : am_fr h nx) (hA : ∀ q : Nat, nx ≤ q → A q) (hI : RI M) (hN : NI M) (hn : M 7 0 < 60) (hk : ∀ q : Nat, q < nx → h1 q = h q)
    (k0 : h1 nx = some (.inr (2, [iV k, iV a, iV b, iV t0, iV 0, .ref (nx + 1), .ref (nx + 2), .ref (nx + 3)]))) (k1 : h1 (nx + 1) = some (am_ia 40 (fun _ => 0))) (k2 : h1 (nx + 2) = some (am_ia 40 (fun _ => 0))) (k3 : h1 (nx + 3) = some (am_ia 40 (fun _ => 0))) : RepC X x A (pT P (M 7 0) nx) (newT M f k a b t0) h1 := by
  have q1 := hI.hme
  have old : ∀ t, Lv M t → h1 (P t) = some (cellC X P M t) := fun t ht => (hk _ (hC.lt hfr ht)).trans (hC.at_ t ht)
  have lo : ∀ g : Int, (0 ≤ g ∧ g < newT M f k a b t0 7 0) → ¬ g = M 7 0 → 0 ≤ g ∧ g < M 7 0 := fun g z1 z2 => by rw [newT_7] at z1; omega
  refine hC.ext hA rfl (fun t ht => ?_) (fun t t' ht ht' hge e => ?_) (fun t ht => ?_)
  · by_cases hi : t.2 = M 7 0
    · obtain ⟨s0, i⟩ := t
      have hi' : i = M 7 0 := hi
      subst hi'
      rcases s0 with _ | _ | _ | _ | _ | _ | _ | _ | _ | _ | _ | _ | _ | _ | _ | _ | _ | _ | _ | n
      · exact Or.inl ⟨rfl, ht⟩
      · exact Or.inl ⟨rfl, ht⟩
      · exact Or.inl ⟨rfl, ht⟩
      · exact Or.inl ⟨rfl, ht⟩
      · exact Or.inl ⟨rfl, ht⟩
      · exact Or.inl ⟨rfl, ht⟩
      · exact Or.inl ⟨rfl, ht⟩
      · exact Or.inl ⟨rfl, ht⟩
      · exact Or.inl ⟨rfl, ht⟩
      · exact Or.inl ⟨rfl, ht⟩
      · exact Or.inl ⟨rfl, ht⟩
      · exact Or.inl ⟨rfl, ht⟩
      · exact Or.inr (Nat.le_trans (Nat.le_add_right nx 0) (Nat.le_of_eq pT_12.symm))
      · exact Or.inr (Nat.le_trans (Nat.le_add_right nx 1) (Nat.le_of_eq pT_13.symm))
      · exact Or.inr (Nat.le_trans (Nat.le_add_right nx 2) (Nat.le_of_eq pT_14.symm))
      · exact Or.inr (Nat.le_trans (Nat.le_add_right nx 3) (Nat.le_of_eq pT_15.symm))
      · exact Or.inl ⟨rfl, ht⟩
      · exact Or.inl ⟨rfl, ht⟩
      · exact Or.inl ⟨rfl, ht⟩
      · exact ht.elim
    · refine Or.inl ⟨pT_o hi, ?_⟩
      obtain ⟨s0, g⟩ := t
      rcases s0 with _ | _ | _ | _ | _ | _ | _ | _ | _ | _ | _ | _ | _ | _ | _ | _ | _ | _ | _ | n
      · exact ht
      · exact ht
      · exact ht
      · exact ht
      · exact ht
      · exact ht
      · exact ht
      · exact ht
      · exact ht
      · exact ht
      · exact ht
      · exact ht
      · exact lo g ht hi
      · exact lo g ht hi
      · exact lo g ht hi
      · exact lo g ht hi
      · exact ht
      · exact ht
      · exact ht
      · exact ht
  · have key : ∀ u : Tg, Lv (newT M f k a b t0) u → nx ≤ pT P (M 7 0) nx u → u.2 = M 7 0 ∧ ((u.1 = 12 ∧ pT P (M 7 0) nx u = nx + 0) ∨ (u.1 = 13 ∧ pT P (M 7 0) nx u = nx + 1) ∨ (u.1 = 14 ∧ pT P (M 7 0) nx u = nx + 2) ∨ (u.1 = 15 ∧ pT P (M 7 0) nx u = nx + 3)) := fun u hu hge => by
      by_cases hi : u.2 = M 7 0
      · refine ⟨hi, ?_⟩
        obtain ⟨s0, i⟩ := u
        have hi' : i = M 7 0 := hi
        subst hi'
        rcases s0 with _ | _ | _ | _ | _ | _ | _ | _ | _ | _ | _ | _ | _ | _ | _ | _ | _ | _ | _ | n
        · exact absurd hge (Nat.not_le.mpr (hC.lt hfr (t := (0, M 7 0)) hu))
        · exact absurd hge (Nat.not_le.mpr (hC.lt hfr (t := (1, M 7 0)) hu))
        · exact absurd hge (Nat.not_le.mpr (hC.lt hfr (t := (2, M 7 0)) hu))
        · exact absurd hge (Nat.not_le.mpr (hC.lt hfr (t := (3, M 7 0)) hu))
        · exact absurd hge (Nat.not_le.mpr (hC.lt hfr (t := (4, M 7 0)) hu))
        · exact absurd hge (Nat.not_le.mpr (hC.lt hfr (t := (5, M 7 0)) hu))
        · exact absurd hge (Nat.not_le.mpr (hC.lt hfr (t := (6, M 7 0)) hu))
        · exact absurd hge (Nat.not_le.mpr (hC.lt hfr (t := (7, M 7 0)) hu))
        · exact absurd hge (Nat.not_le.mpr (hC.lt hfr (t := (8, M 7 0)) hu))
        · exact absurd hge (Nat.not_le.mpr (hC.lt hfr (t := (9, M 7 0)) hu))
        · exact absurd hge (Nat.not_le.mpr (hC.lt hfr (t := (10, M 7 0)) hu))
        · exact absurd hge (Nat.not_le.mpr (hC.lt hfr (t := (11, M 7 0)) hu))
        · exact Or.inl ⟨rfl, pT_12⟩
        · exact Or.inr (Or.inl ⟨rfl, pT_13⟩)
        · exact Or.inr (Or.inr (Or.inl ⟨rfl, pT_14⟩))
        · exact Or.inr (Or.inr (Or.inr ⟨rfl, pT_15⟩))
        · exact absurd hge (Nat.not_le.mpr (hC.lt hfr (t := (16, M 7 0)) hu))
        · exact absurd hge (Nat.not_le.mpr (hC.lt hfr (t := (17, M 7 0)) hu))
        · exact absurd hge (Nat.not_le.mpr (hC.lt hfr (t := (18, M 7 0)) hu))
        · exact hu.elim
      · exfalso
        rw [pT_o hi] at hge
        refine Nat.not_le.mpr (hC.lt hfr (t := u) ?_) hge
        obtain ⟨s0, g⟩ := u
        rcases s0 with _ | _ | _ | _ | _ | _ | _ | _ | _ | _ | _ | _ | _ | _ | _ | _ | _ | _ | _ | n
        · exact hu
        · exact hu
        · exact hu
        · exact hu
        · exact hu
        · exact hu
        · exact hu
        · exact hu
        · exact hu
        · exact hu
        · exact hu
        · exact hu
        · exact lo g hu hi
        · exact lo g hu hi
        · exact lo g hu hi
        · exact lo g hu hi
        · exact hu
        · exact hu
        · exact hu
        · exact hu
    have z1 := key t ht hge
    have z2 := key t' ht' (by rw [← e]; exact hge)
    refine Prod.ext ?_ (z1.1.trans z2.1.symm)
    rcases z1.2 with w | w | w | w <;> rcases z2.2 with v | v | v | v <;> omega
  · obtain ⟨s0, g⟩ := t
    rcases s0 with _ | _ | _ | _ | _ | _ | _ | _ | _ | _ | _ | _ | _ | _ | _ | _ | _ | _ | _ | n
    · exact old (0, g) ht
    · exact old (1, g) ht
    · exact old (2, g) ht
    · exact old (3, g) ht
    · exact old (4, g) ht
    · refine (old (5, g) ht).trans ?_
      show some ((.inl (2, (M 37 g).toNat, refs P (elt M g) (M 36 g)) : am_E)) = some ((.inl (2, (M 37 g).toNat, refs (pT P (M 7 0) nx) (elt M g) (M 36 g)) : am_E))
      rw [refs_c (P := P) (P' := pT P (M 7 0) nx) (g := elt M g) (g' := elt M g) (fun i h0 h2 => ?_)]
      have hg : (0 ≤ g ∧ g < 3) ∧ 0 < M 36 g := ht
      unfold elt
      by_cases g0 : g = 0
      · rw [if_pos g0]; rfl
      · rw [if_neg g0]
        by_cases g1 : g = 1
        · rw [if_pos g1]; rfl
        · rw [if_neg g1]
          refine pT_o (t := (12, i)) ?_
          have g2 : g = 2 := by omega
          subst g2
          have := hN.z2
          show i ≠ M 7 0
          omega
    · exact old (6, g) ht
    · exact old (7, g) ht
    · have z : (0 ≤ g ∧ g < M 1 0) ∧ 0 < M 35 g := ht
      refine (old (8, g) ht).trans ?_
      show some ((.inl (2, (M 39 g).toNat, refs P (fun j => ((12, M 34 (60 * g + j)) : Tg)) (M 35 g)) : am_E)) = some ((.inl (2, (M 39 g).toNat, refs (pT P (M 7 0) nx) (fun j => ((12, M 34 (60 * g + j)) : Tg)) (M 35 g)) : am_E))
      rw [refs_c (P := P) (P' := pT P (M 7 0) nx) (g := fun j => ((12, M 34 (60 * g + j)) : Tg)) (g' := fun j => ((12, M 34 (60 * g + j)) : Tg)) (fun i h0 h2 => ?_)]
      refine pT_o (t := (12, M 34 (60 * g + i))) ?_
      have := hN.mt hI z.1 h0 h2
      show M 34 (60 * g + i) ≠ M 7 0
      omega
    · exact old (9, g) ht
    · exact old (10, g) ht
    · exact old (11, g) ht
    · by_cases hi : g = M 7 0
      · subst hi
        show h1 (pT P (M 7 0) nx (12, M 7 0)) = some (mtC (pT P (M 7 0) nx) (M 7 0) (upM M 9 (M 7 0) k 9 (M 7 0)) (upM M 10 (M 7 0) a 10 (M 7 0)) (upM M 11 (M 7 0) b 11 (M 7 0)) (upM M 12 (M 7 0) t0 12 (M 7 0)) (M 13 (M 7 0)))
        rw [upM_ss, upM_ss, upM_ss, upM_ss, hI.hr0 (M 7 0) (by omega) hn]
        unfold mtC
        rw [pT_12, pT_13, pT_14, pT_15]
        exact k0
      · have ho := old (12, g) (lo g ht hi)
        show h1 (pT P (M 7 0) nx (12, g)) = some (mtC (pT P (M 7 0) nx) g (upM M 9 (M 7 0) k 9 g) (upM M 10 (M 7 0) a 10 g) (upM M 11 (M 7 0) b 11 g) (upM M 12 (M 7 0) t0 12 g) (M 13 g))
        rw [upM_sn hi, upM_sn hi, upM_sn hi, upM_sn hi]
        unfold mtC
        rw [pT_o (t := (12, g)) hi, pT_o (t := (13, g)) hi, pT_o (t := (14, g)) hi, pT_o (t := (15, g)) hi]
        exact ho
    · by_cases hi : g = M 7 0
      · subst hi
        show h1 (pT P (M 7 0) nx (13, M 7 0)) = some (am_ia 40 (rowI M 14 40 (M 7 0)))
        rw [pT_13, k1, rowI_0 (fun i z1 z2 => (hI.hd0 (M 7 0) i (by omega) hn z1 z2).1)]
      · exact (congrArg h1 (pT_o (t := (13, g)) hi)).trans (old (13, g) (lo g ht hi))
    · by_cases hi : g = M 7 0
      · subst hi
        show h1 (pT P (M 7 0) nx (14, M 7 0)) = some (am_ia 40 (rowI M 15 40 (M 7 0)))
        rw [pT_14, k2, rowI_0 (fun i z1 z2 => (hI.hd0 (M 7 0) i (by omega) hn z1 z2).2)]
      · exact (congrArg h1 (pT_o (t := (14, g)) hi)).trans (old (14, g) (lo g ht hi))
    · by_cases hi : g = M 7 0
      · subst hi
        show h1 (pT P (M 7 0) nx (15, M 7 0)) = some (am_ia 40 (rowI (newT M f k a b t0) 33 40 (M 7 0)))
        rw [pT_15, k3, row33_n]
      · show h1 (pT P (M 7 0) nx (15, g)) = some (am_ia 40 (rowI (newT M f k a b t0) 33 40 g))
        rw [pT_o (t := (15, g)) hi, row33_o hi]
        exact old (15, g) (lo g ht hi)
    · exact old (16, g) ht
    · exact old (17, g) ht
    · exact old (18, g) ht
    · exact ht.elim
/-- a flat's list's new array -/
def pG (P : Tg → Nat) (k : Int) (b : Nat) : Tg → Nat := fun t => if t.1 = 8 ∧ t.2 = k then b else P t
theorem pG_s {P : Tg → Nat} {k : Int} {b : Nat} : pG P k b (8, k) = b := if_pos ⟨rfl, rfl⟩
theorem pG_o {P : Tg → Nat} {k : Int} {b : Nat} {t : Tg} (h : t.2 ≠ k) : pG P k b t = P t := if_neg (fun q => h q.2)
def lfM (M : MS) (f m N md : Int) : MS := upM (upM (upM (upM M 34 (60 * f + M 35 f) m) 35 f (M 35 f + 1)) 39 f N) 40 f md
theorem refs34 {P : Tg → Nat} {M : MS} {f m N md : Int} (h : 0 ≤ M 35 f) : refs P (fun j => ((12, lfM M f m N md 34 (60 * f + j)) : Tg)) (M 35 f + 1) = updV (refs P (fun j => ((12, M 34 (60 * f + j)) : Tg)) (M 35 f)) (M 35 f).toNat (.ref (P (12, m))) := by
  have e : lfM M f m N md 34 = upI (M 34) (60 * f + M 35 f) m := by
    unfold lfM
    rw [upM_n (by decide), upM_n (by decide), upM_n (by decide), upM_s]
  rw [refs_s h, e, upI_s]
  congr 1
  exact refs_c (fun i h0 h1 => by rw [upI_n (by omega)])
theorem RepC.chF {X : am_X} {x : Nat} {A : Nat → Prop} {P : Tg → Nat} {M : MS} {h : am_H} {nx : Nat} {h' : am_H} {f m N md : Int} {ar : Nat} (hC : RepC X x A P M h) (hfr : am_fr h nx) (hA : ∀ q : Nat, nx ≤ q → A q) (hf : 0 ≤ f ∧ f < M 1 0) (hfs : ∀ g : Int, 0 ≤ g → g < M 1 0 → M 35 g ≤ 60) (h60 : 0 ≤ M 35 f ∧ M 35 f < 60) (har : (ar = P (8, f) ∧ 0 < M 35 f) ∨ ar = nx)
    (he : h' = am_up (am_up h ar (.inl (2, N.toNat, updV (refs P (fun j => ((12, M 34 (60 * f + j)) : Tg)) (M 35 f)) (M 35 f).toNat (.ref (P (12, m)))))) (P (7, f)) (.inr (5, [.ref ar, iV (M 35 f + 1), iV md]))) : RepC X x A (pG P f ar) (lfM M f m N md) h' ∧ OF A h h' := by
  have e34 : lfM M f m N md 34 = upI (M 34) (60 * f + M 35 f) m := by
    unfold lfM
    rw [upM_n (by decide), upM_n (by decide), upM_n (by decide), upM_s]
  have hl4 : Lv M (7, f) := hf
  have hne4 : P (7, f) ≠ ar := fun q => by
    rcases har with ⟨z1, z2⟩ | z
    · have := hC.inj (7, f) (8, f) hl4 ⟨hf, z2⟩ (q.trans z1)
      cases this
    · have := hC.lt hfr hl4
      omega
  have hAr : A ar := by
    rcases har with ⟨z1, z2⟩ | z
    · rw [z1]; exact hC.own (8, f) ⟨hf, z2⟩
    · rw [z]; exact hA _ (Nat.le_refl _)
  have old : ∀ t, Lv M t → t ≠ (7, f) → t ≠ (8, f) → h' (P t) = some (cellC X P M t) := fun t ht h4 h5 => by
    rw [he, am_up_n (fun q => h4 (hC.inj _ _ ht hl4 q)), am_up_n (fun q => ?_), hC.at_ t ht]
    rcases har with ⟨z1, z2⟩ | z
    · exact h5 (hC.inj t (8, f) ht ⟨hf, z2⟩ (q.trans z1))
    · have := hC.lt hfr ht
      omega
  have hold : ∀ t, Lv (lfM M f m N md) t → (pG P f ar t = P t ∧ Lv M t) ∨ (t = (8, f) ∧ ar = nx) := fun t ht => by
    obtain ⟨s0, i⟩ := t
    rcases s0 with _ | _ | _ | _ | _ | _ | _ | _ | _ | _ | _ | _ | _ | _ | _ | _ | _ | _ | _ | n
    · exact Or.inl ⟨rfl, ht⟩
    · exact Or.inl ⟨rfl, ht⟩
    · exact Or.inl ⟨rfl, ht⟩
    · exact Or.inl ⟨rfl, ht⟩
    · exact Or.inl ⟨rfl, ht⟩
    · exact Or.inl ⟨rfl, ht⟩
    · exact Or.inl ⟨rfl, ht⟩
    · exact Or.inl ⟨rfl, ht⟩
    · by_cases hi : i = f
      · subst hi
        rcases har with ⟨z1, z2⟩ | z
        · exact Or.inl ⟨pG_s.trans z1, hf, z2⟩
        · exact Or.inr ⟨rfl, z⟩
      · have z : (0 ≤ i ∧ i < M 1 0) ∧ 0 < upM M 35 f (M 35 f + 1) 35 i := ht
        rw [upM_sn hi] at z
        exact Or.inl ⟨pG_o (t := (8, i)) hi, z⟩
    · exact Or.inl ⟨rfl, ht⟩
    · exact Or.inl ⟨rfl, ht⟩
    · exact Or.inl ⟨rfl, ht⟩
    · exact Or.inl ⟨rfl, ht⟩
    · exact Or.inl ⟨rfl, ht⟩
    · exact Or.inl ⟨rfl, ht⟩
    · exact Or.inl ⟨rfl, ht⟩
    · exact Or.inl ⟨rfl, ht⟩
    · exact Or.inl ⟨rfl, ht⟩
    · exact Or.inl ⟨rfl, ht⟩
    · exact ht.elim
  refine ⟨hC.ext hA rfl (fun t ht => ?_) (fun t t' ht ht' hge e => ?_) (fun t ht => ?_), fun a ha => ?_⟩
  · rcases hold t ht with z | ⟨z1, z2⟩
    · exact Or.inl z
    · rw [z1, pG_s, z2]; exact Or.inr (Nat.le_refl _)
  · have one : ∀ u, Lv (lfM M f m N md) u → nx ≤ pG P f ar u → u = (8, f) := fun u hu hge => by
      rcases hold u hu with ⟨z1, z2⟩ | z
      · rw [z1] at hge
        exact absurd hge (Nat.not_le.mpr (hC.lt hfr z2))
      · exact z.1
    rw [one t ht hge, one t' ht' (by rw [← e]; exact hge)]
  · obtain ⟨s0, i⟩ := t
    rcases s0 with _ | _ | _ | _ | _ | _ | _ | _ | _ | _ | _ | _ | _ | _ | _ | _ | _ | _ | _ | n
    · exact old (0, i) ht (fun q => by cases q) (fun q => by cases q)
    · exact old (1, i) ht (fun q => by cases q) (fun q => by cases q)
    · exact old (2, i) ht (fun q => by cases q) (fun q => by cases q)
    · exact old (3, i) ht (fun q => by cases q) (fun q => by cases q)
    · exact old (4, i) ht (fun q => by cases q) (fun q => by cases q)
    · refine (old (5, i) ht (fun q => by cases q) (fun q => by cases q)).trans ?_
      show some ((.inl (2, (M 37 i).toNat, refs P (elt M i) (M 36 i)) : am_E)) = some ((.inl (2, (M 37 i).toNat, refs (pG P f ar) (elt M i) (M 36 i)) : am_E))
      rw [refs_c (P := P) (P' := pG P f ar) (g := elt M i) (g' := elt M i) (fun j _ _ => ?_)]
      unfold elt
      split
      · rfl
      · split <;> rfl
    · exact old (6, i) ht (fun q => by cases q) (fun q => by cases q)
    · by_cases hi : i = f
      · subst hi
        show h' (P (7, i)) = some ((.inr (5, [.ref (if 0 < upM M 35 i (M 35 i + 1) 35 i then pG P i ar (8, i) else X.2.2.2), iV (upM M 35 i (M 35 i + 1) 35 i), iV (upM M 40 i md 40 i)]) : am_E))
        rw [upM_ss, upM_ss, if_pos (by omega), pG_s, he, am_up_s]
      · have z := old (7, i) ht (fun q => hi (congrArg Prod.snd q)) (fun q => by cases q)
        show h' (P (7, i)) = some ((.inr (5, [.ref (if 0 < upM M 35 f (M 35 f + 1) 35 i then pG P f ar (8, i) else X.2.2.2), iV (upM M 35 f (M 35 f + 1) 35 i), iV (upM M 40 f md 40 i)]) : am_E))
        rw [upM_sn hi, upM_sn hi, pG_o (t := (8, i)) hi]
        exact z
    · by_cases hi : i = f
      · subst hi
        show h' (pG P i ar (8, i)) = some ((.inl (2, (upM M 39 i N 39 i).toNat, refs P (fun j => ((12, lfM M i m N md 34 (60 * i + j)) : Tg)) (upM M 35 i (M 35 i + 1) 35 i)) : am_E))
        rw [upM_ss, upM_ss, pG_s, he, am_up_n (fun q => hne4 q.symm), am_up_s, refs34 h60.1]
      · have z0 : (0 ≤ i ∧ i < M 1 0) ∧ 0 < upM M 35 f (M 35 f + 1) 35 i := ht
        rw [upM_sn hi] at z0
        have z := old (8, i) z0 (fun q => by cases q) (fun q => hi (congrArg Prod.snd q))
        show h' (pG P f ar (8, i)) = some ((.inl (2, (upM M 39 f N 39 i).toNat, refs P (fun j => ((12, lfM M f m N md 34 (60 * i + j)) : Tg)) (upM M 35 f (M 35 f + 1) 35 i)) : am_E))
        have q9 := hfs i z0.1.1 z0.1.2
        rw [upM_sn hi, upM_sn hi, pG_o (t := (8, i)) hi, e34, refs_c (P := P) (P' := P) (g := fun j => ((12, M 34 (60 * i + j)) : Tg)) (g' := fun j => ((12, upI (M 34) (60 * f + M 35 f) m (60 * i + j)) : Tg)) (fun j h0 h1 => by rw [upI_n (by omega)])]
        exact z
    · exact old (9, i) ht (fun q => by cases q) (fun q => by cases q)
    · exact old (10, i) ht (fun q => by cases q) (fun q => by cases q)
    · exact old (11, i) ht (fun q => by cases q) (fun q => by cases q)
    · exact old (12, i) ht (fun q => by cases q) (fun q => by cases q)
    · exact old (13, i) ht (fun q => by cases q) (fun q => by cases q)
    · exact old (14, i) ht (fun q => by cases q) (fun q => by cases q)
    · exact old (15, i) ht (fun q => by cases q) (fun q => by cases q)
    · exact old (16, i) ht (fun q => by cases q) (fun q => by cases q)
    · exact old (17, i) ht (fun q => by cases q) (fun q => by cases q)
    · exact old (18, i) ht (fun q => by cases q) (fun q => by cases q)
    · exact ht.elim
  · rw [he, am_up_n (fun q => ha (by rw [q]; exact hC.own (7, f) hl4)), am_up_n (fun q => ha (by rw [q]; exact hAr))]
/-- a new bill's addresses -/
def pB (P : Tg → Nat) (n : Int) (b : Nat) : Tg → Nat := fun t => if t.1 = 16 ∧ t.2 = n then b else if t.1 = 17 ∧ t.2 = n then b + 1 else if t.1 = 18 ∧ t.2 = n then b + 2 else P t
theorem pB_o {P : Tg → Nat} {n : Int} {b : Nat} {t : Tg} (h : t.2 ≠ n) : pB P n b t = P t := by
  unfold pB
  rw [if_neg (fun q => h q.2), if_neg (fun q => h q.2), if_neg (fun q => h q.2)]
theorem pB_16 {P : Tg → Nat} {n : Int} {b : Nat} : pB P n b (16, n) = b + 0 := by simp [pB]
theorem pB_17 {P : Tg → Nat} {n : Int} {b : Nat} : pB P n b (17, n) = b + 1 := by simp [pB]
theorem pB_18 {P : Tg → Nat} {n : Int} {b : Nat} : pB P n b (18, n) = b + 2 := by simp [pB]
def newB (M : MS) (f a : Int) : MS := upM (upM M 21 a (f + 1)) 31 (20 * a + f) 0
theorem bs_new {P : Tg → Nat} {M : MS} {f a : Int} {nx : Nat} (hf : 0 ≤ f ∧ f < 20) (ry : 0 ≤ a ∧ a ≤ 9) (h21 : M 21 a = f) : updV (bsF P M f) a.toNat (.ref nx) = bsF (pB P (20 * a + f) nx) (newB M f a) f := by
  funext z
  show (if z = a.toNat then Value.ref nx else bsF P M f z) = (if (z : Int) < 10 ∧ f < upM M 21 a (f + 1) 21 (z : Int) then Value.ref (pB P (20 * a + f) nx (16, 20 * (z : Int) + f)) else .null)
  by_cases hz : z = a.toNat
  · subst hz
    rw [if_pos rfl, Int.toNat_of_nonneg ry.1, upM_ss, if_pos (by omega), pB_16]; rfl
  · rw [if_neg hz, upM_sn (by omega)]
    unfold bsF
    rw [pB_o (t := (16, 20 * (z : Int) + f)) (show 20 * (z : Int) + f ≠ 20 * a + f by omega)]
theorem bs_old {P : Tg → Nat} {M : MS} {f a g : Int} {nx : Nat} (hf : 0 ≤ f ∧ f < 20) (ry : 0 ≤ a ∧ a ≤ 9) (h21 : M 21 a = f) (hg : 0 ≤ g ∧ g < 20) (hi : g ≠ f) : bsF (pB P (20 * a + f) nx) (newB M f a) g = bsF P M g := by
  funext z
  show (if (z : Int) < 10 ∧ g < upM M 21 a (f + 1) 21 (z : Int) then Value.ref (pB P (20 * a + f) nx (16, 20 * (z : Int) + g)) else .null) = (if (z : Int) < 10 ∧ g < M 21 (z : Int) then Value.ref (P (16, 20 * (z : Int) + g)) else .null)
  rw [pB_o (t := (16, 20 * (z : Int) + g)) (show 20 * (z : Int) + g ≠ 20 * a + f by omega)]
  by_cases hz : (z : Int) = a
  · rw [hz, upM_ss]
    by_cases hq : a < 10 ∧ g < M 21 a
    · rw [if_pos hq, if_pos (by omega)]
    · rw [if_neg hq, if_neg (by omega)]
  · rw [upM_sn hz]
set_option maxHeartbeats 4000000 in
theorem RepC.newBill {X : am_X} {x : Nat} {A : Nat → Prop} {P : Tg → Nat} {M : MS} {h : am_H} {nx : Nat} {h1 : am_H} {f a : Int} (hC : RepC X x A P M h) (hfr : am_fr h nx) (hA : ∀ q : Nat, nx ≤ q → A q) (hI : RI M) (hf : 0 ≤ f ∧ f < M 1 0) (ry : 0 ≤ a ∧ a ≤ 9) (h21 : M 21 a = f) (hk : ∀ q : Nat, q < nx → q ≠ P (11, f) → h1 q = h q)
    (kb : h1 (P (11, f)) = some (.inl (3, 10, updV (bsF P M f) a.toNat (.ref nx)))) (k0 : h1 nx = some (.inr (3, [.ref (nx + 1), .ref (nx + 2), lV 0]))) (k1 : h1 (nx + 1) = some (am_la 4 (fun _ => 0))) (k2 : h1 (nx + 2) = some (am_la 4 (fun _ => 0))) : RepC X x A (pB P (20 * a + f) nx) (newB M f a) h1 := by
  have q1 := hI.hfl
  have hf20 : 0 ≤ f ∧ f < 20 := by omega
  have old : ∀ t, Lv M t → t ≠ (11, f) → h1 (P t) = some (cellC X P M t) := fun t ht h5 => (hk _ (hC.lt hfr ht) (fun q => h5 (hC.inj t (11, f) ht hf q))).trans (hC.at_ t ht)
  have lo : ∀ g : Int, ((0 ≤ g ∧ g < 200) ∧ g % 20 < newB M f a 21 (g / 20)) → ¬ g = 20 * a + f → (0 ≤ g ∧ g < 200) ∧ g % 20 < M 21 (g / 20) := fun g z1 z2 => by
    have z3 : g % 20 < upM M 21 a (f + 1) 21 (g / 20) := z1.2
    refine ⟨z1.1, ?_⟩
    by_cases hq : g / 20 = a
    · rw [hq, upM_ss] at z3
      rw [hq]
      omega
    · rw [upM_sn hq] at z3
      exact z3
  refine hC.ext hA rfl (fun t ht => ?_) (fun t t' ht ht' hge e => ?_) (fun t ht => ?_)
  · by_cases hi : t.2 = 20 * a + f
    · obtain ⟨s0, i⟩ := t
      have hi' : i = 20 * a + f := hi
      subst hi'
      rcases s0 with _ | _ | _ | _ | _ | _ | _ | _ | _ | _ | _ | _ | _ | _ | _ | _ | _ | _ | _ | n
      · exact Or.inl ⟨rfl, ht⟩
      · exact Or.inl ⟨rfl, ht⟩
      · exact Or.inl ⟨rfl, ht⟩
      · exact Or.inl ⟨rfl, ht⟩
      · exact Or.inl ⟨rfl, ht⟩
      · exact Or.inl ⟨rfl, ht⟩
      · exact Or.inl ⟨rfl, ht⟩
      · exact Or.inl ⟨rfl, ht⟩
      · exact Or.inl ⟨rfl, ht⟩
      · exact Or.inl ⟨rfl, ht⟩
      · exact Or.inl ⟨rfl, ht⟩
      · exact Or.inl ⟨rfl, ht⟩
      · exact Or.inl ⟨rfl, ht⟩
      · exact Or.inl ⟨rfl, ht⟩
      · exact Or.inl ⟨rfl, ht⟩
      · exact Or.inl ⟨rfl, ht⟩
      · exact Or.inr (Nat.le_trans (Nat.le_add_right nx 0) (Nat.le_of_eq pB_16.symm))
      · exact Or.inr (Nat.le_trans (Nat.le_add_right nx 1) (Nat.le_of_eq pB_17.symm))
      · exact Or.inr (Nat.le_trans (Nat.le_add_right nx 2) (Nat.le_of_eq pB_18.symm))
      · exact ht.elim
    · refine Or.inl ⟨pB_o hi, ?_⟩
      obtain ⟨s0, g⟩ := t
      rcases s0 with _ | _ | _ | _ | _ | _ | _ | _ | _ | _ | _ | _ | _ | _ | _ | _ | _ | _ | _ | n
      · exact ht
      · exact ht
      · exact ht
      · exact ht
      · exact ht
      · exact ht
      · exact ht
      · exact ht
      · exact ht
      · exact ht
      · exact ht
      · exact ht
      · exact ht
      · exact ht
      · exact ht
      · exact ht
      · exact lo g ht hi
      · exact lo g ht hi
      · exact lo g ht hi
      · exact ht
  · have key : ∀ u : Tg, Lv (newB M f a) u → nx ≤ pB P (20 * a + f) nx u → u.2 = 20 * a + f ∧ ((u.1 = 16 ∧ pB P (20 * a + f) nx u = nx + 0) ∨ (u.1 = 17 ∧ pB P (20 * a + f) nx u = nx + 1) ∨ (u.1 = 18 ∧ pB P (20 * a + f) nx u = nx + 2)) := fun u hu hge => by
      by_cases hi : u.2 = 20 * a + f
      · refine ⟨hi, ?_⟩
        obtain ⟨s0, i⟩ := u
        have hi' : i = 20 * a + f := hi
        subst hi'
        rcases s0 with _ | _ | _ | _ | _ | _ | _ | _ | _ | _ | _ | _ | _ | _ | _ | _ | _ | _ | _ | n
        · exact absurd hge (Nat.not_le.mpr (hC.lt hfr (t := (0, 20 * a + f)) hu))
        · exact absurd hge (Nat.not_le.mpr (hC.lt hfr (t := (1, 20 * a + f)) hu))
        · exact absurd hge (Nat.not_le.mpr (hC.lt hfr (t := (2, 20 * a + f)) hu))
        · exact absurd hge (Nat.not_le.mpr (hC.lt hfr (t := (3, 20 * a + f)) hu))
        · exact absurd hge (Nat.not_le.mpr (hC.lt hfr (t := (4, 20 * a + f)) hu))
        · exact absurd hge (Nat.not_le.mpr (hC.lt hfr (t := (5, 20 * a + f)) hu))
        · exact absurd hge (Nat.not_le.mpr (hC.lt hfr (t := (6, 20 * a + f)) hu))
        · exact absurd hge (Nat.not_le.mpr (hC.lt hfr (t := (7, 20 * a + f)) hu))
        · exact absurd hge (Nat.not_le.mpr (hC.lt hfr (t := (8, 20 * a + f)) hu))
        · exact absurd hge (Nat.not_le.mpr (hC.lt hfr (t := (9, 20 * a + f)) hu))
        · exact absurd hge (Nat.not_le.mpr (hC.lt hfr (t := (10, 20 * a + f)) hu))
        · exact absurd hge (Nat.not_le.mpr (hC.lt hfr (t := (11, 20 * a + f)) hu))
        · exact absurd hge (Nat.not_le.mpr (hC.lt hfr (t := (12, 20 * a + f)) hu))
        · exact absurd hge (Nat.not_le.mpr (hC.lt hfr (t := (13, 20 * a + f)) hu))
        · exact absurd hge (Nat.not_le.mpr (hC.lt hfr (t := (14, 20 * a + f)) hu))
        · exact absurd hge (Nat.not_le.mpr (hC.lt hfr (t := (15, 20 * a + f)) hu))
        · exact Or.inl ⟨rfl, pB_16⟩
        · exact Or.inr (Or.inl ⟨rfl, pB_17⟩)
        · exact Or.inr (Or.inr ⟨rfl, pB_18⟩)
        · exact hu.elim
      · exfalso
        rw [pB_o hi] at hge
        refine Nat.not_le.mpr (hC.lt hfr (t := u) ?_) hge
        obtain ⟨s0, g⟩ := u
        rcases s0 with _ | _ | _ | _ | _ | _ | _ | _ | _ | _ | _ | _ | _ | _ | _ | _ | _ | _ | _ | n
        · exact hu
        · exact hu
        · exact hu
        · exact hu
        · exact hu
        · exact hu
        · exact hu
        · exact hu
        · exact hu
        · exact hu
        · exact hu
        · exact hu
        · exact hu
        · exact hu
        · exact hu
        · exact hu
        · exact lo g hu hi
        · exact lo g hu hi
        · exact lo g hu hi
        · exact hu
    have z1 := key t ht hge
    have z2 := key t' ht' (by rw [← e]; exact hge)
    refine Prod.ext ?_ (z1.1.trans z2.1.symm)
    rcases z1.2 with w | w | w <;> rcases z2.2 with v | v | v <;> omega
  · obtain ⟨s0, g⟩ := t
    rcases s0 with _ | _ | _ | _ | _ | _ | _ | _ | _ | _ | _ | _ | _ | _ | _ | _ | _ | _ | _ | n
    · exact old (0, g) ht (fun q => by cases q)
    · exact old (1, g) ht (fun q => by cases q)
    · exact old (2, g) ht (fun q => by cases q)
    · exact old (3, g) ht (fun q => by cases q)
    · exact old (4, g) ht (fun q => by cases q)
    · refine (old (5, g) ht (fun q => by cases q)).trans ?_
      show some ((.inl (2, (M 37 g).toNat, refs P (elt M g) (M 36 g)) : am_E)) = some ((.inl (2, (M 37 g).toNat, refs (pB P (20 * a + f) nx) (elt M g) (M 36 g)) : am_E))
      rw [refs_c (P := P) (P' := pB P (20 * a + f) nx) (g := elt M g) (g' := elt M g) (fun j _ _ => ?_)]
      unfold elt
      split
      · rfl
      · split <;> rfl
    · exact old (6, g) ht (fun q => by cases q)
    · exact old (7, g) ht (fun q => by cases q)
    · exact old (8, g) ht (fun q => by cases q)
    · exact old (9, g) ht (fun q => by cases q)
    · exact old (10, g) ht (fun q => by cases q)
    · by_cases hi : g = f
      · subst hi
        show h1 (P (11, g)) = some ((.inl (3, 10, bsF (pB P (20 * a + g) nx) (newB M g a) g) : am_E))
        rw [kb, bs_new hf20 ry (by omega)]
      · refine (old (11, g) ht (fun q => hi (congrArg Prod.snd q))).trans ?_
        show some ((.inl (3, 10, bsF P M g) : am_E)) = some ((.inl (3, 10, bsF (pB P (20 * a + f) nx) (newB M f a) g) : am_E))
        have hg : 0 ≤ g ∧ g < M 1 0 := ht
        rw [bs_old hf20 ry (by omega) (by omega) hi]
    · exact old (12, g) ht (fun q => by cases q)
    · exact old (13, g) ht (fun q => by cases q)
    · exact old (14, g) ht (fun q => by cases q)
    · exact old (15, g) ht (fun q => by cases q)
    · by_cases hi : g = 20 * a + f
      · subst hi
        show h1 (pB P (20 * a + f) nx (16, 20 * a + f)) = some (blC (pB P (20 * a + f) nx) (20 * a + f) (upM M 31 (20 * a + f) 0 31 (20 * a + f)))
        rw [upM_ss]
        unfold blC
        rw [pB_16, pB_17, pB_18]
        exact k0
      · show h1 (pB P (20 * a + f) nx (16, g)) = some (blC (pB P (20 * a + f) nx) g (upM M 31 (20 * a + f) 0 31 g))
        rw [upM_sn hi]
        unfold blC
        rw [pB_o (t := (16, g)) hi, pB_o (t := (17, g)) hi, pB_o (t := (18, g)) hi]
        exact old (16, g) (lo g ht hi) (fun q => by cases q)
    · by_cases hi : g = 20 * a + f
      · subst hi
        show h1 (pB P (20 * a + f) nx (17, 20 * a + f)) = some (am_la 4 (rowI M 23 4 (20 * a + f)))
        rw [pB_17, k1, rowI_0 (fun i z1 z2 => by rw [show 4 * (20 * a + f) + i = 80 * a + 4 * f + i by omega]; exact (hI.hzz a f i ry.1 ry.2 (by omega) hf20.2 z1 (by omega)).1)]
      · exact (congrArg h1 (pB_o (t := (17, g)) hi)).trans (old (17, g) (lo g ht hi) (fun q => by cases q))
    · by_cases hi : g = 20 * a + f
      · subst hi
        show h1 (pB P (20 * a + f) nx (18, 20 * a + f)) = some (am_la 4 (rowI M 24 4 (20 * a + f)))
        rw [pB_18, k2, rowI_0 (fun i z1 z2 => by rw [show 4 * (20 * a + f) + i = 80 * a + 4 * f + i by omega]; exact (hI.hzz a f i ry.1 ry.2 (by omega) hf20.2 z1 (by omega)).2)]
      · exact (congrArg h1 (pB_o (t := (18, g)) hi)).trans (old (18, g) (lo g ht hi) (fun q => by cases q))
    · exact ht.elim
