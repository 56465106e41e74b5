/-! the class's notes behind a new flat and a new meter (written by wip/whole/ni.py) -/
/-- f comes before g by rank -/
def pre2 (K : Int → Int) (f g : Int) : Prop := K f < K g ∨ (K f = K g ∧ f < g)
theorem bef_lt {K : Int → Int} {f g : Int} (hf : 0 ≤ f) (h : pre2 K f g) : ∀ n : Nat, sp_bef K f n + (if f < (n : Int) then 1 else 0) ≤ sp_bef K g n
  | 0 => by simp [sp_bef]; omega
  | n + 1 => by
    have ih := bef_lt hf h n
    unfold pre2 at h
    unfold sp_bef
    by_cases e : f = (n : Int)
    · subst e
      rw [if_neg (by omega)] at ih
      rw [if_pos (show (n : Int) < ((n + 1 : Nat) : Int) by omega), if_neg (show ¬ (K (n : Int) < K (n : Int) ∨ K (n : Int) = K (n : Int) ∧ (n : Int) < (n : Int)) by omega), if_pos (show K (n : Int) < K g ∨ K (n : Int) = K g ∧ (n : Int) < g from h)]
      omega
    · have e2 : (if f < ((n + 1 : Nat) : Int) then (1 : Int) else 0) = (if f < (n : Int) then 1 else 0) := by
        by_cases e3 : f < (n : Int)
        · rw [if_pos e3, if_pos (by omega)]
        · rw [if_neg e3, if_neg (by omega)]
      rw [e2]
      by_cases e4 : K (n : Int) < K f ∨ K (n : Int) = K f ∧ (n : Int) < f
      · rw [if_pos e4, if_pos (show K (n : Int) < K g ∨ K (n : Int) = K g ∧ (n : Int) < g by omega)]
        omega
      · rw [if_neg e4]
        split <;> omega
theorem bef_iff {K : Int → Int} {f g : Int} {n : Nat} (hf : 0 ≤ f ∧ f < (n : Int)) (hg : 0 ≤ g ∧ g < (n : Int)) : sp_bef K f n < sp_bef K g n ↔ pre2 K f g := by
  constructor
  · intro h
    by_cases e : pre2 K f g
    · exact e
    · by_cases e2 : f = g
      · subst e2; omega
      · have h2 : pre2 K g f := by unfold pre2 at e ⊢; omega
        have := bef_lt hg.1 h2 n
        rw [if_pos hg.2] at this
        omega
  · intro h
    have := bef_lt hf.1 h n
    rw [if_pos hf.2] at this
    omega
theorem bef_c {K K' : Int → Int} {f f' : Int} : ∀ n : Nat, (∀ g : Nat, g < n → (pre2 K (g : Int) f ↔ pre2 K' (g : Int) f')) → sp_bef K f n = sp_bef K' f' n
  | 0, _ => rfl
  | n + 1, h => by
    have ih := bef_c (K := K) (K' := K') (f := f) (f' := f') n (fun g hg => h g (by omega))
    have hn := h n (by omega)
    unfold pre2 at hn
    unfold sp_bef
    rw [ih]
    by_cases e : K (n : Int) < K f ∨ K (n : Int) = K f ∧ (n : Int) < f
    · rw [if_pos e, if_pos (hn.mp e)]
    · rw [if_neg e, if_neg (fun q => e (hn.mpr q))]
theorem bef_cnt {K K' : Int → Int} {f f' : Int} (hf : 0 ≤ f) : ∀ n : Nat, (∀ g : Nat, g < n → (pre2 K' (g : Int) f' ↔ (pre2 K (g : Int) f ∨ (g : Int) = f))) → sp_bef K' f' n = sp_bef K f n + (if f < (n : Int) then 1 else 0)
  | 0, _ => by simp [sp_bef]; omega
  | n + 1, h => by
    have ih := bef_cnt (K := K) (K' := K') (f := f) (f' := f') hf n (fun g hg => h g (by omega))
    have hn := h n (by omega)
    have h0 : ¬ (pre2 K (n : Int) f ∧ (n : Int) = f) := fun q => by have := q.1; rw [q.2] at this; unfold pre2 at this; omega
    unfold pre2 at hn h0
    unfold sp_bef
    rw [ih]
    by_cases e : (n : Int) = f
    · subst e
      rw [if_pos (hn.mpr (Or.inr rfl)), if_neg (show ¬ (n : Int) < (n : Int) by omega), if_pos (show (n : Int) < ((n + 1 : Nat) : Int) by omega), if_neg (fun q => h0 ⟨q, rfl⟩)]
    · have e2 : (if f < ((n + 1 : Nat) : Int) then (1 : Int) else 0) = (if f < (n : Int) then 1 else 0) := by
        by_cases e3 : f < (n : Int)
        · rw [if_pos e3, if_pos (by omega)]
        · rw [if_neg e3, if_neg (by omega)]
      rw [e2]
      by_cases e4 : K (n : Int) < K f ∨ K (n : Int) = K f ∧ (n : Int) < f
      · rw [if_pos e4, if_pos (hn.mpr (Or.inl e4))]; omega
      · rw [if_neg e4, if_neg (fun q => (hn.mp q).elim e4 e)]; omega
/-- an order with v put in at p -/
def insO (O : Int → Int) (p v : Int) : Int → Int := fun i => if i < p then O i else if i = p then v else O (i - 1)
theorem bef_n {K : Int → Int} {n : Nat} (f : Int) (hf : 0 ≤ f ∧ f < (n : Int)) : sp_bef K f n < (n : Int) := by
  have d : ∀ m : Nat, sp_bef K f m + (if f < (m : Int) then 1 else 0) ≤ (m : Int) := fun m => by
    induction m with
    | zero => simp [sp_bef]; omega
    | succ m ih =>
      unfold sp_bef
      by_cases e1 : f = (m : Int)
      · subst e1
        rw [if_neg (by omega)] at ih
        rw [if_pos (show (m : Int) < ((m + 1 : Nat) : Int) by omega), if_neg (show ¬ (K (m : Int) < K (m : Int) ∨ K (m : Int) = K (m : Int) ∧ (m : Int) < (m : Int)) by omega)]
        omega
      · have e2 : (if f < ((m + 1 : Nat) : Int) then (1 : Int) else 0) = (if f < (m : Int) then 1 else 0) := by
          by_cases e3 : f < (m : Int)
          · rw [if_pos e3, if_pos (by omega)]
          · rw [if_neg e3, if_neg (by omega)]
        rw [e2]
        split <;> omega
  have := d n
  rw [if_pos hf.2] at this
  omega
theorem ord_rk {K O : Int → Int} {n : Nat} {r p : Int} (hor : ∀ i : Int, 0 ≤ i → i < (n : Int) → (0 ≤ O i ∧ O i < (n : Int)) ∧ sp_bef K (O i) n = i) (hro : ∀ f : Int, 0 ≤ f → f < (n : Int) → O (sp_bef K f n) = f) (hp : 0 ≤ p ∧ p ≤ (n : Int)) (h1 : ∀ i : Int, 0 ≤ i → i < p → K (O i) ≤ r) (h2 : p < (n : Int) → r < K (O p)) {f : Int} (hf : 0 ≤ f ∧ f < (n : Int)) : K f ≤ r ↔ sp_bef K f n < p := by
  have hb0 := (sp_bef_r K f n).1
  have hb := bef_n (K := K) f hf
  constructor
  · intro h
    by_cases e : sp_bef K f n < p
    · exact e
    · have hpn : p < (n : Int) := by omega
      have a1 := h2 hpn
      have a2 := hor p hp.1 hpn
      have a3 : pre2 K f (O p) := Or.inl (by omega)
      have a4 := (bef_iff (n := n) hf a2.1).mpr a3
      omega
  · intro h
    have := h1 _ hb0 h
    rw [hro f hf.1 hf.2] at this
    exact this
theorem ord_old {K O : Int → Int} {n : Nat} {r p : Int} (hor : ∀ i : Int, 0 ≤ i → i < (n : Int) → (0 ≤ O i ∧ O i < (n : Int)) ∧ sp_bef K (O i) n = i) (hro : ∀ f : Int, 0 ≤ f → f < (n : Int) → O (sp_bef K f n) = f) (hp : 0 ≤ p ∧ p ≤ (n : Int)) (h1 : ∀ i : Int, 0 ≤ i → i < p → K (O i) ≤ r) (h2 : p < (n : Int) → r < K (O p)) {f : Int} (hf : 0 ≤ f ∧ f < (n : Int)) : sp_bef (upI K (n : Int) r) f (n + 1) = sp_bef K f n + (if p ≤ sp_bef K f n then 1 else 0) := by
  have a := ord_rk hor hro hp h1 h2 hf
  have e : sp_bef (upI K (n : Int) r) f n = sp_bef K f n := bef_c n (fun g hg => by
    unfold pre2
    rw [upI_n (by omega), upI_n (by omega)])
  show sp_bef (upI K (n : Int) r) f n + (if upI K (n : Int) r (n : Int) < upI K (n : Int) r f ∨ upI K (n : Int) r (n : Int) = upI K (n : Int) r f ∧ (n : Int) < f then 1 else 0) = _
  rw [e, upI_s, upI_n (by omega)]
  by_cases c : p ≤ sp_bef K f n
  · rw [if_pos c, if_pos (Or.inl (by omega))]
  · rw [if_neg c, if_neg (by omega)]
theorem ord_at {K O : Int → Int} {n : Nat} {r p : Int} (hor : ∀ i : Int, 0 ≤ i → i < (n : Int) → (0 ≤ O i ∧ O i < (n : Int)) ∧ sp_bef K (O i) n = i) (hro : ∀ f : Int, 0 ≤ f → f < (n : Int) → O (sp_bef K f n) = f) (hp : 0 ≤ p ∧ p ≤ (n : Int)) (h1 : ∀ i : Int, 0 ≤ i → i < p → K (O i) ≤ r) (h2 : p < (n : Int) → r < K (O p)) : sp_bef (upI K (n : Int) r) (n : Int) (n + 1) = p := by
  have hK : ∀ g : Nat, g < n → (pre2 (upI K (n : Int) r) (g : Int) (n : Int) ↔ K (g : Int) ≤ r) := fun g hg => by
    unfold pre2
    rw [upI_s, upI_n (by omega)]
    omega
  show sp_bef (upI K (n : Int) r) (n : Int) n + (if upI K (n : Int) r (n : Int) < upI K (n : Int) r (n : Int) ∨ upI K (n : Int) r (n : Int) = upI K (n : Int) r (n : Int) ∧ (n : Int) < (n : Int) then 1 else 0) = p
  rw [if_neg (by omega), Int.add_zero]
  by_cases p0 : p = 0
  · have : ∀ m : Nat, m ≤ n → sp_bef (upI K (n : Int) r) (n : Int) m = 0 := fun m => by
      induction m with
      | zero => intro _; rfl
      | succ m ih =>
        intro hm
        have a := ord_rk hor hro hp h1 h2 (f := (m : Int)) (by omega)
        have b := sp_bef_r K (m : Int) n
        have c := hK m (by omega)
        unfold pre2 at c
        unfold sp_bef
        rw [ih (by omega), if_neg (fun q => by have := c.mp q; omega)]
        rfl
    rw [this n (Nat.le_refl _), p0]
  · have a := hor (p - 1) (by omega) (by omega)
    have e := bef_cnt (K := K) (K' := upI K (n : Int) r) (f := O (p - 1)) (f' := (n : Int)) a.1.1 n (fun g hg => by
      have b := ord_rk hor hro hp h1 h2 (f := (g : Int)) (by omega)
      have c := bef_iff (K := K) (n := n) (f := (g : Int)) (g := O (p - 1)) (by omega) a.1
      rw [hK g hg, b]
      constructor
      · intro q
        by_cases e1 : (g : Int) = O (p - 1)
        · exact Or.inr e1
        · refine Or.inl (c.mp ?_)
          by_cases e2 : sp_bef K (g : Int) n = p - 1
          · exfalso
            have := hro (g : Int) (by omega) (by omega)
            rw [e2] at this
            exact e1 this.symm
          · omega
      · rintro (q | q)
        · have := c.mpr q; omega
        · rw [q]; omega)
    rw [e, if_pos a.1.2]
    omega
theorem ord_hor {K O : Int → Int} {n : Nat} {r p : Int} (hor : ∀ i : Int, 0 ≤ i → i < (n : Int) → (0 ≤ O i ∧ O i < (n : Int)) ∧ sp_bef K (O i) n = i) (hro : ∀ f : Int, 0 ≤ f → f < (n : Int) → O (sp_bef K f n) = f) (hp : 0 ≤ p ∧ p ≤ (n : Int)) (h1 : ∀ i : Int, 0 ≤ i → i < p → K (O i) ≤ r) (h2 : p < (n : Int) → r < K (O p)) (i : Int) (hi : 0 ≤ i ∧ i < (n : Int) + 1) : (0 ≤ insO O p (n : Int) i ∧ insO O p (n : Int) i < (n : Int) + 1) ∧ sp_bef (upI K (n : Int) r) (insO O p (n : Int) i) (n + 1) = i := by
  unfold insO
  by_cases c1 : i < p
  · rw [if_pos c1]
    have a := hor i hi.1 (by omega)
    refine ⟨by omega, ?_⟩
    rw [ord_old hor hro hp h1 h2 a.1, a.2, if_neg (by omega), Int.add_zero]
  · rw [if_neg c1]
    by_cases c2 : i = p
    · rw [if_pos c2]
      exact ⟨by omega, (ord_at hor hro hp h1 h2).trans c2.symm⟩
    · rw [if_neg c2]
      have a := hor (i - 1) (by omega) (by omega)
      refine ⟨by omega, ?_⟩
      rw [ord_old hor hro hp h1 h2 a.1, a.2, if_pos (by omega)]
      omega
theorem ord_hro {K O : Int → Int} {n : Nat} {r p : Int} (hor : ∀ i : Int, 0 ≤ i → i < (n : Int) → (0 ≤ O i ∧ O i < (n : Int)) ∧ sp_bef K (O i) n = i) (hro : ∀ f : Int, 0 ≤ f → f < (n : Int) → O (sp_bef K f n) = f) (hp : 0 ≤ p ∧ p ≤ (n : Int)) (h1 : ∀ i : Int, 0 ≤ i → i < p → K (O i) ≤ r) (h2 : p < (n : Int) → r < K (O p)) (f : Int) (hf : 0 ≤ f ∧ f < (n : Int) + 1) : insO O p (n : Int) (sp_bef (upI K (n : Int) r) f (n + 1)) = f := by
  by_cases c : f = (n : Int)
  · subst c
    rw [ord_at hor hro hp h1 h2]
    unfold insO
    rw [if_neg (by omega), if_pos rfl]
  · have hf' : 0 ≤ f ∧ f < (n : Int) := by omega
    rw [ord_old hor hro hp h1 h2 hf']
    have q := hro f hf'.1 hf'.2
    unfold insO
    by_cases c2 : p ≤ sp_bef K f n
    · rw [if_pos c2, if_neg (by omega), if_neg (by omega), show sp_bef K f n + 1 - 1 = sp_bef K f n by omega]
      exact q
    · rw [if_neg c2, if_pos (by omega), Int.add_zero]
      exact q
theorem cntf_0 {F : Int → Int} {f : Int} : ∀ k : Nat, (∀ i : Nat, i < k → F (i : Int) ≠ f) → cntf F f k = 0
  | 0, _ => rfl
  | k + 1, h => by
    show cntf F f k + (if F (k : Int) = f then 1 else 0) = 0
    rw [cntf_0 k (fun i hi => h i (by omega)), if_neg (h k (by omega))]; rfl
theorem cntf_c {F G : Int → Int} {f : Int} : ∀ k : Nat, (∀ i : Nat, i < k → F (i : Int) = G (i : Int)) → cntf F f k = cntf G f k
  | 0, _ => rfl
  | k + 1, h => by
    show cntf F f k + (if F (k : Int) = f then 1 else 0) = cntf G f k + (if G (k : Int) = f then 1 else 0)
    rw [cntf_c k (fun i hi => h i (by omega)), h k (by omega)]
theorem cntf_m {F : Int → Int} {f : Int} (i : Nat) : ∀ k : Nat, i < k → F (i : Int) = f → cntf F f i + 1 ≤ cntf F f k
  | 0, h, _ => absurd h (by omega)
  | k + 1, h, hF => by
    show cntf F f i + 1 ≤ cntf F f k + (if F (k : Int) = f then 1 else 0)
    by_cases e : i = k
    · subst e; rw [if_pos hF]; omega
    · have := cntf_m i k (by omega) hF
      split <;> omega
theorem NI.flat {M : MS} (hI : RI M) (hN : NI M) (hn : M 1 0 < 20) {a r p N0 md0 N1 md1 : Int} (hp : 0 ≤ p ∧ p ≤ M 1 0) (h1 : ∀ i : Int, 0 ≤ i → i < p → M 3 (M 32 i) ≤ r) (h2 : p < M 1 0 → r < M 3 (M 32 p)) (hN0 : M 1 0 + 1 ≤ N0 ∧ N0 ≤ 90) (hN1 : M 1 0 + 1 ≤ N1 ∧ N1 ≤ 90) :
    NI (lsM (lsM (newF M a r) 0 (M 1 0 + 1) N0 md0 (M 32)) 1 (M 1 0 + 1) N1 md1 (insO (M 32) p (M 1 0))) := by
  have q1 := hI.hfl
  have en : (((M 1 0).toNat : Nat) : Int) = M 1 0 := Int.toNat_of_nonneg q1.1
  have hor : ∀ i : Int, 0 ≤ i → i < (((M 1 0).toNat : Nat) : Int) → (0 ≤ M 32 i ∧ M 32 i < (((M 1 0).toNat : Nat) : Int)) ∧ sp_bef (M 3) (M 32 i) (M 1 0).toNat = i := fun i z1 z2 => by
    rw [en] at z2 ⊢; exact hN.hor i z1 z2
  have hro : ∀ f : Int, 0 ≤ f → f < (((M 1 0).toNat : Nat) : Int) → M 32 (sp_bef (M 3) f (M 1 0).toNat) = f := fun f z1 z2 => by
    rw [en] at z2; exact hN.hro f z1 z2
  have hp' : 0 ≤ p ∧ p ≤ (((M 1 0).toNat : Nat) : Int) := by omega
  have h2' : p < (((M 1 0).toNat : Nat) : Int) → r < M 3 (M 32 p) := fun z => h2 (by omega)
  have e1 : (M 1 0 + 1).toNat = (M 1 0).toNat + 1 := by omega
  refine ⟨hN.hst, ?_, ?_, ?_, fun k z1 z2 => ?_, fun f z1 z2 => ?_, fun i z1 z2 => ?_, fun f z1 z2 => ?_, fun f z1 z2 => ?_, hN.hmf, hN.hbe⟩
  · simp [lsM, newF, upM, upI]
  · simp [lsM, newF, upM, upI]
  · simp [lsM, newF, upM, upI]; exact hN.z2
  · have q := hN.hcp k z1 z2
    simp only [lsM, newF, upM, upI, Nat.reduceEqDiff, ↓reduceIte]
    (repeat' split) <;> omega
  · simp only [lsM, newF, upM, upI, Nat.reduceEqDiff, ↓reduceIte] at z2 ⊢
    by_cases e : f = M 1 0
    · rw [if_pos e, if_pos e]; omega
    · rw [if_neg e, if_neg e]; exact hN.hfc f z1 (by omega)
  · have z3 : i < M 1 0 + 1 := by simp only [lsM, newF, upM, upI, Nat.reduceEqDiff, ↓reduceIte] at z2; exact z2
    have w := ord_hor hor hro hp' h1 h2' i (by omega)
    rw [en] at w
    show (0 ≤ insO (M 32) p (M 1 0) i ∧ insO (M 32) p (M 1 0) i < newF M a r 1 0) ∧ sp_bef (upI (M 3) (M 1 0) r) (insO (M 32) p (M 1 0) i) (newF M a r 1 0).toNat = i
    rw [newF_1, e1]
    exact w
  · have z3 : f < M 1 0 + 1 := by simp only [lsM, newF, upM, upI, Nat.reduceEqDiff, ↓reduceIte] at z2; exact z2
    have w := ord_hro hor hro hp' h1 h2' f (by omega)
    rw [en] at w
    show insO (M 32) p (M 1 0) (sp_bef (upI (M 3) (M 1 0) r) f (newF M a r 1 0).toNat) = f
    rw [newF_1, e1]
    exact w
  · simp only [lsM, newF, upM, upI, Nat.reduceEqDiff, ↓reduceIte] at z2 ⊢
    by_cases e : f = M 1 0
    · rw [if_pos e, cntf_0 _ (fun i hi => by have := hI.hf8 (i : Int) (by omega) (by omega); omega)]
    · rw [if_neg e]; exact hN.hcn f z1 (by omega)
theorem NI.meter {M : MS} (hI : RI M) (hN : NI M) (hn : M 7 0 < 60) {f k a b t N2 md2 Nf mdf : Int} (hf : 0 ≤ f ∧ f < M 1 0) (hN2 : M 7 0 + 1 ≤ N2 ∧ N2 ≤ 90) (hNf : M 35 f + 1 ≤ Nf ∧ Nf ≤ 90) :
    NI (lfM (lsM (newT M f k a b t) 2 (M 7 0 + 1) N2 md2 (M 32)) f (M 7 0) Nf mdf) := by
  have q7 := hI.hme
  have em : (((M 7 0).toNat : Nat) : Int) = M 7 0 := Int.toNat_of_nonneg q7.1
  have e1 : (M 7 0 + 1).toNat = (M 7 0).toNat + 1 := by omega
  refine ⟨fun g j z1 z2 z3 z4 => ?_, hN.z0, hN.z1, ?_, fun g z1 z2 => ?_, fun g z1 z2 => ?_, hN.hor, hN.hro, fun g z1 z2 => ?_, fun i z2 => ?_, hN.hbe⟩
  · simp only [lfM, lsM, newT, upM, upI, Nat.reduceEqDiff, ↓reduceIte] at z2 z4 ⊢
    have e : g ≠ M 7 0 := fun e => by have := hI.hr0 g (by omega) (by omega); omega
    have := hI.hrd g z1 (by omega)
    rw [if_neg (by omega)]
    exact hN.hst g j z1 (by omega) z3 z4
  · simp [lfM, lsM, newT, upM, upI]
  · have q := hN.hcp g z1 z2
    simp only [lfM, lsM, newT, upM, upI, Nat.reduceEqDiff, ↓reduceIte]
    (repeat' split) <;> omega
  · have q := hN.hfc g z1 z2
    simp only [lfM, lsM, newT, upM, upI, Nat.reduceEqDiff, ↓reduceIte]
    by_cases e : g = f
    · subst e; simp only [↓reduceIte]; omega
    · simp only [e, ↓reduceIte]; exact q
  · have q := hN.hcn g z1 z2
    simp only [lfM, lsM, newT, upM, upI, Nat.reduceEqDiff, ↓reduceIte]
    rw [e1]
    show _ = cntf _ g (M 7 0).toNat + (if (if (((M 7 0).toNat : Nat) : Int) = M 7 0 then f else M 8 (((M 7 0).toNat : Nat) : Int)) = g then 1 else 0)
    rw [cntf_c (G := M 8) _ (fun i hi => if_neg (by omega)), if_pos em, ← q]
    by_cases e : g = f
    · subst e; rw [if_pos rfl, if_pos rfl]
    · rw [if_neg e, if_neg (fun w => e w.symm)]; omega
  · have z3 : (i : Int) < M 7 0 + 1 := by simp only [lfM, lsM, newT, upM, upI, Nat.reduceEqDiff, ↓reduceIte] at z2; exact z2
    have qf := hN.hcn f hf.1 hf.2
    have rf := cntf_r (M 8) f (M 7 0).toNat
    simp only [lfM, lsM, newT, upM, upI, Nat.reduceEqDiff, ↓reduceIte]
    by_cases e : (i : Int) = M 7 0
    · have ei : i = (M 7 0).toNat := by omega
      rw [if_pos e, cntf_c (G := M 8) _ (fun j hj => if_neg (by omega)), ei, ← qf, if_pos rfl, em]
    · have q := hN.hmf i (by omega)
      have r := cntf_r (M 8) (M 8 (i : Int)) i
      rw [if_neg e, cntf_c (G := M 8) _ (fun j hj => if_neg (by omega)), if_neg (fun w => ?_)]
      · exact q
      · by_cases e2 : M 8 (i : Int) = f
        · have := cntf_m (F := M 8) (f := f) i (M 7 0).toNat (by omega) e2
          rw [e2] at w
          omega
        · omega
/-- notes that agree where it counts -/
theorem NI.c {M M' : MS} (hN : NI M) (h : ∀ k : Nat, k = 1 ∨ k = 3 ∨ k = 7 ∨ k = 8 ∨ k = 13 ∨ k = 15 ∨ k = 16 ∨ k = 17 ∨ k = 21 ∨ k = 22 ∨ k = 25 ∨ k = 31 ∨ k = 32 ∨ k = 33 ∨ k = 34 ∨ k = 35 ∨ k = 36 ∨ k = 37 ∨ k = 39 → M' k = M k) : NI M' := by
  have e1 := h 1 (by decide)
  have e3 := h 3 (by decide)
  have e7 := h 7 (by decide)
  have e8 := h 8 (by decide)
  have e13 := h 13 (by decide)
  have e15 := h 15 (by decide)
  have e16 := h 16 (by decide)
  have e17 := h 17 (by decide)
  have e21 := h 21 (by decide)
  have e22 := h 22 (by decide)
  have e25 := h 25 (by decide)
  have e31 := h 31 (by decide)
  have e32 := h 32 (by decide)
  have e33 := h 33 (by decide)
  have e34 := h 34 (by decide)
  have e35 := h 35 (by decide)
  have e36 := h 36 (by decide)
  have e37 := h 37 (by decide)
  have e39 := h 39 (by decide)
  unfold NI sp_before
  rw [e1, e3, e7, e8, e13, e15, e16, e17, e21, e22, e25, e31, e32, e33, e34, e35, e36, e37, e39]
  exact hN
theorem lsM_x {M : MS} {k n N md : Int} {g : Int → Int} {j : Nat} (h : j < 32) : lsM M k n N md g j = M j := by
  unfold lsM
  rw [if_neg (by omega), upM_n (by omega), upM_n (by omega), upM_n (by omega)]
theorem flat_c {M : MS} {a r n0 N0 md0 n1 N1 md1 : Int} {g0 g1 : Int → Int} : ∀ k : Nat, k ≠ 0 → k < 26 → lsM (lsM (newF M a r) 0 n0 N0 md0 g0) 1 n1 N1 md1 g1 k = upM (upM (upM (upM M 2 (M 1 0) a) 3 (M 1 0) r) 4 (M 1 0) 1) 1 0 (M 1 0 + 1) k := fun k h0 h1 => by
  rw [lsM_x (by omega), lsM_x (by omega)]
  unfold newF
  by_cases c : k = 1
  · subst c; rfl
  · rw [upM_n c, upM_n c, upM_n (by omega), upM_n (by omega), upM_n (by omega), upM_n (by omega), upM_n (by omega), upM_n (by omega)]
theorem meter_c {M : MS} {f k0 a b t n2 N2 md2 m Nf mdf : Int} {g2 : Int → Int} : ∀ k : Nat, k ≠ 0 → k < 26 → lfM (lsM (newT M f k0 a b t) 2 n2 N2 md2 g2) f m Nf mdf k = upM (upM (upM (upM (upM (upM M 8 (M 7 0) f) 9 (M 7 0) k0) 10 (M 7 0) a) 11 (M 7 0) b) 12 (M 7 0) t) 7 0 (M 7 0 + 1) k := fun k h0 h1 => by
  unfold lfM
  rw [upM_n (by omega), upM_n (by omega), upM_n (by omega), upM_n (by omega), lsM_x (by omega)]
  unfold newT
  rw [if_neg (by omega)]
