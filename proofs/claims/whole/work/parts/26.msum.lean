/-! sums: each meter's use counts for one flat at most; what is dealt out stays in bounds; states by places (set4, setO) -/
theorem sumI_0 : ∀ n : Nat, sumI (fun _ => 0) n = 0
  | 0 => rfl
  | n + 1 => by show sumI (fun _ => 0) n + 0 = 0; rw [sumI_0 n]; rfl
theorem sumI_add (g k : Int → Int) : ∀ n : Nat, sumI (fun i => g i + k i) n = sumI g n + sumI k n
  | 0 => rfl
  | n + 1 => by
    show sumI (fun i => g i + k i) n + (g n + k n) = (sumI g n + g n) + (sumI k n + k n)
    rw [sumI_add g k n]; omega
theorem sumI_le {g k : Int → Int} : ∀ {n : Nat}, (∀ i : Nat, i < n → g (i : Int) ≤ k (i : Int)) → sumI g n ≤ sumI k n
  | 0, _ => Int.le_refl _
  | n + 1, h => by
    have := sumI_le (g := g) (k := k) (n := n) (fun i hi => h i (by omega))
    have := h n (by omega)
    show sumI g n + g n ≤ sumI k n + k n
    omega
theorem sumI_nn {g : Int → Int} {n : Nat} (h : ∀ i : Nat, i < n → 0 ≤ g (i : Int)) : 0 ≤ sumI g n := by
  have := sumI_le (g := fun _ => 0) (k := g) (n := n) h
  rw [sumI_0] at this
  exact this
theorem sumI_ge {g : Int → Int} : ∀ {n : Nat}, (∀ i : Nat, i < n → 0 ≤ g (i : Int)) → ∀ i : Nat, i < n → g (i : Int) ≤ sumI g n
  | 0, _, i, hi => absurd hi (by omega)
  | n + 1, h, i, hi => by
    have hs := sumI_nn (g := g) (n := n) (fun j hj => h j (by omega))
    have hn := h n (by omega)
    show g i ≤ sumI g n + g n
    by_cases e : i = n
    · subst e; omega
    · have := sumI_ge (g := g) (n := n) (fun j hj => h j (by omega)) i (by omega)
      omega
theorem sumI_one (x v : Int) (hv : 0 ≤ v) : ∀ n : Nat, sumI (fun f => if x = f then v else 0) n ≤ (if 0 ≤ x ∧ x < (n : Int) then v else 0)
  | 0 => by simp [sumI]; split <;> omega
  | n + 1 => by
    have ih := sumI_one x v hv n
    show sumI (fun f => if x = f then v else 0) n + (if x = (n : Int) then v else 0) ≤ _
    split at ih <;> split <;> split <;> omega
theorem sumI_used {F K U : Int → Int} {k : Int} (n : Nat) : ∀ {N : Nat}, (∀ i : Nat, i < N → 0 ≤ U (i : Int)) → sumI (fun f => sp_used F K U f k N) n ≤ sumI U N
  | 0, _ => by
    show sumI (fun _ => 0) n ≤ 0
    rw [sumI_0]; exact Int.le_refl _
  | N + 1, h => by
    have ih := sumI_used (F := F) (K := K) (U := U) (k := k) n (N := N) (fun i hi => h i (by omega))
    have hN := h N (by omega)
    have e : sumI (fun f => sp_used F K U f k (N + 1)) n = sumI (fun f => sp_used F K U f k N) n + sumI (fun f => if F (N : Int) = f ∧ K (N : Int) = k then U (N : Int) else 0) n := sumI_add _ _ n
    have e2 : sumI (fun f => if F (N : Int) = f ∧ K (N : Int) = k then U (N : Int) else 0) n ≤ sumI (fun f => if F (N : Int) = f then U (N : Int) else 0) n := sumI_le (fun i _ => by
      by_cases h1 : F (N : Int) = (i : Int)
      · rw [if_pos h1]; split <;> omega
      · rw [if_neg h1, if_neg (fun q => h1 q.1)]; omega)
    have e3 := sumI_one (F (N : Int)) (U (N : Int)) hN n
    rw [e]
    show _ ≤ sumI U N + U N
    split at e3 <;> omega
/-- how a part is dealt out by the numbers num: K the ranks, n flats -/
def dl (K : Int → Int) (n : Nat) (num : Int → Int) (p i : Int) : Int := p * num i / sumI num n + (if sp_bef K i n < p - sumI (fun j => p * num j / sumI num n) n then 1 else 0)
theorem sp_g2_dl (M : MS) (p i : Int) : sp_g2 M p i = dl (M 3) (M 1 0).toNat (M 26) p i := rfl
theorem dl_c {K num num' : Int → Int} {n : Nat} {p : Int} (h : ∀ i : Nat, i < n → num (i : Int) = num' (i : Int)) {i : Nat} (hi : i < n) : dl K n num p (i : Int) = dl K n num' p (i : Int) := by
  have e1 : sumI num n = sumI num' n := sumI_c h
  have e2 : sumI (fun j => p * num j / sumI num n) n = sumI (fun j => p * num' j / sumI num' n) n := sumI_c (fun j hj => by show p * num j / _ = p * num' j / _; rw [h j hj, e1])
  unfold dl
  rw [e2, e1, h i hi]
theorem g1_r {num : Int → Int} {n : Nat} {p : Int} (hp : 0 ≤ p) (h : ∀ i : Nat, i < n → 0 ≤ num (i : Int)) (hs : 0 < sumI num n) {i : Nat} (hi : i < n) : 0 ≤ p * num (i : Int) / sumI num n ∧ p * num (i : Int) / sumI num n ≤ p := by
  have h1 := h i hi
  have h2 := sumI_ge h i hi
  refine ⟨Int.ediv_nonneg (Int.mul_nonneg hp h1) (by omega), ?_⟩
  refine Int.ediv_le_of_le_mul hs (Int.mul_le_mul_of_nonneg_left h2 hp)
theorem left_r {num : Int → Int} {n : Nat} {p : Int} (hp : 0 ≤ p) (h : ∀ i : Nat, i < n → 0 ≤ num (i : Int)) (hs : 0 < sumI num n) : p - p * (n : Int) ≤ p - sumI (fun j => p * num j / sumI num n) n ∧ p - sumI (fun j => p * num j / sumI num n) n ≤ p := by
  have := sumI_r (g := fun j => p * num j / sumI num n) (a := 0) (b := p) (n := n) (fun i hi => g1_r hp h hs hi)
  omega
theorem dl_r {K num : Int → Int} {n : Nat} {p : Int} (hp : 0 ≤ p) (h : ∀ i : Nat, i < n → 0 ≤ num (i : Int)) (hs : 0 < sumI num n) {i : Nat} (hi : i < n) : 0 ≤ dl K n num p (i : Int) ∧ dl K n num p (i : Int) ≤ p + 1 := by
  have := g1_r hp h hs hi
  unfold dl
  split <;> omega
/-- the places 80 a + 4 f + k of the field fid are g f's, for the first n f -/
def set4 (M : MS) (fid : Nat) (a k : Int) (g : Int → Int) (n : Nat) : MS := fun x => if x = fid then (fun i => if 80 * a ≤ i ∧ i < 80 * a + 4 * (n : Int) ∧ (i - 80 * a) % 4 = k then g ((i - 80 * a) / 4) else M fid i) else M x
theorem set4_n {M : MS} {fid x : Nat} {a k : Int} {g : Int → Int} {n : Nat} (h : x ≠ fid) : set4 M fid a k g n x = M x := if_neg h
theorem set4_s' {M : MS} {fid : Nat} {a k : Int} {g : Int → Int} {n : Nat} {i : Int} : set4 M fid a k g n fid i = if 80 * a ≤ i ∧ i < 80 * a + 4 * (n : Int) ∧ (i - 80 * a) % 4 = k then g ((i - 80 * a) / 4) else M fid i := by
  show (if fid = fid then _ else _ : Int → Int) i = _
  rw [if_pos rfl]
theorem set4_0 {M : MS} {fid : Nat} {a k : Int} {g : Int → Int} : set4 M fid a k g 0 = M := by
  funext x i
  by_cases h : x = fid
  · subst h; rw [set4_s', if_neg (by omega)]
  · rw [set4_n h]
theorem set4_s {M : MS} {fid : Nat} {a k : Int} {g : Int → Int} {j : Nat} (hk : 0 ≤ k ∧ k ≤ 3) : upM (set4 M fid a k g j) fid (80 * a + 4 * (j : Int) + k) (g (j : Int)) = set4 M fid a k g (j + 1) := by
  funext x i
  by_cases h : x = fid
  · subst h
    by_cases hi : i = 80 * a + 4 * (j : Int) + k
    · subst hi
      rw [upM_ss, set4_s', if_pos (by omega), show (80 * a + 4 * (j : Int) + k - 80 * a) / 4 = (j : Int) by omega]
    · rw [upM_sn hi, set4_s', set4_s']
      by_cases hc : 80 * a ≤ i ∧ i < 80 * a + 4 * (j : Int) ∧ (i - 80 * a) % 4 = k
      · rw [if_pos hc, if_pos (by omega)]
      · rw [if_neg hc, if_neg (by omega)]
  · rw [upM_n h, set4_n h, set4_n h]
/-- the places 20 a + f of the field fid are g f's, for the first n f -/
def setO (M : MS) (fid : Nat) (a : Int) (g : Int → Int) (n : Nat) : MS := fun x => if x = fid then (fun i => if 20 * a ≤ i ∧ i < 20 * a + (n : Int) then g (i - 20 * a) else M fid i) else M x
theorem setO_n {M : MS} {fid x : Nat} {a : Int} {g : Int → Int} {n : Nat} (h : x ≠ fid) : setO M fid a g n x = M x := if_neg h
theorem setO_s' {M : MS} {fid : Nat} {a : Int} {g : Int → Int} {n : Nat} {i : Int} : setO M fid a g n fid i = if 20 * a ≤ i ∧ i < 20 * a + (n : Int) then g (i - 20 * a) else M fid i := by
  show (if fid = fid then _ else _ : Int → Int) i = _
  rw [if_pos rfl]
theorem setO_0 {M : MS} {fid : Nat} {a : Int} {g : Int → Int} : setO M fid a g 0 = M := by
  funext x i
  by_cases h : x = fid
  · subst h; rw [setO_s', if_neg (by omega)]
  · rw [setO_n h]
theorem setO_s {M : MS} {fid : Nat} {a : Int} {g : Int → Int} {j : Nat} : upM (setO M fid a g j) fid (20 * a + (j : Int)) (g (j : Int)) = setO M fid a g (j + 1) := by
  funext x i
  by_cases h : x = fid
  · subst h
    by_cases hi : i = 20 * a + (j : Int)
    · subst hi
      rw [upM_ss, setO_s', if_pos (by omega), show 20 * a + (j : Int) - 20 * a = (j : Int) by omega]
    · rw [upM_sn hi, setO_s', setO_s']
      by_cases hc : 20 * a ≤ i ∧ i < 20 * a + (j : Int)
      · rw [if_pos hc, if_pos (by omega)]
      · rw [if_neg hc, if_neg (by omega)]
  · rw [upM_n h, setO_n h, setO_n h]
