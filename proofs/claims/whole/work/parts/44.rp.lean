/-! the states that a run of the class goes through (written by wip/whole/rp.py) -/
/-- the bills of the first i flats are made and have noted their totals -/
def opM (M : MS) (a : Int) (i : Nat) : MS := upM (setO M 31 a (fun f => sp_share M f a) i) 21 a (if M 21 a < (i : Int) then (i : Int) else M 21 a)
theorem opM_0 {M : MS} {a : Int} (h : 0 ≤ M 21 a) : opM M a 0 = M := by
  unfold opM
  rw [setO_0, if_neg (by omega)]
  funext k j
  by_cases hk : k = 21
  · subst hk
    by_cases hj : j = a
    · subst hj; rw [upM_ss]
    · rw [upM_sn hj]
  · rw [upM_n hk]
theorem opM_21 (M : MS) (a : Int) (i : Nat) : opM M a i 21 a = (if M 21 a < (i : Int) then (i : Int) else M 21 a) := upM_ss
theorem opM_31 (M : MS) (a : Int) (i : Nat) : opM M a i 31 = setO M 31 a (fun f => sp_share M f a) i 31 := upM_n (by decide)
theorem opM_x {M : MS} {a : Int} {i k : Nat} (h1 : k ≠ 21) (h2 : k ≠ 31) : opM M a i k = M k := (upM_n h1).trans (setO_n h2)
theorem opM_e {M : MS} {a : Int} {i : Nat} (h : (i : Int) < M 21 a) : upM (opM M a i) 31 (20 * a + (i : Int)) (sp_share M (i : Int) a) = opM M a (i + 1) := by
  funext k j
  by_cases h31 : k = 31
  · subst h31
    have e := congrFun (congrFun (setO_s (M := M) (fid := 31) (a := a) (g := fun f => sp_share M f a) (j := i)) 31) j
    rw [opM_31, ← e, upM_s, upM_s, opM_31]
  · rw [upM_n h31]
    by_cases h21 : k = 21
    · subst h21
      by_cases hj : j = a
      · subst hj; rw [opM_21, opM_21, if_neg (by omega), if_neg (by omega)]
      · unfold opM; rw [upM_sn hj, upM_sn hj, setO_n (by decide), setO_n (by decide)]
    · rw [opM_x h21 h31, opM_x h21 h31]
theorem opM_n {M : MS} {a : Int} {i : Nat} (h : M 21 a ≤ (i : Int)) : upM (newB (opM M a i) (i : Int) a) 31 (20 * a + (i : Int)) (sp_share M (i : Int) a) = opM M a (i + 1) := by
  funext k j
  by_cases h31 : k = 31
  · subst h31
    have e := congrFun (congrFun (setO_s (M := M) (fid := 31) (a := a) (g := fun f => sp_share M f a) (j := i)) 31) j
    rw [opM_31, ← e]
    unfold newB
    by_cases hj : j = 20 * a + (i : Int)
    · subst hj; rw [upM_ss, upM_ss]
    · rw [upM_sn hj, upM_sn hj, upM_sn hj, upM_n (by decide), opM_31]
  · rw [upM_n h31]
    unfold newB
    rw [upM_n h31]
    by_cases h21 : k = 21
    · subst h21
      by_cases hj : j = a
      · subst hj; rw [upM_ss, opM_21, if_pos (by omega)]; omega
      · rw [upM_sn hj]; unfold opM; rw [upM_sn hj, upM_sn hj, setO_n (by decide), setO_n (by decide)]
    · rw [upM_n h21, opM_x h21 h31, opM_x h21 h31]
theorem opM_RI {M : MS} (hI : RI M) {a : Int} {n0 : Nat} (ry : 0 ≤ a ∧ a ≤ 9) (hi : (n0 : Int) ≤ M 1 0) : RI (opM M a n0) := by
  have q1 := hI.hfl
  have q7 := hI.hme
  refine ⟨hI.hfl, hI.har, hI.ha1, hI.hrk, hI.hlv, hI.hsi, hI.hme, hI.hfo, hI.hab, hI.hte, hI.hrd, hI.hda, hI.hva, hI.hgo, hI.hrn, hI.hmo, hI.hcs, hI.hbs, hI.hed, fun i h0 h1 => ?_, hI.htb, hI.hbp, hI.hf8, hI.hsm, hI.hs0, hI.hgv, fun i h0 h1 => ?_, fun y i k h0 h1 h2 h3 h4 h5 => ?_, hI.hr0, hI.hl0, hI.hp0, hI.hd0⟩
  · simp only [opM, upM, upI, setO, Nat.reduceEqDiff, ↓reduceIte] at *
    have := hI.hth i h0 h1
    have := hI.hth a (by omega) (by omega)
    by_cases e : i = a
    · subst e; simp only [↓reduceIte]; split <;> omega
    · simp only [e, ↓reduceIte]; omega
  · simp only [opM, upM, upI, setO, Nat.reduceEqDiff, ↓reduceIte] at *
    have := hI.ht1 i h0 h1
    by_cases e : i = a
    · subst e; simp only [↓reduceIte]; split <;> omega
    · simp only [e, ↓reduceIte]; omega
  · simp only [opM, upM, upI, setO, Nat.reduceEqDiff, ↓reduceIte] at *
    refine hI.hzz y i k h0 h1 ?_ h3 h4 h5
    by_cases e : y = a
    · subst e; simp only [↓reduceIte] at h2; split at h2 <;> omega
    · simp only [e, ↓reduceIte] at h2; exact h2
/-- the same, all flats, with the reference's notes of the edition before -/
def mo (M : MS) (a : Int) : MS := upM (setO (opM M a (M 1 0).toNat) 25 a (fun f => sp_share M f a) (M 21 a).toNat) 22 a (M 21 a)
theorem mo_x {M : MS} {a : Int} {k : Nat} (h1 : k ≠ 22) (h2 : k ≠ 25) : mo M a k = opM M a (M 1 0).toNat k := (upM_n h1).trans (setO_n h2)
theorem mo_21 {M : MS} (hI : RI M) {a : Int} (ry : 0 ≤ a ∧ a ≤ 9) : mo M a 21 a = M 1 0 := by
  have q := hI.ht1 a ry.1 ry.2
  have q1 := hI.hfl
  rw [mo_x (by decide) (by decide), opM_21]
  split <;> omega
theorem mo_RI {M : MS} (hI : RI M) {a : Int} (ry : 0 ≤ a ∧ a ≤ 9) : RI (mo M a) := by
  have q1 := hI.hfl
  have hJ := opM_RI hI (n0 := (M 1 0).toNat) ry (by omega)
  refine ⟨hJ.hfl, hJ.har, hJ.ha1, hJ.hrk, hJ.hlv, hJ.hsi, hJ.hme, hJ.hfo, hJ.hab, hJ.hte, hJ.hrd, hJ.hda, hJ.hva, hJ.hgo, hJ.hrn, hJ.hmo, hJ.hcs, hJ.hbs, hJ.hed, hJ.hth, fun i h0 h1 => ?_, hJ.hbp, hJ.hf8, hJ.hsm, hJ.hs0, hJ.hgv, hJ.ht1, hJ.hzz, hJ.hr0, hJ.hl0, hJ.hp0, hJ.hd0⟩
  have := hI.htb i h0 h1
  have := hI.hth a (by omega) (by omega)
  simp only [mo, opM, upM, upI, setO, Nat.reduceEqDiff, ↓reduceIte]
  split <;> omega
theorem mo_NI {M : MS} (hI : RI M) (hN : NI M) {a : Int} (ry : 0 ≤ a ∧ a ≤ 9) : NI (mo M a) := by
  have q1 := hI.hfl
  refine ⟨hN.hst, hN.z0, hN.z1, hN.z2, hN.hcp, hN.hfc, hN.hor, hN.hro, hN.hcn, hN.hmf, fun y f h0 h1 h2 h3 => ?_⟩
  have t1 := hI.ht1 a ry.1 ry.2
  have ty := hI.ht1 y h0 h1
  by_cases e : y = a
  · subst e
    rw [mo_21 hI ry] at h3
    rw [mo_x (by decide) (by decide), opM_31, setO_s', if_pos (by omega), show 20 * y + f - 20 * y = f by omega]
    show sp_share M f y = if f < upM _ 22 y (M 21 y) 22 y then setO (opM M y (M 1 0).toNat) 25 y (fun f => sp_share M f y) (M 21 y).toNat 25 (20 * y + f) else 0
    rw [upM_ss]
    by_cases c : f < M 21 y
    · rw [if_pos c, setO_s', if_pos (by omega), show 20 * y + f - 20 * y = f by omega]
    · rw [if_neg c]
      have z0 := hI.hzz y f 0 h0 h1 (by omega) (by omega) (by decide) (by decide)
      have z1 := hI.hzz y f 1 h0 h1 (by omega) (by omega) (by decide) (by decide)
      have z2 := hI.hzz y f 2 h0 h1 (by omega) (by omega) (by decide) (by decide)
      have z3 := hI.hzz y f 3 h0 h1 (by omega) (by omega) (by decide) (by decide)
      unfold sp_share sp_line
      omega
  · have h4 : f < M 21 y := by
      rw [mo_x (by decide) (by decide)] at h3
      unfold opM at h3
      rw [upM_sn e, setO_n (by decide)] at h3
      exact h3
    rw [mo_x (by decide) (by decide), opM_31, setO_s', if_neg (by omega)]
    show M 31 (20 * y + f) = if f < upM (setO (opM M a (M 1 0).toNat) 25 a (fun f => sp_share M f a) (M 21 a).toNat) 22 a (M 21 a) 22 y then setO (opM M a (M 1 0).toNat) 25 a (fun f => sp_share M f a) (M 21 a).toNat 25 (20 * y + f) else 0
    have e25 : setO (opM M a (M 1 0).toNat) 25 a (fun f => sp_share M f a) (M 21 a).toNat 25 (20 * y + f) = M 25 (20 * y + f) := by rw [setO_s', if_neg (by omega), opM_x (by decide) (by decide)]
    rw [upM_sn e, e25]
    exact hN.hbe y f h0 h1 h2 h4
/-- what the lines of a kind depend on -/
def er3 (M : MS) : MS := fun k => if k = 0 then (fun _ => 0) else if k = 20 then (fun _ => 0) else if k = 22 then (fun _ => 0) else if 24 < k then (fun _ => 0) else M k
theorem er3_c {A B : MS} (h : ∀ k : Nat, k ≠ 0 → k < 25 → k ≠ 20 → k ≠ 22 → A k = B k) : er3 A = er3 B := by
  funext k
  unfold er3
  split
  · rfl
  · split
    · rfl
    · split
      · rfl
      · split
        · rfl
        · exact h k (by assumption) (by omega) (by assumption) (by assumption)
theorem sp_gb_er3 (M : MS) (k a : Int) : sp_gb M k a = sp_gb (er3 M) k a := rfl
theorem sp_gu_er3 (M : MS) (k a : Int) : sp_gu M k a = sp_gu (er3 M) k a := rfl
theorem sp_num_er3 (M : MS) (k a : Int) : sp_num M k a = sp_num (er3 M) k a := rfl
theorem kind_x {M : MS} {k0 a : Int} {k : Nat} (h1 : k ≠ 23) (h2 : k ≠ 24) : sp_kind M k0 a k = M k := (set4_n h2).trans (set4_n h1)
theorem kind_c {A B : MS} (h : ∀ k : Nat, k ≠ 0 → k < 25 → k ≠ 20 → k ≠ 22 → A k = B k) (k0 a : Int) : ∀ k : Nat, k ≠ 0 → k < 25 → k ≠ 20 → k ≠ 22 → sp_kind A k0 a k = sp_kind B k0 a k := fun k h0 h1 h2 h3 => by
  have e1 : sp_gb A k0 a = sp_gb B k0 a := by rw [sp_gb_er3 A, sp_gb_er3 B, er3_c h]
  have e2 : sp_gu A k0 a = sp_gu B k0 a := by rw [sp_gu_er3 A, sp_gu_er3 B, er3_c h]
  have e3 : A 1 = B 1 := h 1 (by decide) (by decide) (by decide) (by decide)
  unfold sp_kind
  rw [e1, e2, e3]
  by_cases c4 : k = 24
  · subst c4
    funext i
    rw [set4_s', set4_s', set4_n (by decide), set4_n (by decide), h 24 h0 h1 h2 h3]
  · rw [set4_n c4, set4_n c4]
    by_cases c3 : k = 23
    · subst c3
      funext i
      rw [set4_s', set4_s', h 23 h0 h1 h2 h3]
    · rw [set4_n c3, set4_n c3]
      exact h k h0 h1 h2 h3
theorem run4_x {M : MS} {a : Int} {k : Nat} (h1 : k ≠ 23) (h2 : k ≠ 24) : sp_run4 M a k = M k := (kind_x h1 h2).trans ((kind_x h1 h2).trans ((kind_x h1 h2).trans (kind_x h1 h2)))
theorem run4_c {A B : MS} (h : ∀ k : Nat, k ≠ 0 → k < 25 → k ≠ 20 → k ≠ 22 → A k = B k) (a : Int) : ∀ k : Nat, k ≠ 0 → k < 25 → k ≠ 20 → k ≠ 22 → sp_run4 A a k = sp_run4 B a k := kind_c (kind_c (kind_c (kind_c h 0 a) 1 a) 2 a) 3 a
theorem mo_run0 {M : MS} {a : Int} (hI : RI M) (ry : 0 ≤ a ∧ a ≤ 9) : ∀ k : Nat, k ≠ 0 → k < 26 → k ≠ 20 → mo M a k = sp_run0 M a k := fun k h0 h1 h2 => by
  have q := hI.ht1 a ry.1 ry.2
  have q1 := hI.hfl
  unfold sp_run0
  rw [upM_n h2]
  by_cases c21 : k = 21
  · subst c21
    rw [mo_x (by decide) (by decide)]
    funext j
    by_cases hj : j = a
    · subst hj
      rw [opM_21, upM_ss]
      split <;> omega
    · unfold opM
      rw [upM_sn hj, upM_sn hj, setO_n (by decide), upM_n (by decide), setO_n (by decide)]
  · rw [upM_n c21]
    by_cases c22 : k = 22
    · subst c22
      funext j
      unfold mo
      by_cases hj : j = a
      · subst hj; rw [upM_ss, upM_ss]
      · rw [upM_sn hj, upM_sn hj, setO_n (by decide), setO_n (by decide), opM_x (by decide) (by decide)]
    · rw [upM_n c22]
      by_cases c25 : k = 25
      · subst c25
        funext j
        unfold mo
        rw [upM_n (by decide), setO_s', setO_s', opM_x (by decide) (by decide)]
      · rw [setO_n c25, mo_x c22 c25, opM_x c21 (by omega)]
theorem run_fin {M M4 : MS} {a : Int} (hI : RI M) (ry : 0 ≤ a ∧ a ≤ 9) (h : ∀ j : Nat, j ≠ 28 → j ≠ 29 → j ≠ 30 → M4 j = sp_run4 (mo M a) a j) : ∀ k : Nat, k ≠ 0 → k < 26 → upM M4 20 a (M 20 a + 1) k = sp_run4 (sp_run0 M a) a k := fun k h0 h1 => by
  by_cases c20 : k = 20
  · subst c20
    rw [run4_x (by decide) (by decide)]
    funext j
    unfold sp_run0
    by_cases hj : j = a
    · subst hj; rw [upM_ss, upM_ss]
    · rw [upM_sn hj, upM_sn hj, h 20 (by decide) (by decide) (by decide), run4_x (by decide) (by decide), mo_x (by decide) (by decide), opM_x (by decide) (by decide), upM_n (by decide), upM_n (by decide), setO_n (by decide)]
  · rw [upM_n c20, h k (by omega) (by omega) (by omega)]
    by_cases c25 : k = 25 ∨ k = 22
    · rw [run4_x (by omega) (by omega), run4_x (by omega) (by omega)]
      exact mo_run0 hI ry k h0 h1 c20
    · exact run4_c (fun j z0 z1 z2 z3 => mo_run0 hI ry j z0 (by omega) z2) a k h0 (by omega) c20 (by omega)
/-- dealing out: the first j by rank have got their cent -/
def dlk (K : Int → Int) (n : Nat) (num : Int → Int) (p j f : Int) : Int := p * num f / sumI num n + (if sp_bef K f n < j then 1 else 0)
theorem setC_g {M : MS} {fid : Nat} {g g' : Int → Int} {n : Nat} (h : ∀ f : Int, 0 ≤ f → f < (n : Int) → g f = g' f) : setC M fid g n = setC M fid g' n := by
  funext k i
  by_cases hk : k = fid
  · subst hk
    by_cases hi : 0 ≤ i ∧ i < (n : Int)
    · rw [setC_in hi, setC_in hi]; exact h i hi.1 hi.2
    · rw [setC_out hi, setC_out hi]
  · rw [setC_n hk, setC_n hk]
theorem set4_g {M : MS} {fid : Nat} {a k : Int} {g g' : Int → Int} {n : Nat} (h : ∀ f : Int, 0 ≤ f → f < (n : Int) → g f = g' f) : set4 M fid a k g n = set4 M fid a k g' n := by
  funext x i
  by_cases hx : x = fid
  · subst hx
    rw [set4_s', set4_s']
    by_cases hi : 80 * a ≤ i ∧ i < 80 * a + 4 * (n : Int) ∧ (i - 80 * a) % 4 = k
    · rw [if_pos hi, if_pos hi]; exact h _ (by omega) (by omega)
    · rw [if_neg hi, if_neg hi]
  · rw [set4_n hx, set4_n hx]
theorem setC_keep {M : MS} {fid : Nat} {g : Int → Int} {k : Nat} (h : M fid (k : Int) = g (k : Int)) : setC M fid g k = setC M fid g (k + 1) := by
  rw [← setC_s]
  funext x i
  by_cases hx : x = fid
  · subst hx
    by_cases hi : i = (k : Int)
    · subst hi; rw [upM_ss, setC_out (by omega)]; exact h
    · rw [upM_sn hi]
  · rw [upM_n hx]
theorem setC_cm {M : MS} {fid fid' : Nat} {g : Int → Int} {n : Nat} {i v : Int} (h : fid' ≠ fid) : upM (setC M fid g n) fid' i v = setC (upM M fid' i v) fid g n := by
  funext x j
  by_cases hx : x = fid'
  · subst hx
    rw [setC_n h, upM_s, upM_s, setC_n h]
  · rw [upM_n hx]
    by_cases hy : x = fid
    · subst hy
      by_cases hj : 0 ≤ j ∧ j < (n : Int)
      · rw [setC_in hj, setC_in hj]
      · rw [setC_out hj, setC_out hj, upM_n hx]
    · rw [setC_n hy, setC_n hy, upM_n hx]
theorem dlk_0 {M : MS} {num : Int → Int} {p : Int} {n : Nat} : setC M 30 (fun f => p * num f / sumI num n) n = setC M 30 (dlk (M 3) n num p 0) n := setC_g (fun f _ _ => by
  have := sp_bef_r (M 3) f n
  unfold dlk
  rw [if_neg (by omega), Int.add_zero])
theorem dlk_s {M : MS} {K num : Int → Int} {p : Int} {n j : Nat} {w : Int} (hw : 0 ≤ w ∧ w < (n : Int)) (hb : sp_bef K w n = (j : Int)) (hinj : ∀ f : Int, 0 ≤ f → f < (n : Int) → sp_bef K f n = (j : Int) → f = w) : upM (setC M 30 (dlk K n num p (j : Int)) n) 30 w (dlk K n num p (j : Int) w + 1) = setC M 30 (dlk K n num p ((j + 1 : Nat) : Int)) n := by
  funext x i
  by_cases hx : x = 30
  · subst hx
    by_cases hi : i = w
    · subst hi
      rw [upM_ss, setC_in hw]
      unfold dlk
      rw [if_neg (by omega), if_pos (by omega)]
      omega
    · rw [upM_sn hi]
      by_cases hj : 0 ≤ i ∧ i < (n : Int)
      · rw [setC_in hj, setC_in hj]
        unfold dlk
        have : sp_bef K i n ≠ (j : Int) := fun q => hi (hinj i hj.1 hj.2 q)
        by_cases c : sp_bef K i n < (j : Int)
        · rw [if_pos c, if_pos (by omega)]
        · rw [if_neg c, if_neg (by omega)]
      · rw [setC_out hj, setC_out hj]
  · rw [upM_n hx, setC_n hx, setC_n hx]
theorem dlk_e {M : MS} {K num : Int → Int} {p : Int} {n j : Nat} (hj : (j = n ∧ ((j : Int) ≤ p - sumI (fun f => p * num f / sumI num n) n ∨ j = 0)) ∨ (p - sumI (fun f => p * num f / sumI num n) n ≤ (j : Int) ∧ ((j : Int) ≤ p - sumI (fun f => p * num f / sumI num n) n ∨ j = 0))) : setC M 30 (dlk K n num p (j : Int)) n = setC M 30 (dl K n num p) n := setC_g (fun f h0 h1 => by
  have q := bef_n (K := K) f ⟨h0, h1⟩
  have q0 := sp_bef_r K f n
  unfold dlk dl
  by_cases c : sp_bef K f n < (j : Int)
  · rw [if_pos c, if_pos (by omega)]
  · rw [if_neg c, if_neg (by omega)])
/-- the class's states while it shares out one kind -/
def sh2 (M : MS) (k a : Int) : MS := setC (setC M 29 (M 2) (M 1 0).toNat) 30 (dl (M 3) (M 1 0).toNat (setC M 29 (M 2) (M 1 0).toNat 29) (sp_first M k a)) (M 1 0).toNat
def sh3 (M : MS) (k a : Int) : MS := set4 (sh2 M k a) 23 a k (sh2 M k a 30) (M 1 0).toNat
def sh4 (M : MS) (k a : Int) (t : Int → Int) : MS := setC (setC (sh3 M k a) 28 t (M 1 0).toNat) 29 (sp_num (sh3 M k a) k a) (M 1 0).toNat
def sh5 (M : MS) (k a : Int) (t : Int → Int) : MS := setC (sh4 M k a t) 30 (dl (M 3) (M 1 0).toNat (sh4 M k a t 29) (M 18 (4 * a + k) - sp_first M k a)) (M 1 0).toNat
def sh6 (M : MS) (k a : Int) (t : Int → Int) : MS := set4 (sh5 M k a t) 24 a k (sh5 M k a t 30) (M 1 0).toNat
theorem sh3_num (M : MS) (k a : Int) : sp_num (sh3 M k a) k a = sp_num M k a := by
  rw [sp_num_er3 (sh3 M k a), sp_num_er3 M]
  rfl
theorem sh2_30 {M : MS} {k a f : Int} (hf : 0 ≤ f ∧ f < (((M 1 0).toNat : Nat) : Int)) : sh2 M k a 30 f = sp_gb M k a f := by
  unfold sh2
  rw [setC_in hf]
  have e : f = ((f.toNat : Nat) : Int) := by omega
  rw [e]
  exact dl_c (K := M 3) (n := (M 1 0).toNat) (num := setC M 29 (M 2) (M 1 0).toNat 29) (num' := M 2) (fun j hj => setC_in (by omega)) (by omega)
theorem sh5_30 {M : MS} {k a f : Int} {t : Int → Int} (hf : 0 ≤ f ∧ f < (((M 1 0).toNat : Nat) : Int)) : sh5 M k a t 30 f = sp_gu M k a f := by
  unfold sh5
  rw [setC_in hf]
  have e : f = ((f.toNat : Nat) : Int) := by omega
  rw [e]
  refine dl_c (K := M 3) (n := (M 1 0).toNat) (num := sh4 M k a t 29) (num' := sp_num M k a) (fun j hj => ?_) (by omega)
  unfold sh4
  rw [setC_in (by omega), sh3_num]
theorem sh6_x (M : MS) (k a : Int) (t : Int → Int) : ∀ j : Nat, j ≠ 28 → j ≠ 29 → j ≠ 30 → sh6 M k a t j = sp_kind M k a j := fun j h1 h2 h3 => by
  have e6 : sh6 M k a t = set4 (sh5 M k a t) 24 a k (sp_gu M k a) (M 1 0).toNat := set4_g (fun f z1 z2 => sh5_30 ⟨z1, z2⟩)
  have e3 : sh3 M k a = set4 (sh2 M k a) 23 a k (sp_gb M k a) (M 1 0).toNat := set4_g (fun f z1 z2 => sh2_30 ⟨z1, z2⟩)
  have e5 : sh5 M k a t j = sh3 M k a j := (setC_n h3).trans ((setC_n h2).trans (setC_n h1))
  have e2 : sh2 M k a j = M j := (setC_n h3).trans (setC_n h2)
  rw [e6]
  unfold sp_kind
  by_cases c4 : j = 24
  · subst c4
    funext i
    rw [set4_s', set4_s', e5, e3, set4_n (by decide), set4_n (by decide), e2]
  · rw [set4_n c4, set4_n c4, e5, e3]
    by_cases c3 : j = 23
    · subst c3
      funext i
      rw [set4_s', set4_s', e2]
    · rw [set4_n c3, set4_n c3, e2]
/-- sharing by use: the first round, the second -/
def tld (M : MS) (k a f : Int) : Int := if sp_barred M f k a = 0 then 1 else 0
def w1 (M : MS) (k a f : Int) : Int := if sp_barred M f k a = 0 then sp_usedBy M f k (365 * a) (365 * a + 365) else M 29 f
theorem u2_t {M : MS} {k a f : Int} (h : sp_barred M f k a = 0) : sp_u2 M k a f = sp_usedBy M f k (365 * a) (365 * a + 365) := by
  unfold sp_u2 sp_u1
  rw [if_neg (by omega), if_pos h]
theorem u2_f {M : MS} {k a f : Int} (h : 0 < sp_barred M f k a) (h2 : 0 < sp_uar M k a) : sp_u2 M k a f = sp_usum M k a * M 2 f / sp_uar M k a := by
  unfold sp_u2
  rw [if_pos ⟨h, h2⟩]
theorem u2_z {M : MS} {k a f : Int} (h : 0 < sp_barred M f k a) (h2 : ¬ 0 < sp_uar M k a) : sp_u2 M k a f = 0 := by
  unfold sp_u2 sp_u1
  rw [if_neg (by omega), if_neg (by omega)]
theorem u2_0 {M : MS} {k a : Int} (hI : RI M) (ry : 0 ≤ a ∧ a ≤ 9) : sumI (sp_u2 M k a) (M 1 0).toNat = 0 ↔ sp_usum M k a = 0 := by
  have q1 := hI.hfl
  have hu : ∀ i : Nat, i < (M 1 0).toNat → 0 ≤ sp_u1 M k a (i : Int) := fun i _ => (sp_u1_r hI.hme hI.hrd hI.hda hI.hva hI.hgo hI.hmo hI.hab hI.hte hI.hfo ry).1
  have q : sp_usum M k a ≤ sumI (sp_u2 M k a) (M 1 0).toNat := sumI_le (fun i hi => (sp_u2_r hI.hfl hI.har hI.hme hI.hrd hI.hda hI.hva hI.hgo hI.hmo hI.hab hI.hte hI.hfo ry (by omega)).1)
  have q2 : 0 ≤ sp_usum M k a := sumI_nn hu
  constructor
  · intro h; omega
  · intro h
    have e : sumI (sp_u2 M k a) (M 1 0).toNat = sumI (fun _ => 0) (M 1 0).toNat := sumI_c (fun i hi => by
      have z : sp_u1 M k a (i : Int) = 0 := by
        have := sumI_ge hu i hi
        have := hu i hi
        have : sp_usum M k a = sumI (sp_u1 M k a) (M 1 0).toNat := rfl
        omega
      unfold sp_u2
      split
      · rw [h, Int.zero_mul, Int.zero_ediv]
      · exact z)
    rw [e, sumI_0]
theorem num_z {M : MS} {k a f : Int} (h : sp_usum M k a = 0) : sp_num M k a f = M 2 f := if_pos h
theorem num_n {M : MS} {k a f : Int} (h : ¬ sp_usum M k a = 0) : sp_num M k a f = sp_u2 M k a f := if_neg h
