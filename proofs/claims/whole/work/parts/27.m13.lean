/-! run of the reference (written by wip/whole/mm13.py) -/
theorem sp_usum_t {M : MS} {k a : Int} (hme : 0 ≤ M 7 0 ∧ M 7 0 ≤ 60) (hrd : ∀ f : Int, 0 ≤ f → f < M 7 0 → 0 ≤ M 13 f ∧ M 13 f ≤ 40) (hda : ∀ i : Int, 0 ≤ i → i < 2400 → 0 ≤ M 14 i ∧ M 14 i ≤ 3649) (hva : ∀ i : Int, 0 ≤ i → i < 2400 → 0 ≤ M 15 i ∧ M 15 i ≤ 10000000) (hgo : ∀ i : Int, 0 ≤ i → i < 2400 → 0 ≤ M 16 i ∧ M 16 i ≤ 10000000) (hmo : ∀ f k : Int, 0 ≤ f → f < M 7 0 → 0 ≤ k → k + 1 < M 13 f → M 14 (40 * f + k) < M 14 (40 * f + 1 + k) ∧ M 16 (40 * f + k) ≤ M 15 (40 * f + 1 + k)) (hab : ∀ f : Int, 0 ≤ f → f < M 7 0 → (1 ≤ M 10 f ∧ M 10 f ≤ 1000) ∧ (1 ≤ M 11 f ∧ M 11 f ≤ 1000)) (hte : ∀ i : Int, 0 ≤ i → i < 60 → 0 ≤ M 12 i ∧ M 12 i ≤ 3649) (hfo : ∀ i : Int, 0 ≤ i → i < 60 → (0 ≤ M 8 i ∧ M 8 i ≤ 20) ∧ (0 ≤ M 9 i ∧ M 9 i ≤ 3)) (ry : 0 ≤ a ∧ a ≤ 9) : 0 ≤ sp_usum M k a ∧ sp_usum M k a ≤ 23400000000000 := by
  have h0 : ∀ i : Nat, i < (M 7 0).toNat → 0 ≤ sp_use M (i : Int) (365 * a) (365 * a + 365) ∧ sp_use M (i : Int) (365 * a) (365 * a + 365) ≤ 390000000000 := fun i hi => sp_use_r hme hrd hda hva hgo hmo hab hte hfo (by omega) (by omega)
  have h1 : sp_usum M k a ≤ sumI (fun f => sp_used (M 8) (M 9) (fun i => sp_use M i (365 * a) (365 * a + 365)) f k (M 7 0).toNat) (M 1 0).toNat := sumI_le (fun i _ => by
    have q := sp_usedBy_r (f := (i : Int)) (k := k) (g := 365 * a) (t := 365 * a + 365) hme hrd hda hva hgo hmo hab hte hfo (by omega)
    show sp_u1 M k a (i : Int) ≤ sp_usedBy M (i : Int) k (365 * a) (365 * a + 365)
    unfold sp_u1
    split <;> omega)
  have h2 := sumI_used (F := M 8) (K := M 9) (U := fun i => sp_use M i (365 * a) (365 * a + 365)) (k := k) (M 1 0).toNat (N := (M 7 0).toNat) (fun i hi => (h0 i hi).1)
  have h3 := sumI_r (g := fun i => sp_use M i (365 * a) (365 * a + 365)) (a := 0) (b := 390000000000) (n := (M 7 0).toNat) h0
  have h4 : 0 ≤ sp_usum M k a := sumI_nn (fun i _ => (sp_u1_r hme hrd hda hva hgo hmo hab hte hfo ry).1)
  omega
theorem sp_u2_r {M : MS} {k a f : Int} (hfl : 0 ≤ M 1 0 ∧ M 1 0 ≤ 20) (har : ∀ i : Int, 0 ≤ i → i < 20 → 0 ≤ M 2 i ∧ M 2 i ≤ 1000) (hme : 0 ≤ M 7 0 ∧ M 7 0 ≤ 60) (hrd : ∀ f : Int, 0 ≤ f → f < M 7 0 → 0 ≤ M 13 f ∧ M 13 f ≤ 40) (hda : ∀ i : Int, 0 ≤ i → i < 2400 → 0 ≤ M 14 i ∧ M 14 i ≤ 3649) (hva : ∀ i : Int, 0 ≤ i → i < 2400 → 0 ≤ M 15 i ∧ M 15 i ≤ 10000000) (hgo : ∀ i : Int, 0 ≤ i → i < 2400 → 0 ≤ M 16 i ∧ M 16 i ≤ 10000000) (hmo : ∀ f k : Int, 0 ≤ f → f < M 7 0 → 0 ≤ k → k + 1 < M 13 f → M 14 (40 * f + k) < M 14 (40 * f + 1 + k) ∧ M 16 (40 * f + k) ≤ M 15 (40 * f + 1 + k)) (hab : ∀ f : Int, 0 ≤ f → f < M 7 0 → (1 ≤ M 10 f ∧ M 10 f ≤ 1000) ∧ (1 ≤ M 11 f ∧ M 11 f ≤ 1000)) (hte : ∀ i : Int, 0 ≤ i → i < 60 → 0 ≤ M 12 i ∧ M 12 i ≤ 3649) (hfo : ∀ i : Int, 0 ≤ i → i < 60 → (0 ≤ M 8 i ∧ M 8 i ≤ 20) ∧ (0 ≤ M 9 i ∧ M 9 i ≤ 3)) (ry : 0 ≤ a ∧ a ≤ 9) (hf : 0 ≤ f ∧ f < M 1 0) : sp_u1 M k a f ≤ sp_u2 M k a f ∧ 0 ≤ sp_u2 M k a f ∧ sp_u2 M k a f ≤ 23400000000000000 := by
  have q1 := sp_usum_t (k := k) hme hrd hda hva hgo hmo hab hte hfo ry
  have q2 := sp_u1_r (k := k) (f := f) hme hrd hda hva hgo hmo hab hte hfo ry
  have q3 := har f (by omega) (by omega)
  have q4 := am_mul_r (x := sp_usum M k a) (y := M 2 f) (a := 23400000000000) (b := 1000) (by omega) (by omega) (by omega)
  have q5 : 0 ≤ sp_usum M k a * M 2 f := Int.mul_nonneg q1.1 q3.1
  unfold sp_u2
  split
  · rename_i hc
    have q6 : sp_u1 M k a f = 0 := if_neg (by omega)
    have q7 := Int.ediv_nonneg q5 (Int.le_of_lt hc.2)
    have q8 := Int.ediv_le_self (sp_uar M k a) q5
    omega
  · omega
theorem sp_num_r {M : MS} {k a f : Int} (hfl : 0 ≤ M 1 0 ∧ M 1 0 ≤ 20) (har : ∀ i : Int, 0 ≤ i → i < 20 → 0 ≤ M 2 i ∧ M 2 i ≤ 1000) (hme : 0 ≤ M 7 0 ∧ M 7 0 ≤ 60) (hrd : ∀ f : Int, 0 ≤ f → f < M 7 0 → 0 ≤ M 13 f ∧ M 13 f ≤ 40) (hda : ∀ i : Int, 0 ≤ i → i < 2400 → 0 ≤ M 14 i ∧ M 14 i ≤ 3649) (hva : ∀ i : Int, 0 ≤ i → i < 2400 → 0 ≤ M 15 i ∧ M 15 i ≤ 10000000) (hgo : ∀ i : Int, 0 ≤ i → i < 2400 → 0 ≤ M 16 i ∧ M 16 i ≤ 10000000) (hmo : ∀ f k : Int, 0 ≤ f → f < M 7 0 → 0 ≤ k → k + 1 < M 13 f → M 14 (40 * f + k) < M 14 (40 * f + 1 + k) ∧ M 16 (40 * f + k) ≤ M 15 (40 * f + 1 + k)) (hab : ∀ f : Int, 0 ≤ f → f < M 7 0 → (1 ≤ M 10 f ∧ M 10 f ≤ 1000) ∧ (1 ≤ M 11 f ∧ M 11 f ≤ 1000)) (hte : ∀ i : Int, 0 ≤ i → i < 60 → 0 ≤ M 12 i ∧ M 12 i ≤ 3649) (hfo : ∀ i : Int, 0 ≤ i → i < 60 → (0 ≤ M 8 i ∧ M 8 i ≤ 20) ∧ (0 ≤ M 9 i ∧ M 9 i ≤ 3)) (ry : 0 ≤ a ∧ a ≤ 9) (hf : 0 ≤ f ∧ f < M 1 0) : 0 ≤ sp_num M k a f ∧ sp_num M k a f ≤ 23400000000000000 := by
  have q1 := sp_u2_r (k := k) hfl har hme hrd hda hva hgo hmo hab hte hfo ry hf
  have q3 := har f (by omega) (by omega)
  unfold sp_num
  split <;> omega
theorem sp_num_s {M : MS} {k a : Int} (hfl : 0 ≤ M 1 0 ∧ M 1 0 ≤ 20) (har : ∀ i : Int, 0 ≤ i → i < 20 → 0 ≤ M 2 i ∧ M 2 i ≤ 1000) (ha1 : ∀ i : Int, 0 ≤ i → i < M 1 0 → 1 ≤ M 2 i) (hme : 0 ≤ M 7 0 ∧ M 7 0 ≤ 60) (hrd : ∀ f : Int, 0 ≤ f → f < M 7 0 → 0 ≤ M 13 f ∧ M 13 f ≤ 40) (hda : ∀ i : Int, 0 ≤ i → i < 2400 → 0 ≤ M 14 i ∧ M 14 i ≤ 3649) (hva : ∀ i : Int, 0 ≤ i → i < 2400 → 0 ≤ M 15 i ∧ M 15 i ≤ 10000000) (hgo : ∀ i : Int, 0 ≤ i → i < 2400 → 0 ≤ M 16 i ∧ M 16 i ≤ 10000000) (hmo : ∀ f k : Int, 0 ≤ f → f < M 7 0 → 0 ≤ k → k + 1 < M 13 f → M 14 (40 * f + k) < M 14 (40 * f + 1 + k) ∧ M 16 (40 * f + k) ≤ M 15 (40 * f + 1 + k)) (hab : ∀ f : Int, 0 ≤ f → f < M 7 0 → (1 ≤ M 10 f ∧ M 10 f ≤ 1000) ∧ (1 ≤ M 11 f ∧ M 11 f ≤ 1000)) (hte : ∀ i : Int, 0 ≤ i → i < 60 → 0 ≤ M 12 i ∧ M 12 i ≤ 3649) (hfo : ∀ i : Int, 0 ≤ i → i < 60 → (0 ≤ M 8 i ∧ M 8 i ≤ 20) ∧ (0 ≤ M 9 i ∧ M 9 i ≤ 3)) (ry : 0 ≤ a ∧ a ≤ 9) (hn : 0 < M 1 0) : 0 < sumI (sp_num M k a) (M 1 0).toNat ∧ sumI (sp_num M k a) (M 1 0).toNat ≤ 468000000000000000 := by
  have q0 := sumI_r (g := sp_num M k a) (a := 0) (b := 23400000000000000) (n := (M 1 0).toNat) (fun i hi => sp_num_r hfl har hme hrd hda hva hgo hmo hab hte hfo ry (by omega))
  refine ⟨?_, by omega⟩
  by_cases h : sp_usum M k a = 0
  · have e : sumI (sp_num M k a) (M 1 0).toNat = sumI (M 2) (M 1 0).toNat := sumI_c (fun i _ => if_pos h)
    have q := sumI_r (g := M 2) (a := 1) (b := 1000) (n := (M 1 0).toNat) (fun i hi => ⟨ha1 (i : Int) (by omega) (by omega), (har (i : Int) (by omega) (by omega)).2⟩)
    omega
  · have e : sumI (sp_num M k a) (M 1 0).toNat = sumI (sp_u2 M k a) (M 1 0).toNat := sumI_c (fun i _ => if_neg h)
    have q : sp_usum M k a ≤ sumI (sp_u2 M k a) (M 1 0).toNat := sumI_le (fun i hi => (sp_u2_r hfl har hme hrd hda hva hgo hmo hab hte hfo ry (by omega)).1)
    have q1 := sp_usum_t (k := k) hme hrd hda hva hgo hmo hab hte hfo ry
    omega
/-- a kind's base part in a year, and its used part -/
def sp_first (M : MS) (k a : Int) : Int := M 18 (4 * a + k) * M 19 k / 100
def sp_gb (M : MS) (k a f : Int) : Int := dl (M 3) (M 1 0).toNat (M 2) (sp_first M k a) f
def sp_gu (M : MS) (k a f : Int) : Int := dl (M 3) (M 1 0).toNat (sp_num M k a) (M 18 (4 * a + k) - sp_first M k a) f
/-- the lines of one kind -/
def sp_kind (M : MS) (k a : Int) : MS := set4 (set4 M 23 a k (sp_gb M k a) (M 1 0).toNat) 24 a k (sp_gu M k a) (M 1 0).toNat
/-- the same, with the reference's own notes -/
def sp_st1 (M : MS) (k a : Int) : MS := setC (setC M 26 (M 2) (M 1 0).toNat) 27 (sp_g2 (setC M 26 (M 2) (M 1 0).toNat) (sp_first M k a)) (M 1 0).toNat
def sp_st2 (M : MS) (k a : Int) : MS := set4 (sp_st1 M k a) 23 a k (sp_gb M k a) (M 1 0).toNat
def sp_st3 (M : MS) (k a : Int) : MS := setC (setC (sp_st2 M k a) 26 (sp_num M k a) (M 1 0).toNat) 27 (sp_g2 (setC (sp_st2 M k a) 26 (sp_num M k a) (M 1 0).toNat) (M 18 (4 * a + k) - sp_first M k a)) (M 1 0).toNat
def sp_st (M : MS) (k a : Int) : MS := set4 (sp_st3 M k a) 24 a k (sp_gu M k a) (M 1 0).toNat
theorem eqv.setC {A B : MS} (h : eqv A B) {fid : Nat} (hf : fid = 26 ∨ fid = 27) (g : Int → Int) (n : Nat) : eqv (setC A fid g n) B := fun k h0 h1 h2 => (setC_n (by omega)).trans (h k h0 h1 h2)
theorem eqv.set4 {A B : MS} (h : eqv A B) {fid : Nat} (hf : fid ≠ 0 ∧ fid ≠ 26 ∧ fid ≠ 27) (a k : Int) (g : Int → Int) (n : Nat) : eqv (set4 A fid a k g n) (set4 B fid a k g n) := fun x h0 h1 h2 => by
  by_cases hx : x = fid
  · subst hx
    funext i
    rw [set4_s', set4_s', h x h0 h1 h2]
  · rw [set4_n hx, set4_n hx]; exact h x h0 h1 h2
theorem eqv.st {M : MS} (k a : Int) : eqv (sp_st M k a) (sp_kind M k a) :=
  ((((((eqv.rf (M := M)).setC (Or.inl rfl) _ _).setC (Or.inr rfl) _ _).set4 (by decide) a k _ _).setC (Or.inl rfl) _ _).setC (Or.inr rfl) _ _).set4 (by decide) a k _ _
def p0c (x : Int) : Prop := -9223372036854775808 ≤ x ∧ x < 9223372036854775808
theorem left_c {num : Int → Int} {n : Nat} {p : Int} (hp : 0 ≤ p) (hp2 : p ≤ 1000000000) (hn : n ≤ 20) (h : ∀ i : Nat, i < n → 0 ≤ num (i : Int)) (hs : 0 < sumI num n) : p0c (p - sumI (fun j => p * num j / sumI num n) n) := by
  have q := left_r hp h hs
  have q2 : p * (n : Int) ≤ p * 20 := Int.mul_le_mul_of_nonneg_left (by omega) hp
  unfold p0c
  omega
theorem st1_g {M : MS} {k a : Int} {i : Nat} (hi : i < (M 1 0).toNat) : sp_st1 M k a 27 (i : Int) = sp_gb M k a (i : Int) :=
  (setC_in (M := setC M 26 (M 2) (M 1 0).toNat) (fid := 27) (g := sp_g2 (setC M 26 (M 2) (M 1 0).toNat) (sp_first M k a)) (n := (M 1 0).toNat) (i := (i : Int)) (by omega)).trans
    (dl_c (K := M 3) (n := (M 1 0).toNat) (num := setC M 26 (M 2) (M 1 0).toNat 26) (num' := M 2) (p := sp_first M k a) (fun j hj => setC_in (by omega)) hi)
theorem st3_g {M : MS} {k a : Int} {i : Nat} (hi : i < (M 1 0).toNat) : sp_st3 M k a 27 (i : Int) = sp_gu M k a (i : Int) :=
  (setC_in (M := setC (sp_st2 M k a) 26 (sp_num M k a) (M 1 0).toNat) (fid := 27) (g := sp_g2 (setC (sp_st2 M k a) 26 (sp_num M k a) (M 1 0).toNat) (M 18 (4 * a + k) - sp_first M k a)) (n := (M 1 0).toNat) (i := (i : Int)) (by omega)).trans
    (dl_c (K := M 3) (n := (M 1 0).toNat) (num := setC (sp_st2 M k a) 26 (sp_num M k a) (M 1 0).toNat 26) (num' := sp_num M k a) (p := M 18 (4 * a + k) - sp_first M k a) (fun j hj => setC_in (by omega)) hi)
theorem sp_num_st2 (M : MS) (k a : Int) : sp_num (sp_st2 M k a) k a = sp_num M k a := rfl
theorem sp_first_r {M : MS} {k a : Int} (hcs : ∀ i : Int, 0 ≤ i → i < 40 → 0 ≤ M 18 i ∧ M 18 i ≤ 1000000000) (hbs : ∀ i : Int, 0 ≤ i → i < 4 → 0 ≤ M 19 i ∧ M 19 i ≤ 100) (hK : 0 ≤ k ∧ k ≤ 3) (ry : 0 ≤ a ∧ a ≤ 9) : 0 ≤ sp_first M k a ∧ sp_first M k a ≤ M 18 (4 * a + k) ∧ M 18 (4 * a + k) ≤ 1000000000 := by
  have q1 := hcs (4 * a + k) (by omega) (by omega)
  have q2 := hbs k (by omega) (by omega)
  have q3 : M 18 (4 * a + k) * M 19 k ≤ M 18 (4 * a + k) * 100 := Int.mul_le_mul_of_nonneg_left q2.2 q1.1
  have q4 : 0 ≤ M 18 (4 * a + k) * M 19 k := Int.mul_nonneg q1.1 q2.1
  unfold sp_first
  omega
set_option maxRecDepth 100000 in
set_option maxHeartbeats 4000000 in
theorem lpA_M_run {p : Program} {l : Launch} {e : Env} {s : State} {m : MethodId} {args : Array Value} {below : List Frame} {meth : Method} {c : Code} {X : am_X} {Q : State → Prop} {h : am_H} {nx : Nat} {y kk : Nat} {M : MS} {a K al fi : Int} {q2 : Int} (F : am_Fx p s m args meth c y_M_run b_M_run 9 ((Option.some FieldType.int)) [] X) (hfl : 0 ≤ M 1 0 ∧ M 1 0 ≤ 20) (hrk : ∀ i : Int, 0 ≤ i → i < 20 → 0 ≤ M 3 i ∧ M 3 i ≤ 99) (har : ∀ i : Int, 0 ≤ i → i < 20 → 0 ≤ M 2 i ∧ M 2 i ≤ 1000) (ha1 : ∀ i : Int, 0 ≤ i → i < M 1 0 → 1 ≤ M 2 i) (hcs : ∀ i : Int, 0 ≤ i → i < 40 → 0 ≤ M 18 i ∧ M 18 i ≤ 1000000000) (hbs : ∀ i : Int, 0 ≤ i → i < 4 → 0 ≤ M 19 i ∧ M 19 i ≤ 100) (hme : 0 ≤ M 7 0 ∧ M 7 0 ≤ 60) (hrd : ∀ f : Int, 0 ≤ f → f < M 7 0 → 0 ≤ M 13 f ∧ M 13 f ≤ 40) (hda : ∀ i : Int, 0 ≤ i → i < 2400 → 0 ≤ M 14 i ∧ M 14 i ≤ 3649) (hva : ∀ i : Int, 0 ≤ i → i < 2400 → 0 ≤ M 15 i ∧ M 15 i ≤ 10000000) (hgo : ∀ i : Int, 0 ≤ i → i < 2400 → 0 ≤ M 16 i ∧ M 16 i ≤ 10000000) (hmo : ∀ f k : Int, 0 ≤ f → f < M 7 0 → 0 ≤ k → k + 1 < M 13 f → M 14 (40 * f + k) < M 14 (40 * f + 1 + k) ∧ M 16 (40 * f + k) ≤ M 15 (40 * f + 1 + k)) (hab : ∀ f : Int, 0 ≤ f → f < M 7 0 → (1 ≤ M 10 f ∧ M 10 f ≤ 1000) ∧ (1 ≤ M 11 f ∧ M 11 f ≤ 1000)) (hte : ∀ i : Int, 0 ≤ i → i < 60 → 0 ≤ M 12 i ∧ M 12 i ≤ 3649) (hfo : ∀ i : Int, 0 ≤ i → i < 60 → (0 ≤ M 8 i ∧ M 8 i ≤ 20) ∧ (0 ≤ M 9 i ∧ M 9 i ≤ 3)) (ry : 0 ≤ a ∧ a ≤ 9) (hK : 0 ≤ K ∧ K ≤ 3) (hkk : (kk : Int) = M 1 0) (hx : ∀ h9 : am_H, RepM y (set4 (sp_st1 M K a) 23 a K (sp_gb M K a) kk) h9 → MF y h h9 → V p l e ({ frames := 3, cells := 0, slots := 0, locals := 87 }) s m args below meth c 9 X Q h9 nx 0 0 199 [some (.ref y), some (iV a), some (iV q2), some (iV K), some (lV al), none, some (lV fi), none, some (iV (kk : Int))] []) : ∀ (n k : Nat), kk < k + n → k ≤ kk → ∀ h9 : am_H, RepM y (set4 (sp_st1 M K a) 23 a K (sp_gb M K a) k) h9 → MF y h h9 → V p l e ({ frames := 3, cells := 0, slots := 0, locals := 87 }) s m args below meth c 9 X Q h9 nx 0 0 161 [some (.ref y), some (iV a), some (iV q2), some (iV K), some (lV al), none, some (lV fi), none, some (iV (k : Int))] [] := by
  intro n
  induction n with
  | zero =>
    intro k hk hk2
    exact absurd hk (by omega)
  | succ n ih =>
    intro k hk hk2 h9 hM9 hF9
    refine v_iload (pc' := 163) F d_M_run_161 rfl rfl ?_
    refine v_aload_n (pc' := 164) (j := 0) F d_M_run_163 rfl rfl rfl ?_
    refine v_getf (pc' := 167) (C := zR_M) (T := zF_M) (N := 28) (ref := "BillSharesModel") F d_M_run_164 rfl zi_M rfl 1 (by decide) wx_662 (Or.inl rfl) hM9.1 rfl ?_
    refine v_topi (b := M 1 0) rfl ?_
    refine v_icmp_ge (tgt := 199) (pc' := 170) F d_M_run_167 (by decide) rfl (by omega) (by omega) (fun c167 => ?_) (fun c167 => ?_)
    · obtain rfl : k = kk := by omega
      exact hx h9 hM9 hF9
    · refine v_aload_n (pc' := 171) (j := 0) F d_M_run_170 rfl rfl rfl ?_
      refine v_getf (pc' := 174) (C := zR_M) (T := zF_M) (N := 28) (ref := "BillSharesModel") F d_M_run_171 rfl zi_M rfl 23 (by decide) wx_684 (Or.inl rfl) hM9.1 rfl ?_
      refine v_bipush (pc' := 176) F d_M_run_174 rfl (by decide) ?_
      refine v_iload_n (pc' := 177) (j := 1) F d_M_run_176 rfl rfl rfl ?_
      refine v_imul (pc' := 178) F d_M_run_177 rfl ?_
      refine v_iconst (pc' := 179) F d_M_run_178 rfl ?_
      refine v_iload (pc' := 181) F d_M_run_179 rfl rfl ?_
      refine v_imul (pc' := 182) F d_M_run_181 rfl ?_
      refine v_iadd (pc' := 183) F d_M_run_182 rfl ?_
      refine v_iload_n (pc' := 184) (j := 3) F d_M_run_183 rfl rfl rfl ?_
      refine v_iadd (pc' := 185) F d_M_run_184 rfl ?_
      refine v_aload_n (pc' := 186) (j := 0) F d_M_run_185 rfl rfl rfl ?_
      refine v_getf (pc' := 189) (C := zR_M) (T := zF_M) (N := 28) (ref := "BillSharesModel") F d_M_run_186 rfl zi_M rfl 27 (by decide) wx_688 (Or.inl rfl) hM9.1 rfl ?_
      refine v_iload (pc' := 191) F d_M_run_189 rfl rfl ?_
      refine mg_27 (pc' := 192) F hM9 d_M_run_191 rfl (by omega) (by omega) ?_
      refine v_topl (b := sp_gb M K a (k : Int)) (show sp_st1 M K a 27 (k : Int) = _ from st1_g (by omega)) ?_
      refine mp_23 (pc' := 193) F hM9 d_M_run_192 rfl (by omega) (by omega) (fun h1 hM1 hF1 => ?_)
      refine v_iinc_8 (pc' := 196) F d_M_run_193 rfl rfl (by decide) ?_
      refine v_goto (tgt := 161) F d_M_run_196 (by decide) ?_
      exact ih (k + 1) (by omega) (by omega) _ (by rw [← set4_s hK]; exact hM1) ((hF9).tr hF1)
set_option maxRecDepth 100000 in
set_option maxHeartbeats 4000000 in
theorem lpB_M_run {p : Program} {l : Launch} {e : Env} {s : State} {m : MethodId} {args : Array Value} {below : List Frame} {meth : Method} {c : Code} {X : am_X} {Q : State → Prop} {h : am_H} {nx : Nat} {y kk : Nat} {M : MS} {a K al fi : Int} {q2 : Int} (F : am_Fx p s m args meth c y_M_run b_M_run 9 ((Option.some FieldType.int)) [] X) (hfl : 0 ≤ M 1 0 ∧ M 1 0 ≤ 20) (hrk : ∀ i : Int, 0 ≤ i → i < 20 → 0 ≤ M 3 i ∧ M 3 i ≤ 99) (har : ∀ i : Int, 0 ≤ i → i < 20 → 0 ≤ M 2 i ∧ M 2 i ≤ 1000) (ha1 : ∀ i : Int, 0 ≤ i → i < M 1 0 → 1 ≤ M 2 i) (hcs : ∀ i : Int, 0 ≤ i → i < 40 → 0 ≤ M 18 i ∧ M 18 i ≤ 1000000000) (hbs : ∀ i : Int, 0 ≤ i → i < 4 → 0 ≤ M 19 i ∧ M 19 i ≤ 100) (hme : 0 ≤ M 7 0 ∧ M 7 0 ≤ 60) (hrd : ∀ f : Int, 0 ≤ f → f < M 7 0 → 0 ≤ M 13 f ∧ M 13 f ≤ 40) (hda : ∀ i : Int, 0 ≤ i → i < 2400 → 0 ≤ M 14 i ∧ M 14 i ≤ 3649) (hva : ∀ i : Int, 0 ≤ i → i < 2400 → 0 ≤ M 15 i ∧ M 15 i ≤ 10000000) (hgo : ∀ i : Int, 0 ≤ i → i < 2400 → 0 ≤ M 16 i ∧ M 16 i ≤ 10000000) (hmo : ∀ f k : Int, 0 ≤ f → f < M 7 0 → 0 ≤ k → k + 1 < M 13 f → M 14 (40 * f + k) < M 14 (40 * f + 1 + k) ∧ M 16 (40 * f + k) ≤ M 15 (40 * f + 1 + k)) (hab : ∀ f : Int, 0 ≤ f → f < M 7 0 → (1 ≤ M 10 f ∧ M 10 f ≤ 1000) ∧ (1 ≤ M 11 f ∧ M 11 f ≤ 1000)) (hte : ∀ i : Int, 0 ≤ i → i < 60 → 0 ≤ M 12 i ∧ M 12 i ≤ 3649) (hfo : ∀ i : Int, 0 ≤ i → i < 60 → (0 ≤ M 8 i ∧ M 8 i ≤ 20) ∧ (0 ≤ M 9 i ∧ M 9 i ≤ 3)) (ry : 0 ≤ a ∧ a ≤ 9) (hK : 0 ≤ K ∧ K ≤ 3) (hkk : (kk : Int) = M 1 0) (hx : ∀ h9 : am_H, RepM y (set4 (sp_st3 M K a) 24 a K (sp_gu M K a) kk) h9 → MF y h h9 → V p l e ({ frames := 3, cells := 0, slots := 0, locals := 87 }) s m args below meth c 9 X Q h9 nx 0 0 255 [some (.ref y), some (iV a), some (iV q2), some (iV K), some (lV al), none, some (lV fi), none, some (iV (kk : Int))] []) : ∀ (n k : Nat), kk < k + n → k ≤ kk → ∀ h9 : am_H, RepM y (set4 (sp_st3 M K a) 24 a K (sp_gu M K a) k) h9 → MF y h h9 → V p l e ({ frames := 3, cells := 0, slots := 0, locals := 87 }) s m args below meth c 9 X Q h9 nx 0 0 217 [some (.ref y), some (iV a), some (iV q2), some (iV K), some (lV al), none, some (lV fi), none, some (iV (k : Int))] [] := by
  intro n
  induction n with
  | zero =>
    intro k hk hk2
    exact absurd hk (by omega)
  | succ n ih =>
    intro k hk hk2 h9 hM9 hF9
    refine v_iload (pc' := 219) F d_M_run_217 rfl rfl ?_
    refine v_aload_n (pc' := 220) (j := 0) F d_M_run_219 rfl rfl rfl ?_
    refine v_getf (pc' := 223) (C := zR_M) (T := zF_M) (N := 28) (ref := "BillSharesModel") F d_M_run_220 rfl zi_M rfl 1 (by decide) wx_662 (Or.inl rfl) hM9.1 rfl ?_
    refine v_topi (b := M 1 0) rfl ?_
    refine v_icmp_ge (tgt := 255) (pc' := 226) F d_M_run_223 (by decide) rfl (by omega) (by omega) (fun c223 => ?_) (fun c223 => ?_)
    · obtain rfl : k = kk := by omega
      exact hx h9 hM9 hF9
    · refine v_aload_n (pc' := 227) (j := 0) F d_M_run_226 rfl rfl rfl ?_
      refine v_getf (pc' := 230) (C := zR_M) (T := zF_M) (N := 28) (ref := "BillSharesModel") F d_M_run_227 rfl zi_M rfl 24 (by decide) wx_685 (Or.inl rfl) hM9.1 rfl ?_
      refine v_bipush (pc' := 232) F d_M_run_230 rfl (by decide) ?_
      refine v_iload_n (pc' := 233) (j := 1) F d_M_run_232 rfl rfl rfl ?_
      refine v_imul (pc' := 234) F d_M_run_233 rfl ?_
      refine v_iconst (pc' := 235) F d_M_run_234 rfl ?_
      refine v_iload (pc' := 237) F d_M_run_235 rfl rfl ?_
      refine v_imul (pc' := 238) F d_M_run_237 rfl ?_
      refine v_iadd (pc' := 239) F d_M_run_238 rfl ?_
      refine v_iload_n (pc' := 240) (j := 3) F d_M_run_239 rfl rfl rfl ?_
      refine v_iadd (pc' := 241) F d_M_run_240 rfl ?_
      refine v_aload_n (pc' := 242) (j := 0) F d_M_run_241 rfl rfl rfl ?_
      refine v_getf (pc' := 245) (C := zR_M) (T := zF_M) (N := 28) (ref := "BillSharesModel") F d_M_run_242 rfl zi_M rfl 27 (by decide) wx_688 (Or.inl rfl) hM9.1 rfl ?_
      refine v_iload (pc' := 247) F d_M_run_245 rfl rfl ?_
      refine mg_27 (pc' := 248) F hM9 d_M_run_247 rfl (by omega) (by omega) ?_
      refine v_topl (b := sp_gu M K a (k : Int)) (show sp_st3 M K a 27 (k : Int) = _ from st3_g (by omega)) ?_
      refine mp_24 (pc' := 249) F hM9 d_M_run_248 rfl (by omega) (by omega) (fun h1 hM1 hF1 => ?_)
      refine v_iinc_8 (pc' := 252) F d_M_run_249 rfl rfl (by decide) ?_
      refine v_goto (tgt := 217) F d_M_run_252 (by decide) ?_
      exact ih (k + 1) (by omega) (by omega) _ (by rw [← set4_s hK]; exact hM1) ((hF9).tr hF1)
set_option maxRecDepth 100000 in
set_option maxHeartbeats 4000000 in
theorem kd_M_run {p : Program} {l : Launch} {e : Env} {s : State} {m : MethodId} {args : Array Value} {below : List Frame} {meth : Method} {c : Code} {X : am_X} {Q : State → Prop} {h : am_H} {nx : Nat} {y : Nat} {M : MS} {a K : Int} {q2 : Int} (F : am_Fx p s m args meth c y_M_run b_M_run 9 (some .int) [] X) (hfl : 0 ≤ M 1 0 ∧ M 1 0 ≤ 20) (hrk : ∀ i : Int, 0 ≤ i → i < 20 → 0 ≤ M 3 i ∧ M 3 i ≤ 99) (har : ∀ i : Int, 0 ≤ i → i < 20 → 0 ≤ M 2 i ∧ M 2 i ≤ 1000) (ha1 : ∀ i : Int, 0 ≤ i → i < M 1 0 → 1 ≤ M 2 i) (hcs : ∀ i : Int, 0 ≤ i → i < 40 → 0 ≤ M 18 i ∧ M 18 i ≤ 1000000000) (hbs : ∀ i : Int, 0 ≤ i → i < 4 → 0 ≤ M 19 i ∧ M 19 i ≤ 100) (hme : 0 ≤ M 7 0 ∧ M 7 0 ≤ 60) (hrd : ∀ f : Int, 0 ≤ f → f < M 7 0 → 0 ≤ M 13 f ∧ M 13 f ≤ 40) (hda : ∀ i : Int, 0 ≤ i → i < 2400 → 0 ≤ M 14 i ∧ M 14 i ≤ 3649) (hva : ∀ i : Int, 0 ≤ i → i < 2400 → 0 ≤ M 15 i ∧ M 15 i ≤ 10000000) (hgo : ∀ i : Int, 0 ≤ i → i < 2400 → 0 ≤ M 16 i ∧ M 16 i ≤ 10000000) (hmo : ∀ f k : Int, 0 ≤ f → f < M 7 0 → 0 ≤ k → k + 1 < M 13 f → M 14 (40 * f + k) < M 14 (40 * f + 1 + k) ∧ M 16 (40 * f + k) ≤ M 15 (40 * f + 1 + k)) (hab : ∀ f : Int, 0 ≤ f → f < M 7 0 → (1 ≤ M 10 f ∧ M 10 f ≤ 1000) ∧ (1 ≤ M 11 f ∧ M 11 f ≤ 1000)) (hte : ∀ i : Int, 0 ≤ i → i < 60 → 0 ≤ M 12 i ∧ M 12 i ≤ 3649) (hfo : ∀ i : Int, 0 ≤ i → i < 60 → (0 ≤ M 8 i ∧ M 8 i ≤ 20) ∧ (0 ≤ M 9 i ∧ M 9 i ≤ 3)) (ry : 0 ≤ a ∧ a ≤ 9) (hn : 0 < M 1 0) (hK : 0 ≤ K ∧ K ≤ 3) {h8 : am_H} (hM : RepM y M h8) (hF : MF y h h8) (hx : ∀ h' : am_H, RepM y (sp_st M K a) h' → MF y h h' → V p l e ({ frames := 3, cells := 0, slots := 0, locals := 87 }) s m args below meth c 9 X Q h' nx 0 0 255 [some (.ref y), some (iV a), some (iV q2), some (iV K), none, none, none, none, none] []) : V p l e ({ frames := 3, cells := 0, slots := 0, locals := 87 }) s m args below meth c 9 X Q h8 nx 0 0 119 [some (.ref y), some (iV a), some (iV q2), some (iV K), none, none, none, none, none] [] := by
  have en : ((M 1 0).toNat : Int) = M 1 0 := by omega
  have q1 := hcs (4 * a + K) (by omega) (by omega)
  have q3 := hbs K (by omega) (by omega)
  have q4 := sp_first_r hcs hbs hK ry
  have q5 : 0 ≤ M 18 (4 * a + K) * M 19 K := Int.mul_nonneg q1.1 q3.1
  have q6 := am_mul_r (x := M 18 (4 * a + K)) (y := M 19 K) (a := 1000000000) (b := 100) (by omega) (by omega) (by omega)
  have z1 : ∀ i : Nat, i < (M 1 0).toNat → setC M 26 (M 2) (M 1 0).toNat 26 (i : Int) = M 2 (i : Int) := fun i hi => setC_in (by omega)
  have z2 : sp_all (setC M 26 (M 2) (M 1 0).toNat) = sumI (M 2) (M 1 0).toNat := sumI_c z1
  have z3 := sumI_r (g := M 2) (a := 1) (b := 1000) (n := (M 1 0).toNat) (fun i hi => ⟨ha1 (i : Int) (by omega) (by omega), (har (i : Int) (by omega) (by omega)).2⟩)
  have hnu1 : ∀ i : Int, 0 ≤ i → i < M 1 0 → 0 ≤ setC M 26 (M 2) (M 1 0).toNat 26 i ∧ setC M 26 (M 2) (M 1 0).toNat 26 i < 4611686018427387904 := fun i h0 h1 => by rw [setC_in (by omega)]; have := har i h0 (by omega); omega
  have z4 : p0c (sp_left (setC M 26 (M 2) (M 1 0).toNat) (sp_first M K a)) := left_c (num := setC M 26 (M 2) (M 1 0).toNat 26) (n := (M 1 0).toNat) q4.1 (by omega) (by omega) (fun i hi => by rw [z1 i hi]; exact (har (i : Int) (by omega) (by omega)).1) (show 0 < sp_all (setC M 26 (M 2) (M 1 0).toNat) by omega)
  have y1 : ∀ i : Nat, i < (M 1 0).toNat → setC (sp_st2 M K a) 26 (sp_num M K a) (M 1 0).toNat 26 (i : Int) = sp_num M K a (i : Int) := fun i hi => setC_in (by omega)
  have y2 : sp_all (setC (sp_st2 M K a) 26 (sp_num M K a) (M 1 0).toNat) = sumI (sp_num M K a) (M 1 0).toNat := sumI_c y1
  have y3 := sp_num_s (k := K) hfl har ha1 hme hrd hda hva hgo hmo hab hte hfo ry hn
  have hnu3 : ∀ i : Int, 0 ≤ i → i < M 1 0 → 0 ≤ setC (sp_st2 M K a) 26 (sp_num M K a) (M 1 0).toNat 26 i ∧ setC (sp_st2 M K a) 26 (sp_num M K a) (M 1 0).toNat 26 i < 4611686018427387904 := fun i h0 h1 => by rw [setC_in (by omega)]; have := sp_num_r (k := K) hfl har hme hrd hda hva hgo hmo hab hte hfo ry ⟨h0, h1⟩; omega
  have y4 : p0c (sp_left (setC (sp_st2 M K a) 26 (sp_num M K a) (M 1 0).toNat) (M 18 (4 * a + K) - sp_first M K a)) := left_c (num := setC (sp_st2 M K a) 26 (sp_num M K a) (M 1 0).toNat 26) (n := (M 1 0).toNat) (by omega) (by omega) (by omega) (fun i hi => by rw [y1 i hi]; exact (sp_num_r hfl har hme hrd hda hva hgo hmo hab hte hfo ry (by omega)).1) (show 0 < sp_all (setC (sp_st2 M K a) 26 (sp_num M K a) (M 1 0).toNat) by omega)
  refine v_aload_n (pc' := 120) (j := 0) F d_M_run_119 rfl rfl rfl ?_
  refine v_getf (pc' := 123) (C := zR_M) (T := zF_M) (N := 28) (ref := "BillSharesModel") F d_M_run_120 rfl zi_M rfl 18 (by decide) wx_679 (Or.inl rfl) hM.1 rfl ?_
  refine v_iconst (pc' := 124) F d_M_run_123 rfl ?_
  refine v_iload_n (pc' := 125) (j := 1) F d_M_run_124 rfl rfl rfl ?_
  refine v_imul (pc' := 126) F d_M_run_125 rfl ?_
  refine v_iload_n (pc' := 127) (j := 3) F d_M_run_126 rfl rfl rfl ?_
  refine v_iadd (pc' := 128) F d_M_run_127 rfl ?_
  refine mg_18 (pc' := 129) F hM d_M_run_128 rfl (by omega) (by omega) ?_
  refine v_i2l (pc' := 130) F d_M_run_129 rfl (by omega) ?_
  refine v_lstore_4 (pc' := 132) F d_M_run_130 rfl rfl (by decide) ?_
  refine v_lload (pc' := 134) F d_M_run_132 rfl rfl ?_
  refine v_aload_n (pc' := 135) (j := 0) F d_M_run_134 rfl rfl rfl ?_
  refine v_getf (pc' := 138) (C := zR_M) (T := zF_M) (N := 28) (ref := "BillSharesModel") F d_M_run_135 rfl zi_M rfl 19 (by decide) wx_680 (Or.inl rfl) hM.1 rfl ?_
  refine v_iload_n (pc' := 139) (j := 3) F d_M_run_138 rfl rfl rfl ?_
  refine mg_19 (pc' := 140) F hM d_M_run_139 rfl (by omega) (by omega) ?_
  refine v_i2l (pc' := 141) F d_M_run_140 rfl (by omega) ?_
  refine v_lmul (pc' := 142) F d_M_run_141 rfl ?_
  refine v_ldc2 (pc' := 145) (z := 100) F d_M_run_142 rfl wx_823 (by decide) ?_
  refine v_ldiv (pc' := 146) F d_M_run_145 rfl (by omega) (by omega) (by omega) ?_
  refine v_topl (b := sp_first M K a) (Int.tdiv_eq_ediv_of_nonneg q5) ?_
  refine v_lstore_6 (pc' := 148) F d_M_run_146 rfl rfl (by decide) ?_
  refine v_aload_n (pc' := 149) (j := 0) F d_M_run_148 rfl rfl rfl ?_
  refine v_callVV (pc' := 152) (C := zR_M) (T9 := zF_M) (N := 28) F d_M_run_149 rfl cal_M_byAreas wx_824 wx_826 wp_21 rfl hM.1 (c_M_byAreas l X _ _ _ M hM hfl har) rfl ⟨by decide, by decide, by decide, by decide⟩ (Nat.le_of_ble_eq_true rfl) rfl rfl (fun h1 hM1 hF1 => ?_)
  refine v_aload_n (pc' := 153) (j := 0) F d_M_run_152 rfl rfl rfl ?_
  refine v_lload (pc' := 155) F d_M_run_153 rfl rfl ?_
  refine v_callVV (pc' := 158) (C := zR_M) (T9 := zF_M) (N := 28) F d_M_run_155 rfl cal_M_deal wx_828 wx_830 wp_22 rfl hM1.1 (c_M_deal l X _ _ _ (setC M 26 (M 2) (M 1 0).toNat) _ hM1 hfl hrk hnu1 (by omega) (by omega) z4) rfl ⟨by decide, by decide, by decide, by decide⟩ (Nat.le_of_ble_eq_true rfl) rfl rfl (fun h2 hM2 hF2 => ?_)
  refine v_iconst (pc' := 159) F d_M_run_158 rfl ?_
  refine v_istore_8 (pc' := 161) F d_M_run_159 rfl rfl (by decide) ?_
  refine lpA_M_run (h := h) (kk := (M 1 0).toNat) F hfl hrk har ha1 hcs hbs hme hrd hda hva hgo hmo hab hte hfo ry hK en (fun h9 hM9 hF9 => ?_) ((M 1 0).toNat + 1) 0 (by omega) (by omega) _ (by rw [set4_0]; exact hM2) ((((hF).tr hF1)).tr hF2)
  have cB := c_M_byUses l X h9 nx y (sp_st2 M K a) K a hM9 hfl har hme hrd hda hva hgo hmo hab hte hfo hK ry
  rw [sp_num_st2] at cB
  refine v_aload_n (pc' := 200) (j := 0) F d_M_run_199 rfl rfl rfl ?_
  refine v_iload_n (pc' := 201) (j := 3) F d_M_run_200 rfl rfl rfl ?_
  refine v_iload_n (pc' := 202) (j := 1) F d_M_run_201 rfl rfl rfl ?_
  refine v_callVV (pc' := 205) (C := zR_M) (T9 := zF_M) (N := 28) F d_M_run_202 rfl cal_M_byUses wx_840 wx_842 wp_24 rfl hM9.1 (cB) rfl ⟨by decide, by decide, by decide, by decide⟩ (Nat.le_of_ble_eq_true rfl) rfl rfl (fun h1 hM1 hF1 => ?_)
  refine v_aload_n (pc' := 206) (j := 0) F d_M_run_205 rfl rfl rfl ?_
  refine v_lload (pc' := 208) F d_M_run_206 rfl rfl ?_
  refine v_lload (pc' := 210) F d_M_run_208 rfl rfl ?_
  refine v_lsub (pc' := 211) F d_M_run_210 rfl ?_
  refine v_callVV (pc' := 214) (C := zR_M) (T9 := zF_M) (N := 28) F d_M_run_211 rfl cal_M_deal wx_828 wx_830 wp_22 rfl hM1.1 (c_M_deal l X _ _ _ (setC (sp_st2 M K a) 26 (sp_num M K a) (M 1 0).toNat) _ hM1 hfl hrk hnu3 (by omega) (by omega) y4) rfl ⟨by decide, by decide, by decide, by decide⟩ (Nat.le_of_ble_eq_true rfl) rfl rfl (fun h2 hM2 hF2 => ?_)
  refine v_iconst (pc' := 215) F d_M_run_214 rfl ?_
  refine v_istore_8 (pc' := 217) F d_M_run_215 rfl rfl (by decide) ?_
  exact lpB_M_run (h := h) (kk := (M 1 0).toNat) F hfl hrk har ha1 hcs hbs hme hrd hda hva hgo hmo hab hte hfo ry hK en (fun h7 hM7 hF7 => v_subL (L' := [some (.ref y), some (iV a), some (iV q2), some (iV K), none, none, none, none, none]) (by (repeat' (first | exact trivial | exact rfl | refine And.intro ?_ ?_)); done) (hx h7 hM7 hF7)) ((M 1 0).toNat + 1) 0 (by omega) (by omega) _ (by rw [set4_0]; exact hM2) ((((hF9).tr hF1)).tr hF2)
set_option maxRecDepth 100000 in
set_option maxHeartbeats 4000000 in
theorem lpS_M_run {p : Program} {l : Launch} {e : Env} {s : State} {m : MethodId} {args : Array Value} {below : List Frame} {meth : Method} {c : Code} {X : am_X} {Q : State → Prop} {h : am_H} {nx : Nat} {y kk : Nat} {M : MS} {a : Int} {q2 : Int} (F : am_Fx p s m args meth c y_M_run b_M_run 9 ((Option.some FieldType.int)) [] X) (hth : ∀ i : Int, 0 ≤ i → i < 10 → 0 ≤ M 21 i ∧ M 21 i ≤ 20) (ry : 0 ≤ a ∧ a ≤ 9) (hkk : (kk : Int) = M 21 a) (hx : ∀ h9 : am_H, RepM y (setO M 25 a (fun f => sp_share M f a) kk) h9 → MF y h h9 → V p l e ({ frames := 3, cells := 0, slots := 0, locals := 87 }) s m args below meth c 9 X Q h9 nx 0 0 80 [some (.ref y), some (iV a), some (iV q2), some (iV (kk : Int)), none, none, none, none, none] []) : ∀ (n k : Nat), kk < k + n → k ≤ kk → ∀ h9 : am_H, RepM y (setO M 25 a (fun f => sp_share M f a) k) h9 → MF y h h9 → V p l e ({ frames := 3, cells := 0, slots := 0, locals := 87 }) s m args below meth c 9 X Q h9 nx 0 0 47 [some (.ref y), some (iV a), some (iV q2), some (iV (k : Int)), none, none, none, none, none] [] := by
  intro n
  induction n with
  | zero =>
    intro k hk hk2
    exact absurd hk (by omega)
  | succ n ih =>
    intro k hk hk2 h9 hM9 hF9
    have q1 := hth a (by omega) (by omega)
    refine v_iload_n (pc' := 48) (j := 3) F d_M_run_47 rfl rfl rfl ?_
    refine v_aload_n (pc' := 49) (j := 0) F d_M_run_48 rfl rfl rfl ?_
    refine v_getf (pc' := 52) (C := zR_M) (T := zF_M) (N := 28) (ref := "BillSharesModel") F d_M_run_49 rfl zi_M rfl 21 (by decide) wx_682 (Or.inl rfl) hM9.1 rfl ?_
    refine v_iload_n (pc' := 53) (j := 1) F d_M_run_52 rfl rfl rfl ?_
    refine mg_21 (pc' := 54) F hM9 d_M_run_53 rfl (by omega) (by omega) ?_
    refine v_topi (b := M 21 a) rfl ?_
    refine v_icmp_ge (tgt := 80) (pc' := 57) F d_M_run_54 (by decide) rfl (by omega) (by omega) (fun c54 => ?_) (fun c54 => ?_)
    · obtain rfl : k = kk := by omega
      exact hx h9 hM9 hF9
    · refine v_aload_n (pc' := 58) (j := 0) F d_M_run_57 rfl rfl rfl ?_
      refine v_getf (pc' := 61) (C := zR_M) (T := zF_M) (N := 28) (ref := "BillSharesModel") F d_M_run_58 rfl zi_M rfl 25 (by decide) wx_686 (Or.inl rfl) hM9.1 rfl ?_
      refine v_bipush (pc' := 63) F d_M_run_61 rfl (by decide) ?_
      refine v_iload_n (pc' := 64) (j := 1) F d_M_run_63 rfl rfl rfl ?_
      refine v_imul (pc' := 65) F d_M_run_64 rfl ?_
      refine v_iload_n (pc' := 66) (j := 3) F d_M_run_65 rfl rfl rfl ?_
      refine v_iadd (pc' := 67) F d_M_run_66 rfl ?_
      refine v_aload_n (pc' := 68) (j := 0) F d_M_run_67 rfl rfl rfl ?_
      refine v_iload_n (pc' := 69) (j := 3) F d_M_run_68 rfl rfl rfl ?_
      refine v_iload_n (pc' := 70) (j := 1) F d_M_run_69 rfl rfl rfl ?_
      refine v_callVP (pc' := 73) (C := zR_M) (T9 := zF_M) (N := 28) F d_M_run_70 rfl cal_M_shareOf wx_819 wx_821 wp_20 rfl hM9.1 (c_M_shareOf l X _ _ _ _ _ _ hM9 (by omega) ry) rfl ⟨by decide, by decide, by decide, by decide⟩ (Nat.le_of_ble_eq_true rfl) rfl rfl ?_
      refine v_topl (b := sp_share M (k : Int) a) rfl ?_
      refine mp_25 (pc' := 74) F hM9 d_M_run_73 rfl (by omega) (by omega) (fun h1 hM1 hF1 => ?_)
      refine v_iinc_3 (pc' := 77) F d_M_run_74 rfl rfl (by decide) ?_
      refine v_goto (tgt := 47) F d_M_run_77 (by decide) ?_
      exact ih (k + 1) (by omega) (by omega) _ (by rw [← setO_s]; exact hM1) ((hF9).tr hF1)
def sp_run0 (M : MS) (a : Int) : MS := upM (upM (upM (setO M 25 a (fun f => sp_share M f a) (M 21 a).toNat) 22 a (M 21 a)) 21 a (M 1 0)) 20 a (M 20 a + 1)
def sp_run4 (M : MS) (a : Int) : MS := sp_kind (sp_kind (sp_kind (sp_kind M 0 a) 1 a) 2 a) 3 a
def sp_st4 (M : MS) (a : Int) : MS := sp_st (sp_st (sp_st (sp_st M 0 a) 1 a) 2 a) 3 a
def sp_run (M : MS) (a : Int) : Int × Int × MS := if 0 ≤ a ∧ a ≤ 9 then (if 0 < M 1 0 ∧ M 20 a < 50 then (0, M 20 a + 1, sp_run4 (sp_run0 M a) a) else (2, 0, M)) else (1, 0, M)
/-- a state without the reference's own notes -/
def er (M : MS) : MS := fun k => if k = 0 then (fun _ => 0) else if k = 26 then (fun _ => 0) else if k = 27 then (fun _ => 0) else M k
theorem er_c {A B : MS} (h : eqv A B) : er A = er B := by
  funext k
  unfold er
  split
  · rfl
  · split
    · rfl
    · split
      · rfl
      · exact h k (by assumption) (by assumption) (by assumption)
theorem sp_gb_er (M : MS) (k a : Int) : sp_gb M k a = sp_gb (er M) k a := rfl
theorem sp_gu_er (M : MS) (k a : Int) : sp_gu M k a = sp_gu (er M) k a := rfl
theorem eqv.kind {A B : MS} (h : eqv A B) (k a : Int) : eqv (sp_st A k a) (sp_kind B k a) := by
  refine (eqv.st (M := A) k a).tr ?_
  have e1 : sp_gb A k a = sp_gb B k a := by rw [sp_gb_er A, sp_gb_er B, er_c h]
  have e2 : sp_gu A k a = sp_gu B k a := by rw [sp_gu_er A, sp_gu_er B, er_c h]
  have e3 : A 1 = B 1 := h 1 (by decide) (by decide) (by decide)
  unfold sp_kind
  rw [e1, e2, e3]
  exact (h.set4 (by decide) a k _ _).set4 (by decide) a k _ _
theorem eqv.run4 {A B : MS} (h : eqv A B) (a : Int) : eqv (sp_st4 A a) (sp_run4 B a) := (((h.kind 0 a).kind 1 a).kind 2 a).kind 3 a
theorem eqv.setO {A B : MS} (h : eqv A B) {fid : Nat} (hf : fid ≠ 0 ∧ fid ≠ 26 ∧ fid ≠ 27) (a : Int) (g : Int → Int) (n : Nat) : eqv (setO A fid a g n) (setO B fid a g n) := fun x h0 h1 h2 => by
  by_cases hx : x = fid
  · subst hx
    funext i
    rw [setO_s', setO_s', h x h0 h1 h2]
  · rw [setO_n hx, setO_n hx]; exact h x h0 h1 h2
theorem eqv.run0 (M : MS) (v a : Int) : eqv (sp_run0 (upM M 0 0 v) a) (sp_run0 M a) := (((((eqv.note (M := M) (i := 0) (v := v) (Or.inl rfl)).setO (by decide) a _ _).up 22 _ _).up 21 _ _).up 20 _ _)
set_option maxRecDepth 100000 in
set_option maxHeartbeats 4000000 in
theorem tl_M_run {p : Program} {l : Launch} {e : Env} {s : State} {m : MethodId} {args : Array Value} {below : List Frame} {meth : Method} {c : Code} {X : am_X} {h : am_H} {nx : Nat} {y : Nat} {M : MS} {a : Int} {q2 : Int} (F : am_Fx p s m args meth c y_M_run b_M_run 9 (some .int) [] X) (hth : ∀ i : Int, 0 ≤ i → i < 10 → 0 ≤ M 21 i ∧ M 21 i ≤ 20) (hed : ∀ i : Int, 0 ≤ i → i < 10 → 0 ≤ M 20 i ∧ M 20 i ≤ 50) (hfl : 0 ≤ M 1 0 ∧ M 1 0 ≤ 20) (hrk : ∀ i : Int, 0 ≤ i → i < 20 → 0 ≤ M 3 i ∧ M 3 i ≤ 99) (har : ∀ i : Int, 0 ≤ i → i < 20 → 0 ≤ M 2 i ∧ M 2 i ≤ 1000) (ha1 : ∀ i : Int, 0 ≤ i → i < M 1 0 → 1 ≤ M 2 i) (hcs : ∀ i : Int, 0 ≤ i → i < 40 → 0 ≤ M 18 i ∧ M 18 i ≤ 1000000000) (hbs : ∀ i : Int, 0 ≤ i → i < 4 → 0 ≤ M 19 i ∧ M 19 i ≤ 100) (hme : 0 ≤ M 7 0 ∧ M 7 0 ≤ 60) (hrd : ∀ f : Int, 0 ≤ f → f < M 7 0 → 0 ≤ M 13 f ∧ M 13 f ≤ 40) (hda : ∀ i : Int, 0 ≤ i → i < 2400 → 0 ≤ M 14 i ∧ M 14 i ≤ 3649) (hva : ∀ i : Int, 0 ≤ i → i < 2400 → 0 ≤ M 15 i ∧ M 15 i ≤ 10000000) (hgo : ∀ i : Int, 0 ≤ i → i < 2400 → 0 ≤ M 16 i ∧ M 16 i ≤ 10000000) (hmo : ∀ f k : Int, 0 ≤ f → f < M 7 0 → 0 ≤ k → k + 1 < M 13 f → M 14 (40 * f + k) < M 14 (40 * f + 1 + k) ∧ M 16 (40 * f + k) ≤ M 15 (40 * f + 1 + k)) (hab : ∀ f : Int, 0 ≤ f → f < M 7 0 → (1 ≤ M 10 f ∧ M 10 f ≤ 1000) ∧ (1 ≤ M 11 f ∧ M 11 f ≤ 1000)) (hte : ∀ i : Int, 0 ≤ i → i < 60 → 0 ≤ M 12 i ∧ M 12 i ≤ 3649) (hfo : ∀ i : Int, 0 ≤ i → i < 60 → (0 ≤ M 8 i ∧ M 8 i ≤ 20) ∧ (0 ≤ M 9 i ∧ M 9 i ≤ 3)) (ry : 0 ≤ a ∧ a ≤ 9) (hn : 0 < M 1 0) {h8 : am_H} (hM : RepM y M h8) (hF : MF y h h8) {post : Outcome → am_H → Nat → Prop} (hp : ∀ h' : am_H, RepM y (sp_st4 (sp_run0 M a) a) h' → MF y h h' → post (.returned (some (iV (M 20 a + 1)))) h' nx) : V p l e ({ frames := 3, cells := 0, slots := 0, locals := 87 }) s m args below meth c 9 X (am_Q X below s 0 0 post) h8 nx 0 0 45 [some (.ref y), some (iV a), some (iV q2), none, none, none, none, none, none] [] := by
  have q1 := hth a (by omega) (by omega)
  have q0 := hed a (by omega) (by omega)
  refine v_iconst (pc' := 46) F d_M_run_45 rfl ?_
  refine v_istore_3 (pc' := 47) F d_M_run_46 rfl rfl (by decide) ?_
  refine lpS_M_run (h := h) (kk := (M 21 a).toNat) F hth ry (by omega) (fun h9 hM9 hF9 => ?_) ((M 21 a).toNat + 1) 0 (by omega) (by omega) _ (by rw [setO_0]; exact hM) hF
  refine v_aload_n (pc' := 81) (j := 0) F d_M_run_80 rfl rfl rfl ?_
  refine v_getf (pc' := 84) (C := zR_M) (T := zF_M) (N := 28) (ref := "BillSharesModel") F d_M_run_81 rfl zi_M rfl 22 (by decide) wx_683 (Or.inl rfl) hM9.1 rfl ?_
  refine v_iload_n (pc' := 85) (j := 1) F d_M_run_84 rfl rfl rfl ?_
  refine v_aload_n (pc' := 86) (j := 0) F d_M_run_85 rfl rfl rfl ?_
  refine v_getf (pc' := 89) (C := zR_M) (T := zF_M) (N := 28) (ref := "BillSharesModel") F d_M_run_86 rfl zi_M rfl 21 (by decide) wx_682 (Or.inl rfl) hM9.1 rfl ?_
  refine v_iload_n (pc' := 90) (j := 1) F d_M_run_89 rfl rfl rfl ?_
  refine mg_21 (pc' := 91) F hM9 d_M_run_90 rfl (by omega) (by omega) ?_
  refine v_topi (b := M 21 a) rfl ?_
  refine mp_22 (pc' := 92) F hM9 d_M_run_91 rfl (by omega) (by omega) (fun h1 hM1 hF1 => ?_)
  refine v_aload_n (pc' := 93) (j := 0) F d_M_run_92 rfl rfl rfl ?_
  refine v_getf (pc' := 96) (C := zR_M) (T := zF_M) (N := 28) (ref := "BillSharesModel") F d_M_run_93 rfl zi_M rfl 21 (by decide) wx_682 (Or.inl rfl) hM1.1 rfl ?_
  refine v_iload_n (pc' := 97) (j := 1) F d_M_run_96 rfl rfl rfl ?_
  refine v_aload_n (pc' := 98) (j := 0) F d_M_run_97 rfl rfl rfl ?_
  refine v_getf (pc' := 101) (C := zR_M) (T := zF_M) (N := 28) (ref := "BillSharesModel") F d_M_run_98 rfl zi_M rfl 1 (by decide) wx_662 (Or.inl rfl) hM1.1 rfl ?_
  refine v_un (by decide) ?_
  refine v_topi (b := M 1 0) rfl ?_
  refine mp_21 (pc' := 102) F hM1 d_M_run_101 rfl (by omega) (by omega) (fun h2 hM2 hF2 => ?_)
  refine v_aload_n (pc' := 103) (j := 0) F d_M_run_102 rfl rfl rfl ?_
  refine v_getf (pc' := 106) (C := zR_M) (T := zF_M) (N := 28) (ref := "BillSharesModel") F d_M_run_103 rfl zi_M rfl 20 (by decide) wx_681 (Or.inl rfl) hM2.1 rfl ?_
  refine v_iload_n (pc' := 107) (j := 1) F d_M_run_106 rfl rfl rfl ?_
  refine v_dup2 (pc' := 108) F d_M_run_107 rfl rfl rfl ?_
  refine mg_20 (pc' := 109) F hM2 d_M_run_108 rfl (by omega) (by omega) ?_
  refine v_topi (b := M 20 a) rfl ?_
  refine v_iconst (pc' := 110) F d_M_run_109 rfl ?_
  refine v_iadd (pc' := 111) F d_M_run_110 rfl ?_
  refine mp_20 (pc' := 112) F hM2 d_M_run_111 rfl (by omega) (by omega) (fun h3 hM3 hF3 => ?_)
  refine v_iconst (pc' := 113) F d_M_run_112 rfl ?_
  refine v_istore_3 (pc' := 114) F d_M_run_113 rfl rfl (by decide) ?_
  refine v_iload_n (pc' := 115) (j := 3) F d_M_run_114 rfl rfl rfl ?_
  refine v_iconst (pc' := 116) F d_M_run_115 rfl ?_
  refine v_icmp_ge (tgt := 261) (pc' := 119) F d_M_run_116 (by decide) rfl (by omega) (by omega) (fun c116 => by exfalso; omega) (fun c116 => ?_)
  refine kd_M_run (h := h) (M := (sp_run0 M a)) (K := 0) F hfl hrk har ha1 hcs hbs hme hrd hda hva hgo hmo hab hte hfo ry hn (by omega) hM3 ((((((hF9).tr hF1)).tr hF2)).tr hF3) (fun k0 hK0 hG0 => ?_)
  refine v_iinc_3 (pc' := 258) F d_M_run_255 rfl rfl (by decide) ?_
  refine v_goto (tgt := 114) F d_M_run_258 (by decide) ?_
  refine v_iload_n (pc' := 115) (j := 3) F d_M_run_114 rfl rfl rfl ?_
  refine v_iconst (pc' := 116) F d_M_run_115 rfl ?_
  refine v_icmp_ge (tgt := 261) (pc' := 119) F d_M_run_116 (by decide) rfl (by omega) (by omega) (fun c116 => by exfalso; omega) (fun c116 => ?_)
  refine kd_M_run (h := h) (M := (sp_st (sp_run0 M a) (0) a)) (K := 0 + 1) F hfl hrk har ha1 hcs hbs hme hrd hda hva hgo hmo hab hte hfo ry hn (by omega) hK0 hG0 (fun k1 hK1 hG1 => ?_)
  refine v_iinc_3 (pc' := 258) F d_M_run_255 rfl rfl (by decide) ?_
  refine v_goto (tgt := 114) F d_M_run_258 (by decide) ?_
  refine v_iload_n (pc' := 115) (j := 3) F d_M_run_114 rfl rfl rfl ?_
  refine v_iconst (pc' := 116) F d_M_run_115 rfl ?_
  refine v_icmp_ge (tgt := 261) (pc' := 119) F d_M_run_116 (by decide) rfl (by omega) (by omega) (fun c116 => by exfalso; omega) (fun c116 => ?_)
  refine kd_M_run (h := h) (M := (sp_st (sp_st (sp_run0 M a) (0) a) (0 + 1) a)) (K := 0 + 1 + 1) F hfl hrk har ha1 hcs hbs hme hrd hda hva hgo hmo hab hte hfo ry hn (by omega) hK1 hG1 (fun k2 hK2 hG2 => ?_)
  refine v_iinc_3 (pc' := 258) F d_M_run_255 rfl rfl (by decide) ?_
  refine v_goto (tgt := 114) F d_M_run_258 (by decide) ?_
  refine v_iload_n (pc' := 115) (j := 3) F d_M_run_114 rfl rfl rfl ?_
  refine v_iconst (pc' := 116) F d_M_run_115 rfl ?_
  refine v_icmp_ge (tgt := 261) (pc' := 119) F d_M_run_116 (by decide) rfl (by omega) (by omega) (fun c116 => by exfalso; omega) (fun c116 => ?_)
  refine kd_M_run (h := h) (M := (sp_st (sp_st (sp_st (sp_run0 M a) (0) a) (0 + 1) a) (0 + 1 + 1) a)) (K := 0 + 1 + 1 + 1) F hfl hrk har ha1 hcs hbs hme hrd hda hva hgo hmo hab hte hfo ry hn (by omega) hK2 hG2 (fun k3 hK3 hG3 => ?_)
  refine v_iinc_3 (pc' := 258) F d_M_run_255 rfl rfl (by decide) ?_
  refine v_goto (tgt := 114) F d_M_run_258 (by decide) ?_
  refine v_iload_n (pc' := 115) (j := 3) F d_M_run_114 rfl rfl rfl ?_
  refine v_iconst (pc' := 116) F d_M_run_115 rfl ?_
  refine v_icmp_ge (tgt := 261) (pc' := 119) F d_M_run_116 (by decide) rfl (by omega) (by omega) (fun c116 => ?_) (fun c116 => by exfalso; omega)
  refine v_aload_n (pc' := 262) (j := 0) F d_M_run_261 rfl rfl rfl ?_
  refine v_getf (pc' := 265) (C := zR_M) (T := zF_M) (N := 28) (ref := "BillSharesModel") F d_M_run_262 rfl zi_M rfl 20 (by decide) wx_681 (Or.inl rfl) hK3.1 rfl ?_
  refine v_iload_n (pc' := 266) (j := 1) F d_M_run_265 rfl rfl rfl ?_
  refine mg_20 (pc' := 267) F hK3 d_M_run_266 rfl (by omega) (by omega) ?_
  refine v_topi (b := M 20 a + 1) (show upM _ 20 a _ 20 a = _ from upM_ss) ?_
  exact v_ireturn F rfl d_M_run_267 rfl rfl (Nat.le_refl _) (Nat.le_refl _) (hp _ hK3 hG3)
set_option maxRecDepth 100000 in
set_option maxHeartbeats 4000000 in
theorem c_M_run (l : Launch) (X : am_X) (h : am_H) (nx : Nat) (y : Nat) (M : MS) (a : Int) (hM : RepM y M h) (hth : ∀ i : Int, 0 ≤ i → i < 10 → 0 ≤ M 21 i ∧ M 21 i ≤ 20) (hed : ∀ i : Int, 0 ≤ i → i < 10 → 0 ≤ M 20 i ∧ M 20 i ≤ 50) (hfl : 0 ≤ M 1 0 ∧ M 1 0 ≤ 20) (hrk : ∀ i : Int, 0 ≤ i → i < 20 → 0 ≤ M 3 i ∧ M 3 i ≤ 99) (har : ∀ i : Int, 0 ≤ i → i < 20 → 0 ≤ M 2 i ∧ M 2 i ≤ 1000) (ha1 : ∀ i : Int, 0 ≤ i → i < M 1 0 → 1 ≤ M 2 i) (hcs : ∀ i : Int, 0 ≤ i → i < 40 → 0 ≤ M 18 i ∧ M 18 i ≤ 1000000000) (hbs : ∀ i : Int, 0 ≤ i → i < 4 → 0 ≤ M 19 i ∧ M 19 i ≤ 100) (hme : 0 ≤ M 7 0 ∧ M 7 0 ≤ 60) (hrd : ∀ f : Int, 0 ≤ f → f < M 7 0 → 0 ≤ M 13 f ∧ M 13 f ≤ 40) (hda : ∀ i : Int, 0 ≤ i → i < 2400 → 0 ≤ M 14 i ∧ M 14 i ≤ 3649) (hva : ∀ i : Int, 0 ≤ i → i < 2400 → 0 ≤ M 15 i ∧ M 15 i ≤ 10000000) (hgo : ∀ i : Int, 0 ≤ i → i < 2400 → 0 ≤ M 16 i ∧ M 16 i ≤ 10000000) (hmo : ∀ f k : Int, 0 ≤ f → f < M 7 0 → 0 ≤ k → k + 1 < M 13 f → M 14 (40 * f + k) < M 14 (40 * f + 1 + k) ∧ M 16 (40 * f + k) ≤ M 15 (40 * f + 1 + k)) (hab : ∀ f : Int, 0 ≤ f → f < M 7 0 → (1 ≤ M 10 f ∧ M 10 f ≤ 1000) ∧ (1 ≤ M 11 f ∧ M 11 f ≤ 1000)) (hte : ∀ i : Int, 0 ≤ i → i < 60 → 0 ≤ M 12 i ∧ M 12 i ≤ 3649) (hfo : ∀ i : Int, 0 ≤ i → i < 60 → (0 ≤ M 8 i ∧ M 8 i ≤ 20) ∧ (0 ≤ M 9 i ∧ M 9 i ≤ 3)) (ra : -2147483648 ≤ a ∧ a < 2147483648) : Cn l X y_M_run ({ frames := 3, cells := 0, slots := 0, locals := 87 }) [.ref y, iV a] h nx (mpost y h nx iV (sp_run M a)) := by
  refine cn_of (k := 7) (L0 := [some (.ref y), some (iV a), none, none, none, none, none, none, none]) rfl wx_818 (Nat.le_of_ble_eq_true rfl) rfl (fun p e s m args below meth c F => ?_)
  by_cases hq : 0 ≤ a ∧ a ≤ 9
  · have q0 := hed a (by omega) (by omega)
    refine v_iload_n (pc' := 1) (j := 1) F d_M_run_0 rfl rfl rfl ?_
    refine v_iconst (pc' := 2) F d_M_run_1 rfl ?_
    refine v_bipush (pc' := 4) F d_M_run_2 rfl (by decide) ?_
    refine v_callSP (pc' := 7) F d_M_run_4 rfl cal_M_isIn wx_755 wx_756 (c_M_isIn l X _ _ _ _ _ (by omega) (by omega) (by omega)) rfl ⟨by decide, by decide, by decide, by decide⟩ (Nat.le_of_ble_eq_true rfl) rfl rfl ?_
    refine v_topi (b := 1) (bI_t hq) ?_
    refine v_istore_2 (pc' := 8) F d_M_run_7 rfl rfl (by decide) ?_
    refine v_aload_n (pc' := 9) (j := 0) F d_M_run_8 rfl rfl rfl ?_
    refine v_iload_n (pc' := 10) (j := 2) F d_M_run_9 rfl rfl rfl ?_
    refine v_iload_n (pc' := 11) (j := 2) F d_M_run_10 rfl rfl rfl ?_
    refine v_if_eq (tgt := 36) (pc' := 14) F d_M_run_11 (by decide) rfl (by omega) (fun c11 => by exfalso; omega) (fun c11 => ?_)
    refine v_aload_n (pc' := 15) (j := 0) F d_M_run_14 rfl rfl rfl ?_
    refine v_getf (pc' := 18) (C := zR_M) (T := zF_M) (N := 28) (ref := "BillSharesModel") F d_M_run_15 rfl zi_M rfl 1 (by decide) wx_662 (Or.inl rfl) hM.1 rfl ?_
    refine v_if_le (tgt := 36) (pc' := 21) F d_M_run_18 (by decide) rfl (by omega) (fun c18 => ?_) (fun c18 => ?_)
    · refine v_iconst (pc' := 37) F d_M_run_36 rfl ?_
      refine v_callVM (pc' := 40) (C := zR_M) (T9 := zF_M) (N := 28) F d_M_run_37 rfl cal_M_allows wx_758 wx_760 wp_16 rfl hM.1 (c_allows_2 l X _ _ _ _ hM) rfl ⟨by decide, by decide, by decide, by decide⟩ (Nat.le_of_ble_eq_true rfl) rfl rfl (fun h1 hM1 hF1 => ?_)
      refine v_if_ne (tgt := 45) (pc' := 43) F d_M_run_40 (by decide) rfl (by omega) (fun c40 => by exfalso; omega) (fun c40 => ?_)
      refine v_iconst (pc' := 44) F d_M_run_43 rfl ?_
      refine v_ireturn F rfl d_M_run_44 rfl rfl (Nat.le_refl _) (Nat.le_refl _) ?_
      rw [show sp_run M a = (2, 0, M) from (if_pos hq).trans (if_neg (by omega))]; exact ⟨_, hM1, ((MF.rf).tr hF1), rfl, upM_ss, eqv.note (Or.inl rfl), 0, rfl, fun q => absurd (show (2 : Int) = 0 from q) (by decide)⟩
    · refine v_aload_n (pc' := 22) (j := 0) F d_M_run_21 rfl rfl rfl ?_
      refine v_getf (pc' := 25) (C := zR_M) (T := zF_M) (N := 28) (ref := "BillSharesModel") F d_M_run_22 rfl zi_M rfl 20 (by decide) wx_681 (Or.inl rfl) hM.1 rfl ?_
      refine v_iload_n (pc' := 26) (j := 1) F d_M_run_25 rfl rfl rfl ?_
      refine mg_20 (pc' := 27) F hM d_M_run_26 rfl (by omega) (by omega) ?_
      refine v_bipush (pc' := 29) F d_M_run_27 rfl (by decide) ?_
      refine v_icmp_ge (tgt := 36) (pc' := 32) F d_M_run_29 (by decide) rfl (by omega) (by omega) (fun c29 => ?_) (fun c29 => ?_)
      · refine v_iconst (pc' := 37) F d_M_run_36 rfl ?_
        refine v_callVM (pc' := 40) (C := zR_M) (T9 := zF_M) (N := 28) F d_M_run_37 rfl cal_M_allows wx_758 wx_760 wp_16 rfl hM.1 (c_allows_2 l X _ _ _ _ hM) rfl ⟨by decide, by decide, by decide, by decide⟩ (Nat.le_of_ble_eq_true rfl) rfl rfl (fun h2 hM2 hF2 => ?_)
        refine v_if_ne (tgt := 45) (pc' := 43) F d_M_run_40 (by decide) rfl (by omega) (fun c40 => by exfalso; omega) (fun c40 => ?_)
        refine v_iconst (pc' := 44) F d_M_run_43 rfl ?_
        refine v_ireturn F rfl d_M_run_44 rfl rfl (Nat.le_refl _) (Nat.le_refl _) ?_
        rw [show sp_run M a = (2, 0, M) from (if_pos hq).trans (if_neg (by omega))]; exact ⟨_, hM2, ((MF.rf).tr hF2), rfl, upM_ss, eqv.note (Or.inl rfl), 0, rfl, fun q => absurd (show (2 : Int) = 0 from q) (by decide)⟩
      · refine v_iconst (pc' := 33) F d_M_run_32 rfl ?_
        refine v_goto (tgt := 37) F d_M_run_33 (by decide) ?_
        refine v_callVM (pc' := 40) (C := zR_M) (T9 := zF_M) (N := 28) F d_M_run_37 rfl cal_M_allows wx_758 wx_760 wp_16 rfl hM.1 (c_allows_0 l X _ _ _ _ hM) rfl ⟨by decide, by decide, by decide, by decide⟩ (Nat.le_of_ble_eq_true rfl) rfl rfl (fun h3 hM3 hF3 => ?_)
        refine v_if_ne (tgt := 45) (pc' := 43) F d_M_run_40 (by decide) rfl (by omega) (fun c40 => ?_) (fun c40 => by exfalso; omega)
        refine tl_M_run (h := h) (M := upM M 0 0 0) F hth hed hfl hrk har ha1 hcs hbs hme hrd hda hva hgo hmo hab hte hfo hq (show 0 < M 1 0 by omega) hM3 ((MF.rf).tr hF3) (fun h' q8 q9 => ?_)
        rw [show sp_run M a = (0, M 20 a + 1, sp_run4 (sp_run0 M a) a) from (if_pos hq).trans (if_pos (by omega))]
        exact ⟨_, q8, q9, rfl, (show upM M 0 0 0 0 0 = 0 from upM_ss), (eqv.run0 M 0 a).run4 a, _, rfl, fun _ => rfl⟩
  · skip
    refine v_iload_n (pc' := 1) (j := 1) F d_M_run_0 rfl rfl rfl ?_
    refine v_iconst (pc' := 2) F d_M_run_1 rfl ?_
    refine v_bipush (pc' := 4) F d_M_run_2 rfl (by decide) ?_
    refine v_callSP (pc' := 7) F d_M_run_4 rfl cal_M_isIn wx_755 wx_756 (c_M_isIn l X _ _ _ _ _ (by omega) (by omega) (by omega)) rfl ⟨by decide, by decide, by decide, by decide⟩ (Nat.le_of_ble_eq_true rfl) rfl rfl ?_
    refine v_topi (b := 0) (bI_f hq) ?_
    refine v_istore_2 (pc' := 8) F d_M_run_7 rfl rfl (by decide) ?_
    refine v_aload_n (pc' := 9) (j := 0) F d_M_run_8 rfl rfl rfl ?_
    refine v_iload_n (pc' := 10) (j := 2) F d_M_run_9 rfl rfl rfl ?_
    refine v_iload_n (pc' := 11) (j := 2) F d_M_run_10 rfl rfl rfl ?_
    refine v_if_eq (tgt := 36) (pc' := 14) F d_M_run_11 (by decide) rfl (by omega) (fun c11 => ?_) (fun c11 => by exfalso; omega)
    refine v_iconst (pc' := 37) F d_M_run_36 rfl ?_
    refine v_callVM (pc' := 40) (C := zR_M) (T9 := zF_M) (N := 28) F d_M_run_37 rfl cal_M_allows wx_758 wx_760 wp_16 rfl hM.1 (c_allows_1 l X _ _ _ _ _ hM (by omega)) rfl ⟨by decide, by decide, by decide, by decide⟩ (Nat.le_of_ble_eq_true rfl) rfl rfl (fun h1 hM1 hF1 => ?_)
    refine v_if_ne (tgt := 45) (pc' := 43) F d_M_run_40 (by decide) rfl (by omega) (fun c40 => by exfalso; omega) (fun c40 => ?_)
    refine v_iconst (pc' := 44) F d_M_run_43 rfl ?_
    refine v_ireturn F rfl d_M_run_44 rfl rfl (Nat.le_refl _) (Nat.le_refl _) ?_
    rw [show sp_run M a = (1, 0, M) from if_neg hq]; exact ⟨_, hM1, ((MF.rf).tr hF1), rfl, upM_ss, eqv.note (Or.inl rfl), 0, rfl, fun q => absurd (show (1 : Int) = 0 from q) (by decide)⟩
