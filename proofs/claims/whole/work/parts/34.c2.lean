/-! invariants; calls that may throw; the class's checks (written by wip/whole/cc2.py) -/
/-- how many of the first k meters are the flat's -/
def cntf (F : Int → Int) (f : Int) : Nat → Int
  | 0 => 0
  | k + 1 => cntf F f k + (if F (k : Int) = f then 1 else 0)
theorem cntf_r (F : Int → Int) (f : Int) : ∀ k : Nat, 0 ≤ cntf F f k ∧ cntf F f k ≤ (k : Int)
  | 0 => by simp [cntf]
  | k + 1 => by
    have := cntf_r F f k
    unfold cntf
    split <;> omega
def RI (M : MS) : Prop := (0 ≤ M 1 0 ∧ M 1 0 ≤ 20) ∧ (∀ i : Int, 0 ≤ i → i < 20 → 0 ≤ M 2 i ∧ M 2 i ≤ 1000) ∧ (∀ i : Int, 0 ≤ i → i < M 1 0 → 1 ≤ M 2 i) ∧ (∀ i : Int, 0 ≤ i → i < 20 → 0 ≤ M 3 i ∧ M 3 i ≤ 99) ∧ (∀ f : Int, 0 ≤ f → f < M 1 0 → 1 ≤ M 4 f ∧ M 4 f ≤ 12) ∧ (∀ i : Int, 0 ≤ i → i < 240 → 0 ≤ M 5 i ∧ M 5 i ≤ 3649) ∧ (0 ≤ M 7 0 ∧ M 7 0 ≤ 60) ∧ (∀ i : Int, 0 ≤ i → i < 60 → (0 ≤ M 8 i ∧ M 8 i ≤ 20) ∧ (0 ≤ M 9 i ∧ M 9 i ≤ 3)) ∧ (∀ f : Int, 0 ≤ f → f < M 7 0 → (1 ≤ M 10 f ∧ M 10 f ≤ 1000) ∧ (1 ≤ M 11 f ∧ M 11 f ≤ 1000)) ∧ (∀ i : Int, 0 ≤ i → i < 60 → 0 ≤ M 12 i ∧ M 12 i ≤ 3649) ∧ (∀ f : Int, 0 ≤ f → f < M 7 0 → 0 ≤ M 13 f ∧ M 13 f ≤ 40) ∧ (∀ i : Int, 0 ≤ i → i < 2400 → 0 ≤ M 14 i ∧ M 14 i ≤ 3649) ∧ (∀ i : Int, 0 ≤ i → i < 2400 → 0 ≤ M 15 i ∧ M 15 i ≤ 10000000) ∧ (∀ i : Int, 0 ≤ i → i < 2400 → 0 ≤ M 16 i ∧ M 16 i ≤ 10000000) ∧ (∀ i : Int, 0 ≤ i → i < 2400 → M 17 i = 0 ∨ M 17 i = 1) ∧ (∀ f k : Int, 0 ≤ f → f < M 7 0 → 0 ≤ k → k + 1 < M 13 f → M 14 (40 * f + k) < M 14 (40 * f + 1 + k) ∧ M 16 (40 * f + k) ≤ M 15 (40 * f + 1 + k)) ∧ (∀ i : Int, 0 ≤ i → i < 40 → 0 ≤ M 18 i ∧ M 18 i ≤ 1000000000) ∧ (∀ i : Int, 0 ≤ i → i < 4 → 0 ≤ M 19 i ∧ M 19 i ≤ 100) ∧ (∀ i : Int, 0 ≤ i → i < 10 → 0 ≤ M 20 i ∧ M 20 i ≤ 50) ∧ (∀ i : Int, 0 ≤ i → i < 10 → 0 ≤ M 21 i ∧ M 21 i ≤ 20) ∧ (∀ i : Int, 0 ≤ i → i < 10 → 0 ≤ M 22 i ∧ M 22 i ≤ 20) ∧ (∀ i : Int, 0 ≤ i → i < 800 → (0 ≤ M 23 i ∧ M 23 i ≤ 1000000001) ∧ (0 ≤ M 24 i ∧ M 24 i ≤ 1000000001)) ∧ (∀ i : Int, 0 ≤ i → i < M 7 0 → 0 ≤ M 8 i ∧ M 8 i < M 1 0) ∧ (∀ f k : Int, 0 ≤ f → f < M 1 0 → 0 ≤ k → k + 1 < M 4 f → M 5 (12 * f + k) < M 5 (12 * f + (k + 1))) ∧ (∀ f : Int, 0 ≤ f → f < 20 → M 5 (12 * f) = 0) ∧ (∀ f k : Int, 0 ≤ f → f < M 7 0 → 0 ≤ k → k < M 13 f → M 17 (40 * f + k) = 0 → M 16 (40 * f + k) = M 15 (40 * f + k)) ∧ (∀ a : Int, 0 ≤ a → a ≤ 9 → M 21 a ≤ M 1 0 ∧ 0 ≤ M 21 a) ∧ (∀ a f k : Int, 0 ≤ a → a ≤ 9 → M 21 a ≤ f → f < 20 → 0 ≤ k → k ≤ 3 → M 23 (80 * a + 4 * f + k) = 0 ∧ M 24 (80 * a + 4 * f + k) = 0) ∧ (∀ f : Int, M 7 0 ≤ f → f < 60 → M 13 f = 0) ∧ (∀ f k : Int, M 1 0 ≤ f → f < 20 → 0 ≤ k → k < 12 → M 5 (12 * f + k) = 0) ∧ (∀ f k : Int, M 1 0 ≤ f → f < 20 → 0 ≤ k → k < 10 → M 6 (10 * f + k) = 0) ∧ (∀ f k : Int, M 7 0 ≤ f → f < 60 → 0 ≤ k → k < 40 → M 14 (40 * f + k) = 0 ∧ M 15 (40 * f + k) = 0)
theorem RI.hfl {M : MS} (hI : RI M) : 0 ≤ M 1 0 ∧ M 1 0 ≤ 20 := hI.1
theorem RI.har {M : MS} (hI : RI M) : ∀ i : Int, 0 ≤ i → i < 20 → 0 ≤ M 2 i ∧ M 2 i ≤ 1000 := hI.2.1
theorem RI.ha1 {M : MS} (hI : RI M) : ∀ i : Int, 0 ≤ i → i < M 1 0 → 1 ≤ M 2 i := hI.2.2.1
theorem RI.hrk {M : MS} (hI : RI M) : ∀ i : Int, 0 ≤ i → i < 20 → 0 ≤ M 3 i ∧ M 3 i ≤ 99 := hI.2.2.2.1
theorem RI.hlv {M : MS} (hI : RI M) : ∀ f : Int, 0 ≤ f → f < M 1 0 → 1 ≤ M 4 f ∧ M 4 f ≤ 12 := hI.2.2.2.2.1
theorem RI.hsi {M : MS} (hI : RI M) : ∀ i : Int, 0 ≤ i → i < 240 → 0 ≤ M 5 i ∧ M 5 i ≤ 3649 := hI.2.2.2.2.2.1
theorem RI.hme {M : MS} (hI : RI M) : 0 ≤ M 7 0 ∧ M 7 0 ≤ 60 := hI.2.2.2.2.2.2.1
theorem RI.hfo {M : MS} (hI : RI M) : ∀ i : Int, 0 ≤ i → i < 60 → (0 ≤ M 8 i ∧ M 8 i ≤ 20) ∧ (0 ≤ M 9 i ∧ M 9 i ≤ 3) := hI.2.2.2.2.2.2.2.1
theorem RI.hab {M : MS} (hI : RI M) : ∀ f : Int, 0 ≤ f → f < M 7 0 → (1 ≤ M 10 f ∧ M 10 f ≤ 1000) ∧ (1 ≤ M 11 f ∧ M 11 f ≤ 1000) := hI.2.2.2.2.2.2.2.2.1
theorem RI.hte {M : MS} (hI : RI M) : ∀ i : Int, 0 ≤ i → i < 60 → 0 ≤ M 12 i ∧ M 12 i ≤ 3649 := hI.2.2.2.2.2.2.2.2.2.1
theorem RI.hrd {M : MS} (hI : RI M) : ∀ f : Int, 0 ≤ f → f < M 7 0 → 0 ≤ M 13 f ∧ M 13 f ≤ 40 := hI.2.2.2.2.2.2.2.2.2.2.1
theorem RI.hda {M : MS} (hI : RI M) : ∀ i : Int, 0 ≤ i → i < 2400 → 0 ≤ M 14 i ∧ M 14 i ≤ 3649 := hI.2.2.2.2.2.2.2.2.2.2.2.1
theorem RI.hva {M : MS} (hI : RI M) : ∀ i : Int, 0 ≤ i → i < 2400 → 0 ≤ M 15 i ∧ M 15 i ≤ 10000000 := hI.2.2.2.2.2.2.2.2.2.2.2.2.1
theorem RI.hgo {M : MS} (hI : RI M) : ∀ i : Int, 0 ≤ i → i < 2400 → 0 ≤ M 16 i ∧ M 16 i ≤ 10000000 := hI.2.2.2.2.2.2.2.2.2.2.2.2.2.1
theorem RI.hrn {M : MS} (hI : RI M) : ∀ i : Int, 0 ≤ i → i < 2400 → M 17 i = 0 ∨ M 17 i = 1 := hI.2.2.2.2.2.2.2.2.2.2.2.2.2.2.1
theorem RI.hmo {M : MS} (hI : RI M) : ∀ f k : Int, 0 ≤ f → f < M 7 0 → 0 ≤ k → k + 1 < M 13 f → M 14 (40 * f + k) < M 14 (40 * f + 1 + k) ∧ M 16 (40 * f + k) ≤ M 15 (40 * f + 1 + k) := hI.2.2.2.2.2.2.2.2.2.2.2.2.2.2.2.1
theorem RI.hcs {M : MS} (hI : RI M) : ∀ i : Int, 0 ≤ i → i < 40 → 0 ≤ M 18 i ∧ M 18 i ≤ 1000000000 := hI.2.2.2.2.2.2.2.2.2.2.2.2.2.2.2.2.1
theorem RI.hbs {M : MS} (hI : RI M) : ∀ i : Int, 0 ≤ i → i < 4 → 0 ≤ M 19 i ∧ M 19 i ≤ 100 := hI.2.2.2.2.2.2.2.2.2.2.2.2.2.2.2.2.2.1
theorem RI.hed {M : MS} (hI : RI M) : ∀ i : Int, 0 ≤ i → i < 10 → 0 ≤ M 20 i ∧ M 20 i ≤ 50 := hI.2.2.2.2.2.2.2.2.2.2.2.2.2.2.2.2.2.2.1
theorem RI.hth {M : MS} (hI : RI M) : ∀ i : Int, 0 ≤ i → i < 10 → 0 ≤ M 21 i ∧ M 21 i ≤ 20 := hI.2.2.2.2.2.2.2.2.2.2.2.2.2.2.2.2.2.2.2.1
theorem RI.htb {M : MS} (hI : RI M) : ∀ i : Int, 0 ≤ i → i < 10 → 0 ≤ M 22 i ∧ M 22 i ≤ 20 := hI.2.2.2.2.2.2.2.2.2.2.2.2.2.2.2.2.2.2.2.2.1
theorem RI.hbp {M : MS} (hI : RI M) : ∀ i : Int, 0 ≤ i → i < 800 → (0 ≤ M 23 i ∧ M 23 i ≤ 1000000001) ∧ (0 ≤ M 24 i ∧ M 24 i ≤ 1000000001) := hI.2.2.2.2.2.2.2.2.2.2.2.2.2.2.2.2.2.2.2.2.2.1
theorem RI.hf8 {M : MS} (hI : RI M) : ∀ i : Int, 0 ≤ i → i < M 7 0 → 0 ≤ M 8 i ∧ M 8 i < M 1 0 := hI.2.2.2.2.2.2.2.2.2.2.2.2.2.2.2.2.2.2.2.2.2.2.1
theorem RI.hsm {M : MS} (hI : RI M) : ∀ f k : Int, 0 ≤ f → f < M 1 0 → 0 ≤ k → k + 1 < M 4 f → M 5 (12 * f + k) < M 5 (12 * f + (k + 1)) := hI.2.2.2.2.2.2.2.2.2.2.2.2.2.2.2.2.2.2.2.2.2.2.2.1
theorem RI.hs0 {M : MS} (hI : RI M) : ∀ f : Int, 0 ≤ f → f < 20 → M 5 (12 * f) = 0 := hI.2.2.2.2.2.2.2.2.2.2.2.2.2.2.2.2.2.2.2.2.2.2.2.2.1
theorem RI.hgv {M : MS} (hI : RI M) : ∀ f k : Int, 0 ≤ f → f < M 7 0 → 0 ≤ k → k < M 13 f → M 17 (40 * f + k) = 0 → M 16 (40 * f + k) = M 15 (40 * f + k) := hI.2.2.2.2.2.2.2.2.2.2.2.2.2.2.2.2.2.2.2.2.2.2.2.2.2.1
theorem RI.ht1 {M : MS} (hI : RI M) : ∀ a : Int, 0 ≤ a → a ≤ 9 → M 21 a ≤ M 1 0 ∧ 0 ≤ M 21 a := hI.2.2.2.2.2.2.2.2.2.2.2.2.2.2.2.2.2.2.2.2.2.2.2.2.2.2.1
theorem RI.hzz {M : MS} (hI : RI M) : ∀ a f k : Int, 0 ≤ a → a ≤ 9 → M 21 a ≤ f → f < 20 → 0 ≤ k → k ≤ 3 → M 23 (80 * a + 4 * f + k) = 0 ∧ M 24 (80 * a + 4 * f + k) = 0 := hI.2.2.2.2.2.2.2.2.2.2.2.2.2.2.2.2.2.2.2.2.2.2.2.2.2.2.2.1
theorem RI.hr0 {M : MS} (hI : RI M) : ∀ f : Int, M 7 0 ≤ f → f < 60 → M 13 f = 0 := hI.2.2.2.2.2.2.2.2.2.2.2.2.2.2.2.2.2.2.2.2.2.2.2.2.2.2.2.2.1
theorem RI.hl0 {M : MS} (hI : RI M) : ∀ f k : Int, M 1 0 ≤ f → f < 20 → 0 ≤ k → k < 12 → M 5 (12 * f + k) = 0 := hI.2.2.2.2.2.2.2.2.2.2.2.2.2.2.2.2.2.2.2.2.2.2.2.2.2.2.2.2.2.1
theorem RI.hp0 {M : MS} (hI : RI M) : ∀ f k : Int, M 1 0 ≤ f → f < 20 → 0 ≤ k → k < 10 → M 6 (10 * f + k) = 0 := hI.2.2.2.2.2.2.2.2.2.2.2.2.2.2.2.2.2.2.2.2.2.2.2.2.2.2.2.2.2.2.1
theorem RI.hd0 {M : MS} (hI : RI M) : ∀ f k : Int, M 7 0 ≤ f → f < 60 → 0 ≤ k → k < 40 → M 14 (40 * f + k) = 0 ∧ M 15 (40 * f + k) = 0 := hI.2.2.2.2.2.2.2.2.2.2.2.2.2.2.2.2.2.2.2.2.2.2.2.2.2.2.2.2.2.2.2
def NI (M : MS) : Prop := (∀ f k : Int, 0 ≤ f → f < M 7 0 → 0 ≤ k → k < M 13 f → (M 17 (40 * f + k) = 0 ∧ M 33 (40 * f + k) = -1 ∧ M 16 (40 * f + k) = M 15 (40 * f + k)) ∨ (M 17 (40 * f + k) = 1 ∧ M 33 (40 * f + k) = M 16 (40 * f + k))) ∧ (M 36 0 = M 1 0) ∧ (M 36 1 = M 1 0) ∧ (M 36 2 = M 7 0) ∧ (∀ k : Int, 0 ≤ k → k < 3 → M 36 k ≤ M 37 k ∧ M 37 k ≤ 90) ∧ (∀ f : Int, 0 ≤ f → f < M 1 0 → M 35 f ≤ M 39 f ∧ M 39 f ≤ 90) ∧ (∀ i : Int, 0 ≤ i → i < M 1 0 → (0 ≤ M 32 i ∧ M 32 i < M 1 0) ∧ sp_before M (M 32 i) = i) ∧ (∀ f : Int, 0 ≤ f → f < M 1 0 → M 32 (sp_before M f) = f) ∧ (∀ f : Int, 0 ≤ f → f < M 1 0 → M 35 f = cntf (M 8) f (M 7 0).toNat) ∧ (∀ i : Nat, (i : Int) < M 7 0 → M 34 (60 * M 8 (i : Int) + cntf (M 8) (M 8 (i : Int)) i) = (i : Int)) ∧ (∀ a f : Int, 0 ≤ a → a ≤ 9 → 0 ≤ f → f < M 21 a → M 31 (20 * a + f) = if f < M 22 a then M 25 (20 * a + f) else 0)
theorem NI.hst {M : MS} (hI : NI M) : ∀ f k : Int, 0 ≤ f → f < M 7 0 → 0 ≤ k → k < M 13 f → (M 17 (40 * f + k) = 0 ∧ M 33 (40 * f + k) = -1 ∧ M 16 (40 * f + k) = M 15 (40 * f + k)) ∨ (M 17 (40 * f + k) = 1 ∧ M 33 (40 * f + k) = M 16 (40 * f + k)) := hI.1
theorem NI.z0 {M : MS} (hI : NI M) : M 36 0 = M 1 0 := hI.2.1
theorem NI.z1 {M : MS} (hI : NI M) : M 36 1 = M 1 0 := hI.2.2.1
theorem NI.z2 {M : MS} (hI : NI M) : M 36 2 = M 7 0 := hI.2.2.2.1
theorem NI.hcp {M : MS} (hI : NI M) : ∀ k : Int, 0 ≤ k → k < 3 → M 36 k ≤ M 37 k ∧ M 37 k ≤ 90 := hI.2.2.2.2.1
theorem NI.hfc {M : MS} (hI : NI M) : ∀ f : Int, 0 ≤ f → f < M 1 0 → M 35 f ≤ M 39 f ∧ M 39 f ≤ 90 := hI.2.2.2.2.2.1
theorem NI.hor {M : MS} (hI : NI M) : ∀ i : Int, 0 ≤ i → i < M 1 0 → (0 ≤ M 32 i ∧ M 32 i < M 1 0) ∧ sp_before M (M 32 i) = i := hI.2.2.2.2.2.2.1
theorem NI.hro {M : MS} (hI : NI M) : ∀ f : Int, 0 ≤ f → f < M 1 0 → M 32 (sp_before M f) = f := hI.2.2.2.2.2.2.2.1
theorem NI.hcn {M : MS} (hI : NI M) : ∀ f : Int, 0 ≤ f → f < M 1 0 → M 35 f = cntf (M 8) f (M 7 0).toNat := hI.2.2.2.2.2.2.2.2.1
theorem NI.hmf {M : MS} (hI : NI M) : ∀ i : Nat, (i : Int) < M 7 0 → M 34 (60 * M 8 (i : Int) + cntf (M 8) (M 8 (i : Int)) i) = (i : Int) := hI.2.2.2.2.2.2.2.2.2.1
theorem NI.hbe {M : MS} (hI : NI M) : ∀ a f : Int, 0 ≤ a → a ≤ 9 → 0 ≤ f → f < M 21 a → M 31 (20 * a + f) = if f < M 22 a then M 25 (20 * a + f) else 0 := hI.2.2.2.2.2.2.2.2.2.2
/-- returns r where A, else throws a new object of class ci; the rest stays -/
def rpost (A : Prop) (r : Option Value) (ci : Nat) (h : am_H) (nx : Nat) : Outcome → am_H → Nat → Prop := fun o h' nx' => (A ∧ o = .returned r ∧ h' = h ∧ nx' = nx) ∨ (¬ A ∧ ∃ fs : List Value, o = .threw nx ∧ h' = am_up h nx (.inr (ci, fs)) ∧ nx' = nx + 1)
section CXR
variable {p : Program} {l : Launch} {e : Env} {R : Room} {s : State} {m : MethodId} {args : Array Value} {below : List Frame} {meth : Method} {c : Code} {nL : Nat} {X : am_X} {Q : State → Prop}
variable {cc : ByteArray} {y : MethodName} {ret : Option FieldType} {et : List (Nat × Nat × Nat × Nat)} {h : am_H} {nx cells slots pc pc' : Nat} {L : List (Option Value)} {st : List Value}
variable {y' : MethodName} {rm : Room} {av : List Value} {bytes : ByteArray} {maxL index : Nat} {ret' : Option FieldType} {A0 : Prop} {r : Option Value} {cx : Nat}
theorem v_callSR (F : am_Fx p s m args meth c y cc nL ret et X) {st0 : List Value} (d : decode cc pc = .ok (.invokestatic index, 3)) (hp : pc + 3 = pc') (hcal : am_cal y' bytes maxL ret' av.length) (hlink : Cond.methodLink y.cls index y' ∈ lw_tbl) (hstat : Cond.static y' ∈ lw_tbl) (hC : Cn l X y' rm av h nx (rpost A0 r cx h nx)) (hst : st0 = av.reverse ++ st) (hfit : am_fit R rm maxL cells slots) (hw : (st.map fun v => v.category).sum ≤ 8)
    (kx : ¬ A0 → ∀ fs : List Value, VX p l e R s m args below meth c nL X Q (am_up h nx (.inr (cx, fs))) (nx + 1) (cells + rm.cells) (slots + rm.slots) pc L nx)
    (kr : A0 → V p l e R s m args below meth c nL X Q h nx (cells + rm.cells) (slots + rm.slots) pc' L (r.toList ++ st)) : V p l e R s m args below meth c nL X Q h nx cells slots pc L st0 :=
  v_callS F d hp hcal hlink hstat hC hst hfit hw (fun x h' nx' q => by
    rcases q with ⟨_, q1, _⟩ | ⟨q0, fs, q1, rfl, rfl⟩
    · cases q1
    · cases q1; exact kx q0 fs) (fun v h' nx' q => by
    rcases q with ⟨q0, q1, rfl, rfl⟩ | ⟨_, fs, q1, _⟩
    · cases q1; exact kr q0
    · cases q1)
theorem v_callVR (F : am_Fx p s m args meth c y cc nL ret et X) {st0 : List Value} {b ci : Nat} {fs0 : List Value} {C : String} {T9 : u_T} {N : Nat} (d : decode cc pc = .ok (.invokevirtual index, 3)) (hp : pc + 3 = pc') (hcal : am_cal y' bytes maxL ret' av.length) (hlink : Cond.methodLink y.cls index y' ∈ lw_tbl) (hinst : Cond.instanceMethod y' ∈ lw_tbl) (hsel : Cond.selects C y' y' ∈ lw_tbl) (hc : am_cl[ci]? = some (C, T9, N)) (hb : h b = some (.inr (ci, fs0))) (hC : Cn l X y' rm (.ref b :: av) h nx (rpost A0 r cx h nx)) (hst : st0 = av.reverse ++ .ref b :: st) (hfit : am_fit R rm maxL cells slots) (hw : (st.map fun v => v.category).sum ≤ 8)
    (kx : ¬ A0 → ∀ fs : List Value, VX p l e R s m args below meth c nL X Q (am_up h nx (.inr (cx, fs))) (nx + 1) (cells + rm.cells) (slots + rm.slots) pc L nx)
    (kr : A0 → V p l e R s m args below meth c nL X Q h nx (cells + rm.cells) (slots + rm.slots) pc' L (r.toList ++ st)) : V p l e R s m args below meth c nL X Q h nx cells slots pc L st0 :=
  v_callV F d hp hcal hlink hinst hsel hc hb hC hst hfit hw (fun x h' nx' q => by
    rcases q with ⟨_, q1, _⟩ | ⟨q0, fs, q1, rfl, rfl⟩
    · cases q1
    · cases q1; exact kx q0 fs) (fun v h' nx' q => by
    rcases q with ⟨q0, q1, rfl, rfl⟩ | ⟨_, fs, q1, _⟩
    · cases q1; exact kr q0
    · cases q1)
end CXR
set_option maxRecDepth 100000 in
set_option maxHeartbeats 4000000 in
theorem c_S_checkBounds (l : Launch) (X : am_X) (h : am_H) (nx : Nat) (v a b : Int) (ht : l.flags = pinnedFlags ++ [noTraceFlag]) (rv : -2147483648 ≤ v ∧ v < 2147483648) (ra : -2147483648 ≤ a ∧ a < 2147483648) (rb : -2147483648 ≤ b ∧ b < 2147483648) : Cn l X y_S_checkBounds ({ frames := 6, cells := 1, slots := 6, locals := 92 }) [iV v, iV a, iV b] h nx (rpost (a ≤ v ∧ v ≤ b) (none) 6 h nx) := by
  refine cn_of (k := 0) (L0 := [some (iV v), some (iV a), some (iV b)]) rfl wx_88 (Nat.le_of_ble_eq_true rfl) rfl (fun p e s m args below meth c F => ?_)
  refine v_iload_n (pc' := 1) (j := 0) F d_S_checkBounds_0 rfl rfl rfl ?_
  refine v_iload_n (pc' := 2) (j := 1) F d_S_checkBounds_1 rfl rfl rfl ?_
  refine v_icmp_lt (tgt := 10) (pc' := 5) F d_S_checkBounds_2 (by decide) rfl (by omega) (by omega) (fun c2 => ?_) (fun c2 => ?_)
  · refine v_newE (pc' := 19) (C := zR_IA) (T9 := zF_IA) (ci := 6) F ht am_exIA rfl wx_89 wx_90 wx_10 zi_IA wx_129 d_S_checkBounds_10 d_S_checkBounds_13 d_S_checkBounds_14 d_S_checkBounds_16 rfl (by decide) (by decide) (by decide) (Nat.le_of_ble_eq_true rfl) (fun fs9 => ?_)
    refine v_athrow F d_S_checkBounds_19 ?_
    exact v_out F (by decide) (by decide) (Or.inr ⟨by omega, fs9, rfl, rfl, rfl⟩)
  · refine v_iload_n (pc' := 6) (j := 0) F d_S_checkBounds_5 rfl rfl rfl ?_
    refine v_iload_n (pc' := 7) (j := 2) F d_S_checkBounds_6 rfl rfl rfl ?_
    refine v_icmp_le (tgt := 20) (pc' := 10) F d_S_checkBounds_7 (by decide) rfl (by omega) (by omega) (fun c7 => ?_) (fun c7 => ?_)
    · exact v_return F d_S_checkBounds_20 rfl (by decide) (by decide) (Or.inl ⟨by omega, rfl, rfl, rfl⟩)
    · refine v_newE (pc' := 19) (C := zR_IA) (T9 := zF_IA) (ci := 6) F ht am_exIA rfl wx_89 wx_90 wx_10 zi_IA wx_129 d_S_checkBounds_10 d_S_checkBounds_13 d_S_checkBounds_14 d_S_checkBounds_16 rfl (by decide) (by decide) (by decide) (Nat.le_of_ble_eq_true rfl) (fun fs9 => ?_)
      refine v_athrow F d_S_checkBounds_19 ?_
      exact v_out F (by decide) (by decide) (Or.inr ⟨by omega, fs9, rfl, rfl, rfl⟩)
set_option maxRecDepth 100000 in
set_option maxHeartbeats 4000000 in
theorem c_S_checkDay (l : Launch) (X : am_X) (h : am_H) (nx : Nat) (v : Int) (ht : l.flags = pinnedFlags ++ [noTraceFlag]) (rv : -2147483648 ≤ v ∧ v < 2147483648) : Cn l X y_S_checkDay ({ frames := 7, cells := 1, slots := 6, locals := 114 }) [iV v] h nx (rpost (0 ≤ v ∧ v ≤ 3649) (none) 6 h nx) := by
  refine cn_of (k := 0) (L0 := [some (iV v)]) rfl wx_323 (Nat.le_of_ble_eq_true rfl) rfl (fun p e s m args below meth c F => ?_)
  refine v_iload_n (pc' := 1) (j := 0) F d_S_checkDay_0 rfl rfl rfl ?_
  refine v_iconst (pc' := 2) F d_S_checkDay_1 rfl ?_
  refine v_sipush (pc' := 5) F d_S_checkDay_2 rfl (by decide) ?_
  refine v_callSR (pc' := 8) F d_S_checkDay_5 rfl cal_S_checkBounds wx_86 wx_87 (c_S_checkBounds l X _ _ _ _ _ ht (by omega) (by omega) (by omega)) rfl ⟨by decide, by decide, by decide, by decide⟩ (Nat.le_of_ble_eq_true rfl) (fun n5 fs9 => ?_) (fun a5 => ?_)
  · exact v_out F (by decide) (by decide) (Or.inr ⟨by omega, fs9, rfl, rfl, rfl⟩)
  exact v_return F d_S_checkDay_8 rfl (by decide) (by decide) (Or.inl ⟨by omega, rfl, rfl, rfl⟩)
set_option maxRecDepth 100000 in
set_option maxHeartbeats 4000000 in
theorem c_S_checkYear (l : Launch) (X : am_X) (h : am_H) (nx : Nat) (v : Int) (ht : l.flags = pinnedFlags ++ [noTraceFlag]) (rv : -2147483648 ≤ v ∧ v < 2147483648) : Cn l X y_S_checkYear ({ frames := 7, cells := 1, slots := 6, locals := 114 }) [iV v] h nx (rpost (0 ≤ v ∧ v ≤ 9) (none) 6 h nx) := by
  refine cn_of (k := 0) (L0 := [some (iV v)]) rfl wx_433 (Nat.le_of_ble_eq_true rfl) rfl (fun p e s m args below meth c F => ?_)
  refine v_iload_n (pc' := 1) (j := 0) F d_S_checkYear_0 rfl rfl rfl ?_
  refine v_iconst (pc' := 2) F d_S_checkYear_1 rfl ?_
  refine v_bipush (pc' := 4) F d_S_checkYear_2 rfl (by decide) ?_
  refine v_callSR (pc' := 7) F d_S_checkYear_4 rfl cal_S_checkBounds wx_86 wx_87 (c_S_checkBounds l X _ _ _ _ _ ht (by omega) (by omega) (by omega)) rfl ⟨by decide, by decide, by decide, by decide⟩ (Nat.le_of_ble_eq_true rfl) (fun n4 fs9 => ?_) (fun a4 => ?_)
  · exact v_out F (by decide) (by decide) (Or.inr ⟨by omega, fs9, rfl, rfl, rfl⟩)
  exact v_return F d_S_checkYear_7 rfl (by decide) (by decide) (Or.inl ⟨by omega, rfl, rfl, rfl⟩)
set_option maxRecDepth 100000 in
set_option maxHeartbeats 4000000 in
theorem c_S_checkKind (l : Launch) (X : am_X) (h : am_H) (nx : Nat) (v : Int) (ht : l.flags = pinnedFlags ++ [noTraceFlag]) (rv : -2147483648 ≤ v ∧ v < 2147483648) : Cn l X y_S_checkKind ({ frames := 7, cells := 1, slots := 6, locals := 114 }) [iV v] h nx (rpost (0 ≤ v ∧ v ≤ 3) (none) 6 h nx) := by
  refine cn_of (k := 0) (L0 := [some (iV v)]) rfl wx_320 (Nat.le_of_ble_eq_true rfl) rfl (fun p e s m args below meth c F => ?_)
  refine v_iload_n (pc' := 1) (j := 0) F d_S_checkKind_0 rfl rfl rfl ?_
  refine v_iconst (pc' := 2) F d_S_checkKind_1 rfl ?_
  refine v_iconst (pc' := 3) F d_S_checkKind_2 rfl ?_
  refine v_callSR (pc' := 6) F d_S_checkKind_3 rfl cal_S_checkBounds wx_86 wx_87 (c_S_checkBounds l X _ _ _ _ _ ht (by omega) (by omega) (by omega)) rfl ⟨by decide, by decide, by decide, by decide⟩ (Nat.le_of_ble_eq_true rfl) (fun n3 fs9 => ?_) (fun a3 => ?_)
  · exact v_out F (by decide) (by decide) (Or.inr ⟨by omega, fs9, rfl, rfl, rfl⟩)
  exact v_return F d_S_checkKind_6 rfl (by decide) (by decide) (Or.inl ⟨by omega, rfl, rfl, rfl⟩)
theorem c_size (l : Launch) (X : am_X) (h : am_H) (nx : Nat) (x : Nat) (A : Nat → Prop) {P : Tg → Nat} {M : MS} (k z : Int) (hC : RepC X x A P M h) (hk : 0 ≤ k ∧ k < 3) (hz : M 36 k = z) : CnP l X y_A_size ({ frames := 0, cells := 0, slots := 0, locals := 0 }) [.ref (P (4, k))] h nx (iV z) := by
  subst hz; exact c_A_size l X h nx _ _ _ _ (hC.t_ls (i := k) hk)
theorem c_sizef (l : Launch) (X : am_X) (h : am_H) (nx : Nat) (x : Nat) (A : Nat → Prop) {P : Tg → Nat} {M : MS} (f : Int) (hC : RepC X x A P M h) (hf : 0 ≤ f ∧ f < M 1 0) : CnP l X y_A_size ({ frames := 0, cells := 0, slots := 0, locals := 0 }) [.ref (P (7, f))] h nx (iV (M 35 f)) := c_A_size l X h nx _ _ _ _ (hC.t_fm (i := f) hf)
theorem c_get (l : Launch) (X : am_X) (h : am_H) (nx : Nat) (x : Nat) (A : Nat → Prop) {P : Tg → Nat} {M : MS} (k i : Int) (hC : RepC X x A P M h) (hk : 0 ≤ k ∧ k < 3) (hcp : M 36 k ≤ M 37 k ∧ M 37 k ≤ 90) (hi : 0 ≤ i ∧ i < M 36 k) : CnP l X y_A_get ({ frames := 2, cells := 0, slots := 0, locals := 43 }) [.ref (P (4, k)), iV i] h nx (.ref (P (elt M k i))) := by
  have h1 := hC.t_ls (i := k) hk
  rw [if_pos (by omega)] at h1
  exact c_A_get l X h nx _ _ _ _ _ _ _ _ h1 (hC.t_la (i := k) ⟨hk, by omega⟩) (by omega) hi (by omega) (by
    show (if ((i.toNat : Nat) : Int) < M 36 k then Value.ref (P (elt M k ((i.toNat : Nat) : Int))) else .null) = _
    rw [Int.toNat_of_nonneg hi.1, if_pos hi.2])
theorem c_getf (l : Launch) (X : am_X) (h : am_H) (nx : Nat) (x : Nat) (A : Nat → Prop) {P : Tg → Nat} {M : MS} (f i : Int) (hC : RepC X x A P M h) (hf : 0 ≤ f ∧ f < M 1 0) (hcp : M 35 f ≤ M 39 f ∧ M 39 f ≤ 90) (hi : 0 ≤ i ∧ i < M 35 f) : CnP l X y_A_get ({ frames := 2, cells := 0, slots := 0, locals := 43 }) [.ref (P (7, f)), iV i] h nx (.ref (P (12, M 34 (60 * f + i)))) := by
  have h1 := hC.t_fm (i := f) hf
  rw [if_pos (by omega)] at h1
  exact c_A_get l X h nx _ _ _ _ _ _ _ _ h1 (hC.t_fa (i := f) ⟨hf, by omega⟩) (by omega) hi (by omega) (by
    show (if ((i.toNat : Nat) : Int) < M 35 f then Value.ref (P (12, M 34 (60 * f + ((i.toNat : Nat) : Int)))) else .null) = _
    rw [Int.toNat_of_nonneg hi.1, if_pos hi.2])
set_option maxRecDepth 100000 in
set_option maxHeartbeats 4000000 in
theorem c_S_flatAt (l : Launch) (X : am_X) (h : am_H) (nx : Nat) (x : Nat) (A : Nat → Prop) (P : Tg → Nat) (M : MS) (f : Int) (ht : l.flags = pinnedFlags ++ [noTraceFlag]) (hC : RepC X x A P M h) (hI : RI M) (hN : NI M) (rf : -2147483648 ≤ f ∧ f < 2147483648) : Cn l X y_S_flatAt ({ frames := 6, cells := 1, slots := 6, locals := 92 }) [.ref (P (0, 0)), iV f] h nx (rpost (0 ≤ f ∧ f < M 1 0) (some (.ref (P (6, f)))) 6 h nx) := by
  refine cn_of (k := 0) (L0 := [some (.ref (P (0, 0))), some (iV f)]) rfl wx_316 (Nat.le_of_ble_eq_true rfl) rfl (fun p e s m args below meth c F => ?_)
  have q1 := hI.hfl
  have q7 := hI.hme
  refine v_iload_n (pc' := 1) (j := 1) F d_S_flatAt_0 rfl rfl rfl ?_
  refine v_if_lt (tgt := 15) (pc' := 4) F d_S_flatAt_1 (by decide) rfl (by omega) (fun c1 => ?_) (fun c1 => ?_)
  · refine v_newE (pc' := 24) (C := zR_IA) (T9 := zF_IA) (ci := 6) F ht am_exIA rfl wx_89 wx_90 wx_10 zi_IA wx_317 d_S_flatAt_15 d_S_flatAt_18 d_S_flatAt_19 d_S_flatAt_21 rfl (by decide) (by decide) (by decide) (Nat.le_of_ble_eq_true rfl) (fun fs9 => ?_)
    refine v_athrow F d_S_flatAt_24 ?_
    exact v_out F (by decide) (by decide) (Or.inr ⟨by omega, fs9, rfl, rfl, rfl⟩)
  · refine v_iload_n (pc' := 5) (j := 1) F d_S_flatAt_4 rfl rfl rfl ?_
    refine v_aload_n (pc' := 6) (j := 0) F d_S_flatAt_5 rfl rfl rfl ?_
    refine v_getf (pc' := 9) (C := zR_S) (T := zF_S) (N := 6) (ref := "BillShares") F d_S_flatAt_6 rfl zi_S rfl 0 (by decide) wx_57 (Or.inl rfl) (hC.t_top) rfl ?_
    refine v_callVP (pc' := 12) (C := zR_A) (T9 := zF_A) (N := 3) F d_S_flatAt_9 rfl cal_A_size wx_156 wx_157 wx_158 rfl (hC.t_ls (i := 0) ⟨by decide, by decide⟩) (c_size l X _ _ _ _ 0 _ hC ⟨by decide, by decide⟩ hN.z0) rfl ⟨by decide, by decide, by decide, by decide⟩ (Nat.le_of_ble_eq_true rfl) rfl rfl ?_
    refine v_icmp_lt (tgt := 25) (pc' := 15) F d_S_flatAt_12 (by decide) rfl (by omega) (by omega) (fun c12 => ?_) (fun c12 => ?_)
    · refine v_aload_n (pc' := 26) (j := 0) F d_S_flatAt_25 rfl rfl rfl ?_
      refine v_getf (pc' := 29) (C := zR_S) (T := zF_S) (N := 6) (ref := "BillShares") F d_S_flatAt_26 rfl zi_S rfl 0 (by decide) wx_57 (Or.inl rfl) (hC.t_top) rfl ?_
      refine v_iload_n (pc' := 30) (j := 1) F d_S_flatAt_29 rfl rfl rfl ?_
      refine v_callVP (pc' := 33) (C := zR_A) (T9 := zF_A) (N := 3) F d_S_flatAt_30 rfl cal_A_get wx_283 wx_284 wx_285 rfl (hC.t_ls (i := 0) ⟨by decide, by decide⟩) (c_get l X _ _ _ _ 0 _ hC ⟨by decide, by decide⟩ (hN.hcp 0 (by decide) (by decide)) (by have := hN.z0; omega)) rfl ⟨by decide, by decide, by decide, by decide⟩ (Nat.le_of_ble_eq_true rfl) rfl rfl ?_
      refine v_cast (pc' := 36) (C := zR_F) (T9 := zF_F) (N := 10) F d_S_flatAt_33 rfl wx_176 wx_915 rfl (hC.t_fl (i := f) ⟨by omega, by omega⟩) ?_
      exact v_areturn F d_S_flatAt_36 rfl (Or.inl ⟨_, rfl⟩) (Or.inr ⟨_, rfl⟩) (by decide) (by decide) (Or.inl ⟨by omega, rfl, rfl, rfl⟩)
    · refine v_newE (pc' := 24) (C := zR_IA) (T9 := zF_IA) (ci := 6) F ht am_exIA rfl wx_89 wx_90 wx_10 zi_IA wx_317 d_S_flatAt_15 d_S_flatAt_18 d_S_flatAt_19 d_S_flatAt_21 rfl (by decide) (by decide) (by decide) (Nat.le_of_ble_eq_true rfl) (fun fs9 => ?_)
      refine v_athrow F d_S_flatAt_24 ?_
      exact v_out F (by decide) (by decide) (Or.inr ⟨by omega, fs9, rfl, rfl, rfl⟩)
set_option maxRecDepth 100000 in
set_option maxHeartbeats 4000000 in
theorem c_S_meterAt (l : Launch) (X : am_X) (h : am_H) (nx : Nat) (x : Nat) (A : Nat → Prop) (P : Tg → Nat) (M : MS) (f : Int) (ht : l.flags = pinnedFlags ++ [noTraceFlag]) (hC : RepC X x A P M h) (hI : RI M) (hN : NI M) (rf : -2147483648 ≤ f ∧ f < 2147483648) : Cn l X y_S_meterAt ({ frames := 6, cells := 1, slots := 6, locals := 92 }) [.ref (P (0, 0)), iV f] h nx (rpost (0 ≤ f ∧ f < M 7 0) (some (.ref (P (12, f)))) 6 h nx) := by
  refine cn_of (k := 0) (L0 := [some (.ref (P (0, 0))), some (iV f)]) rfl wx_373 (Nat.le_of_ble_eq_true rfl) rfl (fun p e s m args below meth c F => ?_)
  have q1 := hI.hfl
  have q7 := hI.hme
  refine v_iload_n (pc' := 1) (j := 1) F d_S_meterAt_0 rfl rfl rfl ?_
  refine v_if_lt (tgt := 15) (pc' := 4) F d_S_meterAt_1 (by decide) rfl (by omega) (fun c1 => ?_) (fun c1 => ?_)
  · refine v_newE (pc' := 24) (C := zR_IA) (T9 := zF_IA) (ci := 6) F ht am_exIA rfl wx_89 wx_90 wx_10 zi_IA wx_374 d_S_meterAt_15 d_S_meterAt_18 d_S_meterAt_19 d_S_meterAt_21 rfl (by decide) (by decide) (by decide) (Nat.le_of_ble_eq_true rfl) (fun fs9 => ?_)
    refine v_athrow F d_S_meterAt_24 ?_
    exact v_out F (by decide) (by decide) (Or.inr ⟨by omega, fs9, rfl, rfl, rfl⟩)
  · refine v_iload_n (pc' := 5) (j := 1) F d_S_meterAt_4 rfl rfl rfl ?_
    refine v_aload_n (pc' := 6) (j := 0) F d_S_meterAt_5 rfl rfl rfl ?_
    refine v_getf (pc' := 9) (C := zR_S) (T := zF_S) (N := 6) (ref := "BillShares") F d_S_meterAt_6 rfl zi_S rfl 2 (by decide) wx_59 (Or.inl rfl) (hC.t_top) rfl ?_
    refine v_callVP (pc' := 12) (C := zR_A) (T9 := zF_A) (N := 3) F d_S_meterAt_9 rfl cal_A_size wx_156 wx_157 wx_158 rfl (hC.t_ls (i := 2) ⟨by decide, by decide⟩) (c_size l X _ _ _ _ 2 _ hC ⟨by decide, by decide⟩ hN.z2) rfl ⟨by decide, by decide, by decide, by decide⟩ (Nat.le_of_ble_eq_true rfl) rfl rfl ?_
    refine v_icmp_lt (tgt := 25) (pc' := 15) F d_S_meterAt_12 (by decide) rfl (by omega) (by omega) (fun c12 => ?_) (fun c12 => ?_)
    · refine v_aload_n (pc' := 26) (j := 0) F d_S_meterAt_25 rfl rfl rfl ?_
      refine v_getf (pc' := 29) (C := zR_S) (T := zF_S) (N := 6) (ref := "BillShares") F d_S_meterAt_26 rfl zi_S rfl 2 (by decide) wx_59 (Or.inl rfl) (hC.t_top) rfl ?_
      refine v_iload_n (pc' := 30) (j := 1) F d_S_meterAt_29 rfl rfl rfl ?_
      refine v_callVP (pc' := 33) (C := zR_A) (T9 := zF_A) (N := 3) F d_S_meterAt_30 rfl cal_A_get wx_283 wx_284 wx_285 rfl (hC.t_ls (i := 2) ⟨by decide, by decide⟩) (c_get l X _ _ _ _ 2 _ hC ⟨by decide, by decide⟩ (hN.hcp 2 (by decide) (by decide)) (by have := hN.z2; omega)) rfl ⟨by decide, by decide, by decide, by decide⟩ (Nat.le_of_ble_eq_true rfl) rfl rfl ?_
      refine v_cast (pc' := 36) (C := zR_T) (T9 := zF_T) (N := 8) F d_S_meterAt_33 rfl wx_325 wx_916 rfl (hC.t_mt (i := f) ⟨by omega, by omega⟩) ?_
      exact v_areturn F d_S_meterAt_36 rfl (Or.inl ⟨_, rfl⟩) (Or.inr ⟨_, rfl⟩) (by decide) (by decide) (Or.inl ⟨by omega, rfl, rfl, rfl⟩)
    · refine v_newE (pc' := 24) (C := zR_IA) (T9 := zF_IA) (ci := 6) F ht am_exIA rfl wx_89 wx_90 wx_10 zi_IA wx_374 d_S_meterAt_15 d_S_meterAt_18 d_S_meterAt_19 d_S_meterAt_21 rfl (by decide) (by decide) (by decide) (Nat.le_of_ble_eq_true rfl) (fun fs9 => ?_)
      refine v_athrow F d_S_meterAt_24 ?_
      exact v_out F (by decide) (by decide) (Or.inr ⟨by omega, fs9, rfl, rfl, rfl⟩)
