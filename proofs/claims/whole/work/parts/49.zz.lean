/-! codes of the specification; a refused call leaves the state (written by wip/whole/zz.py) -/
theorem sp_has_r (M : MS) (b f a : Int) : sp_has M b f a = 0 ∨ sp_has M b f a = 1 ∨ sp_has M b f a = 2 := by unfold sp_has; (repeat' split) <;> omega
theorem z_flat (M : MS) (a r : Int) : ((sp_flat M a r).1 = 0 ∨ (sp_flat M a r).1 = 1 ∨ (sp_flat M a r).1 = 2) ∧ ((sp_flat M a r).1 ≠ 0 → (sp_flat M a r).2.2 = M) := by
  unfold sp_flat
  (repeat' split) <;> refine ⟨?_, fun h => ?_⟩ <;> first | rfl | omega | exact absurd rfl h | (simp only []; omega)
theorem z_meter (M : MS) (f k a b t : Int) : ((sp_meter M f k a b t).1 = 0 ∨ (sp_meter M f k a b t).1 = 1 ∨ (sp_meter M f k a b t).1 = 2) ∧ ((sp_meter M f k a b t).1 ≠ 0 → (sp_meter M f k a b t).2.2 = M) := by
  unfold sp_meter
  (repeat' split) <;> refine ⟨?_, fun h => ?_⟩ <;> first | rfl | omega | exact absurd rfl h | (simp only []; omega)
theorem z_put (M : MS) (f d v w b : Int) : ((sp_put M f d v w b).1 = 0 ∨ (sp_put M f d v w b).1 = 1 ∨ (sp_put M f d v w b).1 = 2) ∧ ((sp_put M f d v w b).1 ≠ 0 → (sp_put M f d v w b).2.2 = M) := by
  unfold sp_put
  (repeat' split) <;> refine ⟨?_, fun h => ?_⟩ <;> first | rfl | omega | exact absurd rfl h | (simp only []; omega)
theorem z_correct (M : MS) (f d v : Int) : ((sp_correct M f d v).1 = 0 ∨ (sp_correct M f d v).1 = 1) ∧ ((sp_correct M f d v).1 ≠ 0 → (sp_correct M f d v).2.2 = M) := by
  unfold sp_correct sp_cor
  (repeat' split) <;> refine ⟨?_, fun h => ?_⟩ <;> first | rfl | omega | exact absurd rfl h | (simp only []; omega)
theorem z_tested (M : MS) (f d : Int) : ((sp_tested M f d).1 = 0 ∨ (sp_tested M f d).1 = 1) ∧ ((sp_tested M f d).1 ≠ 0 → (sp_tested M f d).2.2 = M) := by
  unfold sp_tested
  (repeat' split) <;> refine ⟨?_, fun h => ?_⟩ <;> first | rfl | omega | exact absurd rfl h | (simp only []; omega)
theorem z_cost (M : MS) (k a v : Int) : ((sp_cost M k a v).1 = 0 ∨ (sp_cost M k a v).1 = 1) ∧ ((sp_cost M k a v).1 ≠ 0 → (sp_cost M k a v).2.2 = M) := by
  unfold sp_cost
  (repeat' split) <;> refine ⟨?_, fun h => ?_⟩ <;> first | rfl | omega | exact absurd rfl h | (simp only []; omega)
theorem z_base (M : MS) (k v : Int) : ((sp_base M k v).1 = 0 ∨ (sp_base M k v).1 = 1) ∧ ((sp_base M k v).1 ≠ 0 → (sp_base M k v).2.2 = M) := by
  unfold sp_base
  (repeat' split) <;> refine ⟨?_, fun h => ?_⟩ <;> first | rfl | omega | exact absurd rfl h | (simp only []; omega)
theorem z_moves (M : MS) (f d : Int) : ((sp_moves M f d).1 = 0 ∨ (sp_moves M f d).1 = 1 ∨ (sp_moves M f d).1 = 2) ∧ ((sp_moves M f d).1 ≠ 0 → (sp_moves M f d).2.2 = M) := by
  unfold sp_moves
  (repeat' split) <;> refine ⟨?_, fun h => ?_⟩ <;> first | rfl | omega | exact absurd rfl h | (simp only []; omega)
theorem z_prepaid (M : MS) (f a v : Int) : ((sp_prepaid M f a v).1 = 0 ∨ (sp_prepaid M f a v).1 = 1) ∧ ((sp_prepaid M f a v).1 ≠ 0 → (sp_prepaid M f a v).2.2 = M) := by
  unfold sp_prepaid
  (repeat' split) <;> refine ⟨?_, fun h => ?_⟩ <;> first | rfl | omega | exact absurd rfl h | (simp only []; omega)
theorem z_run (M : MS) (a : Int) : ((sp_run M a).1 = 0 ∨ (sp_run M a).1 = 1 ∨ (sp_run M a).1 = 2) ∧ ((sp_run M a).1 ≠ 0 → (sp_run M a).2.2 = M) := by
  unfold sp_run
  (repeat' split) <;> refine ⟨?_, fun h => ?_⟩ <;> first | rfl | omega | exact absurd rfl h | (simp only []; omega)
theorem z_use (M : MS) (f a : Int) : ((sp_useR M f a).1 = 0 ∨ (sp_useR M f a).1 = 1) ∧ ((sp_useR M f a).1 ≠ 0 → (sp_useR M f a).2.2 = M) := by
  unfold sp_useR
  (repeat' split) <;> refine ⟨?_, fun h => ?_⟩ <;> first | rfl | omega | exact absurd rfl h | (simp only []; omega)
theorem z_barred (M : MS) (f k a : Int) : ((sp_barredR M f k a).1 = 0 ∨ (sp_barredR M f k a).1 = 1) ∧ ((sp_barredR M f k a).1 ≠ 0 → (sp_barredR M f k a).2.2 = M) := by
  unfold sp_barredR
  (repeat' split) <;> refine ⟨?_, fun h => ?_⟩ <;> first | rfl | omega | exact absurd rfl h | (simp only []; omega)
theorem z_line (M : MS) (f k a w : Int) : ((sp_lineR M f k a w).1 = 0 ∨ (sp_lineR M f k a w).1 = 1 ∨ (sp_lineR M f k a w).1 = 2) ∧ ((sp_lineR M f k a w).1 ≠ 0 → (sp_lineR M f k a w).2.2 = M) := by
  have q := sp_has_r M 1 f a
  unfold sp_lineR
  (repeat' split) <;> refine ⟨?_, fun h => ?_⟩ <;> first | rfl | omega | exact absurd rfl h | (simp only []; omega)
theorem z_share (M : MS) (f a : Int) : ((sp_shareR M f a).1 = 0 ∨ (sp_shareR M f a).1 = 1 ∨ (sp_shareR M f a).1 = 2) ∧ ((sp_shareR M f a).1 ≠ 0 → (sp_shareR M f a).2.2 = M) := by
  have q := sp_has_r M 1 f a
  unfold sp_shareR
  (repeat' split) <;> refine ⟨?_, fun h => ?_⟩ <;> first | rfl | omega | exact absurd rfl h | (simp only []; omega)
theorem z_part (M : MS) (f w a : Int) : ((sp_partR M f w a).1 = 0 ∨ (sp_partR M f w a).1 = 1 ∨ (sp_partR M f w a).1 = 2) ∧ ((sp_partR M f w a).1 ≠ 0 → (sp_partR M f w a).2.2 = M) := by
  have q := sp_has_r M 1 f a
  unfold sp_partR
  (repeat' split) <;> refine ⟨?_, fun h => ?_⟩ <;> first | rfl | omega | exact absurd rfl h | (simp only []; omega)
theorem z_balance (M : MS) (f a : Int) : ((sp_balance M f a).1 = 0 ∨ (sp_balance M f a).1 = 1 ∨ (sp_balance M f a).1 = 2) ∧ ((sp_balance M f a).1 ≠ 0 → (sp_balance M f a).2.2 = M) := by
  have q := sp_has_r M 1 f a
  unfold sp_balance
  (repeat' split) <;> refine ⟨?_, fun h => ?_⟩ <;> first | rfl | omega | exact absurd rfl h | (simp only []; omega)
theorem z_difference (M : MS) (f a : Int) : ((sp_diff M f a).1 = 0 ∨ (sp_diff M f a).1 = 1 ∨ (sp_diff M f a).1 = 2) ∧ ((sp_diff M f a).1 ≠ 0 → (sp_diff M f a).2.2 = M) := by
  have q := sp_has_r M 1 f a
  unfold sp_diff
  (repeat' split) <;> refine ⟨?_, fun h => ?_⟩ <;> first | rfl | omega | exact absurd rfl h | (simp only []; omega)
theorem z_edition (M : MS) (a : Int) : ((sp_edition M a).1 = 0 ∨ (sp_edition M a).1 = 1) ∧ ((sp_edition M a).1 ≠ 0 → (sp_edition M a).2.2 = M) := by
  unfold sp_edition
  (repeat' split) <;> refine ⟨?_, fun h => ?_⟩ <;> first | rfl | omega | exact absurd rfl h | (simp only []; omega)
theorem zs_use (M : MS) (f a : Int) : (sp_useR M f a).2.2 = M := by unfold sp_useR; (repeat' split) <;> rfl
theorem zs_barred (M : MS) (f k a : Int) : (sp_barredR M f k a).2.2 = M := by unfold sp_barredR; (repeat' split) <;> rfl
theorem zs_line (M : MS) (f k a w : Int) : (sp_lineR M f k a w).2.2 = M := by unfold sp_lineR; (repeat' split) <;> rfl
theorem zs_share (M : MS) (f a : Int) : (sp_shareR M f a).2.2 = M := by unfold sp_shareR; (repeat' split) <;> rfl
theorem zs_part (M : MS) (f w a : Int) : (sp_partR M f w a).2.2 = M := by unfold sp_partR; (repeat' split) <;> rfl
theorem zs_balance (M : MS) (f a : Int) : (sp_balance M f a).2.2 = M := by unfold sp_balance; (repeat' split) <;> rfl
theorem zs_difference (M : MS) (f a : Int) : (sp_diff M f a).2.2 = M := by unfold sp_diff; (repeat' split) <;> rfl
theorem zs_edition (M : MS) (a : Int) : (sp_edition M a).2.2 = M := by unfold sp_edition; (repeat' split) <;> rfl
def w32 (z : Int) : Int := (Int32.ofInt z).toInt
theorem w32_r (z : Int) : -2147483648 ≤ w32 z ∧ w32 z < 2147483648 := by have a := Int32.le_toInt (Int32.ofInt z); have b := Int32.toInt_lt (Int32.ofInt z); unfold w32; omega
theorem w32_v (z : Int) : Int32.ofInt z = Int32.ofInt (w32 z) := (Int32.ofInt_toInt (Int32.ofInt z)).symm
def w64 (z : Int) : Int := (Int64.ofInt z).toInt
theorem w64_r (z : Int) : -9223372036854775808 ≤ w64 z ∧ w64 z < 9223372036854775808 := by have a := Int64.le_toInt (Int64.ofInt z); have b := Int64.toInt_lt (Int64.ofInt z); unfold w64; omega
theorem w64_v (z : Int) : Int64.ofInt z = Int64.ofInt (w64 z) := (Int64.ofInt_toInt (Int64.ofInt z)).symm
