/-! the invariants of the reference's fields are kept by every method (written by wip/whole/ri.py) -/
theorem RI.c {M M' : MS} (hI : RI M) (h : ∀ k : Nat, k ≠ 0 → k < 26 → M' k = M k) : RI M' := by
  have e1 := h 1 (by decide) (by decide)
  have e2 := h 2 (by decide) (by decide)
  have e3 := h 3 (by decide) (by decide)
  have e4 := h 4 (by decide) (by decide)
  have e5 := h 5 (by decide) (by decide)
  have e6 := h 6 (by decide) (by decide)
  have e7 := h 7 (by decide) (by decide)
  have e8 := h 8 (by decide) (by decide)
  have e9 := h 9 (by decide) (by decide)
  have e10 := h 10 (by decide) (by decide)
  have e11 := h 11 (by decide) (by decide)
  have e12 := h 12 (by decide) (by decide)
  have e13 := h 13 (by decide) (by decide)
  have e14 := h 14 (by decide) (by decide)
  have e15 := h 15 (by decide) (by decide)
  have e16 := h 16 (by decide) (by decide)
  have e17 := h 17 (by decide) (by decide)
  have e18 := h 18 (by decide) (by decide)
  have e19 := h 19 (by decide) (by decide)
  have e20 := h 20 (by decide) (by decide)
  have e21 := h 21 (by decide) (by decide)
  have e22 := h 22 (by decide) (by decide)
  have e23 := h 23 (by decide) (by decide)
  have e24 := h 24 (by decide) (by decide)
  unfold RI
  rw [e1, e2, e3, e4, e5, e6, e7, e8, e9, e10, e11, e12, e13, e14, e15, e16, e17, e18, e19, e20, e21, e22, e23, e24]
  exact hI
theorem RI.flat {M : MS} (hI : RI M) {a r : Int} (ha : 1 ≤ a ∧ a ≤ 1000) (hr : 0 ≤ r ∧ r ≤ 99) (hn : M 1 0 < 20) : RI (upM (upM (upM (upM M 2 (M 1 0) a) 3 (M 1 0) r) 4 (M 1 0) 1) 1 0 (M 1 0 + 1)) := by
  have q1 := hI.hfl
  have q7 := hI.hme
  refine ⟨?_, fun i h0 h1 => ?_, fun i h0 h1 => ?_, fun i h0 h1 => ?_, fun i h0 h1 => ?_, hI.hsi, hI.hme, hI.hfo, hI.hab, hI.hte, hI.hrd, hI.hda, hI.hva, hI.hgo, hI.hrn, hI.hmo, hI.hcs, hI.hbs, hI.hed, hI.hth, hI.htb, hI.hbp, fun i h0 h1 => ?_, fun i k h0 h1 h2 h3 => ?_, hI.hs0, hI.hgv, fun i h0 h1 => ?_, hI.hzz, hI.hr0, fun i k h0 h1 h2 h3 => ?_, fun i k h0 h1 h2 h3 => ?_, hI.hd0⟩
  · simp only [upM, upI, Nat.reduceEqDiff, ↓reduceIte] at *
    omega
  · simp only [upM, upI, Nat.reduceEqDiff, ↓reduceIte] at *
    have := hI.har i h0 h1
    (repeat' split) <;> omega
  · simp only [upM, upI, Nat.reduceEqDiff, ↓reduceIte] at *
    split
    · omega
    · exact hI.ha1 i h0 (by omega)
  · simp only [upM, upI, Nat.reduceEqDiff, ↓reduceIte] at *
    have := hI.hrk i h0 h1
    (repeat' split) <;> omega
  · simp only [upM, upI, Nat.reduceEqDiff, ↓reduceIte] at *
    split
    · omega
    · exact hI.hlv i h0 (by omega)
  · simp only [upM, upI, Nat.reduceEqDiff, ↓reduceIte] at *
    have := hI.hf8 i h0 h1
    omega
  · simp only [upM, upI, Nat.reduceEqDiff, ↓reduceIte] at *
    split at h3
    · omega
    · exact hI.hsm i k h0 (by omega) h2 h3
  · simp only [upM, upI, Nat.reduceEqDiff, ↓reduceIte] at *
    have := hI.ht1 i h0 h1
    omega
  · simp only [upM, upI, Nat.reduceEqDiff, ↓reduceIte] at *
    exact hI.hl0 i k (by omega) h1 h2 h3
  · simp only [upM, upI, Nat.reduceEqDiff, ↓reduceIte] at *
    exact hI.hp0 i k (by omega) h1 h2 h3
theorem RI.meter {M : MS} (hI : RI M) {f k0 a b t : Int} (hf : 0 ≤ f ∧ f < M 1 0) (hk : 0 ≤ k0 ∧ k0 ≤ 3) (ha : 1 ≤ a ∧ a ≤ 1000) (hb : 1 ≤ b ∧ b ≤ 1000) (ht : 0 ≤ t ∧ t ≤ 3649) (hn : M 7 0 < 60) : RI (upM (upM (upM (upM (upM (upM M 8 (M 7 0) f) 9 (M 7 0) k0) 10 (M 7 0) a) 11 (M 7 0) b) 12 (M 7 0) t) 7 0 (M 7 0 + 1)) := by
  have q1 := hI.hfl
  have q7 := hI.hme
  refine ⟨hI.hfl, hI.har, hI.ha1, hI.hrk, hI.hlv, hI.hsi, ?_, fun i h0 h1 => ?_, fun i h0 h1 => ?_, fun i h0 h1 => ?_, fun i h0 h1 => ?_, hI.hda, hI.hva, hI.hgo, hI.hrn, fun i k h0 h1 h2 h3 => ?_, hI.hcs, hI.hbs, hI.hed, hI.hth, hI.htb, hI.hbp, fun i h0 h1 => ?_, hI.hsm, hI.hs0, fun i k h0 h1 h2 h3 h4 => ?_, hI.ht1, hI.hzz, fun i h0 h1 => ?_, hI.hl0, hI.hp0, fun i k h0 h1 h2 h3 => ?_⟩
  · simp only [upM, upI, Nat.reduceEqDiff, ↓reduceIte] at *
    omega
  · simp only [upM, upI, Nat.reduceEqDiff, ↓reduceIte] at *
    have := hI.hfo i h0 h1
    (repeat' split) <;> omega
  · simp only [upM, upI, Nat.reduceEqDiff, ↓reduceIte] at *
    by_cases e : i = M 7 0
    · simp only [e, ↓reduceIte]; omega
    · have := hI.hab i h0 (by omega)
      simp only [e, ↓reduceIte]; omega
  · simp only [upM, upI, Nat.reduceEqDiff, ↓reduceIte] at *
    have := hI.hte i h0 h1
    (repeat' split) <;> omega
  · simp only [upM, upI, Nat.reduceEqDiff, ↓reduceIte] at *
    by_cases e : i = M 7 0
    · have := hI.hr0 i (by omega) (by omega); omega
    · exact hI.hrd i h0 (by omega)
  · simp only [upM, upI, Nat.reduceEqDiff, ↓reduceIte] at *
    by_cases e : i = M 7 0
    · have := hI.hr0 i (by omega) (by omega); omega
    · exact hI.hmo i k h0 (by omega) h2 h3
  · simp only [upM, upI, Nat.reduceEqDiff, ↓reduceIte] at *
    split
    · omega
    · exact hI.hf8 i h0 (by omega)
  · simp only [upM, upI, Nat.reduceEqDiff, ↓reduceIte] at *
    by_cases e : i = M 7 0
    · have := hI.hr0 i (by omega) (by omega); omega
    · exact hI.hgv i k h0 (by omega) h2 h3 h4
  · simp only [upM, upI, Nat.reduceEqDiff, ↓reduceIte] at *
    exact hI.hr0 i (by omega) h1
  · simp only [upM, upI, Nat.reduceEqDiff, ↓reduceIte] at *
    exact hI.hd0 i k (by omega) h1 h2 h3
theorem RI.moves {M : MS} (hI : RI M) {f d : Int} (hf : 0 ≤ f ∧ f < M 1 0) (hd : 0 ≤ d ∧ d ≤ 3649) (hl : M 5 (12 * f + M 4 f - 1) < d) (hn : M 4 f < 12) : RI (upM (upM M 5 (12 * f + M 4 f) d) 4 f (M 4 f + 1)) := by
  have q1 := hI.hfl
  have q7 := hI.hme
  have q4 := hI.hlv f hf.1 hf.2
  refine ⟨hI.hfl, hI.har, hI.ha1, hI.hrk, fun i h0 h1 => ?_, fun i h0 h1 => ?_, hI.hme, hI.hfo, hI.hab, hI.hte, hI.hrd, hI.hda, hI.hva, hI.hgo, hI.hrn, hI.hmo, hI.hcs, hI.hbs, hI.hed, hI.hth, hI.htb, hI.hbp, hI.hf8, fun i k h0 h1 h2 h3 => ?_, fun i h0 h1 => ?_, hI.hgv, hI.ht1, hI.hzz, hI.hr0, fun i k h0 h1 h2 h3 => ?_, hI.hp0, hI.hd0⟩
  · simp only [upM, upI, Nat.reduceEqDiff, ↓reduceIte] at *
    have := hI.hlv i h0 h1
    split
    · subst i; omega
    · omega
  · simp only [upM, upI, Nat.reduceEqDiff, ↓reduceIte] at *
    have := hI.hsi i h0 h1
    (repeat' split) <;> omega
  · simp only [upM, upI, Nat.reduceEqDiff, ↓reduceIte] at *
    have q5 := hI.hlv i h0 h1
    by_cases e : i = f
    · subst e
      simp only [↓reduceIte] at h3
      rw [if_neg (by omega)]
      by_cases e2 : k + 1 = M 4 i
      · rw [if_pos (by omega), show 12 * i + k = 12 * i + M 4 i - 1 by omega]; exact hl
      · rw [if_neg (by omega)]; exact hI.hsm i k h0 h1 h2 (by omega)
    · simp only [e, ↓reduceIte] at h3
      rw [if_neg (by omega), if_neg (by omega)]
      exact hI.hsm i k h0 h1 h2 h3
  · simp only [upM, upI, Nat.reduceEqDiff, ↓reduceIte] at *
    have := hI.hs0 i h0 h1
    rw [if_neg (by omega)]
    exact this
  · simp only [upM, upI, Nat.reduceEqDiff, ↓reduceIte] at *
    rw [if_neg (by omega)]
    exact hI.hl0 i k h0 h1 h2 h3
theorem RI.put {M : MS} (hI : RI M) {f d v w b : Int} (hf : 0 ≤ f ∧ f < M 7 0) (hd : 0 ≤ d ∧ d ≤ 3649) (hv : 0 ≤ v ∧ v ≤ 10000000) (hw : 0 ≤ w ∧ w ≤ 10000000) (hl : M 13 f = 0 ∨ M 14 (40 * f + M 13 f - 1) < d ∧ M 16 (40 * f + M 13 f - 1) ≤ v) (hn : M 13 f < 40) (hb : (b = 0 ∧ w = v) ∨ b = 1) : RI (upM (upM (upM (upM (upM M 14 (40 * f + M 13 f) d) 15 (40 * f + M 13 f) v) 16 (40 * f + M 13 f) w) 17 (40 * f + M 13 f) b) 13 f (M 13 f + 1)) := by
  have q1 := hI.hfl
  have q7 := hI.hme
  have q4 := hI.hrd f hf.1 hf.2
  refine ⟨hI.hfl, hI.har, hI.ha1, hI.hrk, hI.hlv, hI.hsi, hI.hme, hI.hfo, hI.hab, hI.hte, fun i h0 h1 => ?_, fun i h0 h1 => ?_, fun i h0 h1 => ?_, fun i h0 h1 => ?_, fun i h0 h1 => ?_, fun i k h0 h1 h2 h3 => ?_, hI.hcs, hI.hbs, hI.hed, hI.hth, hI.htb, hI.hbp, hI.hf8, hI.hsm, hI.hs0, fun i k h0 h1 h2 h3 h4 => ?_, hI.ht1, hI.hzz, fun i h0 h1 => ?_, hI.hl0, hI.hp0, fun i k h0 h1 h2 h3 => ?_⟩
  · simp only [upM, upI, Nat.reduceEqDiff, ↓reduceIte] at *
    have := hI.hrd i h0 h1
    split
    · subst i; omega
    · omega
  · simp only [upM, upI, Nat.reduceEqDiff, ↓reduceIte] at *
    have := hI.hda i h0 h1
    (repeat' split) <;> omega
  · simp only [upM, upI, Nat.reduceEqDiff, ↓reduceIte] at *
    have := hI.hva i h0 h1
    (repeat' split) <;> omega
  · simp only [upM, upI, Nat.reduceEqDiff, ↓reduceIte] at *
    have := hI.hgo i h0 h1
    (repeat' split) <;> omega
  · simp only [upM, upI, Nat.reduceEqDiff, ↓reduceIte] at *
    have := hI.hrn i h0 h1
    (repeat' split) <;> omega
  · simp only [upM, upI, Nat.reduceEqDiff, ↓reduceIte] at *
    have q5 := hI.hrd i h0 h1
    by_cases e : i = f
    · subst e
      simp only [↓reduceIte] at h3
      rw [if_neg (show ¬ 40 * i + k = 40 * i + M 13 i by omega), if_neg (show ¬ 40 * i + k = 40 * i + M 13 i by omega)]
      by_cases e2 : k + 1 = M 13 i
      · rw [if_pos (by omega), if_pos (by omega), show 40 * i + k = 40 * i + M 13 i - 1 by omega]; omega
      · rw [if_neg (by omega), if_neg (by omega)]; exact hI.hmo i k h0 h1 h2 (by omega)
    · simp only [e, ↓reduceIte] at h3
      rw [if_neg (by omega), if_neg (by omega), if_neg (by omega), if_neg (by omega)]
      exact hI.hmo i k h0 h1 h2 h3
  · simp only [upM, upI, Nat.reduceEqDiff, ↓reduceIte] at *
    have q5 := hI.hrd i h0 h1
    by_cases e : 40 * i + k = 40 * f + M 13 f
    · rw [if_pos e] at h4
      rw [if_pos e, if_pos e]; omega
    · rw [if_neg e] at h4
      rw [if_neg e, if_neg e]
      refine hI.hgv i k h0 h1 h2 ?_ h4
      by_cases e2 : i = f
      · subst e2; simp only [↓reduceIte] at h3; omega
      · simp only [e2, ↓reduceIte] at h3; exact h3
  · simp only [upM, upI, Nat.reduceEqDiff, ↓reduceIte] at *
    rw [if_neg (by omega)]
    exact hI.hr0 i h0 h1
  · simp only [upM, upI, Nat.reduceEqDiff, ↓reduceIte] at *
    rw [if_neg (by omega), if_neg (by omega)]
    exact hI.hd0 i k h0 h1 h2 h3
theorem RI.correct {M : MS} (hI : RI M) {f v j : Int} (hf : 0 ≤ f ∧ f < M 7 0) (hv : 0 ≤ v ∧ v ≤ 10000000) (hj : 0 ≤ j ∧ j < M 13 f) (hp : j = 0 ∨ M 16 (40 * f + j - 1) ≤ v) (hs : ¬ M 17 (40 * f + j) = 0 ∨ j = M 13 f - 1 ∨ v ≤ M 15 (40 * f + j + 1)) : RI (upM (upM M 15 (40 * f + j) v) 16 (40 * f + j) (if M 17 (40 * f + j) = 0 then v else M 16 (40 * f + j))) := by
  have q1 := hI.hfl
  have q7 := hI.hme
  have q4 := hI.hrd f hf.1 hf.2
  refine ⟨hI.hfl, hI.har, hI.ha1, hI.hrk, hI.hlv, hI.hsi, hI.hme, hI.hfo, hI.hab, hI.hte, hI.hrd, hI.hda, fun i h0 h1 => ?_, fun i h0 h1 => ?_, hI.hrn, fun i k h0 h1 h2 h3 => ?_, hI.hcs, hI.hbs, hI.hed, hI.hth, hI.htb, hI.hbp, hI.hf8, hI.hsm, hI.hs0, fun i k h0 h1 h2 h3 h4 => ?_, hI.ht1, hI.hzz, hI.hr0, hI.hl0, hI.hp0, fun i k h0 h1 h2 h3 => ?_⟩
  · simp only [upM, upI, Nat.reduceEqDiff, ↓reduceIte] at *
    have := hI.hva i h0 h1
    (repeat' split) <;> omega
  · simp only [upM, upI, Nat.reduceEqDiff, ↓reduceIte] at *
    have := hI.hgo i h0 h1
    have := hI.hgo (40 * f + j) (by omega) (by omega)
    (repeat' split) <;> omega
  · simp only [upM, upI, Nat.reduceEqDiff, ↓reduceIte] at *
    have q5 := hI.hrd i h0 h1
    have q6 := hI.hmo i k h0 h1 h2 h3
    by_cases e : i = f
    · subst e
      refine ⟨q6.1, ?_⟩
      by_cases e2 : k = j
      · subst e2
        rw [if_neg (show ¬ 40 * i + 1 + k = 40 * i + k by omega), if_pos rfl]
        split
        · rw [show 40 * i + 1 + k = 40 * i + k + 1 by omega]; omega
        · exact q6.2
      · rw [if_neg (show ¬ 40 * i + k = 40 * i + j by omega)]
        by_cases e3 : k + 1 = j
        · rw [if_pos (by omega), show 40 * i + k = 40 * i + j - 1 by omega]; omega
        · rw [if_neg (by omega)]; exact q6.2
    · rw [if_neg (by omega), if_neg (by omega)]
      exact q6
  · simp only [upM, upI, Nat.reduceEqDiff, ↓reduceIte] at *
    have q5 := hI.hrd i h0 h1
    have q6 := hI.hgv i k h0 h1 h2 h3 h4
    by_cases e : 40 * i + k = 40 * f + j
    · rw [e] at h4
      rw [if_pos e, if_pos e, if_pos h4]
    · rw [if_neg e, if_neg e]; exact q6
  · simp only [upM, upI, Nat.reduceEqDiff, ↓reduceIte] at *
    rw [if_neg (by omega)]
    exact hI.hd0 i k h0 h1 h2 h3
theorem RI.tested {M : MS} (hI : RI M) {f d : Int} (hf : 0 ≤ f ∧ f < M 7 0) (hd : 0 ≤ d ∧ d ≤ 3649) : RI (upM M 12 f d) := by
  have q1 := hI.hfl
  have q7 := hI.hme
  refine ⟨hI.hfl, hI.har, hI.ha1, hI.hrk, hI.hlv, hI.hsi, hI.hme, hI.hfo, hI.hab, fun i h0 h1 => ?_, hI.hrd, hI.hda, hI.hva, hI.hgo, hI.hrn, hI.hmo, hI.hcs, hI.hbs, hI.hed, hI.hth, hI.htb, hI.hbp, hI.hf8, hI.hsm, hI.hs0, hI.hgv, hI.ht1, hI.hzz, hI.hr0, hI.hl0, hI.hp0, hI.hd0⟩
  · simp only [upM, upI, Nat.reduceEqDiff, ↓reduceIte] at *
    have := hI.hte i h0 h1
    (repeat' split) <;> omega
theorem RI.cost {M : MS} (hI : RI M) {p v : Int} (hv : 0 ≤ v ∧ v ≤ 1000000000) : RI (upM M 18 p v) := by
  have q1 := hI.hfl
  have q7 := hI.hme
  refine ⟨hI.hfl, hI.har, hI.ha1, hI.hrk, hI.hlv, hI.hsi, hI.hme, hI.hfo, hI.hab, hI.hte, hI.hrd, hI.hda, hI.hva, hI.hgo, hI.hrn, hI.hmo, fun i h0 h1 => ?_, hI.hbs, hI.hed, hI.hth, hI.htb, hI.hbp, hI.hf8, hI.hsm, hI.hs0, hI.hgv, hI.ht1, hI.hzz, hI.hr0, hI.hl0, hI.hp0, hI.hd0⟩
  · simp only [upM, upI, Nat.reduceEqDiff, ↓reduceIte] at *
    have := hI.hcs i h0 h1
    (repeat' split) <;> omega
theorem RI.base {M : MS} (hI : RI M) {p v : Int} (hv : 0 ≤ v ∧ v ≤ 100) : RI (upM M 19 p v) := by
  have q1 := hI.hfl
  have q7 := hI.hme
  refine ⟨hI.hfl, hI.har, hI.ha1, hI.hrk, hI.hlv, hI.hsi, hI.hme, hI.hfo, hI.hab, hI.hte, hI.hrd, hI.hda, hI.hva, hI.hgo, hI.hrn, hI.hmo, hI.hcs, fun i h0 h1 => ?_, hI.hed, hI.hth, hI.htb, hI.hbp, hI.hf8, hI.hsm, hI.hs0, hI.hgv, hI.ht1, hI.hzz, hI.hr0, hI.hl0, hI.hp0, hI.hd0⟩
  · simp only [upM, upI, Nat.reduceEqDiff, ↓reduceIte] at *
    have := hI.hbs i h0 h1
    (repeat' split) <;> omega
theorem RI.prepaid {M : MS} (hI : RI M) {f a v : Int} (hf : 0 ≤ f ∧ f < M 1 0) (ha : 0 ≤ a ∧ a ≤ 9) : RI (upM M 6 (10 * f + a) v) := by
  have q1 := hI.hfl
  have q7 := hI.hme
  refine ⟨hI.hfl, hI.har, hI.ha1, hI.hrk, hI.hlv, hI.hsi, hI.hme, hI.hfo, hI.hab, hI.hte, hI.hrd, hI.hda, hI.hva, hI.hgo, hI.hrn, hI.hmo, hI.hcs, hI.hbs, hI.hed, hI.hth, hI.htb, hI.hbp, hI.hf8, hI.hsm, hI.hs0, hI.hgv, hI.ht1, hI.hzz, hI.hr0, hI.hl0, fun i k h0 h1 h2 h3 => ?_, hI.hd0⟩
  · simp only [upM, upI, Nat.reduceEqDiff, ↓reduceIte] at *
    rw [if_neg (by omega)]
    exact hI.hp0 i k h0 h1 h2 h3
theorem RI.run0 {M : MS} (hI : RI M) {a : Int} (ry : 0 ≤ a ∧ a ≤ 9) (he : M 20 a < 50) : RI (sp_run0 M a) := by
  have q1 := hI.hfl
  have q7 := hI.hme
  refine ⟨hI.hfl, hI.har, hI.ha1, hI.hrk, hI.hlv, hI.hsi, hI.hme, hI.hfo, hI.hab, hI.hte, hI.hrd, hI.hda, hI.hva, hI.hgo, hI.hrn, hI.hmo, hI.hcs, hI.hbs, fun i h0 h1 => ?_, fun i h0 h1 => ?_, fun i h0 h1 => ?_, hI.hbp, hI.hf8, hI.hsm, hI.hs0, hI.hgv, fun i h0 h1 => ?_, fun y i k h0 h1 h2 h3 h4 h5 => ?_, hI.hr0, hI.hl0, hI.hp0, hI.hd0⟩
  · simp only [sp_run0, upM, upI, setO, Nat.reduceEqDiff, ↓reduceIte] at *
    have := hI.hed i h0 h1
    have := hI.hed a (by omega) (by omega)
    split
    · omega
    · exact hI.hed i h0 h1
  · simp only [sp_run0, upM, upI, setO, Nat.reduceEqDiff, ↓reduceIte] at *
    have := hI.hth i h0 h1
    have := hI.hth a (by omega) (by omega)
    split
    · omega
    · exact hI.hth i h0 h1
  · simp only [sp_run0, upM, upI, setO, Nat.reduceEqDiff, ↓reduceIte] at *
    have := hI.htb i h0 h1
    have := hI.hth a (by omega) (by omega)
    (repeat' split) <;> omega
  · simp only [sp_run0, upM, upI, setO, Nat.reduceEqDiff, ↓reduceIte] at *
    have := hI.ht1 i h0 h1
    (repeat' split) <;> omega
  · simp only [sp_run0, upM, upI, setO, Nat.reduceEqDiff, ↓reduceIte] at *
    refine hI.hzz y i k h0 h1 ?_ h3 h4 h5
    have := hI.ht1 y h0 h1
    split at h2 <;> omega
theorem RI.kind {M : MS} (hI : RI M) {k0 a : Int} (ry : 0 ≤ a ∧ a ≤ 9) (hk : 0 ≤ k0 ∧ k0 ≤ 3) (h21 : M 21 a = M 1 0) (hn : 0 < M 1 0) : RI (sp_kind M k0 a) := by
  have q1 := hI.hfl
  have q7 := hI.hme
  have qf := sp_first_r (k := k0) (a := a) hI.hcs hI.hbs hk ry
  have hb : ∀ i : Nat, i < (M 1 0).toNat → 0 ≤ sp_gb M k0 a (i : Int) ∧ sp_gb M k0 a (i : Int) ≤ sp_first M k0 a + 1 := fun i hi => dl_r qf.1 (fun j hj => (hI.har (j : Int) (by omega) (by omega)).1) (by have := sumI_r (g := M 2) (a := 1) (b := 1000) (n := (M 1 0).toNat) (fun j hj => ⟨hI.ha1 (j : Int) (by omega) (by omega), (hI.har (j : Int) (by omega) (by omega)).2⟩); omega) hi
  have hu : ∀ i : Nat, i < (M 1 0).toNat → 0 ≤ sp_gu M k0 a (i : Int) ∧ sp_gu M k0 a (i : Int) ≤ M 18 (4 * a + k0) - sp_first M k0 a + 1 := fun i hi => dl_r (by omega) (fun j hj => (sp_num_r hI.hfl hI.har hI.hme hI.hrd hI.hda hI.hva hI.hgo hI.hmo hI.hab hI.hte hI.hfo ry (by omega)).1) (sp_num_s hI.hfl hI.har hI.ha1 hI.hme hI.hrd hI.hda hI.hva hI.hgo hI.hmo hI.hab hI.hte hI.hfo ry hn).1 hi
  refine ⟨hI.hfl, hI.har, hI.ha1, hI.hrk, hI.hlv, hI.hsi, hI.hme, hI.hfo, hI.hab, hI.hte, hI.hrd, hI.hda, hI.hva, hI.hgo, hI.hrn, hI.hmo, hI.hcs, hI.hbs, hI.hed, hI.hth, hI.htb, fun i h0 h1 => ?_, hI.hf8, hI.hsm, hI.hs0, hI.hgv, hI.ht1, fun y i k h0 h1 h2 h3 h4 h5 => ?_, hI.hr0, hI.hl0, hI.hp0, hI.hd0⟩
  · simp only [sp_kind, set4, Nat.reduceEqDiff, ↓reduceIte] at *
    have := hI.hbp i h0 h1
    refine ⟨?_, ?_⟩
    · split
      · have := hb ((i - 80 * a) / 4).toNat (by omega)
        rw [Int.toNat_of_nonneg (by omega)] at this; omega
      · exact this.1
    · split
      · have := hu ((i - 80 * a) / 4).toNat (by omega)
        rw [Int.toNat_of_nonneg (by omega)] at this; omega
      · exact this.2
  · simp only [sp_kind, set4, Nat.reduceEqDiff, ↓reduceIte] at *
    have := hI.hzz y i k h0 h1 h2 h3 h4 h5
    have := hI.ht1 y h0 h1
    have hne : ¬ (80 * a ≤ 80 * y + 4 * i + k ∧ 80 * y + 4 * i + k < 80 * a + 4 * (((M 1 0).toNat : Nat) : Int) ∧ (80 * y + 4 * i + k - 80 * a) % 4 = k0) := fun q => by
      have e : y = a := by omega
      subst e
      rw [h21] at h2
      omega
    rw [if_neg hne, if_neg hne]
    assumption
theorem RI.k_flat {M : MS} (hI : RI M) (a r : Int) : RI (sp_flat M a r).2.2 := by
  unfold sp_flat
  split
  · split
    · exact hI.flat (by omega) (by omega) (by omega)
    · exact hI
  · exact hI
theorem RI.k_meter {M : MS} (hI : RI M) (f k a b t : Int) : RI (sp_meter M f k a b t).2.2 := by
  unfold sp_meter
  split
  · split
    · exact hI.meter (by omega) (by omega) (by omega) (by omega) (by omega) (by omega)
    · exact hI
  · exact hI
theorem RI.k_moves {M : MS} (hI : RI M) (f d : Int) : RI (sp_moves M f d).2.2 := by
  unfold sp_moves
  split
  · split
    · exact hI.moves (by omega) (by omega) (by omega) (by omega)
    · exact hI
  · exact hI
theorem RI.k_put {M : MS} (hI : RI M) (f d v w b : Int) (hb : (b = 0 ∧ w = v) ∨ b = 1) : RI (sp_put M f d v w b).2.2 := by
  unfold sp_put
  split
  · split
    · exact hI.put (by omega) (by omega) (by omega) (by omega) (by omega) (by omega) hb
    · exact hI
  · exact hI
theorem RI.k_correct {M : MS} (hI : RI M) (f d v : Int) : RI (sp_correct M f d v).2.2 := by
  unfold sp_correct
  by_cases hf : 0 ≤ f ∧ f < M 7 0
  · rw [if_pos hf]
    have q := hI.hrd f hf.1 hf.2
    rcases sp_find_or M f d (M 13 f).toNat with z | ⟨z1, z2, z3⟩
    · rw [z]; unfold sp_cor; rw [if_neg (by omega)]; exact hI
    · generalize sp_find M f d (M 13 f).toNat = A at z1 z2 z3
      unfold sp_cor
      split
      · rename_i hc
        have e : A = 40 * f + (A - 40 * f) := by omega
        have := hI.correct (f := f) (v := v) (j := A - 40 * f) hf (by omega) (by omega) (by rw [← e]; omega) (by rw [← e]; omega)
        rw [← e] at this
        exact this
      · exact hI
  · rw [if_neg hf]; unfold sp_cor; rw [if_neg (by omega)]; exact hI
theorem RI.k_tested {M : MS} (hI : RI M) (f d : Int) : RI (sp_tested M f d).2.2 := by
  unfold sp_tested
  split
  · exact hI.tested (by omega) (by omega)
  · exact hI
theorem RI.k_cost {M : MS} (hI : RI M) (k a v : Int) : RI (sp_cost M k a v).2.2 := by
  unfold sp_cost
  split
  · exact hI.cost (by omega)
  · exact hI
theorem RI.k_base {M : MS} (hI : RI M) (k v : Int) : RI (sp_base M k v).2.2 := by
  unfold sp_base
  split
  · exact hI.base (by omega)
  · exact hI
theorem RI.k_prepaid {M : MS} (hI : RI M) (f a v : Int) : RI (sp_prepaid M f a v).2.2 := by
  unfold sp_prepaid
  split
  · exact hI.prepaid (by omega) (by omega)
  · exact hI
theorem kind_1 (M : MS) (k a : Int) : sp_kind M k a 1 = M 1 := rfl
theorem kind_21 (M : MS) (k a : Int) : sp_kind M k a 21 = M 21 := rfl
theorem RI.run4 {M : MS} (hI : RI M) {a : Int} (ry : 0 ≤ a ∧ a ≤ 9) (h21 : M 21 a = M 1 0) (hn : 0 < M 1 0) : RI (sp_run4 M a) :=
  (((hI.kind (k0 := 0) ry (by decide) h21 hn).kind (k0 := 1) ry (by decide) h21 hn).kind (k0 := 2) ry (by decide) h21 hn).kind (k0 := 3) ry (by decide) h21 hn
theorem run0_21 (M : MS) (a : Int) : sp_run0 M a 21 a = M 1 0 := by simp only [sp_run0, upM, upI, setO, Nat.reduceEqDiff, ↓reduceIte]
theorem RI.k_run {M : MS} (hI : RI M) (a : Int) : RI (sp_run M a).2.2 := by
  unfold sp_run
  split
  · split
    · exact (hI.run0 (by omega) (by omega)).run4 (by omega) (run0_21 M a) (by rename_i q; exact q.1)
    · exact hI
  · exact hI
theorem RI.new : RI sp_new := by
  refine ⟨by decide, fun i _ _ => by simp [sp_new, M00, upM, upI], fun i h0 h1 => absurd (show i < 0 from h1) (by omega), fun i _ _ => by simp [sp_new, M00, upM, upI], fun i h0 h1 => absurd (show i < 0 from h1) (by omega), fun i _ _ => by simp [sp_new, M00, upM, upI], by decide, fun i _ _ => by simp [sp_new, M00, upM, upI], fun i h0 h1 => absurd (show i < 0 from h1) (by omega), fun i _ _ => by simp [sp_new, M00, upM, upI], fun i h0 h1 => absurd (show i < 0 from h1) (by omega), fun i _ _ => by simp [sp_new, M00, upM, upI], fun i _ _ => by simp [sp_new, M00, upM, upI], fun i _ _ => by simp [sp_new, M00, upM, upI], fun i _ _ => Or.inl rfl, fun i k h0 h1 => absurd (show i < 0 from h1) (by omega), fun i _ _ => by simp [sp_new, M00, upM, upI], fun i h0 h1 => ?_, fun i _ _ => by simp [sp_new, M00, upM, upI], fun i _ _ => by simp [sp_new, M00, upM, upI], fun i _ _ => by simp [sp_new, M00, upM, upI], fun i _ _ => by simp [sp_new, M00, upM, upI], fun i h0 h1 => absurd (show i < 0 from h1) (by omega), fun i k h0 h1 => absurd (show i < 0 from h1) (by omega), fun i _ _ => rfl, fun i k h0 h1 => absurd (show i < 0 from h1) (by omega), fun i _ _ => by simp [sp_new, M00, upM, upI], fun y i k _ _ _ _ _ _ => ⟨rfl, rfl⟩, fun i _ _ => rfl, fun i k _ _ _ _ => rfl, fun i k _ _ _ _ => rfl, fun i k _ _ _ _ => ⟨rfl, rfl⟩⟩
  simp only [sp_new, M00, upM, upI, ↓reduceIte]
  (repeat' split) <;> omega
