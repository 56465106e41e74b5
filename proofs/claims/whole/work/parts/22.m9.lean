/-! shifts and masks of longs; portion of the reference (written by wip/whole/mm9.py) -/
theorem i64_sh : ∀ k : Fin 32, (((Int32.ofInt ((k.val : Nat) : Int)).toInt64 &&& 63).toBitVec.smod 64).toNat = k.val := by decide +kernel
theorem i64_shr {a : Int} {k : Nat} (ha : 0 ≤ a ∧ a < 9223372036854775808) (hk : k < 32) : (Int64.ofInt a) >>> ((Int32.ofInt (k : Int)).toInt64 &&& 63) = Int64.ofInt (a / 2 ^ k) := by
  apply Int64.toInt_inj.mp
  have hs := i64_sh ⟨k, hk⟩
  have h2 : 0 ≤ a / 2 ^ k ∧ a / 2 ^ k ≤ a := ⟨Int.ediv_nonneg ha.1 (Int.le_of_lt (Int.pow_pos (by decide))), Int.ediv_le_self _ ha.1⟩
  show ((Int64.ofInt a).toBitVec.sshiftRight (((Int32.ofInt (k : Int)).toInt64 &&& 63).toBitVec.smod 64).toNat).toInt = _
  rw [hs, BitVec.toInt_sshiftRight, i64_toInt (by omega)]
  show (Int64.ofInt a).toInt >>> k = _
  rw [i64_toInt (by omega), Int.shiftRight_eq_div_pow]
  rfl
theorem i64_nat {n : Nat} (h : n < 9223372036854775808) : (Int64.ofInt (n : Int)).toBitVec.toNat = n := by
  rw [Int64.ofInt_eq_ofNat]
  show (BitVec.ofNat 64 n).toNat = n
  rw [BitVec.toNat_ofNat]
  exact Nat.mod_eq_of_lt (by omega)
theorem i64_and {a : Int} {m : Int} (j : Nat) (ha : 0 ≤ a ∧ a < 9223372036854775808) (hm : (Int64.ofInt m).toBitVec.toNat = 2 ^ j - 1) : Int64.ofInt a &&& Int64.ofInt m = Int64.ofInt (a % 2 ^ j) := by
  obtain ⟨n, rfl⟩ : ∃ n : Nat, a = (n : Int) := ⟨a.toNat, by omega⟩
  have e : ((n : Int) % 2 ^ j) = ((n % 2 ^ j : Nat) : Int) := by rw [Int.natCast_emod]; first | rfl | (congr 1)
  rw [e]
  apply Int64.toBitVec_inj.mp
  apply BitVec.eq_of_toNat_eq
  have h1 : n % 2 ^ j ≤ n := Nat.mod_le _ _
  rw [Int64.toBitVec_and, BitVec.toNat_and, hm, i64_nat (by omega), i64_nat (by omega), Nat.and_two_pow_sub_one_eq_mod]
section BIT
variable {p : Program} {l : Launch} {e : Env} {R : Room} {s : State} {m : MethodId} {args : Array Value} {below : List Frame} {meth : Method} {c : Code} {nL : Nat} {X : am_X} {Q : State → Prop}
variable {cc : ByteArray} {y : MethodName} {ret : Option FieldType} {et : List (Nat × Nat × Nat × Nat)} {h : am_H} {nx cells slots pc pc' : Nat} {L : List (Option Value)} {st : List Value}
theorem v_lshr (F : am_Fx p s m args meth c y cc nL ret et X) {a z : Int} (k : Nat) (d : decode cc pc = .ok (.lshr, 1)) (hp : pc + 1 = pc') (ra : 0 ≤ a ∧ a < 9223372036854775808) (hk : k < 32) (hz : z = (k : Int)) (kk : V p l e R s m args below meth c nL X Q h nx cells slots pc' L (lV (a / 2 ^ k) :: st)) : V p l e R s m args below meth c nL X Q h nx cells slots pc L (iV z :: lV a :: st) := by
  subst hp hz
  intro H locs ls hR hL hl
  exact lv_lshr F.1 F.2.1 d (i64_shr ra hk) (kk H locs ls hR hL hl)
theorem v_land (F : am_Fx p s m args meth c y cc nL ret et X) {a b : Int} (j : Nat) (d : decode cc pc = .ok (.land, 1)) (hp : pc + 1 = pc') (ra : 0 ≤ a ∧ a < 9223372036854775808) (hm : (Int64.ofInt b).toBitVec.toNat = 2 ^ j - 1) (kk : V p l e R s m args below meth c nL X Q h nx cells slots pc' L (lV (a % 2 ^ j) :: st)) : V p l e R s m args below meth c nL X Q h nx cells slots pc L (lV b :: lV a :: st) := by
  subst hp
  intro H locs ls hR hL hl
  refine lv_land F.1 F.2.1 d ?_
  rw [i64_and j ra hm]
  exact kk H locs ls hR hL hl
end BIT
theorem po_bit (p : Int) (q : Nat) : p / 2 ^ q = 2 * (p / 2 ^ (q + 1)) + p / 2 ^ q % 2 := by
  have e : p / 2 ^ (q + 1) = p / 2 ^ q / 2 := by
    have h0 : (0 : Int) < 2 ^ q := Int.pow_pos (by decide)
    rw [Int.pow_succ, Int.ediv_ediv, if_neg (by omega)]
    omega
  rw [e]
  omega
theorem po_1 {S L P all rest : Int} (h : S * all + L = P * rest) : (S * 2 + 1) * all + (L - (all - L)) = 2 * P * rest := by grind
theorem po_0 {S L P all rest : Int} (h : S * all + L = P * rest) : (S * 2 + 0) * all + 2 * L = 2 * P * rest := by grind
theorem po_11 {S L P all rest : Int} (h : S * all + L = 2 * P * rest) : (S + 1) * all + (L - (all - rest)) = (2 * P + 1) * rest := by grind
theorem po_10 {S L P all rest : Int} (h : S * all + L = 2 * P * rest) : (S + 0) * all + (L + rest) = (2 * P + 1) * rest := by grind
theorem po_end {S L p n all : Int} (ha : 0 < all) (hn : 0 ≤ n) (h : S * all + L = p * (n.tmod all)) (hL : 0 ≤ L ∧ L < all) : n.tdiv all * p + S = p * n / all := by
  have h1 : n.tdiv all = n / all := Int.tdiv_eq_ediv_of_nonneg hn
  have h2 : n.tmod all = n % all := Int.tmod_eq_emod_of_nonneg hn
  have h3 : n = all * (n / all) + n % all := (Int.mul_ediv_add_emod n all).symm
  rw [h2] at h
  rw [h1]
  have h4 : p * n = L + (n / all * p + S) * all := by
    have : p * n = p * (all * (n / all) + n % all) := by rw [← h3]
    rw [this]
    grind
  rw [h4, Int.add_mul_ediv_right _ _ (by omega), Int.ediv_eq_zero_of_lt hL.1 hL.2]
  omega
set_option maxRecDepth 100000 in
set_option maxHeartbeats 4000000 in
theorem lp_M_portion {p : Program} {l : Launch} {e : Env} {s : State} {m : MethodId} {args : Array Value} {below : List Frame} {meth : Method} {c : Code} {X : am_X} {Q : State → Prop} {h : am_H} {nx : Nat} {p0 n0 al wh re : Int} (F : am_Fx p s m args meth c y_M_portion b_M_portion 17 (some .long) [] X) (rp : 0 ≤ p0 ∧ p0 < 2147483648) (ral : 0 < al ∧ al < 4611686018427387904) (rre : 0 ≤ re ∧ re < al) (hx : ∀ S Lf : Int, S * al + Lf = p0 * re → 0 ≤ Lf → Lf < al → V p l e ({ frames := 0, cells := 0, slots := 0, locals := 0 }) s m args below meth c 17 X Q h nx 0 0 167 [some (lV p0), none, some (lV n0), none, some (lV al), none, some (lV wh), none, some (lV re), none, some (lV S), none, some (lV Lf), none, some (iV ((0 : Int) - 1)), none, none] []) : ∀ r : Nat, r ≤ 31 → ∀ S Lf : Int, S * al + Lf = p0 / 2 ^ r * re → 0 ≤ Lf → Lf < al → V p l e ({ frames := 0, cells := 0, slots := 0, locals := 0 }) s m args below meth c 17 X Q h nx 0 0 24 [some (lV p0), none, some (lV n0), none, some (lV al), none, some (lV wh), none, some (lV re), none, some (lV S), none, some (lV Lf), none, some (iV ((r : Int) - 1)), none, none] [] := by
  intro r
  induction r with
  | zero =>
    intro hr S Lf h1 h2 h3
    rw [Int.pow_zero, Int.ediv_one] at h1
    refine v_iload (pc' := 26) F d_M_portion_24 rfl rfl ?_
    refine v_if_lt (tgt := 167) (pc' := 29) F d_M_portion_26 (by decide) rfl (by omega) (fun c26 => ?_) (fun c26 => ?_)
    · exact hx S Lf h1 h2 h3
    · exact absurd (show ((0 : Nat) : Int) - 1 < 0 by omega) c26
  | succ q ih =>
    intro hr S Lf h1 h2 h3
    have hb := po_bit p0 q
    have hq : 0 ≤ p0 / 2 ^ q ∧ p0 / 2 ^ q ≤ p0 := ⟨Int.ediv_nonneg rp.1 (Int.le_of_lt (Int.pow_pos (by decide))), Int.ediv_le_self _ rp.1⟩
    refine v_iload (pc' := 26) F d_M_portion_24 rfl rfl ?_
    refine v_if_lt (tgt := 167) (pc' := 29) F d_M_portion_26 (by decide) rfl (by omega) (fun c26 => ?_) (fun c26 => ?_)
    · exact absurd c26 (by omega)
    · refine v_lload (pc' := 31) F d_M_portion_29 rfl rfl ?_
      refine v_ldc2 (pc' := 34) (z := 2) F d_M_portion_31 rfl wx_835 (by decide) ?_
      refine v_lmul (pc' := 35) F d_M_portion_34 rfl ?_
      refine v_lstore_10 (pc' := 37) F d_M_portion_35 rfl rfl (by decide) ?_
      refine v_lload (pc' := 39) F d_M_portion_37 rfl rfl ?_
      refine v_lload (pc' := 41) F d_M_portion_39 rfl rfl ?_
      refine v_lload (pc' := 43) F d_M_portion_41 rfl rfl ?_
      refine v_lsub (pc' := 44) F d_M_portion_43 rfl ?_
      refine v_lc_lt (tgt := 52) (pc' := 48) F d_M_portion_44 d_M_portion_45 (by decide) rfl (by omega) (by omega) (fun c44 => ?_) (fun c44 => ?_)
      · refine v_iconst (pc' := 53) F d_M_portion_52 rfl ?_
        refine v_istore_15 (pc' := 55) F d_M_portion_53 rfl rfl (by decide) ?_
        refine v_iload (pc' := 57) F d_M_portion_55 rfl rfl ?_
        refine v_if_eq (tgt := 71) (pc' := 60) F d_M_portion_57 (by decide) rfl (by omega) (fun c57 => ?_) (fun c57 => by exfalso; omega)
        refine v_ldc2 (pc' := 74) (z := 2) F d_M_portion_71 rfl wx_835 (by decide) ?_
        refine v_lload (pc' := 76) F d_M_portion_74 rfl rfl ?_
        refine v_lmul (pc' := 77) F d_M_portion_76 rfl ?_
        refine v_lstore_12 (pc' := 79) F d_M_portion_77 rfl rfl (by decide) ?_
        refine v_lload (pc' := 81) F d_M_portion_79 rfl rfl ?_
        refine v_iload (pc' := 83) F d_M_portion_81 rfl rfl ?_
        refine v_if_eq (tgt := 90) (pc' := 86) F d_M_portion_83 (by decide) rfl (by omega) (fun c83 => ?_) (fun c83 => by exfalso; omega)
        refine v_lconst (pc' := 91) (z := 0) F d_M_portion_90 rfl (by decide) ?_
        refine v_ladd (pc' := 92) F d_M_portion_91 rfl ?_
        refine v_lstore_10 (pc' := 94) F d_M_portion_92 rfl rfl (by decide) ?_
        refine v_lload_n (pc' := 95) (j := 0) F d_M_portion_94 rfl rfl rfl ?_
        refine v_iload (pc' := 97) F d_M_portion_95 rfl rfl ?_
        refine v_lshr (pc' := 98) F q d_M_portion_97 rfl (by omega) (by omega) (by omega) ?_
        refine v_lconst (pc' := 99) (z := 1) F d_M_portion_98 rfl (by decide) ?_
        refine v_land (pc' := 100) F 1 d_M_portion_99 rfl (by omega) (by decide) ?_
        refine v_lconst (pc' := 101) (z := 1) F d_M_portion_100 rfl (by decide) ?_
        refine v_lc_ne (tgt := 161) (pc' := 105) F d_M_portion_101 d_M_portion_102 (by decide) rfl (by omega) (by omega) (fun c101 => ?_) (fun c101 => ?_)
        · refine v_iinc_14 (pc' := 164) F d_M_portion_161 rfl rfl (by decide) ?_
          refine v_goto (tgt := 24) F d_M_portion_164 (by decide) ?_
          rw [show (((q + 1 : Nat) : Int) - 1 + -1) = (q : Int) - 1 by omega]
          first | (have hA : ¬ Lf < al - Lf := c44; have hB : ¬ p0 / 2 ^ q % 2 ^ 1 = 1 := c101; exact v_subL (by (repeat' (first | exact trivial | exact rfl | refine And.intro ?_ ?_)); done) (ih (by omega) (S * 2 + 1) (Lf - (al - Lf)) (by rw [show p0 / 2 ^ q = 2 * (p0 / 2 ^ (q + 1)) by omega]; exact po_1 h1) (by omega) (by omega))) | (have hA : Lf < al - Lf := c44; have hB : ¬ p0 / 2 ^ q % 2 ^ 1 = 1 := c101; exact v_subL (by (repeat' (first | exact trivial | exact rfl | refine And.intro ?_ ?_)); done) (ih (by omega) (S * 2 + 0) (2 * Lf) (by rw [show p0 / 2 ^ q = 2 * (p0 / 2 ^ (q + 1)) by omega]; exact po_0 h1) (by omega) (by omega))) | (have hA : ¬ Lf < al - Lf := c44; have hB : p0 / 2 ^ q % 2 ^ 1 = 1 := c101; have hC : ¬ Lf - (al - Lf) < al - re := c112; exact v_subL (by (repeat' (first | exact trivial | exact rfl | refine And.intro ?_ ?_)); done) (ih (by omega) (S * 2 + 1 + 1) (Lf - (al - Lf) - (al - re)) (by rw [show p0 / 2 ^ q = 2 * (p0 / 2 ^ (q + 1)) + 1 by omega]; exact po_11 (po_1 h1)) (by omega) (by omega))) | (have hA : Lf < al - Lf := c44; have hB : p0 / 2 ^ q % 2 ^ 1 = 1 := c101; have hC : ¬ 2 * Lf < al - re := c112; exact v_subL (by (repeat' (first | exact trivial | exact rfl | refine And.intro ?_ ?_)); done) (ih (by omega) (S * 2 + 0 + 1) (2 * Lf - (al - re)) (by rw [show p0 / 2 ^ q = 2 * (p0 / 2 ^ (q + 1)) + 1 by omega]; exact po_11 (po_0 h1)) (by omega) (by omega))) | (have hA : ¬ Lf < al - Lf := c44; have hB : p0 / 2 ^ q % 2 ^ 1 = 1 := c101; have hC : Lf - (al - Lf) < al - re := c112; exact v_subL (by (repeat' (first | exact trivial | exact rfl | refine And.intro ?_ ?_)); done) (ih (by omega) (S * 2 + 1 + 0) (Lf - (al - Lf) + re) (by rw [show p0 / 2 ^ q = 2 * (p0 / 2 ^ (q + 1)) + 1 by omega]; exact po_10 (po_1 h1)) (by omega) (by omega))) | (have hA : Lf < al - Lf := c44; have hB : p0 / 2 ^ q % 2 ^ 1 = 1 := c101; have hC : 2 * Lf < al - re := c112; exact v_subL (by (repeat' (first | exact trivial | exact rfl | refine And.intro ?_ ?_)); done) (ih (by omega) (S * 2 + 0 + 0) (2 * Lf + re) (by rw [show p0 / 2 ^ q = 2 * (p0 / 2 ^ (q + 1)) + 1 by omega]; exact po_10 (po_0 h1)) (by omega) (by omega)))
        · refine v_lload (pc' := 107) F d_M_portion_105 rfl rfl ?_
          refine v_lload (pc' := 109) F d_M_portion_107 rfl rfl ?_
          refine v_lload (pc' := 111) F d_M_portion_109 rfl rfl ?_
          refine v_lsub (pc' := 112) F d_M_portion_111 rfl ?_
          refine v_lc_lt (tgt := 120) (pc' := 116) F d_M_portion_112 d_M_portion_113 (by decide) rfl (by omega) (by omega) (fun c112 => ?_) (fun c112 => ?_)
          · refine v_iconst (pc' := 121) F d_M_portion_120 rfl ?_
            refine v_istore_16 (pc' := 123) F d_M_portion_121 rfl rfl (by decide) ?_
            refine v_iload (pc' := 125) F d_M_portion_123 rfl rfl ?_
            refine v_if_eq (tgt := 139) (pc' := 128) F d_M_portion_125 (by decide) rfl (by omega) (fun c125 => ?_) (fun c125 => by exfalso; omega)
            refine v_lload (pc' := 141) F d_M_portion_139 rfl rfl ?_
            refine v_lload (pc' := 143) F d_M_portion_141 rfl rfl ?_
            refine v_ladd (pc' := 144) F d_M_portion_143 rfl ?_
            refine v_lstore_12 (pc' := 146) F d_M_portion_144 rfl rfl (by decide) ?_
            refine v_lload (pc' := 148) F d_M_portion_146 rfl rfl ?_
            refine v_iload (pc' := 150) F d_M_portion_148 rfl rfl ?_
            refine v_if_eq (tgt := 157) (pc' := 153) F d_M_portion_150 (by decide) rfl (by omega) (fun c150 => ?_) (fun c150 => by exfalso; omega)
            refine v_lconst (pc' := 158) (z := 0) F d_M_portion_157 rfl (by decide) ?_
            refine v_ladd (pc' := 159) F d_M_portion_158 rfl ?_
            refine v_lstore_10 (pc' := 161) F d_M_portion_159 rfl rfl (by decide) ?_
            refine v_iinc_14 (pc' := 164) F d_M_portion_161 rfl rfl (by decide) ?_
            refine v_goto (tgt := 24) F d_M_portion_164 (by decide) ?_
            rw [show (((q + 1 : Nat) : Int) - 1 + -1) = (q : Int) - 1 by omega]
            first | (have hA : ¬ Lf < al - Lf := c44; have hB : ¬ p0 / 2 ^ q % 2 ^ 1 = 1 := c101; exact v_subL (by (repeat' (first | exact trivial | exact rfl | refine And.intro ?_ ?_)); done) (ih (by omega) (S * 2 + 1) (Lf - (al - Lf)) (by rw [show p0 / 2 ^ q = 2 * (p0 / 2 ^ (q + 1)) by omega]; exact po_1 h1) (by omega) (by omega))) | (have hA : Lf < al - Lf := c44; have hB : ¬ p0 / 2 ^ q % 2 ^ 1 = 1 := c101; exact v_subL (by (repeat' (first | exact trivial | exact rfl | refine And.intro ?_ ?_)); done) (ih (by omega) (S * 2 + 0) (2 * Lf) (by rw [show p0 / 2 ^ q = 2 * (p0 / 2 ^ (q + 1)) by omega]; exact po_0 h1) (by omega) (by omega))) | (have hA : ¬ Lf < al - Lf := c44; have hB : p0 / 2 ^ q % 2 ^ 1 = 1 := c101; have hC : ¬ Lf - (al - Lf) < al - re := c112; exact v_subL (by (repeat' (first | exact trivial | exact rfl | refine And.intro ?_ ?_)); done) (ih (by omega) (S * 2 + 1 + 1) (Lf - (al - Lf) - (al - re)) (by rw [show p0 / 2 ^ q = 2 * (p0 / 2 ^ (q + 1)) + 1 by omega]; exact po_11 (po_1 h1)) (by omega) (by omega))) | (have hA : Lf < al - Lf := c44; have hB : p0 / 2 ^ q % 2 ^ 1 = 1 := c101; have hC : ¬ 2 * Lf < al - re := c112; exact v_subL (by (repeat' (first | exact trivial | exact rfl | refine And.intro ?_ ?_)); done) (ih (by omega) (S * 2 + 0 + 1) (2 * Lf - (al - re)) (by rw [show p0 / 2 ^ q = 2 * (p0 / 2 ^ (q + 1)) + 1 by omega]; exact po_11 (po_0 h1)) (by omega) (by omega))) | (have hA : ¬ Lf < al - Lf := c44; have hB : p0 / 2 ^ q % 2 ^ 1 = 1 := c101; have hC : Lf - (al - Lf) < al - re := c112; exact v_subL (by (repeat' (first | exact trivial | exact rfl | refine And.intro ?_ ?_)); done) (ih (by omega) (S * 2 + 1 + 0) (Lf - (al - Lf) + re) (by rw [show p0 / 2 ^ q = 2 * (p0 / 2 ^ (q + 1)) + 1 by omega]; exact po_10 (po_1 h1)) (by omega) (by omega))) | (have hA : Lf < al - Lf := c44; have hB : p0 / 2 ^ q % 2 ^ 1 = 1 := c101; have hC : 2 * Lf < al - re := c112; exact v_subL (by (repeat' (first | exact trivial | exact rfl | refine And.intro ?_ ?_)); done) (ih (by omega) (S * 2 + 0 + 0) (2 * Lf + re) (by rw [show p0 / 2 ^ q = 2 * (p0 / 2 ^ (q + 1)) + 1 by omega]; exact po_10 (po_0 h1)) (by omega) (by omega)))
          · refine v_iconst (pc' := 117) F d_M_portion_116 rfl ?_
            refine v_goto (tgt := 121) F d_M_portion_117 (by decide) ?_
            refine v_istore_16 (pc' := 123) F d_M_portion_121 rfl rfl (by decide) ?_
            refine v_iload (pc' := 125) F d_M_portion_123 rfl rfl ?_
            refine v_if_eq (tgt := 139) (pc' := 128) F d_M_portion_125 (by decide) rfl (by omega) (fun c125 => by exfalso; omega) (fun c125 => ?_)
            refine v_lload (pc' := 130) F d_M_portion_128 rfl rfl ?_
            refine v_lload (pc' := 132) F d_M_portion_130 rfl rfl ?_
            refine v_lload (pc' := 134) F d_M_portion_132 rfl rfl ?_
            refine v_lsub (pc' := 135) F d_M_portion_134 rfl ?_
            refine v_lsub (pc' := 136) F d_M_portion_135 rfl ?_
            refine v_goto (tgt := 144) F d_M_portion_136 (by decide) ?_
            refine v_lstore_12 (pc' := 146) F d_M_portion_144 rfl rfl (by decide) ?_
            refine v_lload (pc' := 148) F d_M_portion_146 rfl rfl ?_
            refine v_iload (pc' := 150) F d_M_portion_148 rfl rfl ?_
            refine v_if_eq (tgt := 157) (pc' := 153) F d_M_portion_150 (by decide) rfl (by omega) (fun c150 => by exfalso; omega) (fun c150 => ?_)
            refine v_lconst (pc' := 154) (z := 1) F d_M_portion_153 rfl (by decide) ?_
            refine v_goto (tgt := 158) F d_M_portion_154 (by decide) ?_
            refine v_ladd (pc' := 159) F d_M_portion_158 rfl ?_
            refine v_lstore_10 (pc' := 161) F d_M_portion_159 rfl rfl (by decide) ?_
            refine v_iinc_14 (pc' := 164) F d_M_portion_161 rfl rfl (by decide) ?_
            refine v_goto (tgt := 24) F d_M_portion_164 (by decide) ?_
            rw [show (((q + 1 : Nat) : Int) - 1 + -1) = (q : Int) - 1 by omega]
            first | (have hA : ¬ Lf < al - Lf := c44; have hB : ¬ p0 / 2 ^ q % 2 ^ 1 = 1 := c101; exact v_subL (by (repeat' (first | exact trivial | exact rfl | refine And.intro ?_ ?_)); done) (ih (by omega) (S * 2 + 1) (Lf - (al - Lf)) (by rw [show p0 / 2 ^ q = 2 * (p0 / 2 ^ (q + 1)) by omega]; exact po_1 h1) (by omega) (by omega))) | (have hA : Lf < al - Lf := c44; have hB : ¬ p0 / 2 ^ q % 2 ^ 1 = 1 := c101; exact v_subL (by (repeat' (first | exact trivial | exact rfl | refine And.intro ?_ ?_)); done) (ih (by omega) (S * 2 + 0) (2 * Lf) (by rw [show p0 / 2 ^ q = 2 * (p0 / 2 ^ (q + 1)) by omega]; exact po_0 h1) (by omega) (by omega))) | (have hA : ¬ Lf < al - Lf := c44; have hB : p0 / 2 ^ q % 2 ^ 1 = 1 := c101; have hC : ¬ Lf - (al - Lf) < al - re := c112; exact v_subL (by (repeat' (first | exact trivial | exact rfl | refine And.intro ?_ ?_)); done) (ih (by omega) (S * 2 + 1 + 1) (Lf - (al - Lf) - (al - re)) (by rw [show p0 / 2 ^ q = 2 * (p0 / 2 ^ (q + 1)) + 1 by omega]; exact po_11 (po_1 h1)) (by omega) (by omega))) | (have hA : Lf < al - Lf := c44; have hB : p0 / 2 ^ q % 2 ^ 1 = 1 := c101; have hC : ¬ 2 * Lf < al - re := c112; exact v_subL (by (repeat' (first | exact trivial | exact rfl | refine And.intro ?_ ?_)); done) (ih (by omega) (S * 2 + 0 + 1) (2 * Lf - (al - re)) (by rw [show p0 / 2 ^ q = 2 * (p0 / 2 ^ (q + 1)) + 1 by omega]; exact po_11 (po_0 h1)) (by omega) (by omega))) | (have hA : ¬ Lf < al - Lf := c44; have hB : p0 / 2 ^ q % 2 ^ 1 = 1 := c101; have hC : Lf - (al - Lf) < al - re := c112; exact v_subL (by (repeat' (first | exact trivial | exact rfl | refine And.intro ?_ ?_)); done) (ih (by omega) (S * 2 + 1 + 0) (Lf - (al - Lf) + re) (by rw [show p0 / 2 ^ q = 2 * (p0 / 2 ^ (q + 1)) + 1 by omega]; exact po_10 (po_1 h1)) (by omega) (by omega))) | (have hA : Lf < al - Lf := c44; have hB : p0 / 2 ^ q % 2 ^ 1 = 1 := c101; have hC : 2 * Lf < al - re := c112; exact v_subL (by (repeat' (first | exact trivial | exact rfl | refine And.intro ?_ ?_)); done) (ih (by omega) (S * 2 + 0 + 0) (2 * Lf + re) (by rw [show p0 / 2 ^ q = 2 * (p0 / 2 ^ (q + 1)) + 1 by omega]; exact po_10 (po_0 h1)) (by omega) (by omega)))
      · refine v_iconst (pc' := 49) F d_M_portion_48 rfl ?_
        refine v_goto (tgt := 53) F d_M_portion_49 (by decide) ?_
        refine v_istore_15 (pc' := 55) F d_M_portion_53 rfl rfl (by decide) ?_
        refine v_iload (pc' := 57) F d_M_portion_55 rfl rfl ?_
        refine v_if_eq (tgt := 71) (pc' := 60) F d_M_portion_57 (by decide) rfl (by omega) (fun c57 => by exfalso; omega) (fun c57 => ?_)
        refine v_lload (pc' := 62) F d_M_portion_60 rfl rfl ?_
        refine v_lload (pc' := 64) F d_M_portion_62 rfl rfl ?_
        refine v_lload (pc' := 66) F d_M_portion_64 rfl rfl ?_
        refine v_lsub (pc' := 67) F d_M_portion_66 rfl ?_
        refine v_lsub (pc' := 68) F d_M_portion_67 rfl ?_
        refine v_goto (tgt := 77) F d_M_portion_68 (by decide) ?_
        refine v_lstore_12 (pc' := 79) F d_M_portion_77 rfl rfl (by decide) ?_
        refine v_lload (pc' := 81) F d_M_portion_79 rfl rfl ?_
        refine v_iload (pc' := 83) F d_M_portion_81 rfl rfl ?_
        refine v_if_eq (tgt := 90) (pc' := 86) F d_M_portion_83 (by decide) rfl (by omega) (fun c83 => by exfalso; omega) (fun c83 => ?_)
        refine v_lconst (pc' := 87) (z := 1) F d_M_portion_86 rfl (by decide) ?_
        refine v_goto (tgt := 91) F d_M_portion_87 (by decide) ?_
        refine v_ladd (pc' := 92) F d_M_portion_91 rfl ?_
        refine v_lstore_10 (pc' := 94) F d_M_portion_92 rfl rfl (by decide) ?_
        refine v_lload_n (pc' := 95) (j := 0) F d_M_portion_94 rfl rfl rfl ?_
        refine v_iload (pc' := 97) F d_M_portion_95 rfl rfl ?_
        refine v_lshr (pc' := 98) F q d_M_portion_97 rfl (by omega) (by omega) (by omega) ?_
        refine v_lconst (pc' := 99) (z := 1) F d_M_portion_98 rfl (by decide) ?_
        refine v_land (pc' := 100) F 1 d_M_portion_99 rfl (by omega) (by decide) ?_
        refine v_lconst (pc' := 101) (z := 1) F d_M_portion_100 rfl (by decide) ?_
        refine v_lc_ne (tgt := 161) (pc' := 105) F d_M_portion_101 d_M_portion_102 (by decide) rfl (by omega) (by omega) (fun c101 => ?_) (fun c101 => ?_)
        · refine v_iinc_14 (pc' := 164) F d_M_portion_161 rfl rfl (by decide) ?_
          refine v_goto (tgt := 24) F d_M_portion_164 (by decide) ?_
          rw [show (((q + 1 : Nat) : Int) - 1 + -1) = (q : Int) - 1 by omega]
          first | (have hA : ¬ Lf < al - Lf := c44; have hB : ¬ p0 / 2 ^ q % 2 ^ 1 = 1 := c101; exact v_subL (by (repeat' (first | exact trivial | exact rfl | refine And.intro ?_ ?_)); done) (ih (by omega) (S * 2 + 1) (Lf - (al - Lf)) (by rw [show p0 / 2 ^ q = 2 * (p0 / 2 ^ (q + 1)) by omega]; exact po_1 h1) (by omega) (by omega))) | (have hA : Lf < al - Lf := c44; have hB : ¬ p0 / 2 ^ q % 2 ^ 1 = 1 := c101; exact v_subL (by (repeat' (first | exact trivial | exact rfl | refine And.intro ?_ ?_)); done) (ih (by omega) (S * 2 + 0) (2 * Lf) (by rw [show p0 / 2 ^ q = 2 * (p0 / 2 ^ (q + 1)) by omega]; exact po_0 h1) (by omega) (by omega))) | (have hA : ¬ Lf < al - Lf := c44; have hB : p0 / 2 ^ q % 2 ^ 1 = 1 := c101; have hC : ¬ Lf - (al - Lf) < al - re := c112; exact v_subL (by (repeat' (first | exact trivial | exact rfl | refine And.intro ?_ ?_)); done) (ih (by omega) (S * 2 + 1 + 1) (Lf - (al - Lf) - (al - re)) (by rw [show p0 / 2 ^ q = 2 * (p0 / 2 ^ (q + 1)) + 1 by omega]; exact po_11 (po_1 h1)) (by omega) (by omega))) | (have hA : Lf < al - Lf := c44; have hB : p0 / 2 ^ q % 2 ^ 1 = 1 := c101; have hC : ¬ 2 * Lf < al - re := c112; exact v_subL (by (repeat' (first | exact trivial | exact rfl | refine And.intro ?_ ?_)); done) (ih (by omega) (S * 2 + 0 + 1) (2 * Lf - (al - re)) (by rw [show p0 / 2 ^ q = 2 * (p0 / 2 ^ (q + 1)) + 1 by omega]; exact po_11 (po_0 h1)) (by omega) (by omega))) | (have hA : ¬ Lf < al - Lf := c44; have hB : p0 / 2 ^ q % 2 ^ 1 = 1 := c101; have hC : Lf - (al - Lf) < al - re := c112; exact v_subL (by (repeat' (first | exact trivial | exact rfl | refine And.intro ?_ ?_)); done) (ih (by omega) (S * 2 + 1 + 0) (Lf - (al - Lf) + re) (by rw [show p0 / 2 ^ q = 2 * (p0 / 2 ^ (q + 1)) + 1 by omega]; exact po_10 (po_1 h1)) (by omega) (by omega))) | (have hA : Lf < al - Lf := c44; have hB : p0 / 2 ^ q % 2 ^ 1 = 1 := c101; have hC : 2 * Lf < al - re := c112; exact v_subL (by (repeat' (first | exact trivial | exact rfl | refine And.intro ?_ ?_)); done) (ih (by omega) (S * 2 + 0 + 0) (2 * Lf + re) (by rw [show p0 / 2 ^ q = 2 * (p0 / 2 ^ (q + 1)) + 1 by omega]; exact po_10 (po_0 h1)) (by omega) (by omega)))
        · refine v_lload (pc' := 107) F d_M_portion_105 rfl rfl ?_
          refine v_lload (pc' := 109) F d_M_portion_107 rfl rfl ?_
          refine v_lload (pc' := 111) F d_M_portion_109 rfl rfl ?_
          refine v_lsub (pc' := 112) F d_M_portion_111 rfl ?_
          refine v_lc_lt (tgt := 120) (pc' := 116) F d_M_portion_112 d_M_portion_113 (by decide) rfl (by omega) (by omega) (fun c112 => ?_) (fun c112 => ?_)
          · refine v_iconst (pc' := 121) F d_M_portion_120 rfl ?_
            refine v_istore_16 (pc' := 123) F d_M_portion_121 rfl rfl (by decide) ?_
            refine v_iload (pc' := 125) F d_M_portion_123 rfl rfl ?_
            refine v_if_eq (tgt := 139) (pc' := 128) F d_M_portion_125 (by decide) rfl (by omega) (fun c125 => ?_) (fun c125 => by exfalso; omega)
            refine v_lload (pc' := 141) F d_M_portion_139 rfl rfl ?_
            refine v_lload (pc' := 143) F d_M_portion_141 rfl rfl ?_
            refine v_ladd (pc' := 144) F d_M_portion_143 rfl ?_
            refine v_lstore_12 (pc' := 146) F d_M_portion_144 rfl rfl (by decide) ?_
            refine v_lload (pc' := 148) F d_M_portion_146 rfl rfl ?_
            refine v_iload (pc' := 150) F d_M_portion_148 rfl rfl ?_
            refine v_if_eq (tgt := 157) (pc' := 153) F d_M_portion_150 (by decide) rfl (by omega) (fun c150 => ?_) (fun c150 => by exfalso; omega)
            refine v_lconst (pc' := 158) (z := 0) F d_M_portion_157 rfl (by decide) ?_
            refine v_ladd (pc' := 159) F d_M_portion_158 rfl ?_
            refine v_lstore_10 (pc' := 161) F d_M_portion_159 rfl rfl (by decide) ?_
            refine v_iinc_14 (pc' := 164) F d_M_portion_161 rfl rfl (by decide) ?_
            refine v_goto (tgt := 24) F d_M_portion_164 (by decide) ?_
            rw [show (((q + 1 : Nat) : Int) - 1 + -1) = (q : Int) - 1 by omega]
            first | (have hA : ¬ Lf < al - Lf := c44; have hB : ¬ p0 / 2 ^ q % 2 ^ 1 = 1 := c101; exact v_subL (by (repeat' (first | exact trivial | exact rfl | refine And.intro ?_ ?_)); done) (ih (by omega) (S * 2 + 1) (Lf - (al - Lf)) (by rw [show p0 / 2 ^ q = 2 * (p0 / 2 ^ (q + 1)) by omega]; exact po_1 h1) (by omega) (by omega))) | (have hA : Lf < al - Lf := c44; have hB : ¬ p0 / 2 ^ q % 2 ^ 1 = 1 := c101; exact v_subL (by (repeat' (first | exact trivial | exact rfl | refine And.intro ?_ ?_)); done) (ih (by omega) (S * 2 + 0) (2 * Lf) (by rw [show p0 / 2 ^ q = 2 * (p0 / 2 ^ (q + 1)) by omega]; exact po_0 h1) (by omega) (by omega))) | (have hA : ¬ Lf < al - Lf := c44; have hB : p0 / 2 ^ q % 2 ^ 1 = 1 := c101; have hC : ¬ Lf - (al - Lf) < al - re := c112; exact v_subL (by (repeat' (first | exact trivial | exact rfl | refine And.intro ?_ ?_)); done) (ih (by omega) (S * 2 + 1 + 1) (Lf - (al - Lf) - (al - re)) (by rw [show p0 / 2 ^ q = 2 * (p0 / 2 ^ (q + 1)) + 1 by omega]; exact po_11 (po_1 h1)) (by omega) (by omega))) | (have hA : Lf < al - Lf := c44; have hB : p0 / 2 ^ q % 2 ^ 1 = 1 := c101; have hC : ¬ 2 * Lf < al - re := c112; exact v_subL (by (repeat' (first | exact trivial | exact rfl | refine And.intro ?_ ?_)); done) (ih (by omega) (S * 2 + 0 + 1) (2 * Lf - (al - re)) (by rw [show p0 / 2 ^ q = 2 * (p0 / 2 ^ (q + 1)) + 1 by omega]; exact po_11 (po_0 h1)) (by omega) (by omega))) | (have hA : ¬ Lf < al - Lf := c44; have hB : p0 / 2 ^ q % 2 ^ 1 = 1 := c101; have hC : Lf - (al - Lf) < al - re := c112; exact v_subL (by (repeat' (first | exact trivial | exact rfl | refine And.intro ?_ ?_)); done) (ih (by omega) (S * 2 + 1 + 0) (Lf - (al - Lf) + re) (by rw [show p0 / 2 ^ q = 2 * (p0 / 2 ^ (q + 1)) + 1 by omega]; exact po_10 (po_1 h1)) (by omega) (by omega))) | (have hA : Lf < al - Lf := c44; have hB : p0 / 2 ^ q % 2 ^ 1 = 1 := c101; have hC : 2 * Lf < al - re := c112; exact v_subL (by (repeat' (first | exact trivial | exact rfl | refine And.intro ?_ ?_)); done) (ih (by omega) (S * 2 + 0 + 0) (2 * Lf + re) (by rw [show p0 / 2 ^ q = 2 * (p0 / 2 ^ (q + 1)) + 1 by omega]; exact po_10 (po_0 h1)) (by omega) (by omega)))
          · refine v_iconst (pc' := 117) F d_M_portion_116 rfl ?_
            refine v_goto (tgt := 121) F d_M_portion_117 (by decide) ?_
            refine v_istore_16 (pc' := 123) F d_M_portion_121 rfl rfl (by decide) ?_
            refine v_iload (pc' := 125) F d_M_portion_123 rfl rfl ?_
            refine v_if_eq (tgt := 139) (pc' := 128) F d_M_portion_125 (by decide) rfl (by omega) (fun c125 => by exfalso; omega) (fun c125 => ?_)
            refine v_lload (pc' := 130) F d_M_portion_128 rfl rfl ?_
            refine v_lload (pc' := 132) F d_M_portion_130 rfl rfl ?_
            refine v_lload (pc' := 134) F d_M_portion_132 rfl rfl ?_
            refine v_lsub (pc' := 135) F d_M_portion_134 rfl ?_
            refine v_lsub (pc' := 136) F d_M_portion_135 rfl ?_
            refine v_goto (tgt := 144) F d_M_portion_136 (by decide) ?_
            refine v_lstore_12 (pc' := 146) F d_M_portion_144 rfl rfl (by decide) ?_
            refine v_lload (pc' := 148) F d_M_portion_146 rfl rfl ?_
            refine v_iload (pc' := 150) F d_M_portion_148 rfl rfl ?_
            refine v_if_eq (tgt := 157) (pc' := 153) F d_M_portion_150 (by decide) rfl (by omega) (fun c150 => by exfalso; omega) (fun c150 => ?_)
            refine v_lconst (pc' := 154) (z := 1) F d_M_portion_153 rfl (by decide) ?_
            refine v_goto (tgt := 158) F d_M_portion_154 (by decide) ?_
            refine v_ladd (pc' := 159) F d_M_portion_158 rfl ?_
            refine v_lstore_10 (pc' := 161) F d_M_portion_159 rfl rfl (by decide) ?_
            refine v_iinc_14 (pc' := 164) F d_M_portion_161 rfl rfl (by decide) ?_
            refine v_goto (tgt := 24) F d_M_portion_164 (by decide) ?_
            rw [show (((q + 1 : Nat) : Int) - 1 + -1) = (q : Int) - 1 by omega]
            first | (have hA : ¬ Lf < al - Lf := c44; have hB : ¬ p0 / 2 ^ q % 2 ^ 1 = 1 := c101; exact v_subL (by (repeat' (first | exact trivial | exact rfl | refine And.intro ?_ ?_)); done) (ih (by omega) (S * 2 + 1) (Lf - (al - Lf)) (by rw [show p0 / 2 ^ q = 2 * (p0 / 2 ^ (q + 1)) by omega]; exact po_1 h1) (by omega) (by omega))) | (have hA : Lf < al - Lf := c44; have hB : ¬ p0 / 2 ^ q % 2 ^ 1 = 1 := c101; exact v_subL (by (repeat' (first | exact trivial | exact rfl | refine And.intro ?_ ?_)); done) (ih (by omega) (S * 2 + 0) (2 * Lf) (by rw [show p0 / 2 ^ q = 2 * (p0 / 2 ^ (q + 1)) by omega]; exact po_0 h1) (by omega) (by omega))) | (have hA : ¬ Lf < al - Lf := c44; have hB : p0 / 2 ^ q % 2 ^ 1 = 1 := c101; have hC : ¬ Lf - (al - Lf) < al - re := c112; exact v_subL (by (repeat' (first | exact trivial | exact rfl | refine And.intro ?_ ?_)); done) (ih (by omega) (S * 2 + 1 + 1) (Lf - (al - Lf) - (al - re)) (by rw [show p0 / 2 ^ q = 2 * (p0 / 2 ^ (q + 1)) + 1 by omega]; exact po_11 (po_1 h1)) (by omega) (by omega))) | (have hA : Lf < al - Lf := c44; have hB : p0 / 2 ^ q % 2 ^ 1 = 1 := c101; have hC : ¬ 2 * Lf < al - re := c112; exact v_subL (by (repeat' (first | exact trivial | exact rfl | refine And.intro ?_ ?_)); done) (ih (by omega) (S * 2 + 0 + 1) (2 * Lf - (al - re)) (by rw [show p0 / 2 ^ q = 2 * (p0 / 2 ^ (q + 1)) + 1 by omega]; exact po_11 (po_0 h1)) (by omega) (by omega))) | (have hA : ¬ Lf < al - Lf := c44; have hB : p0 / 2 ^ q % 2 ^ 1 = 1 := c101; have hC : Lf - (al - Lf) < al - re := c112; exact v_subL (by (repeat' (first | exact trivial | exact rfl | refine And.intro ?_ ?_)); done) (ih (by omega) (S * 2 + 1 + 0) (Lf - (al - Lf) + re) (by rw [show p0 / 2 ^ q = 2 * (p0 / 2 ^ (q + 1)) + 1 by omega]; exact po_10 (po_1 h1)) (by omega) (by omega))) | (have hA : Lf < al - Lf := c44; have hB : p0 / 2 ^ q % 2 ^ 1 = 1 := c101; have hC : 2 * Lf < al - re := c112; exact v_subL (by (repeat' (first | exact trivial | exact rfl | refine And.intro ?_ ?_)); done) (ih (by omega) (S * 2 + 0 + 0) (2 * Lf + re) (by rw [show p0 / 2 ^ q = 2 * (p0 / 2 ^ (q + 1)) + 1 by omega]; exact po_10 (po_0 h1)) (by omega) (by omega)))
set_option maxRecDepth 100000 in
set_option maxHeartbeats 4000000 in
theorem c_M_portion (l : Launch) (X : am_X) (h : am_H) (nx : Nat) (p0 n0 al : Int) (rp : 0 ≤ p0 ∧ p0 < 2147483648) (rn : 0 ≤ n0 ∧ n0 < 4611686018427387904) (ral : 0 < al ∧ al < 4611686018427387904) : CnP l X y_M_portion ({ frames := 0, cells := 0, slots := 0, locals := 0 }) [lV p0, lV n0, lV al] h nx (lV (p0 * n0 / al)) := by
  refine cn_of (k := 11) (L0 := [some (lV p0), none, some (lV n0), none, some (lV al), none, none, none, none, none, none, none, none, none, none, none, none]) rfl wx_834 (Nat.le_of_ble_eq_true rfl) rfl (fun p e s m args below meth c F => ?_)
  refine v_lload_n (pc' := 1) (j := 2) F d_M_portion_0 rfl rfl rfl ?_
  refine v_lload (pc' := 3) F d_M_portion_1 rfl rfl ?_
  refine v_ldiv (pc' := 4) F d_M_portion_3 rfl (by omega) (by omega) (by omega) ?_
  refine v_lload_n (pc' := 5) (j := 0) F d_M_portion_4 rfl rfl rfl ?_
  refine v_lmul (pc' := 6) F d_M_portion_5 rfl ?_
  refine v_lstore_6 (pc' := 8) F d_M_portion_6 rfl rfl (by decide) ?_
  refine v_lload_n (pc' := 9) (j := 2) F d_M_portion_8 rfl rfl rfl ?_
  refine v_lload (pc' := 11) F d_M_portion_9 rfl rfl ?_
  refine v_lrem (pc' := 12) F d_M_portion_11 rfl (by omega) (by omega) (by omega) ?_
  refine v_lstore_8 (pc' := 14) F d_M_portion_12 rfl rfl (by decide) ?_
  refine v_lconst (pc' := 15) (z := 0) F d_M_portion_14 rfl (by decide) ?_
  refine v_lstore_10 (pc' := 17) F d_M_portion_15 rfl rfl (by decide) ?_
  refine v_lconst (pc' := 18) (z := 0) F d_M_portion_17 rfl (by decide) ?_
  refine v_lstore_12 (pc' := 20) F d_M_portion_18 rfl rfl (by decide) ?_
  refine v_bipush (pc' := 22) F d_M_portion_20 rfl (by decide) ?_
  refine v_istore_14 (pc' := 24) F d_M_portion_22 rfl rfl (by decide) ?_
  exact lp_M_portion F rp ral (by have := Int.tmod_lt_of_pos n0 ral.1; have := Int.tmod_nonneg al rn.1; omega) (fun S Lf h1 h2 h3 => (by
    refine v_lload (pc' := 169) F d_M_portion_167 rfl rfl ?_
    refine v_lload (pc' := 171) F d_M_portion_169 rfl rfl ?_
    refine v_ladd (pc' := 172) F d_M_portion_171 rfl ?_
    exact v_lreturn F d_M_portion_172 rfl (Nat.le_refl _) (Nat.le_refl _) ⟨by rw [po_end ral.1 rn.1 h1 ⟨h2, h3⟩], rfl, rfl⟩)) 31 (by omega) 0 0 (by rw [show p0 / 2 ^ 31 = 0 from Int.ediv_eq_zero_of_lt rp.1 (by omega)]; simp) (by omega) (by omega)
