/-! useOf, barredOf, usedBy, before of the reference (written by wip/whole/mm7.py) -/
theorem am_mul_r {x y a b : Int} (hx : -a ≤ x ∧ x ≤ a) (hy : 0 ≤ y ∧ y ≤ b) (ha : 0 ≤ a) : -(a * b) ≤ x * y ∧ x * y ≤ a * b := by
  have h1 : x * y ≤ a * y := Int.mul_le_mul_of_nonneg_right hx.2 hy.1
  have h2 : (-a) * y ≤ x * y := Int.mul_le_mul_of_nonneg_right hx.1 hy.1
  have h3 : a * y ≤ a * b := Int.mul_le_mul_of_nonneg_left hy.2 ha
  rw [Int.neg_mul] at h2
  omega
/-- a day, taken into a pair's days -/
def sp_cl (d a b : Int) : Int := if d < a then a else if b < d then b else d
theorem sp_cl_r {d a b : Int} (h : a ≤ b) : a ≤ sp_cl d a b ∧ sp_cl d a b ≤ b := by
  unfold sp_cl
  split
  · omega
  · split <;> omega
/-- what a pair of readings comes to up to a day -/
def sp_pt (D V G : Int → Int) (lo hi d : Int) : Int := ((V hi - G lo) * (sp_cl d (D lo) (D hi) - D lo)).tdiv (D hi - D lo)
def sp_told (D V G : Int → Int) (f g t : Int) : Nat → Int
  | 0 => 0
  | k + 1 => sp_told D V G f g t k + (sp_pt D V G (40 * f + (k : Int)) (40 * f + 1 + (k : Int)) t - sp_pt D V G (40 * f + (k : Int)) (40 * f + 1 + (k : Int)) g)
theorem sp_pt_r {D V G : Int → Int} {lo hi d : Int} (h1 : D lo < D hi) (h2 : 0 ≤ V hi - G lo ∧ V hi - G lo ≤ 10000000) : 0 ≤ sp_pt D V G lo hi d ∧ sp_pt D V G lo hi d ≤ 10000000 := by
  have hc := sp_cl_r (d := d) (Int.le_of_lt h1)
  unfold sp_pt
  have h3 : 0 ≤ (V hi - G lo) * (sp_cl d (D lo) (D hi) - D lo) := Int.mul_nonneg h2.1 (by omega)
  refine ⟨Int.tdiv_nonneg h3 (by omega), ?_⟩
  rw [Int.tdiv_eq_ediv_of_nonneg h3]
  refine Int.ediv_le_of_le_mul (by omega) ?_
  have h4 : (V hi - G lo) * (sp_cl d (D lo) (D hi) - D lo) ≤ (V hi - G lo) * (D hi - D lo) := Int.mul_le_mul_of_nonneg_left (by omega) h2.1
  have h5 : (V hi - G lo) * (D hi - D lo) ≤ 10000000 * (D hi - D lo) := Int.mul_le_mul_of_nonneg_right h2.2 (by omega)
  omega
theorem sp_told_r {D V G : Int → Int} {f g t : Int} : ∀ {n : Nat}, (∀ k : Nat, k < n → D (40 * f + (k : Int)) < D (40 * f + 1 + (k : Int)) ∧ 0 ≤ V (40 * f + 1 + (k : Int)) - G (40 * f + (k : Int)) ∧ V (40 * f + 1 + (k : Int)) - G (40 * f + (k : Int)) ≤ 10000000) → -(10000000 * (n : Int)) ≤ sp_told D V G f g t n ∧ sp_told D V G f g t n ≤ 10000000 * (n : Int)
  | 0, _ => by simp [sp_told]
  | n + 1, h => by
    have ih := sp_told_r (D := D) (V := V) (G := G) (f := f) (g := g) (t := t) (n := n) (fun k hk => h k (by omega))
    have hn := h n (by omega)
    have p1 := sp_pt_r (d := t) hn.1 hn.2
    have p2 := sp_pt_r (d := g) hn.1 hn.2
    unfold sp_told
    omega
/-- a meter's use between two days -/
def sp_use (M : MS) (f g t : Int) : Int := (sp_told (M 14) (M 15) (M 16) f g t (M 13 f - 1).toNat * M 10 f).tdiv (M 11 f)
/-- what is known of the variables, or less -/
def am_le : List (Option Value) → List (Option Value) → Prop
  | [], _ => True
  | none :: a, _ :: b => am_le a b
  | some v :: a, x :: b => x = some v ∧ am_le a b
  | none :: a, [] => am_le a []
  | some _ :: _, [] => False
theorem am_le_ok : ∀ (A B : List (Option Value)), am_le A B → ∀ (i : Nat) (v : Value), A[i]? = some (some v) → B[i]? = some (some v) := by
  intro A
  induction A with
  | nil => intro B _ i v h; simp at h
  | cons a A ih =>
    intro B hle i v h
    match a, B, hle with
    | none, x :: B, hle =>
      match i, h with
      | 0, h => simp at h
      | i + 1, h => simpa using ih B hle i v (by simpa using h)
    | some w, x :: B, hle =>
      match i, h with
      | 0, h => simp at h; rw [← h]; simpa using hle.1
      | i + 1, h => simpa using ih B hle.2 i v (by simpa using h)
    | none, [], hle =>
      match i, h with
      | 0, h => simp at h
      | i + 1, h => have := ih [] hle i v (by simpa using h); simp at this
theorem v_subL {p : Program} {l : Launch} {e : Env} {R : Room} {s : State} {m : MethodId} {args : Array Value} {below : List Frame} {meth : Method} {c : Code} {nL : Nat} {X : am_X} {Q : State → Prop} {h : am_H} {nx cells slots pc : Nat} {L L' : List (Option Value)} {st : List Value} (hle : am_le L' L) (k : V p l e R s m args below meth c nL X Q h nx cells slots pc L' st) : V p l e R s m args below meth c nL X Q h nx cells slots pc L st := v_sub (am_le_ok L' L hle) k
set_option maxRecDepth 100000 in
set_option maxHeartbeats 4000000 in
theorem lp_M_useOf {p : Program} {l : Launch} {e : Env} {s : State} {m : MethodId} {args : Array Value} {below : List Frame} {meth : Method} {c : Code} {X : am_X} {Q : State → Prop} {h : am_H} {nx : Nat} {y kk : Nat} {M : MS} {f g t : Int} (F : am_Fx p s m args meth c y_M_useOf b_M_useOf 13 ((Option.some FieldType.long)) [] X) (hM : RepM y M h) (hme : 0 ≤ M 7 0 ∧ M 7 0 ≤ 60) (hrd : ∀ f : Int, 0 ≤ f → f < M 7 0 → 0 ≤ M 13 f ∧ M 13 f ≤ 40) (hda : ∀ i : Int, 0 ≤ i → i < 2400 → 0 ≤ M 14 i ∧ M 14 i ≤ 3649) (hva : ∀ i : Int, 0 ≤ i → i < 2400 → 0 ≤ M 15 i ∧ M 15 i ≤ 10000000) (hgo : ∀ i : Int, 0 ≤ i → i < 2400 → 0 ≤ M 16 i ∧ M 16 i ≤ 10000000) (hmo : ∀ f k : Int, 0 ≤ f → f < M 7 0 → 0 ≤ k → k + 1 < M 13 f → M 14 (40 * f + k) < M 14 (40 * f + 1 + k) ∧ M 16 (40 * f + k) ≤ M 15 (40 * f + 1 + k)) (hab : ∀ f : Int, 0 ≤ f → f < M 7 0 → (1 ≤ M 10 f ∧ M 10 f ≤ 1000) ∧ (1 ≤ M 11 f ∧ M 11 f ≤ 1000)) (hte : ∀ i : Int, 0 ≤ i → i < 60 → 0 ≤ M 12 i ∧ M 12 i ≤ 3649) (hfo : ∀ i : Int, 0 ≤ i → i < 60 → (0 ≤ M 8 i ∧ M 8 i ≤ 20) ∧ (0 ≤ M 9 i ∧ M 9 i ≤ 3)) (hf : 0 ≤ f ∧ f < M 7 0) (rg : 0 ≤ g ∧ g ≤ 3650) (rt : 0 ≤ t ∧ t ≤ 3650) (hkk : (kk : Int) = (M 13 f - 1).toNat) (hx : V p l e ({ frames := 0, cells := 0, slots := 0, locals := 0 }) s m args below meth c 13 X Q h nx 0 0 161 [some (.ref y), some (iV f), some (iV g), some (iV t), some (lV (sp_told (M 14) (M 15) (M 16) f g t kk)), none, some (iV (40 * f + 1 + (kk : Int))), none, none, none, none, none, none] []) : ∀ (n k : Nat), kk < k + n → k ≤ kk → V p l e ({ frames := 0, cells := 0, slots := 0, locals := 0 }) s m args below meth c 13 X Q h nx 0 0 11 [some (.ref y), some (iV f), some (iV g), some (iV t), some (lV (sp_told (M 14) (M 15) (M 16) f g t k)), none, some (iV (40 * f + 1 + (k : Int))), none, none, none, none, none, none] [] := by
  intro n
  induction n with
  | zero =>
    intro k hk hk2
    exact absurd hk (by omega)
  | succ n ih =>
    intro k hk hk2
    have q1 := hrd f hf.1 hf.2
    refine v_iload (pc' := 13) F d_M_useOf_11 rfl rfl ?_
    refine v_bipush (pc' := 15) F d_M_useOf_13 rfl (by decide) ?_
    refine v_iload_n (pc' := 16) (j := 1) F d_M_useOf_15 rfl rfl rfl ?_
    refine v_imul (pc' := 17) F d_M_useOf_16 rfl ?_
    refine v_aload_n (pc' := 18) (j := 0) F d_M_useOf_17 rfl rfl rfl ?_
    refine v_getf (pc' := 21) (C := zR_M) (T := zF_M) (N := 28) (ref := "BillSharesModel") F d_M_useOf_18 rfl zi_M rfl 13 (by decide) wx_674 (Or.inl rfl) hM.1 rfl ?_
    refine v_iload_n (pc' := 22) (j := 1) F d_M_useOf_21 rfl rfl rfl ?_
    refine mg_13 (pc' := 23) F hM d_M_useOf_22 rfl (by omega) (by omega) ?_
    refine v_iadd (pc' := 24) F d_M_useOf_23 rfl ?_
    refine v_icmp_ge (tgt := 161) (pc' := 27) F d_M_useOf_24 (by decide) rfl (by omega) (by omega) (fun c24 => ?_) (fun c24 => ?_)
    · obtain rfl : k = kk := by omega
      exact hx
    · have q2 := hmo f (k : Int) hf.1 hf.2 (by omega) (by omega)
      have q3 := hda (40 * f + (k : Int)) (by omega) (by omega)
      have q4 := hda (40 * f + 1 + (k : Int)) (by omega) (by omega)
      have q5 := hva (40 * f + 1 + (k : Int)) (by omega) (by omega)
      have q6 := hgo (40 * f + (k : Int)) (by omega) (by omega)
      have u1 := sp_cl_r (d := t) (a := M 14 (40 * f + (k : Int))) (b := M 14 (40 * f + 1 + (k : Int))) (by omega)
      have u2 := sp_cl_r (d := g) (a := M 14 (40 * f + (k : Int))) (b := M 14 (40 * f + 1 + (k : Int))) (by omega)
      have u3 := am_mul_r (x := M 15 (40 * f + 1 + (k : Int)) - M 16 (40 * f + (k : Int))) (y := sp_cl t (M 14 (40 * f + (k : Int))) (M 14 (40 * f + 1 + (k : Int))) - M 14 (40 * f + (k : Int))) (a := 10000000) (b := 3650) (by omega) (by omega) (by omega)
      have u4 := am_mul_r (x := M 15 (40 * f + 1 + (k : Int)) - M 16 (40 * f + (k : Int))) (y := sp_cl g (M 14 (40 * f + (k : Int))) (M 14 (40 * f + 1 + (k : Int))) - M 14 (40 * f + (k : Int))) (a := 10000000) (b := 3650) (by omega) (by omega) (by omega)
      refine v_aload_n (pc' := 28) (j := 0) F d_M_useOf_27 rfl rfl rfl ?_
      refine v_getf (pc' := 31) (C := zR_M) (T := zF_M) (N := 28) (ref := "BillSharesModel") F d_M_useOf_28 rfl zi_M rfl 14 (by decide) wx_675 (Or.inl rfl) hM.1 rfl ?_
      refine v_iload (pc' := 33) F d_M_useOf_31 rfl rfl ?_
      refine v_iconst (pc' := 34) F d_M_useOf_33 rfl ?_
      refine v_isub (pc' := 35) F d_M_useOf_34 rfl ?_
      refine v_topi (b := 40 * f + (k : Int)) (by omega) ?_
      refine mg_14 (pc' := 36) F hM d_M_useOf_35 rfl (by omega) (by omega) ?_
      refine v_istore_7 (pc' := 38) F d_M_useOf_36 rfl rfl (by decide) ?_
      refine v_aload_n (pc' := 39) (j := 0) F d_M_useOf_38 rfl rfl rfl ?_
      refine v_getf (pc' := 42) (C := zR_M) (T := zF_M) (N := 28) (ref := "BillSharesModel") F d_M_useOf_39 rfl zi_M rfl 14 (by decide) wx_675 (Or.inl rfl) hM.1 rfl ?_
      refine v_iload (pc' := 44) F d_M_useOf_42 rfl rfl ?_
      refine mg_14 (pc' := 45) F hM d_M_useOf_44 rfl (by omega) (by omega) ?_
      refine v_istore_8 (pc' := 47) F d_M_useOf_45 rfl rfl (by decide) ?_
      refine v_aload_n (pc' := 48) (j := 0) F d_M_useOf_47 rfl rfl rfl ?_
      refine v_getf (pc' := 51) (C := zR_M) (T := zF_M) (N := 28) (ref := "BillSharesModel") F d_M_useOf_48 rfl zi_M rfl 15 (by decide) wx_676 (Or.inl rfl) hM.1 rfl ?_
      refine v_iload (pc' := 53) F d_M_useOf_51 rfl rfl ?_
      refine mg_15 (pc' := 54) F hM d_M_useOf_53 rfl (by omega) (by omega) ?_
      refine v_aload_n (pc' := 55) (j := 0) F d_M_useOf_54 rfl rfl rfl ?_
      refine v_getf (pc' := 58) (C := zR_M) (T := zF_M) (N := 28) (ref := "BillSharesModel") F d_M_useOf_55 rfl zi_M rfl 16 (by decide) wx_677 (Or.inl rfl) hM.1 rfl ?_
      refine v_iload (pc' := 60) F d_M_useOf_58 rfl rfl ?_
      refine v_iconst (pc' := 61) F d_M_useOf_60 rfl ?_
      refine v_isub (pc' := 62) F d_M_useOf_61 rfl ?_
      refine v_topi (b := 40 * f + (k : Int)) (by omega) ?_
      refine mg_16 (pc' := 63) F hM d_M_useOf_62 rfl (by omega) (by omega) ?_
      refine v_isub (pc' := 64) F d_M_useOf_63 rfl ?_
      refine v_i2l (pc' := 65) F d_M_useOf_64 rfl (by omega) ?_
      refine v_lstore_9 (pc' := 67) F d_M_useOf_65 rfl rfl (by decide) ?_
      refine v_iload_n (pc' := 68) (j := 2) F d_M_useOf_67 rfl rfl rfl ?_
      refine v_iload (pc' := 70) F d_M_useOf_68 rfl rfl ?_
      refine v_icmp_ge (tgt := 78) (pc' := 73) F d_M_useOf_70 (by decide) rfl (by omega) (by omega) (fun c70 => ?_) (fun c70 => ?_)
      · refine v_iload_n (pc' := 79) (j := 2) F d_M_useOf_78 rfl rfl rfl ?_
        refine v_iload (pc' := 81) F d_M_useOf_79 rfl rfl ?_
        refine v_icmp_le (tgt := 89) (pc' := 84) F d_M_useOf_81 (by decide) rfl (by omega) (by omega) (fun c81 => ?_) (fun c81 => ?_)
        · refine v_iload_n (pc' := 90) (j := 2) F d_M_useOf_89 rfl rfl rfl ?_
          refine v_topi (b := sp_cl g (M 14 (40 * f + (k : Int))) (M 14 (40 * f + 1 + (k : Int)))) (by unfold sp_cl; first | (exfalso; omega) | rw [if_pos (by omega)] | rw [if_neg (by omega), if_pos (by omega)] | rw [if_neg (by omega), if_neg (by omega)]) ?_
          refine v_istore_11 (pc' := 92) F d_M_useOf_90 rfl rfl (by decide) ?_
          refine v_iload_n (pc' := 93) (j := 3) F d_M_useOf_92 rfl rfl rfl ?_
          refine v_iload (pc' := 95) F d_M_useOf_93 rfl rfl ?_
          refine v_icmp_ge (tgt := 103) (pc' := 98) F d_M_useOf_95 (by decide) rfl (by omega) (by omega) (fun c95 => ?_) (fun c95 => ?_)
          · refine v_iload_n (pc' := 104) (j := 3) F d_M_useOf_103 rfl rfl rfl ?_
            refine v_iload (pc' := 106) F d_M_useOf_104 rfl rfl ?_
            refine v_icmp_le (tgt := 114) (pc' := 109) F d_M_useOf_106 (by decide) rfl (by omega) (by omega) (fun c106 => ?_) (fun c106 => ?_)
            · refine v_iload_n (pc' := 115) (j := 3) F d_M_useOf_114 rfl rfl rfl ?_
              refine v_topi (b := sp_cl t (M 14 (40 * f + (k : Int))) (M 14 (40 * f + 1 + (k : Int)))) (by unfold sp_cl; first | (exfalso; omega) | rw [if_pos (by omega)] | rw [if_neg (by omega), if_pos (by omega)] | rw [if_neg (by omega), if_neg (by omega)]) ?_
              refine v_istore_12 (pc' := 117) F d_M_useOf_115 rfl rfl (by decide) ?_
              refine v_lload (pc' := 119) F d_M_useOf_117 rfl rfl ?_
              refine v_lload (pc' := 121) F d_M_useOf_119 rfl rfl ?_
              refine v_iload (pc' := 123) F d_M_useOf_121 rfl rfl ?_
              refine v_iload (pc' := 125) F d_M_useOf_123 rfl rfl ?_
              refine v_isub (pc' := 126) F d_M_useOf_125 rfl ?_
              refine v_i2l (pc' := 127) F d_M_useOf_126 rfl (by omega) ?_
              refine v_lmul (pc' := 128) F d_M_useOf_127 rfl ?_
              refine v_iload (pc' := 130) F d_M_useOf_128 rfl rfl ?_
              refine v_iload (pc' := 132) F d_M_useOf_130 rfl rfl ?_
              refine v_isub (pc' := 133) F d_M_useOf_132 rfl ?_
              refine v_i2l (pc' := 134) F d_M_useOf_133 rfl (by omega) ?_
              refine v_ldiv (pc' := 135) F d_M_useOf_134 rfl (by omega) (by omega) (by omega) ?_
              refine v_lload (pc' := 137) F d_M_useOf_135 rfl rfl ?_
              refine v_iload (pc' := 139) F d_M_useOf_137 rfl rfl ?_
              refine v_iload (pc' := 141) F d_M_useOf_139 rfl rfl ?_
              refine v_isub (pc' := 142) F d_M_useOf_141 rfl ?_
              refine v_i2l (pc' := 143) F d_M_useOf_142 rfl (by omega) ?_
              refine v_lmul (pc' := 144) F d_M_useOf_143 rfl ?_
              refine v_iload (pc' := 146) F d_M_useOf_144 rfl rfl ?_
              refine v_iload (pc' := 148) F d_M_useOf_146 rfl rfl ?_
              refine v_isub (pc' := 149) F d_M_useOf_148 rfl ?_
              refine v_i2l (pc' := 150) F d_M_useOf_149 rfl (by omega) ?_
              refine v_ldiv (pc' := 151) F d_M_useOf_150 rfl (by omega) (by omega) (by omega) ?_
              refine v_lsub (pc' := 152) F d_M_useOf_151 rfl ?_
              refine v_ladd (pc' := 153) F d_M_useOf_152 rfl ?_
              refine v_lstore_4 (pc' := 155) F d_M_useOf_153 rfl rfl (by decide) ?_
              refine v_iinc_6 (pc' := 158) F d_M_useOf_155 rfl rfl (by decide) ?_
              refine v_goto (tgt := 11) F d_M_useOf_158 (by decide) ?_
              have q9 := ih (k + 1) (by omega) (by omega)
              rw [show (40 * f + 1 + ((k + 1 : Nat) : Int)) = 40 * f + 1 + (k : Int) + 1 by omega] at q9
              exact v_subL (by repeat' (first | exact trivial | exact rfl | refine And.intro ?_ ?_)) q9
            · refine v_iload (pc' := 111) F d_M_useOf_109 rfl rfl ?_
              refine v_goto (tgt := 115) F d_M_useOf_111 (by decide) ?_
              refine v_topi (b := sp_cl t (M 14 (40 * f + (k : Int))) (M 14 (40 * f + 1 + (k : Int)))) (by unfold sp_cl; first | (exfalso; omega) | rw [if_pos (by omega)] | rw [if_neg (by omega), if_pos (by omega)] | rw [if_neg (by omega), if_neg (by omega)]) ?_
              refine v_istore_12 (pc' := 117) F d_M_useOf_115 rfl rfl (by decide) ?_
              refine v_lload (pc' := 119) F d_M_useOf_117 rfl rfl ?_
              refine v_lload (pc' := 121) F d_M_useOf_119 rfl rfl ?_
              refine v_iload (pc' := 123) F d_M_useOf_121 rfl rfl ?_
              refine v_iload (pc' := 125) F d_M_useOf_123 rfl rfl ?_
              refine v_isub (pc' := 126) F d_M_useOf_125 rfl ?_
              refine v_i2l (pc' := 127) F d_M_useOf_126 rfl (by omega) ?_
              refine v_lmul (pc' := 128) F d_M_useOf_127 rfl ?_
              refine v_iload (pc' := 130) F d_M_useOf_128 rfl rfl ?_
              refine v_iload (pc' := 132) F d_M_useOf_130 rfl rfl ?_
              refine v_isub (pc' := 133) F d_M_useOf_132 rfl ?_
              refine v_i2l (pc' := 134) F d_M_useOf_133 rfl (by omega) ?_
              refine v_ldiv (pc' := 135) F d_M_useOf_134 rfl (by omega) (by omega) (by omega) ?_
              refine v_lload (pc' := 137) F d_M_useOf_135 rfl rfl ?_
              refine v_iload (pc' := 139) F d_M_useOf_137 rfl rfl ?_
              refine v_iload (pc' := 141) F d_M_useOf_139 rfl rfl ?_
              refine v_isub (pc' := 142) F d_M_useOf_141 rfl ?_
              refine v_i2l (pc' := 143) F d_M_useOf_142 rfl (by omega) ?_
              refine v_lmul (pc' := 144) F d_M_useOf_143 rfl ?_
              refine v_iload (pc' := 146) F d_M_useOf_144 rfl rfl ?_
              refine v_iload (pc' := 148) F d_M_useOf_146 rfl rfl ?_
              refine v_isub (pc' := 149) F d_M_useOf_148 rfl ?_
              refine v_i2l (pc' := 150) F d_M_useOf_149 rfl (by omega) ?_
              refine v_ldiv (pc' := 151) F d_M_useOf_150 rfl (by omega) (by omega) (by omega) ?_
              refine v_lsub (pc' := 152) F d_M_useOf_151 rfl ?_
              refine v_ladd (pc' := 153) F d_M_useOf_152 rfl ?_
              refine v_lstore_4 (pc' := 155) F d_M_useOf_153 rfl rfl (by decide) ?_
              refine v_iinc_6 (pc' := 158) F d_M_useOf_155 rfl rfl (by decide) ?_
              refine v_goto (tgt := 11) F d_M_useOf_158 (by decide) ?_
              have q9 := ih (k + 1) (by omega) (by omega)
              rw [show (40 * f + 1 + ((k + 1 : Nat) : Int)) = 40 * f + 1 + (k : Int) + 1 by omega] at q9
              exact v_subL (by repeat' (first | exact trivial | exact rfl | refine And.intro ?_ ?_)) q9
          · refine v_iload (pc' := 100) F d_M_useOf_98 rfl rfl ?_
            refine v_goto (tgt := 115) F d_M_useOf_100 (by decide) ?_
            refine v_topi (b := sp_cl t (M 14 (40 * f + (k : Int))) (M 14 (40 * f + 1 + (k : Int)))) (by unfold sp_cl; first | (exfalso; omega) | rw [if_pos (by omega)] | rw [if_neg (by omega), if_pos (by omega)] | rw [if_neg (by omega), if_neg (by omega)]) ?_
            refine v_istore_12 (pc' := 117) F d_M_useOf_115 rfl rfl (by decide) ?_
            refine v_lload (pc' := 119) F d_M_useOf_117 rfl rfl ?_
            refine v_lload (pc' := 121) F d_M_useOf_119 rfl rfl ?_
            refine v_iload (pc' := 123) F d_M_useOf_121 rfl rfl ?_
            refine v_iload (pc' := 125) F d_M_useOf_123 rfl rfl ?_
            refine v_isub (pc' := 126) F d_M_useOf_125 rfl ?_
            refine v_i2l (pc' := 127) F d_M_useOf_126 rfl (by omega) ?_
            refine v_lmul (pc' := 128) F d_M_useOf_127 rfl ?_
            refine v_iload (pc' := 130) F d_M_useOf_128 rfl rfl ?_
            refine v_iload (pc' := 132) F d_M_useOf_130 rfl rfl ?_
            refine v_isub (pc' := 133) F d_M_useOf_132 rfl ?_
            refine v_i2l (pc' := 134) F d_M_useOf_133 rfl (by omega) ?_
            refine v_ldiv (pc' := 135) F d_M_useOf_134 rfl (by omega) (by omega) (by omega) ?_
            refine v_lload (pc' := 137) F d_M_useOf_135 rfl rfl ?_
            refine v_iload (pc' := 139) F d_M_useOf_137 rfl rfl ?_
            refine v_iload (pc' := 141) F d_M_useOf_139 rfl rfl ?_
            refine v_isub (pc' := 142) F d_M_useOf_141 rfl ?_
            refine v_i2l (pc' := 143) F d_M_useOf_142 rfl (by omega) ?_
            refine v_lmul (pc' := 144) F d_M_useOf_143 rfl ?_
            refine v_iload (pc' := 146) F d_M_useOf_144 rfl rfl ?_
            refine v_iload (pc' := 148) F d_M_useOf_146 rfl rfl ?_
            refine v_isub (pc' := 149) F d_M_useOf_148 rfl ?_
            refine v_i2l (pc' := 150) F d_M_useOf_149 rfl (by omega) ?_
            refine v_ldiv (pc' := 151) F d_M_useOf_150 rfl (by omega) (by omega) (by omega) ?_
            refine v_lsub (pc' := 152) F d_M_useOf_151 rfl ?_
            refine v_ladd (pc' := 153) F d_M_useOf_152 rfl ?_
            refine v_lstore_4 (pc' := 155) F d_M_useOf_153 rfl rfl (by decide) ?_
            refine v_iinc_6 (pc' := 158) F d_M_useOf_155 rfl rfl (by decide) ?_
            refine v_goto (tgt := 11) F d_M_useOf_158 (by decide) ?_
            have q9 := ih (k + 1) (by omega) (by omega)
            rw [show (40 * f + 1 + ((k + 1 : Nat) : Int)) = 40 * f + 1 + (k : Int) + 1 by omega] at q9
            exact v_subL (by repeat' (first | exact trivial | exact rfl | refine And.intro ?_ ?_)) q9
        · refine v_iload (pc' := 86) F d_M_useOf_84 rfl rfl ?_
          refine v_goto (tgt := 90) F d_M_useOf_86 (by decide) ?_
          refine v_topi (b := sp_cl g (M 14 (40 * f + (k : Int))) (M 14 (40 * f + 1 + (k : Int)))) (by unfold sp_cl; first | (exfalso; omega) | rw [if_pos (by omega)] | rw [if_neg (by omega), if_pos (by omega)] | rw [if_neg (by omega), if_neg (by omega)]) ?_
          refine v_istore_11 (pc' := 92) F d_M_useOf_90 rfl rfl (by decide) ?_
          refine v_iload_n (pc' := 93) (j := 3) F d_M_useOf_92 rfl rfl rfl ?_
          refine v_iload (pc' := 95) F d_M_useOf_93 rfl rfl ?_
          refine v_icmp_ge (tgt := 103) (pc' := 98) F d_M_useOf_95 (by decide) rfl (by omega) (by omega) (fun c95 => ?_) (fun c95 => ?_)
          · refine v_iload_n (pc' := 104) (j := 3) F d_M_useOf_103 rfl rfl rfl ?_
            refine v_iload (pc' := 106) F d_M_useOf_104 rfl rfl ?_
            refine v_icmp_le (tgt := 114) (pc' := 109) F d_M_useOf_106 (by decide) rfl (by omega) (by omega) (fun c106 => ?_) (fun c106 => ?_)
            · refine v_iload_n (pc' := 115) (j := 3) F d_M_useOf_114 rfl rfl rfl ?_
              refine v_topi (b := sp_cl t (M 14 (40 * f + (k : Int))) (M 14 (40 * f + 1 + (k : Int)))) (by unfold sp_cl; first | (exfalso; omega) | rw [if_pos (by omega)] | rw [if_neg (by omega), if_pos (by omega)] | rw [if_neg (by omega), if_neg (by omega)]) ?_
              refine v_istore_12 (pc' := 117) F d_M_useOf_115 rfl rfl (by decide) ?_
              refine v_lload (pc' := 119) F d_M_useOf_117 rfl rfl ?_
              refine v_lload (pc' := 121) F d_M_useOf_119 rfl rfl ?_
              refine v_iload (pc' := 123) F d_M_useOf_121 rfl rfl ?_
              refine v_iload (pc' := 125) F d_M_useOf_123 rfl rfl ?_
              refine v_isub (pc' := 126) F d_M_useOf_125 rfl ?_
              refine v_i2l (pc' := 127) F d_M_useOf_126 rfl (by omega) ?_
              refine v_lmul (pc' := 128) F d_M_useOf_127 rfl ?_
              refine v_iload (pc' := 130) F d_M_useOf_128 rfl rfl ?_
              refine v_iload (pc' := 132) F d_M_useOf_130 rfl rfl ?_
              refine v_isub (pc' := 133) F d_M_useOf_132 rfl ?_
              refine v_i2l (pc' := 134) F d_M_useOf_133 rfl (by omega) ?_
              refine v_ldiv (pc' := 135) F d_M_useOf_134 rfl (by omega) (by omega) (by omega) ?_
              refine v_lload (pc' := 137) F d_M_useOf_135 rfl rfl ?_
              refine v_iload (pc' := 139) F d_M_useOf_137 rfl rfl ?_
              refine v_iload (pc' := 141) F d_M_useOf_139 rfl rfl ?_
              refine v_isub (pc' := 142) F d_M_useOf_141 rfl ?_
              refine v_i2l (pc' := 143) F d_M_useOf_142 rfl (by omega) ?_
              refine v_lmul (pc' := 144) F d_M_useOf_143 rfl ?_
              refine v_iload (pc' := 146) F d_M_useOf_144 rfl rfl ?_
              refine v_iload (pc' := 148) F d_M_useOf_146 rfl rfl ?_
              refine v_isub (pc' := 149) F d_M_useOf_148 rfl ?_
              refine v_i2l (pc' := 150) F d_M_useOf_149 rfl (by omega) ?_
              refine v_ldiv (pc' := 151) F d_M_useOf_150 rfl (by omega) (by omega) (by omega) ?_
              refine v_lsub (pc' := 152) F d_M_useOf_151 rfl ?_
              refine v_ladd (pc' := 153) F d_M_useOf_152 rfl ?_
              refine v_lstore_4 (pc' := 155) F d_M_useOf_153 rfl rfl (by decide) ?_
              refine v_iinc_6 (pc' := 158) F d_M_useOf_155 rfl rfl (by decide) ?_
              refine v_goto (tgt := 11) F d_M_useOf_158 (by decide) ?_
              have q9 := ih (k + 1) (by omega) (by omega)
              rw [show (40 * f + 1 + ((k + 1 : Nat) : Int)) = 40 * f + 1 + (k : Int) + 1 by omega] at q9
              exact v_subL (by repeat' (first | exact trivial | exact rfl | refine And.intro ?_ ?_)) q9
            · refine v_iload (pc' := 111) F d_M_useOf_109 rfl rfl ?_
              refine v_goto (tgt := 115) F d_M_useOf_111 (by decide) ?_
              refine v_topi (b := sp_cl t (M 14 (40 * f + (k : Int))) (M 14 (40 * f + 1 + (k : Int)))) (by unfold sp_cl; first | (exfalso; omega) | rw [if_pos (by omega)] | rw [if_neg (by omega), if_pos (by omega)] | rw [if_neg (by omega), if_neg (by omega)]) ?_
              refine v_istore_12 (pc' := 117) F d_M_useOf_115 rfl rfl (by decide) ?_
              refine v_lload (pc' := 119) F d_M_useOf_117 rfl rfl ?_
              refine v_lload (pc' := 121) F d_M_useOf_119 rfl rfl ?_
              refine v_iload (pc' := 123) F d_M_useOf_121 rfl rfl ?_
              refine v_iload (pc' := 125) F d_M_useOf_123 rfl rfl ?_
              refine v_isub (pc' := 126) F d_M_useOf_125 rfl ?_
              refine v_i2l (pc' := 127) F d_M_useOf_126 rfl (by omega) ?_
              refine v_lmul (pc' := 128) F d_M_useOf_127 rfl ?_
              refine v_iload (pc' := 130) F d_M_useOf_128 rfl rfl ?_
              refine v_iload (pc' := 132) F d_M_useOf_130 rfl rfl ?_
              refine v_isub (pc' := 133) F d_M_useOf_132 rfl ?_
              refine v_i2l (pc' := 134) F d_M_useOf_133 rfl (by omega) ?_
              refine v_ldiv (pc' := 135) F d_M_useOf_134 rfl (by omega) (by omega) (by omega) ?_
              refine v_lload (pc' := 137) F d_M_useOf_135 rfl rfl ?_
              refine v_iload (pc' := 139) F d_M_useOf_137 rfl rfl ?_
              refine v_iload (pc' := 141) F d_M_useOf_139 rfl rfl ?_
              refine v_isub (pc' := 142) F d_M_useOf_141 rfl ?_
              refine v_i2l (pc' := 143) F d_M_useOf_142 rfl (by omega) ?_
              refine v_lmul (pc' := 144) F d_M_useOf_143 rfl ?_
              refine v_iload (pc' := 146) F d_M_useOf_144 rfl rfl ?_
              refine v_iload (pc' := 148) F d_M_useOf_146 rfl rfl ?_
              refine v_isub (pc' := 149) F d_M_useOf_148 rfl ?_
              refine v_i2l (pc' := 150) F d_M_useOf_149 rfl (by omega) ?_
              refine v_ldiv (pc' := 151) F d_M_useOf_150 rfl (by omega) (by omega) (by omega) ?_
              refine v_lsub (pc' := 152) F d_M_useOf_151 rfl ?_
              refine v_ladd (pc' := 153) F d_M_useOf_152 rfl ?_
              refine v_lstore_4 (pc' := 155) F d_M_useOf_153 rfl rfl (by decide) ?_
              refine v_iinc_6 (pc' := 158) F d_M_useOf_155 rfl rfl (by decide) ?_
              refine v_goto (tgt := 11) F d_M_useOf_158 (by decide) ?_
              have q9 := ih (k + 1) (by omega) (by omega)
              rw [show (40 * f + 1 + ((k + 1 : Nat) : Int)) = 40 * f + 1 + (k : Int) + 1 by omega] at q9
              exact v_subL (by repeat' (first | exact trivial | exact rfl | refine And.intro ?_ ?_)) q9
          · refine v_iload (pc' := 100) F d_M_useOf_98 rfl rfl ?_
            refine v_goto (tgt := 115) F d_M_useOf_100 (by decide) ?_
            refine v_topi (b := sp_cl t (M 14 (40 * f + (k : Int))) (M 14 (40 * f + 1 + (k : Int)))) (by unfold sp_cl; first | (exfalso; omega) | rw [if_pos (by omega)] | rw [if_neg (by omega), if_pos (by omega)] | rw [if_neg (by omega), if_neg (by omega)]) ?_
            refine v_istore_12 (pc' := 117) F d_M_useOf_115 rfl rfl (by decide) ?_
            refine v_lload (pc' := 119) F d_M_useOf_117 rfl rfl ?_
            refine v_lload (pc' := 121) F d_M_useOf_119 rfl rfl ?_
            refine v_iload (pc' := 123) F d_M_useOf_121 rfl rfl ?_
            refine v_iload (pc' := 125) F d_M_useOf_123 rfl rfl ?_
            refine v_isub (pc' := 126) F d_M_useOf_125 rfl ?_
            refine v_i2l (pc' := 127) F d_M_useOf_126 rfl (by omega) ?_
            refine v_lmul (pc' := 128) F d_M_useOf_127 rfl ?_
            refine v_iload (pc' := 130) F d_M_useOf_128 rfl rfl ?_
            refine v_iload (pc' := 132) F d_M_useOf_130 rfl rfl ?_
            refine v_isub (pc' := 133) F d_M_useOf_132 rfl ?_
            refine v_i2l (pc' := 134) F d_M_useOf_133 rfl (by omega) ?_
            refine v_ldiv (pc' := 135) F d_M_useOf_134 rfl (by omega) (by omega) (by omega) ?_
            refine v_lload (pc' := 137) F d_M_useOf_135 rfl rfl ?_
            refine v_iload (pc' := 139) F d_M_useOf_137 rfl rfl ?_
            refine v_iload (pc' := 141) F d_M_useOf_139 rfl rfl ?_
            refine v_isub (pc' := 142) F d_M_useOf_141 rfl ?_
            refine v_i2l (pc' := 143) F d_M_useOf_142 rfl (by omega) ?_
            refine v_lmul (pc' := 144) F d_M_useOf_143 rfl ?_
            refine v_iload (pc' := 146) F d_M_useOf_144 rfl rfl ?_
            refine v_iload (pc' := 148) F d_M_useOf_146 rfl rfl ?_
            refine v_isub (pc' := 149) F d_M_useOf_148 rfl ?_
            refine v_i2l (pc' := 150) F d_M_useOf_149 rfl (by omega) ?_
            refine v_ldiv (pc' := 151) F d_M_useOf_150 rfl (by omega) (by omega) (by omega) ?_
            refine v_lsub (pc' := 152) F d_M_useOf_151 rfl ?_
            refine v_ladd (pc' := 153) F d_M_useOf_152 rfl ?_
            refine v_lstore_4 (pc' := 155) F d_M_useOf_153 rfl rfl (by decide) ?_
            refine v_iinc_6 (pc' := 158) F d_M_useOf_155 rfl rfl (by decide) ?_
            refine v_goto (tgt := 11) F d_M_useOf_158 (by decide) ?_
            have q9 := ih (k + 1) (by omega) (by omega)
            rw [show (40 * f + 1 + ((k + 1 : Nat) : Int)) = 40 * f + 1 + (k : Int) + 1 by omega] at q9
            exact v_subL (by repeat' (first | exact trivial | exact rfl | refine And.intro ?_ ?_)) q9
      · refine v_iload (pc' := 75) F d_M_useOf_73 rfl rfl ?_
        refine v_goto (tgt := 90) F d_M_useOf_75 (by decide) ?_
        refine v_topi (b := sp_cl g (M 14 (40 * f + (k : Int))) (M 14 (40 * f + 1 + (k : Int)))) (by unfold sp_cl; first | (exfalso; omega) | rw [if_pos (by omega)] | rw [if_neg (by omega), if_pos (by omega)] | rw [if_neg (by omega), if_neg (by omega)]) ?_
        refine v_istore_11 (pc' := 92) F d_M_useOf_90 rfl rfl (by decide) ?_
        refine v_iload_n (pc' := 93) (j := 3) F d_M_useOf_92 rfl rfl rfl ?_
        refine v_iload (pc' := 95) F d_M_useOf_93 rfl rfl ?_
        refine v_icmp_ge (tgt := 103) (pc' := 98) F d_M_useOf_95 (by decide) rfl (by omega) (by omega) (fun c95 => ?_) (fun c95 => ?_)
        · refine v_iload_n (pc' := 104) (j := 3) F d_M_useOf_103 rfl rfl rfl ?_
          refine v_iload (pc' := 106) F d_M_useOf_104 rfl rfl ?_
          refine v_icmp_le (tgt := 114) (pc' := 109) F d_M_useOf_106 (by decide) rfl (by omega) (by omega) (fun c106 => ?_) (fun c106 => ?_)
          · refine v_iload_n (pc' := 115) (j := 3) F d_M_useOf_114 rfl rfl rfl ?_
            refine v_topi (b := sp_cl t (M 14 (40 * f + (k : Int))) (M 14 (40 * f + 1 + (k : Int)))) (by unfold sp_cl; first | (exfalso; omega) | rw [if_pos (by omega)] | rw [if_neg (by omega), if_pos (by omega)] | rw [if_neg (by omega), if_neg (by omega)]) ?_
            refine v_istore_12 (pc' := 117) F d_M_useOf_115 rfl rfl (by decide) ?_
            refine v_lload (pc' := 119) F d_M_useOf_117 rfl rfl ?_
            refine v_lload (pc' := 121) F d_M_useOf_119 rfl rfl ?_
            refine v_iload (pc' := 123) F d_M_useOf_121 rfl rfl ?_
            refine v_iload (pc' := 125) F d_M_useOf_123 rfl rfl ?_
            refine v_isub (pc' := 126) F d_M_useOf_125 rfl ?_
            refine v_i2l (pc' := 127) F d_M_useOf_126 rfl (by omega) ?_
            refine v_lmul (pc' := 128) F d_M_useOf_127 rfl ?_
            refine v_iload (pc' := 130) F d_M_useOf_128 rfl rfl ?_
            refine v_iload (pc' := 132) F d_M_useOf_130 rfl rfl ?_
            refine v_isub (pc' := 133) F d_M_useOf_132 rfl ?_
            refine v_i2l (pc' := 134) F d_M_useOf_133 rfl (by omega) ?_
            refine v_ldiv (pc' := 135) F d_M_useOf_134 rfl (by omega) (by omega) (by omega) ?_
            refine v_lload (pc' := 137) F d_M_useOf_135 rfl rfl ?_
            refine v_iload (pc' := 139) F d_M_useOf_137 rfl rfl ?_
            refine v_iload (pc' := 141) F d_M_useOf_139 rfl rfl ?_
            refine v_isub (pc' := 142) F d_M_useOf_141 rfl ?_
            refine v_i2l (pc' := 143) F d_M_useOf_142 rfl (by omega) ?_
            refine v_lmul (pc' := 144) F d_M_useOf_143 rfl ?_
            refine v_iload (pc' := 146) F d_M_useOf_144 rfl rfl ?_
            refine v_iload (pc' := 148) F d_M_useOf_146 rfl rfl ?_
            refine v_isub (pc' := 149) F d_M_useOf_148 rfl ?_
            refine v_i2l (pc' := 150) F d_M_useOf_149 rfl (by omega) ?_
            refine v_ldiv (pc' := 151) F d_M_useOf_150 rfl (by omega) (by omega) (by omega) ?_
            refine v_lsub (pc' := 152) F d_M_useOf_151 rfl ?_
            refine v_ladd (pc' := 153) F d_M_useOf_152 rfl ?_
            refine v_lstore_4 (pc' := 155) F d_M_useOf_153 rfl rfl (by decide) ?_
            refine v_iinc_6 (pc' := 158) F d_M_useOf_155 rfl rfl (by decide) ?_
            refine v_goto (tgt := 11) F d_M_useOf_158 (by decide) ?_
            have q9 := ih (k + 1) (by omega) (by omega)
            rw [show (40 * f + 1 + ((k + 1 : Nat) : Int)) = 40 * f + 1 + (k : Int) + 1 by omega] at q9
            exact v_subL (by repeat' (first | exact trivial | exact rfl | refine And.intro ?_ ?_)) q9
          · refine v_iload (pc' := 111) F d_M_useOf_109 rfl rfl ?_
            refine v_goto (tgt := 115) F d_M_useOf_111 (by decide) ?_
            refine v_topi (b := sp_cl t (M 14 (40 * f + (k : Int))) (M 14 (40 * f + 1 + (k : Int)))) (by unfold sp_cl; first | (exfalso; omega) | rw [if_pos (by omega)] | rw [if_neg (by omega), if_pos (by omega)] | rw [if_neg (by omega), if_neg (by omega)]) ?_
            refine v_istore_12 (pc' := 117) F d_M_useOf_115 rfl rfl (by decide) ?_
            refine v_lload (pc' := 119) F d_M_useOf_117 rfl rfl ?_
            refine v_lload (pc' := 121) F d_M_useOf_119 rfl rfl ?_
            refine v_iload (pc' := 123) F d_M_useOf_121 rfl rfl ?_
            refine v_iload (pc' := 125) F d_M_useOf_123 rfl rfl ?_
            refine v_isub (pc' := 126) F d_M_useOf_125 rfl ?_
            refine v_i2l (pc' := 127) F d_M_useOf_126 rfl (by omega) ?_
            refine v_lmul (pc' := 128) F d_M_useOf_127 rfl ?_
            refine v_iload (pc' := 130) F d_M_useOf_128 rfl rfl ?_
            refine v_iload (pc' := 132) F d_M_useOf_130 rfl rfl ?_
            refine v_isub (pc' := 133) F d_M_useOf_132 rfl ?_
            refine v_i2l (pc' := 134) F d_M_useOf_133 rfl (by omega) ?_
            refine v_ldiv (pc' := 135) F d_M_useOf_134 rfl (by omega) (by omega) (by omega) ?_
            refine v_lload (pc' := 137) F d_M_useOf_135 rfl rfl ?_
            refine v_iload (pc' := 139) F d_M_useOf_137 rfl rfl ?_
            refine v_iload (pc' := 141) F d_M_useOf_139 rfl rfl ?_
            refine v_isub (pc' := 142) F d_M_useOf_141 rfl ?_
            refine v_i2l (pc' := 143) F d_M_useOf_142 rfl (by omega) ?_
            refine v_lmul (pc' := 144) F d_M_useOf_143 rfl ?_
            refine v_iload (pc' := 146) F d_M_useOf_144 rfl rfl ?_
            refine v_iload (pc' := 148) F d_M_useOf_146 rfl rfl ?_
            refine v_isub (pc' := 149) F d_M_useOf_148 rfl ?_
            refine v_i2l (pc' := 150) F d_M_useOf_149 rfl (by omega) ?_
            refine v_ldiv (pc' := 151) F d_M_useOf_150 rfl (by omega) (by omega) (by omega) ?_
            refine v_lsub (pc' := 152) F d_M_useOf_151 rfl ?_
            refine v_ladd (pc' := 153) F d_M_useOf_152 rfl ?_
            refine v_lstore_4 (pc' := 155) F d_M_useOf_153 rfl rfl (by decide) ?_
            refine v_iinc_6 (pc' := 158) F d_M_useOf_155 rfl rfl (by decide) ?_
            refine v_goto (tgt := 11) F d_M_useOf_158 (by decide) ?_
            have q9 := ih (k + 1) (by omega) (by omega)
            rw [show (40 * f + 1 + ((k + 1 : Nat) : Int)) = 40 * f + 1 + (k : Int) + 1 by omega] at q9
            exact v_subL (by repeat' (first | exact trivial | exact rfl | refine And.intro ?_ ?_)) q9
        · refine v_iload (pc' := 100) F d_M_useOf_98 rfl rfl ?_
          refine v_goto (tgt := 115) F d_M_useOf_100 (by decide) ?_
          refine v_topi (b := sp_cl t (M 14 (40 * f + (k : Int))) (M 14 (40 * f + 1 + (k : Int)))) (by unfold sp_cl; first | (exfalso; omega) | rw [if_pos (by omega)] | rw [if_neg (by omega), if_pos (by omega)] | rw [if_neg (by omega), if_neg (by omega)]) ?_
          refine v_istore_12 (pc' := 117) F d_M_useOf_115 rfl rfl (by decide) ?_
          refine v_lload (pc' := 119) F d_M_useOf_117 rfl rfl ?_
          refine v_lload (pc' := 121) F d_M_useOf_119 rfl rfl ?_
          refine v_iload (pc' := 123) F d_M_useOf_121 rfl rfl ?_
          refine v_iload (pc' := 125) F d_M_useOf_123 rfl rfl ?_
          refine v_isub (pc' := 126) F d_M_useOf_125 rfl ?_
          refine v_i2l (pc' := 127) F d_M_useOf_126 rfl (by omega) ?_
          refine v_lmul (pc' := 128) F d_M_useOf_127 rfl ?_
          refine v_iload (pc' := 130) F d_M_useOf_128 rfl rfl ?_
          refine v_iload (pc' := 132) F d_M_useOf_130 rfl rfl ?_
          refine v_isub (pc' := 133) F d_M_useOf_132 rfl ?_
          refine v_i2l (pc' := 134) F d_M_useOf_133 rfl (by omega) ?_
          refine v_ldiv (pc' := 135) F d_M_useOf_134 rfl (by omega) (by omega) (by omega) ?_
          refine v_lload (pc' := 137) F d_M_useOf_135 rfl rfl ?_
          refine v_iload (pc' := 139) F d_M_useOf_137 rfl rfl ?_
          refine v_iload (pc' := 141) F d_M_useOf_139 rfl rfl ?_
          refine v_isub (pc' := 142) F d_M_useOf_141 rfl ?_
          refine v_i2l (pc' := 143) F d_M_useOf_142 rfl (by omega) ?_
          refine v_lmul (pc' := 144) F d_M_useOf_143 rfl ?_
          refine v_iload (pc' := 146) F d_M_useOf_144 rfl rfl ?_
          refine v_iload (pc' := 148) F d_M_useOf_146 rfl rfl ?_
          refine v_isub (pc' := 149) F d_M_useOf_148 rfl ?_
          refine v_i2l (pc' := 150) F d_M_useOf_149 rfl (by omega) ?_
          refine v_ldiv (pc' := 151) F d_M_useOf_150 rfl (by omega) (by omega) (by omega) ?_
          refine v_lsub (pc' := 152) F d_M_useOf_151 rfl ?_
          refine v_ladd (pc' := 153) F d_M_useOf_152 rfl ?_
          refine v_lstore_4 (pc' := 155) F d_M_useOf_153 rfl rfl (by decide) ?_
          refine v_iinc_6 (pc' := 158) F d_M_useOf_155 rfl rfl (by decide) ?_
          refine v_goto (tgt := 11) F d_M_useOf_158 (by decide) ?_
          have q9 := ih (k + 1) (by omega) (by omega)
          rw [show (40 * f + 1 + ((k + 1 : Nat) : Int)) = 40 * f + 1 + (k : Int) + 1 by omega] at q9
          exact v_subL (by repeat' (first | exact trivial | exact rfl | refine And.intro ?_ ?_)) q9
set_option maxRecDepth 100000 in
set_option maxHeartbeats 4000000 in
theorem tl_M_useOf {p : Program} {l : Launch} {e : Env} {s : State} {m : MethodId} {args : Array Value} {below : List Frame} {meth : Method} {c : Code} {X : am_X} {h : am_H} {nx : Nat} {y : Nat} {M : MS} {f g t k : Int} (F : am_Fx p s m args meth c y_M_useOf b_M_useOf 13 ((Option.some FieldType.long)) [] X) (hM : RepM y M h) (hme : 0 ≤ M 7 0 ∧ M 7 0 ≤ 60) (hrd : ∀ f : Int, 0 ≤ f → f < M 7 0 → 0 ≤ M 13 f ∧ M 13 f ≤ 40) (hda : ∀ i : Int, 0 ≤ i → i < 2400 → 0 ≤ M 14 i ∧ M 14 i ≤ 3649) (hva : ∀ i : Int, 0 ≤ i → i < 2400 → 0 ≤ M 15 i ∧ M 15 i ≤ 10000000) (hgo : ∀ i : Int, 0 ≤ i → i < 2400 → 0 ≤ M 16 i ∧ M 16 i ≤ 10000000) (hmo : ∀ f k : Int, 0 ≤ f → f < M 7 0 → 0 ≤ k → k + 1 < M 13 f → M 14 (40 * f + k) < M 14 (40 * f + 1 + k) ∧ M 16 (40 * f + k) ≤ M 15 (40 * f + 1 + k)) (hab : ∀ f : Int, 0 ≤ f → f < M 7 0 → (1 ≤ M 10 f ∧ M 10 f ≤ 1000) ∧ (1 ≤ M 11 f ∧ M 11 f ≤ 1000)) (hte : ∀ i : Int, 0 ≤ i → i < 60 → 0 ≤ M 12 i ∧ M 12 i ≤ 3649) (hfo : ∀ i : Int, 0 ≤ i → i < 60 → (0 ≤ M 8 i ∧ M 8 i ≤ 20) ∧ (0 ≤ M 9 i ∧ M 9 i ≤ 3)) (hf : 0 ≤ f ∧ f < M 7 0) (rg : 0 ≤ g ∧ g ≤ 3650) (rt : 0 ≤ t ∧ t ≤ 3650) : V p l e ({ frames := 0, cells := 0, slots := 0, locals := 0 }) s m args below meth c 13 X (am_Q X below s 0 0 (fun o h' nx' => o = .returned (some (lV (sp_use M f g t))) ∧ h' = h ∧ nx' = nx)) h nx 0 0 161 [some (.ref y), some (iV f), some (iV g), some (iV t), some (lV (sp_told (M 14) (M 15) (M 16) f g t (M 13 f - 1).toNat)), none, some (iV k), none, none, none, none, none, none] [] := by
  have q1 := hrd f hf.1 hf.2
  have q2 := hab f hf.1 hf.2
  have q3 := sp_told_r (D := M 14) (V := M 15) (G := M 16) (f := f) (g := g) (t := t) (n := (M 13 f - 1).toNat) (fun k hk => by
    have z1 := hmo f (k : Int) hf.1 hf.2 (by omega) (by omega)
    have z2 := hva (40 * f + 1 + (k : Int)) (by omega) (by omega)
    have z3 := hgo (40 * f + (k : Int)) (by omega) (by omega)
    omega)
  have q4 := am_mul_r (x := sp_told (M 14) (M 15) (M 16) f g t (M 13 f - 1).toNat) (y := M 10 f) (a := 400000000) (b := 1000) (by omega) (by omega) (by omega)
  refine v_lload (pc' := 163) F d_M_useOf_161 rfl rfl ?_
  refine v_aload_n (pc' := 164) (j := 0) F d_M_useOf_163 rfl rfl rfl ?_
  refine v_getf (pc' := 167) (C := zR_M) (T := zF_M) (N := 28) (ref := "BillSharesModel") F d_M_useOf_164 rfl zi_M rfl 10 (by decide) wx_671 (Or.inl rfl) hM.1 rfl ?_
  refine v_iload_n (pc' := 168) (j := 1) F d_M_useOf_167 rfl rfl rfl ?_
  refine mg_10 (pc' := 169) F hM d_M_useOf_168 rfl (by omega) (by omega) ?_
  refine v_i2l (pc' := 170) F d_M_useOf_169 rfl (by omega) ?_
  refine v_lmul (pc' := 171) F d_M_useOf_170 rfl ?_
  refine v_aload_n (pc' := 172) (j := 0) F d_M_useOf_171 rfl rfl rfl ?_
  refine v_getf (pc' := 175) (C := zR_M) (T := zF_M) (N := 28) (ref := "BillSharesModel") F d_M_useOf_172 rfl zi_M rfl 11 (by decide) wx_672 (Or.inl rfl) hM.1 rfl ?_
  refine v_iload_n (pc' := 176) (j := 1) F d_M_useOf_175 rfl rfl rfl ?_
  refine mg_11 (pc' := 177) F hM d_M_useOf_176 rfl (by omega) (by omega) ?_
  refine v_i2l (pc' := 178) F d_M_useOf_177 rfl (by omega) ?_
  refine v_ldiv (pc' := 179) F d_M_useOf_178 rfl (by omega) (by omega) (by omega) ?_
  exact v_lreturn F d_M_useOf_179 rfl (Nat.le_refl _) (Nat.le_refl _) ⟨rfl, rfl, rfl⟩
set_option maxRecDepth 100000 in
set_option maxHeartbeats 4000000 in
theorem c_M_useOf (l : Launch) (X : am_X) (h : am_H) (nx : Nat) (y : Nat) (M : MS) (f g t : Int) (hM : RepM y M h) (hme : 0 ≤ M 7 0 ∧ M 7 0 ≤ 60) (hrd : ∀ f : Int, 0 ≤ f → f < M 7 0 → 0 ≤ M 13 f ∧ M 13 f ≤ 40) (hda : ∀ i : Int, 0 ≤ i → i < 2400 → 0 ≤ M 14 i ∧ M 14 i ≤ 3649) (hva : ∀ i : Int, 0 ≤ i → i < 2400 → 0 ≤ M 15 i ∧ M 15 i ≤ 10000000) (hgo : ∀ i : Int, 0 ≤ i → i < 2400 → 0 ≤ M 16 i ∧ M 16 i ≤ 10000000) (hmo : ∀ f k : Int, 0 ≤ f → f < M 7 0 → 0 ≤ k → k + 1 < M 13 f → M 14 (40 * f + k) < M 14 (40 * f + 1 + k) ∧ M 16 (40 * f + k) ≤ M 15 (40 * f + 1 + k)) (hab : ∀ f : Int, 0 ≤ f → f < M 7 0 → (1 ≤ M 10 f ∧ M 10 f ≤ 1000) ∧ (1 ≤ M 11 f ∧ M 11 f ≤ 1000)) (hte : ∀ i : Int, 0 ≤ i → i < 60 → 0 ≤ M 12 i ∧ M 12 i ≤ 3649) (hfo : ∀ i : Int, 0 ≤ i → i < 60 → (0 ≤ M 8 i ∧ M 8 i ≤ 20) ∧ (0 ≤ M 9 i ∧ M 9 i ≤ 3)) (hf : 0 ≤ f ∧ f < M 7 0) (rg : 0 ≤ g ∧ g ≤ 3650) (rt : 0 ≤ t ∧ t ≤ 3650) : CnP l X y_M_useOf ({ frames := 0, cells := 0, slots := 0, locals := 0 }) [.ref y, iV f, iV g, iV t] h nx (lV (sp_use M f g t)) := by
  refine cn_of (k := 9) (L0 := [some (.ref y), some (iV f), some (iV g), some (iV t), none, none, none, none, none, none, none, none, none]) rfl wx_859 (Nat.le_of_ble_eq_true rfl) rfl (fun p e s m args below meth c F => ?_)
  refine v_lconst (pc' := 1) (z := 0) F d_M_useOf_0 rfl (by decide) ?_
  refine v_lstore_4 (pc' := 3) F d_M_useOf_1 rfl rfl (by decide) ?_
  refine v_bipush (pc' := 5) F d_M_useOf_3 rfl (by decide) ?_
  refine v_iload_n (pc' := 6) (j := 1) F d_M_useOf_5 rfl rfl rfl ?_
  refine v_imul (pc' := 7) F d_M_useOf_6 rfl ?_
  refine v_iconst (pc' := 8) F d_M_useOf_7 rfl ?_
  refine v_iadd (pc' := 9) F d_M_useOf_8 rfl ?_
  refine v_topi (b := 40 * f + 1 + ((0 : Nat) : Int)) (by omega) ?_
  refine v_istore_6 (pc' := 11) F d_M_useOf_9 rfl rfl (by decide) ?_
  exact lp_M_useOf (kk := (M 13 f - 1).toNat) F hM hme hrd hda hva hgo hmo hab hte hfo hf rg rt rfl (tl_M_useOf F hM hme hrd hda hva hgo hmo hab hte hfo hf rg rt) ((M 13 f - 1).toNat + 1) 0 (by omega) (by omega)
