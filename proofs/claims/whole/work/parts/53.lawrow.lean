/-! rows that only the law's loop needs (by hand) -/
section AML
variable {p : Program} {l : Launch} {e : Env} {R : Room} {s : State} {m : MethodId} {args : Array Value} {below : List Frame} {meth : Method} {c : Code} {nL : Nat} {X : am_X} {Q : State → Prop}
variable {cc : ByteArray} {y : MethodName} {ret : Option FieldType} {et : List (Nat × Nat × Nat × Nat)} {h : am_H} {nx cells slots pc pc' : Nat} {L : List (Option Value)} {st : List Value}
theorem v_icS (F : am_Fx p s m args meth c y cc nL ret et X) {a off : Int} {tgt : Nat} (d : decode cc pc = .ok (.if_icmp .eq off, 3)) (ht : (pc : Int) + off = (tgt : Int)) (k : V p l e R s m args below meth c nL X Q h nx cells slots tgt L st) : V p l e R s m args below meth c nL X Q h nx cells slots pc L (iV a :: iV a :: st) := by
  intro H locs ls hR hL hl
  exact lv_icmp_eq F.1 F.2.1 d ht (fun _ => k H locs ls hR hL hl) (fun q => absurd rfl q)
theorem v_lcS (F : am_Fx p s m args meth c y cc nL ret et X) {a off : Int} {tgt : Nat} (d : decode cc pc = .ok (.lcmp, 1)) (d2 : decode cc (pc + 1) = .ok (.ifCond .eq off, 3)) (ht : ((pc + 1 : Nat) : Int) + off = (tgt : Int)) (k : V p l e R s m args below meth c nL X Q h nx cells slots tgt L st) : V p l e R s m args below meth c nL X Q h nx cells slots pc L (lV a :: lV a :: st) := by
  have e9 : lV a = lV (w64 a) := congrArg Value.long (w64_v a)
  rw [e9]
  exact v_lc_eq F d d2 ht rfl (w64_r a) (w64_r a) (fun _ => k) (fun q => absurd rfl q)
theorem v_iandX (F : am_Fx p s m args meth c y cc nL ret et X) {a b : Int} (d : decode cc pc = .ok (.iand, 1)) (hp : pc + 1 = pc') (k : ∀ z : Int, (-2147483648 ≤ z ∧ z < 2147483648) → V p l e R s m args below meth c nL X Q h nx cells slots pc' L (iV z :: st)) : V p l e R s m args below meth c nL X Q h nx cells slots pc L (iV b :: iV a :: st) := by
  subst hp
  intro H locs ls hR hL hl
  refine lv_iand F.1 F.2.1 d ?_
  have e9 : (Value.int (Int32.ofInt a &&& Int32.ofInt b)) = iV ((Int32.ofInt a &&& Int32.ofInt b).toInt) := congrArg Value.int (Int32.ofInt_toInt _).symm
  rw [e9]
  have a1 := Int32.le_toInt (Int32.ofInt a &&& Int32.ofInt b)
  have a2 := Int32.toInt_lt (Int32.ofInt a &&& Int32.ofInt b)
  exact k _ (by omega) H locs ls hR hL hl
theorem w32_of {z : Int} (hz : -2147483648 ≤ z ∧ z < 2147483648) : (Int32.ofInt z).toInt = z := Int32.toInt_ofInt_of_le (by omega) (by omega)
theorem v_tswOut (F : am_Fx p s m args meth c y cc nL ret et X) {z dflt lo hi : Int} {offs : Array Int} {len tgt : Nat} (d : decode cc pc = .ok (.tableswitch dflt lo hi offs, len)) (rz : -2147483648 ≤ z ∧ z < 2147483648) (hz : z < lo ∨ hi < z) (ht : (pc : Int) + dflt = (tgt : Int)) (k : V p l e R s m args below meth c nL X Q h nx cells slots tgt L st) : V p l e R s m args below meth c nL X Q h nx cells slots pc L (iV z :: st) := by
  intro H locs ls hR hL hl
  exact lv_tableOut F.1 F.2.1 d (by rw [w32_of rz]; exact hz) ht (k H locs ls hR hL hl)
theorem v_tswIn (F : am_Fx p s m args meth c y cc nL ret et X) {z dflt lo hi off : Int} {offs : Array Int} {len tgt : Nat} (d : decode cc pc = .ok (.tableswitch dflt lo hi offs, len)) (rz : -2147483648 ≤ z ∧ z < 2147483648) (h1 : ¬ z < lo) (h2 : ¬ hi < z) (ho : offs[(z - lo).toNat]? = some off) (ht : (pc : Int) + off = (tgt : Int)) (k : V p l e R s m args below meth c nL X Q h nx cells slots tgt L st) : V p l e R s m args below meth c nL X Q h nx cells slots pc L (iV z :: st) := by
  intro H locs ls hR hL hl
  exact lv_tableIn F.1 F.2.1 d (by rw [w32_of rz]; exact h1) (by rw [w32_of rz]; exact h2) (by rw [w32_of rz]; exact ho) ht (k H locs ls hR hL hl)
/-- the script's numbers -/
def sv (xs : Nat → Int32) (z : Int) : Int := (xs z.toNat).toInt
theorem sv_r (xs : Nat → Int32) (z : Int) : -2147483648 ≤ sv xs z ∧ sv xs z < 2147483648 := by
  have a1 := Int32.le_toInt (xs z.toNat)
  have a2 := Int32.toInt_lt (xs z.toNat)
  unfold sv
  omega
theorem v_sld (F : am_Fx p s m args meth c y cc nL ret et X) {b N : Nat} {xs : Nat → Int32} {z : Int} (d : decode cc pc = .ok (.iaload, 1)) (hp : pc + 1 = pc') (hX : va_X b N xs s X.2.2.1) (hb : b < am_sz X) (hN : N < 2147483648) (h0 : 0 ≤ z) (h1 : z < N) (k : V p l e R s m args below meth c nL X Q h nx cells slots pc' L (iV (sv xs z) :: st)) : V p l e R s m args below meth c nL X Q h nx cells slots pc L (iV z :: .ref b :: st) := by
  subst hp
  intro H locs ls hR hL hl
  obtain ⟨scr, g1, g2, g3, g4, g5⟩ := hX
  obtain ⟨x1, x2⟩ := am_ix h0 h1 hN
  have e9 : iV (sv xs z) = .int (xs z.toNat) := congrArg Value.int (Int32.ofInt_toInt _)
  exact W.iald (v := iV (sv xs z)) F.1 F.2.1 (by rw [hR.2.2.1 b hb]; exact g1) g2 g3 (by rw [g4]; exact x2) (by rw [x1, e9]; exact g5 _ (by omega)) rfl rfl d (k H locs ls hR hL hl)
theorem v_slen (F : am_Fx p s m args meth c y cc nL ret et X) {b N : Nat} {xs : Nat → Int32} (d : decode cc pc = .ok (.arraylength, 1)) (hp : pc + 1 = pc') (hX : va_X b N xs s X.2.2.1) (hb : b < am_sz X) (k : V p l e R s m args below meth c nL X Q h nx cells slots pc' L (iV (N : Int) :: st)) : V p l e R s m args below meth c nL X Q h nx cells slots pc L (.ref b :: st) := by
  subst hp
  intro H locs ls hR hL hl
  obtain ⟨scr, g1, g2, g3, g4, g5⟩ := hX
  refine W.alen (n := Int32.ofInt (N : Int)) F.1 F.2.1 (by rw [hR.2.2.1 b hb]; exact g1) g2 ?_ rfl rfl d (k H locs ls hR hL hl)
  rw [g4]
  exact Int32.ofInt_eq_ofNat.symm
end AML
