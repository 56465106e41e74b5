/-! the law's cases and loop (written by wip/whole/cc16.py) -/
set_option maxRecDepth 100000 in
set_option maxHeartbeats 4000000 in
theorem cs_flat {p : Program} {l : Launch} {e : Env} {s : State} {m : MethodId} {args : Array Value} {below : List Frame} {meth : Method} {c : Code} {X : am_X} {Q : State → Prop}  {h : am_H} {nx x y o9 sa N k : Nat} {M : MS} {P : Tg → Nat} {g0 : Int → Int} {xs : Nat → Int32} (F : am_Fx p s m args meth c y_L_law b_L_law 8 ((Option.some FieldType.boolean)) [] X) (ht : l.flags = pinnedFlags ++ [noTraceFlag]) (hoy : y + 26 ≤ o9) (hB : Bo X x y o9 M P h) (ho : h o9 = some (am_la 1 g0)) (hnx : o9 < nx) (hlen : N < 2147483648) (hk : 6 * k + 6 ≤ N) (hkk : k < 512) (hX : va_X sa N xs s X.2.2.1) (hsa : sa < am_sz X) (hx : ∀ (h8 : am_H) (n8 : Nat) (M8 : MS) (P8 : Tg → Nat) (g8 : Int → Int), Bo X x y o9 M8 P8 h8 → h8 o9 = some (am_la 1 g8) → o9 < n8 → V p l e ({ frames := 13, cells := 601024, slots := 7293034, locals := 488 }) s m args below meth c 8 X Q h8 n8 (40 + 70 * (k + 1)) (13000 + 450 * (k + 1)) 1549 [some (.ref sa), some (.ref x), some (.ref y), some (.ref o9), some (iV (6 * (k : Int))), none, none, none] []) : V p l e ({ frames := 13, cells := 601024, slots := 7293034, locals := 488 }) s m args below meth c 8 X Q h nx (40 + 70 * k) (13000 + 450 * k) 132 [some (.ref sa), some (.ref x), some (.ref y), some (.ref o9), some (iV (6 * (k : Int))), none, none, none] [] := by
  obtain ⟨hM, hC, hI, hN⟩ := hB
  obtain rfl := hC.top
  have hno : ¬ AA y o9 o9 := fun w => w.2 rfl
  have hA : ∀ q : Nat, nx ≤ q → AA y o9 q := fun q hq => ⟨Or.inr (by omega), by omega⟩
  refine v_aload_n (pc' := 133) (j := 1) F d_L_law_132 rfl rfl rfl ?_
  refine v_aload_n (pc' := 134) (j := 0) F d_L_law_133 rfl rfl rfl ?_
  refine v_iload (pc' := 136) F d_L_law_134 rfl rfl ?_
  refine v_iconst (pc' := 137) F d_L_law_136 rfl ?_
  refine v_iadd (pc' := 138) F d_L_law_137 rfl ?_
  refine v_sld (pc' := 139) F d_L_law_138 rfl hX hsa hlen (by omega) (by omega) ?_
  refine v_aload_n (pc' := 140) (j := 0) F d_L_law_139 rfl rfl rfl ?_
  refine v_iload (pc' := 142) F d_L_law_140 rfl rfl ?_
  refine v_iconst (pc' := 143) F d_L_law_142 rfl ?_
  refine v_iadd (pc' := 144) F d_L_law_143 rfl ?_
  refine v_sld (pc' := 145) F d_L_law_144 rfl hX hsa hlen (by omega) (by omega) ?_
  refine v_aload_n (pc' := 146) (j := 3) F d_L_law_145 rfl rfl rfl ?_
  refine v_callS (pc' := 149) F d_L_law_146 rfl cal_L_flat wx_77 wx_78 (c_L_flat l X _ _ _ _ _ _ (sv xs (6 * (k : Int) + 1)) (sv xs (6 * (k : Int) + 2)) o9 g0 ht hC hI hN (sv_r _ _) (sv_r _ _) hA ho hno) rfl ⟨by decide, by decide, by dsimp only; omega, by dsimp only; omega⟩ (Nat.le_of_ble_eq_true rfl) (fun _ _ _ q => by cases q.1) (fun r9 h8 n8 q => ?_)
  obtain ⟨q9, hn8, ⟨P8, M8, hC8, hN8, hE8⟩, hF8, g8, ho8, hv8⟩ := q
  cases q9
  have hM8 : RepM y M h8 := hM.sub (fun a z1 z2 => hF8 a (fun w => by have := w.1; omega) (by omega))
  refine v_istore_5 (pc' := 151) F d_L_law_149 rfl rfl (by decide) ?_
  refine v_aload_n (pc' := 152) (j := 2) F d_L_law_151 rfl rfl rfl ?_
  refine v_aload_n (pc' := 153) (j := 0) F d_L_law_152 rfl rfl rfl ?_
  refine v_iload (pc' := 155) F d_L_law_153 rfl rfl ?_
  refine v_iconst (pc' := 156) F d_L_law_155 rfl ?_
  refine v_iadd (pc' := 157) F d_L_law_156 rfl ?_
  refine v_sld (pc' := 158) F d_L_law_157 rfl hX hsa hlen (by omega) (by omega) ?_
  refine v_aload_n (pc' := 159) (j := 0) F d_L_law_158 rfl rfl rfl ?_
  refine v_iload (pc' := 161) F d_L_law_159 rfl rfl ?_
  refine v_iconst (pc' := 162) F d_L_law_161 rfl ?_
  refine v_iadd (pc' := 163) F d_L_law_162 rfl ?_
  refine v_sld (pc' := 164) F d_L_law_163 rfl hX hsa hlen (by omega) (by omega) ?_
  refine v_callV (pc' := 167) (C := zR_M) (T9 := zF_M) (N := 28) F d_L_law_164 rfl cal_M_flat wx_751 wx_752 wx_753 rfl hM8.1 (c_M_flat l X _ _ y M (sv xs (6 * (k : Int) + 1)) (sv xs (6 * (k : Int) + 2)) hM8 hI.hfl (sv_r _ _) (sv_r _ _)) rfl ⟨by decide, by decide, by dsimp only; omega, by dsimp only; omega⟩ (Nat.le_of_ble_eq_true rfl) (fun _ _ _ q => by obtain ⟨_, _, _, _, _, _, _, q7, _⟩ := q; cases q7) (fun r9 h7 n7 q => ?_)
  obtain ⟨M7, hM7, hF7, rfl, hc7, he7, r7, q9, hr7⟩ := q
  cases q9
  have hC7 := hC8.sub (h' := h7) (fun a ha _ => hF7 a ha.1)
  have ho7 : h7 o9 = some (am_la 1 g8) := (hF7 o9 (Or.inr hoy)).trans ho8
  have hB7 := Bo.step hM7 hC7 (T := (sp_flat M (sv xs (6 * (k : Int) + 1)) (sv xs (6 * (k : Int) + 2))).2.2) (hI.k_flat _ _) hN8 he7 hE8
  refine v_istore_6 (pc' := 169) F d_L_law_167 rfl rfl (by decide) ?_
  refine v_aload_n (pc' := 170) (j := 2) F d_L_law_169 rfl rfl rfl ?_
  refine v_callVP (pc' := 173) (C := zR_M) (T9 := zF_M) (N := 28) F d_L_law_170 rfl cal_M_thrown wx_747 wx_748 wx_749 rfl hM7.1 (c_M_thrown l X _ _ y M7 hM7) rfl ⟨by decide, by decide, by dsimp only; omega, by dsimp only; omega⟩ (Nat.le_of_ble_eq_true rfl) rfl rfl ?_
  refine v_topi (b := (sp_flat M (sv xs (6 * (k : Int) + 1)) (sv xs (6 * (k : Int) + 2))).1) hc7 ?_
  refine v_iload (pc' := 175) F d_L_law_173 rfl rfl ?_
  refine v_icS (tgt := 180) F d_L_law_175 (by decide) ?_
  refine v_iload (pc' := 182) F d_L_law_180 rfl rfl ?_
  have hz := (z_flat M (sv xs (6 * (k : Int) + 1)) (sv xs (6 * (k : Int) + 2))).1
  refine v_if_ne (tgt := 197) (pc' := 185) F d_L_law_182 (by decide) rfl (by omega) (fun c182 => ?_) (fun c182 => ?_)
  · refine v_goto (tgt := 1549) F d_L_law_197 (by decide) ?_
    exact v_widen (cells' := 40 + 70 * (k + 1)) (slots' := 13000 + 450 * (k + 1)) (by dsimp only; omega) (by dsimp only; omega) (v_subL (by (repeat' (first | exact trivial | exact rfl | refine And.intro ?_ ?_)); done) (hx _ _ _ _ _ hB7 ho7 (by omega)))
  · refine v_aload_n (pc' := 186) (j := 3) F d_L_law_185 rfl rfl rfl ?_
    refine v_iconst (pc' := 187) F d_L_law_186 rfl ?_
    refine v_lag (pc' := 188) F d_L_law_187 rfl ho7 (by decide) (by omega) (by omega) ?_
    refine v_topl (b := w32 (sp_flat M (sv xs (6 * (k : Int) + 1)) (sv xs (6 * (k : Int) + 2))).2.1) (hv8 (by omega)) ?_
    refine v_iload (pc' := 190) F d_L_law_188 rfl rfl ?_
    refine v_topv (b := iV (w32 r7)) (congrArg Value.int (w32_v _)) ?_
    refine v_i2l (pc' := 191) F d_L_law_190 rfl (w32_r _) ?_
    refine v_topl (b := w32 (sp_flat M (sv xs (6 * (k : Int) + 1)) (sv xs (6 * (k : Int) + 2))).2.1) (by rw [hr7 (by omega)]) ?_
    refine v_lcS (tgt := 197) F d_L_law_191 d_L_law_192 (by decide) ?_
    refine v_goto (tgt := 1549) F d_L_law_197 (by decide) ?_
    exact v_widen (cells' := 40 + 70 * (k + 1)) (slots' := 13000 + 450 * (k + 1)) (by dsimp only; omega) (by dsimp only; omega) (v_subL (by (repeat' (first | exact trivial | exact rfl | refine And.intro ?_ ?_)); done) (hx _ _ _ _ _ hB7 ho7 (by omega)))
set_option maxRecDepth 100000 in
set_option maxHeartbeats 4000000 in
theorem cs_meter {p : Program} {l : Launch} {e : Env} {s : State} {m : MethodId} {args : Array Value} {below : List Frame} {meth : Method} {c : Code} {X : am_X} {Q : State → Prop}  {h : am_H} {nx x y o9 sa N k : Nat} {M : MS} {P : Tg → Nat} {g0 : Int → Int} {xs : Nat → Int32} (F : am_Fx p s m args meth c y_L_law b_L_law 8 ((Option.some FieldType.boolean)) [] X) (ht : l.flags = pinnedFlags ++ [noTraceFlag]) (hoy : y + 26 ≤ o9) (hB : Bo X x y o9 M P h) (ho : h o9 = some (am_la 1 g0)) (hnx : o9 < nx) (hlen : N < 2147483648) (hk : 6 * k + 6 ≤ N) (hkk : k < 512) (hX : va_X sa N xs s X.2.2.1) (hsa : sa < am_sz X) (hx : ∀ (h8 : am_H) (n8 : Nat) (M8 : MS) (P8 : Tg → Nat) (g8 : Int → Int), Bo X x y o9 M8 P8 h8 → h8 o9 = some (am_la 1 g8) → o9 < n8 → V p l e ({ frames := 13, cells := 601024, slots := 7293034, locals := 488 }) s m args below meth c 8 X Q h8 n8 (40 + 70 * (k + 1)) (13000 + 450 * (k + 1)) 1549 [some (.ref sa), some (.ref x), some (.ref y), some (.ref o9), some (iV (6 * (k : Int))), none, none, none] []) : V p l e ({ frames := 13, cells := 601024, slots := 7293034, locals := 488 }) s m args below meth c 8 X Q h nx (40 + 70 * k) (13000 + 450 * k) 200 [some (.ref sa), some (.ref x), some (.ref y), some (.ref o9), some (iV (6 * (k : Int))), none, none, none] [] := by
  obtain ⟨hM, hC, hI, hN⟩ := hB
  obtain rfl := hC.top
  have hno : ¬ AA y o9 o9 := fun w => w.2 rfl
  have hA : ∀ q : Nat, nx ≤ q → AA y o9 q := fun q hq => ⟨Or.inr (by omega), by omega⟩
  refine v_aload_n (pc' := 201) (j := 1) F d_L_law_200 rfl rfl rfl ?_
  refine v_aload_n (pc' := 202) (j := 0) F d_L_law_201 rfl rfl rfl ?_
  refine v_iload (pc' := 204) F d_L_law_202 rfl rfl ?_
  refine v_iconst (pc' := 205) F d_L_law_204 rfl ?_
  refine v_iadd (pc' := 206) F d_L_law_205 rfl ?_
  refine v_sld (pc' := 207) F d_L_law_206 rfl hX hsa hlen (by omega) (by omega) ?_
  refine v_aload_n (pc' := 208) (j := 0) F d_L_law_207 rfl rfl rfl ?_
  refine v_iload (pc' := 210) F d_L_law_208 rfl rfl ?_
  refine v_iconst (pc' := 211) F d_L_law_210 rfl ?_
  refine v_iadd (pc' := 212) F d_L_law_211 rfl ?_
  refine v_sld (pc' := 213) F d_L_law_212 rfl hX hsa hlen (by omega) (by omega) ?_
  refine v_aload_n (pc' := 214) (j := 0) F d_L_law_213 rfl rfl rfl ?_
  refine v_iload (pc' := 216) F d_L_law_214 rfl rfl ?_
  refine v_iconst (pc' := 217) F d_L_law_216 rfl ?_
  refine v_iadd (pc' := 218) F d_L_law_217 rfl ?_
  refine v_sld (pc' := 219) F d_L_law_218 rfl hX hsa hlen (by omega) (by omega) ?_
  refine v_aload_n (pc' := 220) (j := 0) F d_L_law_219 rfl rfl rfl ?_
  refine v_iload (pc' := 222) F d_L_law_220 rfl rfl ?_
  refine v_iconst (pc' := 223) F d_L_law_222 rfl ?_
  refine v_iadd (pc' := 224) F d_L_law_223 rfl ?_
  refine v_sld (pc' := 225) F d_L_law_224 rfl hX hsa hlen (by omega) (by omega) ?_
  refine v_aload_n (pc' := 226) (j := 0) F d_L_law_225 rfl rfl rfl ?_
  refine v_iload (pc' := 228) F d_L_law_226 rfl rfl ?_
  refine v_iconst (pc' := 229) F d_L_law_228 rfl ?_
  refine v_iadd (pc' := 230) F d_L_law_229 rfl ?_
  refine v_sld (pc' := 231) F d_L_law_230 rfl hX hsa hlen (by omega) (by omega) ?_
  refine v_aload_n (pc' := 232) (j := 3) F d_L_law_231 rfl rfl rfl ?_
  refine v_callS (pc' := 235) F d_L_law_232 rfl cal_L_meter wx_306 wx_307 (c_L_meter l X _ _ _ _ _ _ (sv xs (6 * (k : Int) + 1)) (sv xs (6 * (k : Int) + 2)) (sv xs (6 * (k : Int) + 3)) (sv xs (6 * (k : Int) + 4)) (sv xs (6 * (k : Int) + 5)) o9 g0 ht hC hI hN (sv_r _ _) (sv_r _ _) (sv_r _ _) (sv_r _ _) (sv_r _ _) hA ho hno) rfl ⟨by decide, by decide, by dsimp only; omega, by dsimp only; omega⟩ (Nat.le_of_ble_eq_true rfl) (fun _ _ _ q => by cases q.1) (fun r9 h8 n8 q => ?_)
  obtain ⟨q9, hn8, ⟨P8, M8, hC8, hN8, hE8⟩, hF8, g8, ho8, hv8⟩ := q
  cases q9
  have hM8 : RepM y M h8 := hM.sub (fun a z1 z2 => hF8 a (fun w => by have := w.1; omega) (by omega))
  refine v_istore_5 (pc' := 237) F d_L_law_235 rfl rfl (by decide) ?_
  refine v_aload_n (pc' := 238) (j := 2) F d_L_law_237 rfl rfl rfl ?_
  refine v_aload_n (pc' := 239) (j := 0) F d_L_law_238 rfl rfl rfl ?_
  refine v_iload (pc' := 241) F d_L_law_239 rfl rfl ?_
  refine v_iconst (pc' := 242) F d_L_law_241 rfl ?_
  refine v_iadd (pc' := 243) F d_L_law_242 rfl ?_
  refine v_sld (pc' := 244) F d_L_law_243 rfl hX hsa hlen (by omega) (by omega) ?_
  refine v_aload_n (pc' := 245) (j := 0) F d_L_law_244 rfl rfl rfl ?_
  refine v_iload (pc' := 247) F d_L_law_245 rfl rfl ?_
  refine v_iconst (pc' := 248) F d_L_law_247 rfl ?_
  refine v_iadd (pc' := 249) F d_L_law_248 rfl ?_
  refine v_sld (pc' := 250) F d_L_law_249 rfl hX hsa hlen (by omega) (by omega) ?_
  refine v_aload_n (pc' := 251) (j := 0) F d_L_law_250 rfl rfl rfl ?_
  refine v_iload (pc' := 253) F d_L_law_251 rfl rfl ?_
  refine v_iconst (pc' := 254) F d_L_law_253 rfl ?_
  refine v_iadd (pc' := 255) F d_L_law_254 rfl ?_
  refine v_sld (pc' := 256) F d_L_law_255 rfl hX hsa hlen (by omega) (by omega) ?_
  refine v_aload_n (pc' := 257) (j := 0) F d_L_law_256 rfl rfl rfl ?_
  refine v_iload (pc' := 259) F d_L_law_257 rfl rfl ?_
  refine v_iconst (pc' := 260) F d_L_law_259 rfl ?_
  refine v_iadd (pc' := 261) F d_L_law_260 rfl ?_
  refine v_sld (pc' := 262) F d_L_law_261 rfl hX hsa hlen (by omega) (by omega) ?_
  refine v_aload_n (pc' := 263) (j := 0) F d_L_law_262 rfl rfl rfl ?_
  refine v_iload (pc' := 265) F d_L_law_263 rfl rfl ?_
  refine v_iconst (pc' := 266) F d_L_law_265 rfl ?_
  refine v_iadd (pc' := 267) F d_L_law_266 rfl ?_
  refine v_sld (pc' := 268) F d_L_law_267 rfl hX hsa hlen (by omega) (by omega) ?_
  refine v_callV (pc' := 271) (C := zR_M) (T9 := zF_M) (N := 28) F d_L_law_268 rfl cal_M_meter wx_762 wx_763 wx_764 rfl hM8.1 (c_M_meter l X _ _ y M (sv xs (6 * (k : Int) + 1)) (sv xs (6 * (k : Int) + 2)) (sv xs (6 * (k : Int) + 3)) (sv xs (6 * (k : Int) + 4)) (sv xs (6 * (k : Int) + 5)) hM8 hI.hfl hI.hme (sv_r _ _) (sv_r _ _) (sv_r _ _) (sv_r _ _) (sv_r _ _)) rfl ⟨by decide, by decide, by dsimp only; omega, by dsimp only; omega⟩ (Nat.le_of_ble_eq_true rfl) (fun _ _ _ q => by obtain ⟨_, _, _, _, _, _, _, q7, _⟩ := q; cases q7) (fun r9 h7 n7 q => ?_)
  obtain ⟨M7, hM7, hF7, rfl, hc7, he7, r7, q9, hr7⟩ := q
  cases q9
  have hC7 := hC8.sub (h' := h7) (fun a ha _ => hF7 a ha.1)
  have ho7 : h7 o9 = some (am_la 1 g8) := (hF7 o9 (Or.inr hoy)).trans ho8
  have hB7 := Bo.step hM7 hC7 (T := (sp_meter M (sv xs (6 * (k : Int) + 1)) (sv xs (6 * (k : Int) + 2)) (sv xs (6 * (k : Int) + 3)) (sv xs (6 * (k : Int) + 4)) (sv xs (6 * (k : Int) + 5))).2.2) (hI.k_meter _ _ _ _ _) hN8 he7 hE8
  refine v_istore_6 (pc' := 273) F d_L_law_271 rfl rfl (by decide) ?_
  refine v_aload_n (pc' := 274) (j := 2) F d_L_law_273 rfl rfl rfl ?_
  refine v_callVP (pc' := 277) (C := zR_M) (T9 := zF_M) (N := 28) F d_L_law_274 rfl cal_M_thrown wx_747 wx_748 wx_749 rfl hM7.1 (c_M_thrown l X _ _ y M7 hM7) rfl ⟨by decide, by decide, by dsimp only; omega, by dsimp only; omega⟩ (Nat.le_of_ble_eq_true rfl) rfl rfl ?_
  refine v_topi (b := (sp_meter M (sv xs (6 * (k : Int) + 1)) (sv xs (6 * (k : Int) + 2)) (sv xs (6 * (k : Int) + 3)) (sv xs (6 * (k : Int) + 4)) (sv xs (6 * (k : Int) + 5))).1) hc7 ?_
  refine v_iload (pc' := 279) F d_L_law_277 rfl rfl ?_
  refine v_icS (tgt := 284) F d_L_law_279 (by decide) ?_
  refine v_iload (pc' := 286) F d_L_law_284 rfl rfl ?_
  have hz := (z_meter M (sv xs (6 * (k : Int) + 1)) (sv xs (6 * (k : Int) + 2)) (sv xs (6 * (k : Int) + 3)) (sv xs (6 * (k : Int) + 4)) (sv xs (6 * (k : Int) + 5))).1
  refine v_if_ne (tgt := 301) (pc' := 289) F d_L_law_286 (by decide) rfl (by omega) (fun c286 => ?_) (fun c286 => ?_)
  · refine v_goto (tgt := 1549) F d_L_law_301 (by decide) ?_
    exact v_widen (cells' := 40 + 70 * (k + 1)) (slots' := 13000 + 450 * (k + 1)) (by dsimp only; omega) (by dsimp only; omega) (v_subL (by (repeat' (first | exact trivial | exact rfl | refine And.intro ?_ ?_)); done) (hx _ _ _ _ _ hB7 ho7 (by omega)))
  · refine v_aload_n (pc' := 290) (j := 3) F d_L_law_289 rfl rfl rfl ?_
    refine v_iconst (pc' := 291) F d_L_law_290 rfl ?_
    refine v_lag (pc' := 292) F d_L_law_291 rfl ho7 (by decide) (by omega) (by omega) ?_
    refine v_topl (b := w32 (sp_meter M (sv xs (6 * (k : Int) + 1)) (sv xs (6 * (k : Int) + 2)) (sv xs (6 * (k : Int) + 3)) (sv xs (6 * (k : Int) + 4)) (sv xs (6 * (k : Int) + 5))).2.1) (hv8 (by omega)) ?_
    refine v_iload (pc' := 294) F d_L_law_292 rfl rfl ?_
    refine v_topv (b := iV (w32 r7)) (congrArg Value.int (w32_v _)) ?_
    refine v_i2l (pc' := 295) F d_L_law_294 rfl (w32_r _) ?_
    refine v_topl (b := w32 (sp_meter M (sv xs (6 * (k : Int) + 1)) (sv xs (6 * (k : Int) + 2)) (sv xs (6 * (k : Int) + 3)) (sv xs (6 * (k : Int) + 4)) (sv xs (6 * (k : Int) + 5))).2.1) (by rw [hr7 (by omega)]) ?_
    refine v_lcS (tgt := 301) F d_L_law_295 d_L_law_296 (by decide) ?_
    refine v_goto (tgt := 1549) F d_L_law_301 (by decide) ?_
    exact v_widen (cells' := 40 + 70 * (k + 1)) (slots' := 13000 + 450 * (k + 1)) (by dsimp only; omega) (by dsimp only; omega) (v_subL (by (repeat' (first | exact trivial | exact rfl | refine And.intro ?_ ?_)); done) (hx _ _ _ _ _ hB7 ho7 (by omega)))
set_option maxRecDepth 100000 in
set_option maxHeartbeats 4000000 in
theorem cs_reading {p : Program} {l : Launch} {e : Env} {s : State} {m : MethodId} {args : Array Value} {below : List Frame} {meth : Method} {c : Code} {X : am_X} {Q : State → Prop}  {h : am_H} {nx x y o9 sa N k : Nat} {M : MS} {P : Tg → Nat} {g0 : Int → Int} {xs : Nat → Int32} (F : am_Fx p s m args meth c y_L_law b_L_law 8 ((Option.some FieldType.boolean)) [] X) (ht : l.flags = pinnedFlags ++ [noTraceFlag]) (hoy : y + 26 ≤ o9) (hB : Bo X x y o9 M P h) (ho : h o9 = some (am_la 1 g0)) (hnx : o9 < nx) (hlen : N < 2147483648) (hk : 6 * k + 6 ≤ N) (hkk : k < 512) (hX : va_X sa N xs s X.2.2.1) (hsa : sa < am_sz X) (hx : ∀ (h8 : am_H) (n8 : Nat) (M8 : MS) (P8 : Tg → Nat) (g8 : Int → Int), Bo X x y o9 M8 P8 h8 → h8 o9 = some (am_la 1 g8) → o9 < n8 → V p l e ({ frames := 13, cells := 601024, slots := 7293034, locals := 488 }) s m args below meth c 8 X Q h8 n8 (40 + 70 * (k + 1)) (13000 + 450 * (k + 1)) 1549 [some (.ref sa), some (.ref x), some (.ref y), some (.ref o9), some (iV (6 * (k : Int))), none, none, none] []) : V p l e ({ frames := 13, cells := 601024, slots := 7293034, locals := 488 }) s m args below meth c 8 X Q h nx (40 + 70 * k) (13000 + 450 * k) 304 [some (.ref sa), some (.ref x), some (.ref y), some (.ref o9), some (iV (6 * (k : Int))), none, none, none] [] := by
  obtain ⟨hM, hC, hI, hN⟩ := hB
  obtain rfl := hC.top
  have hno : ¬ AA y o9 o9 := fun w => w.2 rfl
  have hA : ∀ q : Nat, nx ≤ q → AA y o9 q := fun q hq => ⟨Or.inr (by omega), by omega⟩
  refine v_aload_n (pc' := 305) (j := 1) F d_L_law_304 rfl rfl rfl ?_
  refine v_aload_n (pc' := 306) (j := 0) F d_L_law_305 rfl rfl rfl ?_
  refine v_iload (pc' := 308) F d_L_law_306 rfl rfl ?_
  refine v_iconst (pc' := 309) F d_L_law_308 rfl ?_
  refine v_iadd (pc' := 310) F d_L_law_309 rfl ?_
  refine v_sld (pc' := 311) F d_L_law_310 rfl hX hsa hlen (by omega) (by omega) ?_
  refine v_aload_n (pc' := 312) (j := 0) F d_L_law_311 rfl rfl rfl ?_
  refine v_iload (pc' := 314) F d_L_law_312 rfl rfl ?_
  refine v_iconst (pc' := 315) F d_L_law_314 rfl ?_
  refine v_iadd (pc' := 316) F d_L_law_315 rfl ?_
  refine v_sld (pc' := 317) F d_L_law_316 rfl hX hsa hlen (by omega) (by omega) ?_
  refine v_aload_n (pc' := 318) (j := 0) F d_L_law_317 rfl rfl rfl ?_
  refine v_iload (pc' := 320) F d_L_law_318 rfl rfl ?_
  refine v_iconst (pc' := 321) F d_L_law_320 rfl ?_
  refine v_iadd (pc' := 322) F d_L_law_321 rfl ?_
  refine v_sld (pc' := 323) F d_L_law_322 rfl hX hsa hlen (by omega) (by omega) ?_
  refine v_aload_n (pc' := 324) (j := 3) F d_L_law_323 rfl rfl rfl ?_
  refine v_callS (pc' := 327) F d_L_law_324 rfl cal_L_reading wx_359 wx_360 (c_L_reading l X _ _ _ _ _ _ (sv xs (6 * (k : Int) + 1)) (sv xs (6 * (k : Int) + 2)) (sv xs (6 * (k : Int) + 3)) o9 g0 ht hC hI hN (sv_r _ _) (sv_r _ _) (sv_r _ _) hA ho hno) rfl ⟨by decide, by decide, by dsimp only; omega, by dsimp only; omega⟩ (Nat.le_of_ble_eq_true rfl) (fun _ _ _ q => by cases q.1) (fun r9 h8 n8 q => ?_)
  obtain ⟨q9, hn8, ⟨P8, M8, hC8, hN8, hE8⟩, hF8, g8, ho8, hv8⟩ := q
  cases q9
  have hM8 : RepM y M h8 := hM.sub (fun a z1 z2 => hF8 a (fun w => by have := w.1; omega) (by omega))
  refine v_istore_5 (pc' := 329) F d_L_law_327 rfl rfl (by decide) ?_
  refine v_aload_n (pc' := 330) (j := 2) F d_L_law_329 rfl rfl rfl ?_
  refine v_aload_n (pc' := 331) (j := 0) F d_L_law_330 rfl rfl rfl ?_
  refine v_iload (pc' := 333) F d_L_law_331 rfl rfl ?_
  refine v_iconst (pc' := 334) F d_L_law_333 rfl ?_
  refine v_iadd (pc' := 335) F d_L_law_334 rfl ?_
  refine v_sld (pc' := 336) F d_L_law_335 rfl hX hsa hlen (by omega) (by omega) ?_
  refine v_aload_n (pc' := 337) (j := 0) F d_L_law_336 rfl rfl rfl ?_
  refine v_iload (pc' := 339) F d_L_law_337 rfl rfl ?_
  refine v_iconst (pc' := 340) F d_L_law_339 rfl ?_
  refine v_iadd (pc' := 341) F d_L_law_340 rfl ?_
  refine v_sld (pc' := 342) F d_L_law_341 rfl hX hsa hlen (by omega) (by omega) ?_
  refine v_aload_n (pc' := 343) (j := 0) F d_L_law_342 rfl rfl rfl ?_
  refine v_iload (pc' := 345) F d_L_law_343 rfl rfl ?_
  refine v_iconst (pc' := 346) F d_L_law_345 rfl ?_
  refine v_iadd (pc' := 347) F d_L_law_346 rfl ?_
  refine v_sld (pc' := 348) F d_L_law_347 rfl hX hsa hlen (by omega) (by omega) ?_
  refine v_callV (pc' := 351) (C := zR_M) (T9 := zF_M) (N := 28) F d_L_law_348 rfl cal_M_reading wx_770 wx_771 wx_772 rfl hM8.1 (c_M_reading l X _ _ y M (sv xs (6 * (k : Int) + 1)) (sv xs (6 * (k : Int) + 2)) (sv xs (6 * (k : Int) + 3)) hM8 hI.hme hI.hrd hI.hda hI.hgo (sv_r _ _) (sv_r _ _) (sv_r _ _)) rfl ⟨by decide, by decide, by dsimp only; omega, by dsimp only; omega⟩ (Nat.le_of_ble_eq_true rfl) (fun _ _ _ q => by obtain ⟨_, _, _, _, _, _, _, q7, _⟩ := q; cases q7) (fun r9 h7 n7 q => ?_)
  obtain ⟨M7, hM7, hF7, rfl, hc7, he7, r7, q9, hr7⟩ := q
  cases q9
  have hC7 := hC8.sub (h' := h7) (fun a ha _ => hF7 a ha.1)
  have ho7 : h7 o9 = some (am_la 1 g8) := (hF7 o9 (Or.inr hoy)).trans ho8
  have hB7 := Bo.step hM7 hC7 (T := (sp_put M (sv xs (6 * (k : Int) + 1)) (sv xs (6 * (k : Int) + 2)) (sv xs (6 * (k : Int) + 3)) (sv xs (6 * (k : Int) + 3)) 0).2.2) (hI.k_put _ _ _ _ _ (Or.inl ⟨rfl, rfl⟩)) hN8 he7 hE8
  refine v_istore_6 (pc' := 353) F d_L_law_351 rfl rfl (by decide) ?_
  refine v_aload_n (pc' := 354) (j := 2) F d_L_law_353 rfl rfl rfl ?_
  refine v_callVP (pc' := 357) (C := zR_M) (T9 := zF_M) (N := 28) F d_L_law_354 rfl cal_M_thrown wx_747 wx_748 wx_749 rfl hM7.1 (c_M_thrown l X _ _ y M7 hM7) rfl ⟨by decide, by decide, by dsimp only; omega, by dsimp only; omega⟩ (Nat.le_of_ble_eq_true rfl) rfl rfl ?_
  refine v_topi (b := (sp_put M (sv xs (6 * (k : Int) + 1)) (sv xs (6 * (k : Int) + 2)) (sv xs (6 * (k : Int) + 3)) (sv xs (6 * (k : Int) + 3)) 0).1) hc7 ?_
  refine v_iload (pc' := 359) F d_L_law_357 rfl rfl ?_
  refine v_icS (tgt := 364) F d_L_law_359 (by decide) ?_
  refine v_iload (pc' := 366) F d_L_law_364 rfl rfl ?_
  have hz := (z_put M (sv xs (6 * (k : Int) + 1)) (sv xs (6 * (k : Int) + 2)) (sv xs (6 * (k : Int) + 3)) (sv xs (6 * (k : Int) + 3)) 0).1
  refine v_if_ne (tgt := 381) (pc' := 369) F d_L_law_366 (by decide) rfl (by omega) (fun c366 => ?_) (fun c366 => ?_)
  · refine v_goto (tgt := 1549) F d_L_law_381 (by decide) ?_
    exact v_widen (cells' := 40 + 70 * (k + 1)) (slots' := 13000 + 450 * (k + 1)) (by dsimp only; omega) (by dsimp only; omega) (v_subL (by (repeat' (first | exact trivial | exact rfl | refine And.intro ?_ ?_)); done) (hx _ _ _ _ _ hB7 ho7 (by omega)))
  · refine v_aload_n (pc' := 370) (j := 3) F d_L_law_369 rfl rfl rfl ?_
    refine v_iconst (pc' := 371) F d_L_law_370 rfl ?_
    refine v_lag (pc' := 372) F d_L_law_371 rfl ho7 (by decide) (by omega) (by omega) ?_
    refine v_topl (b := w32 (sp_put M (sv xs (6 * (k : Int) + 1)) (sv xs (6 * (k : Int) + 2)) (sv xs (6 * (k : Int) + 3)) (sv xs (6 * (k : Int) + 3)) 0).2.1) (hv8 (by omega)) ?_
    refine v_iload (pc' := 374) F d_L_law_372 rfl rfl ?_
    refine v_topv (b := iV (w32 r7)) (congrArg Value.int (w32_v _)) ?_
    refine v_i2l (pc' := 375) F d_L_law_374 rfl (w32_r _) ?_
    refine v_topl (b := w32 (sp_put M (sv xs (6 * (k : Int) + 1)) (sv xs (6 * (k : Int) + 2)) (sv xs (6 * (k : Int) + 3)) (sv xs (6 * (k : Int) + 3)) 0).2.1) (by rw [hr7 (by omega)]) ?_
    refine v_lcS (tgt := 381) F d_L_law_375 d_L_law_376 (by decide) ?_
    refine v_goto (tgt := 1549) F d_L_law_381 (by decide) ?_
    exact v_widen (cells' := 40 + 70 * (k + 1)) (slots' := 13000 + 450 * (k + 1)) (by dsimp only; omega) (by dsimp only; omega) (v_subL (by (repeat' (first | exact trivial | exact rfl | refine And.intro ?_ ?_)); done) (hx _ _ _ _ _ hB7 ho7 (by omega)))
set_option maxRecDepth 100000 in
set_option maxHeartbeats 4000000 in
theorem cs_changed {p : Program} {l : Launch} {e : Env} {s : State} {m : MethodId} {args : Array Value} {below : List Frame} {meth : Method} {c : Code} {X : am_X} {Q : State → Prop}  {h : am_H} {nx x y o9 sa N k : Nat} {M : MS} {P : Tg → Nat} {g0 : Int → Int} {xs : Nat → Int32} (F : am_Fx p s m args meth c y_L_law b_L_law 8 ((Option.some FieldType.boolean)) [] X) (ht : l.flags = pinnedFlags ++ [noTraceFlag]) (hoy : y + 26 ≤ o9) (hB : Bo X x y o9 M P h) (ho : h o9 = some (am_la 1 g0)) (hnx : o9 < nx) (hlen : N < 2147483648) (hk : 6 * k + 6 ≤ N) (hkk : k < 512) (hX : va_X sa N xs s X.2.2.1) (hsa : sa < am_sz X) (hx : ∀ (h8 : am_H) (n8 : Nat) (M8 : MS) (P8 : Tg → Nat) (g8 : Int → Int), Bo X x y o9 M8 P8 h8 → h8 o9 = some (am_la 1 g8) → o9 < n8 → V p l e ({ frames := 13, cells := 601024, slots := 7293034, locals := 488 }) s m args below meth c 8 X Q h8 n8 (40 + 70 * (k + 1)) (13000 + 450 * (k + 1)) 1549 [some (.ref sa), some (.ref x), some (.ref y), some (.ref o9), some (iV (6 * (k : Int))), none, none, none] []) : V p l e ({ frames := 13, cells := 601024, slots := 7293034, locals := 488 }) s m args below meth c 8 X Q h nx (40 + 70 * k) (13000 + 450 * k) 384 [some (.ref sa), some (.ref x), some (.ref y), some (.ref o9), some (iV (6 * (k : Int))), none, none, none] [] := by
  obtain ⟨hM, hC, hI, hN⟩ := hB
  obtain rfl := hC.top
  have hno : ¬ AA y o9 o9 := fun w => w.2 rfl
  have hA : ∀ q : Nat, nx ≤ q → AA y o9 q := fun q hq => ⟨Or.inr (by omega), by omega⟩
  refine v_aload_n (pc' := 385) (j := 1) F d_L_law_384 rfl rfl rfl ?_
  refine v_aload_n (pc' := 386) (j := 0) F d_L_law_385 rfl rfl rfl ?_
  refine v_iload (pc' := 388) F d_L_law_386 rfl rfl ?_
  refine v_iconst (pc' := 389) F d_L_law_388 rfl ?_
  refine v_iadd (pc' := 390) F d_L_law_389 rfl ?_
  refine v_sld (pc' := 391) F d_L_law_390 rfl hX hsa hlen (by omega) (by omega) ?_
  refine v_aload_n (pc' := 392) (j := 0) F d_L_law_391 rfl rfl rfl ?_
  refine v_iload (pc' := 394) F d_L_law_392 rfl rfl ?_
  refine v_iconst (pc' := 395) F d_L_law_394 rfl ?_
  refine v_iadd (pc' := 396) F d_L_law_395 rfl ?_
  refine v_sld (pc' := 397) F d_L_law_396 rfl hX hsa hlen (by omega) (by omega) ?_
  refine v_aload_n (pc' := 398) (j := 0) F d_L_law_397 rfl rfl rfl ?_
  refine v_iload (pc' := 400) F d_L_law_398 rfl rfl ?_
  refine v_iconst (pc' := 401) F d_L_law_400 rfl ?_
  refine v_iadd (pc' := 402) F d_L_law_401 rfl ?_
  refine v_sld (pc' := 403) F d_L_law_402 rfl hX hsa hlen (by omega) (by omega) ?_
  refine v_aload_n (pc' := 404) (j := 0) F d_L_law_403 rfl rfl rfl ?_
  refine v_iload (pc' := 406) F d_L_law_404 rfl rfl ?_
  refine v_iconst (pc' := 407) F d_L_law_406 rfl ?_
  refine v_iadd (pc' := 408) F d_L_law_407 rfl ?_
  refine v_sld (pc' := 409) F d_L_law_408 rfl hX hsa hlen (by omega) (by omega) ?_
  refine v_aload_n (pc' := 410) (j := 3) F d_L_law_409 rfl rfl rfl ?_
  refine v_callS (pc' := 413) F d_L_law_410 rfl cal_L_changed wx_390 wx_391 (c_L_changed l X _ _ _ _ _ _ (sv xs (6 * (k : Int) + 1)) (sv xs (6 * (k : Int) + 2)) (sv xs (6 * (k : Int) + 3)) (sv xs (6 * (k : Int) + 4)) o9 g0 ht hC hI hN (sv_r _ _) (sv_r _ _) (sv_r _ _) (sv_r _ _) hA ho hno) rfl ⟨by decide, by decide, by dsimp only; omega, by dsimp only; omega⟩ (Nat.le_of_ble_eq_true rfl) (fun _ _ _ q => by cases q.1) (fun r9 h8 n8 q => ?_)
  obtain ⟨q9, hn8, ⟨P8, M8, hC8, hN8, hE8⟩, hF8, g8, ho8, hv8⟩ := q
  cases q9
  have hM8 : RepM y M h8 := hM.sub (fun a z1 z2 => hF8 a (fun w => by have := w.1; omega) (by omega))
  refine v_istore_5 (pc' := 415) F d_L_law_413 rfl rfl (by decide) ?_
  refine v_aload_n (pc' := 416) (j := 2) F d_L_law_415 rfl rfl rfl ?_
  refine v_aload_n (pc' := 417) (j := 0) F d_L_law_416 rfl rfl rfl ?_
  refine v_iload (pc' := 419) F d_L_law_417 rfl rfl ?_
  refine v_iconst (pc' := 420) F d_L_law_419 rfl ?_
  refine v_iadd (pc' := 421) F d_L_law_420 rfl ?_
  refine v_sld (pc' := 422) F d_L_law_421 rfl hX hsa hlen (by omega) (by omega) ?_
  refine v_aload_n (pc' := 423) (j := 0) F d_L_law_422 rfl rfl rfl ?_
  refine v_iload (pc' := 425) F d_L_law_423 rfl rfl ?_
  refine v_iconst (pc' := 426) F d_L_law_425 rfl ?_
  refine v_iadd (pc' := 427) F d_L_law_426 rfl ?_
  refine v_sld (pc' := 428) F d_L_law_427 rfl hX hsa hlen (by omega) (by omega) ?_
  refine v_aload_n (pc' := 429) (j := 0) F d_L_law_428 rfl rfl rfl ?_
  refine v_iload (pc' := 431) F d_L_law_429 rfl rfl ?_
  refine v_iconst (pc' := 432) F d_L_law_431 rfl ?_
  refine v_iadd (pc' := 433) F d_L_law_432 rfl ?_
  refine v_sld (pc' := 434) F d_L_law_433 rfl hX hsa hlen (by omega) (by omega) ?_
  refine v_aload_n (pc' := 435) (j := 0) F d_L_law_434 rfl rfl rfl ?_
  refine v_iload (pc' := 437) F d_L_law_435 rfl rfl ?_
  refine v_iconst (pc' := 438) F d_L_law_437 rfl ?_
  refine v_iadd (pc' := 439) F d_L_law_438 rfl ?_
  refine v_sld (pc' := 440) F d_L_law_439 rfl hX hsa hlen (by omega) (by omega) ?_
  refine v_callV (pc' := 443) (C := zR_M) (T9 := zF_M) (N := 28) F d_L_law_440 rfl cal_M_changed wx_786 wx_787 wx_788 rfl hM8.1 (c_M_changed l X _ _ y M (sv xs (6 * (k : Int) + 1)) (sv xs (6 * (k : Int) + 2)) (sv xs (6 * (k : Int) + 3)) (sv xs (6 * (k : Int) + 4)) hM8 hI.hme hI.hrd hI.hda hI.hgo (sv_r _ _) (sv_r _ _) (sv_r _ _) (sv_r _ _)) rfl ⟨by decide, by decide, by dsimp only; omega, by dsimp only; omega⟩ (Nat.le_of_ble_eq_true rfl) (fun _ _ _ q => by obtain ⟨_, _, _, _, _, _, _, q7, _⟩ := q; cases q7) (fun r9 h7 n7 q => ?_)
  obtain ⟨M7, hM7, hF7, rfl, hc7, he7, r7, q9, hr7⟩ := q
  cases q9
  have hC7 := hC8.sub (h' := h7) (fun a ha _ => hF7 a ha.1)
  have ho7 : h7 o9 = some (am_la 1 g8) := (hF7 o9 (Or.inr hoy)).trans ho8
  have hB7 := Bo.step hM7 hC7 (T := (sp_put M (sv xs (6 * (k : Int) + 1)) (sv xs (6 * (k : Int) + 2)) (sv xs (6 * (k : Int) + 3)) (sv xs (6 * (k : Int) + 4)) 1).2.2) (hI.k_put _ _ _ _ _ (Or.inr rfl)) hN8 he7 hE8
  refine v_istore_6 (pc' := 445) F d_L_law_443 rfl rfl (by decide) ?_
  refine v_aload_n (pc' := 446) (j := 2) F d_L_law_445 rfl rfl rfl ?_
  refine v_callVP (pc' := 449) (C := zR_M) (T9 := zF_M) (N := 28) F d_L_law_446 rfl cal_M_thrown wx_747 wx_748 wx_749 rfl hM7.1 (c_M_thrown l X _ _ y M7 hM7) rfl ⟨by decide, by decide, by dsimp only; omega, by dsimp only; omega⟩ (Nat.le_of_ble_eq_true rfl) rfl rfl ?_
  refine v_topi (b := (sp_put M (sv xs (6 * (k : Int) + 1)) (sv xs (6 * (k : Int) + 2)) (sv xs (6 * (k : Int) + 3)) (sv xs (6 * (k : Int) + 4)) 1).1) hc7 ?_
  refine v_iload (pc' := 451) F d_L_law_449 rfl rfl ?_
  refine v_icS (tgt := 456) F d_L_law_451 (by decide) ?_
  refine v_iload (pc' := 458) F d_L_law_456 rfl rfl ?_
  have hz := (z_put M (sv xs (6 * (k : Int) + 1)) (sv xs (6 * (k : Int) + 2)) (sv xs (6 * (k : Int) + 3)) (sv xs (6 * (k : Int) + 4)) 1).1
  refine v_if_ne (tgt := 473) (pc' := 461) F d_L_law_458 (by decide) rfl (by omega) (fun c458 => ?_) (fun c458 => ?_)
  · refine v_goto (tgt := 1549) F d_L_law_473 (by decide) ?_
    exact v_widen (cells' := 40 + 70 * (k + 1)) (slots' := 13000 + 450 * (k + 1)) (by dsimp only; omega) (by dsimp only; omega) (v_subL (by (repeat' (first | exact trivial | exact rfl | refine And.intro ?_ ?_)); done) (hx _ _ _ _ _ hB7 ho7 (by omega)))
  · refine v_aload_n (pc' := 462) (j := 3) F d_L_law_461 rfl rfl rfl ?_
    refine v_iconst (pc' := 463) F d_L_law_462 rfl ?_
    refine v_lag (pc' := 464) F d_L_law_463 rfl ho7 (by decide) (by omega) (by omega) ?_
    refine v_topl (b := w32 (sp_put M (sv xs (6 * (k : Int) + 1)) (sv xs (6 * (k : Int) + 2)) (sv xs (6 * (k : Int) + 3)) (sv xs (6 * (k : Int) + 4)) 1).2.1) (hv8 (by omega)) ?_
    refine v_iload (pc' := 466) F d_L_law_464 rfl rfl ?_
    refine v_topv (b := iV (w32 r7)) (congrArg Value.int (w32_v _)) ?_
    refine v_i2l (pc' := 467) F d_L_law_466 rfl (w32_r _) ?_
    refine v_topl (b := w32 (sp_put M (sv xs (6 * (k : Int) + 1)) (sv xs (6 * (k : Int) + 2)) (sv xs (6 * (k : Int) + 3)) (sv xs (6 * (k : Int) + 4)) 1).2.1) (by rw [hr7 (by omega)]) ?_
    refine v_lcS (tgt := 473) F d_L_law_467 d_L_law_468 (by decide) ?_
    refine v_goto (tgt := 1549) F d_L_law_473 (by decide) ?_
    exact v_widen (cells' := 40 + 70 * (k + 1)) (slots' := 13000 + 450 * (k + 1)) (by dsimp only; omega) (by dsimp only; omega) (v_subL (by (repeat' (first | exact trivial | exact rfl | refine And.intro ?_ ?_)); done) (hx _ _ _ _ _ hB7 ho7 (by omega)))
set_option maxRecDepth 100000 in
set_option maxHeartbeats 4000000 in
theorem cs_correct {p : Program} {l : Launch} {e : Env} {s : State} {m : MethodId} {args : Array Value} {below : List Frame} {meth : Method} {c : Code} {X : am_X} {Q : State → Prop}  {h : am_H} {nx x y o9 sa N k : Nat} {M : MS} {P : Tg → Nat} {g0 : Int → Int} {xs : Nat → Int32} (F : am_Fx p s m args meth c y_L_law b_L_law 8 ((Option.some FieldType.boolean)) [] X) (ht : l.flags = pinnedFlags ++ [noTraceFlag]) (hoy : y + 26 ≤ o9) (hB : Bo X x y o9 M P h) (ho : h o9 = some (am_la 1 g0)) (hnx : o9 < nx) (hlen : N < 2147483648) (hk : 6 * k + 6 ≤ N) (hkk : k < 512) (hX : va_X sa N xs s X.2.2.1) (hsa : sa < am_sz X) (hx : ∀ (h8 : am_H) (n8 : Nat) (M8 : MS) (P8 : Tg → Nat) (g8 : Int → Int), Bo X x y o9 M8 P8 h8 → h8 o9 = some (am_la 1 g8) → o9 < n8 → V p l e ({ frames := 13, cells := 601024, slots := 7293034, locals := 488 }) s m args below meth c 8 X Q h8 n8 (40 + 70 * (k + 1)) (13000 + 450 * (k + 1)) 1549 [some (.ref sa), some (.ref x), some (.ref y), some (.ref o9), some (iV (6 * (k : Int))), none, none, none] []) : V p l e ({ frames := 13, cells := 601024, slots := 7293034, locals := 488 }) s m args below meth c 8 X Q h nx (40 + 70 * k) (13000 + 450 * k) 476 [some (.ref sa), some (.ref x), some (.ref y), some (.ref o9), some (iV (6 * (k : Int))), none, none, none] [] := by
  obtain ⟨hM, hC, hI, hN⟩ := hB
  obtain rfl := hC.top
  have hno : ¬ AA y o9 o9 := fun w => w.2 rfl
  have hA : ∀ q : Nat, nx ≤ q → AA y o9 q := fun q hq => ⟨Or.inr (by omega), by omega⟩
  refine v_aload_n (pc' := 477) (j := 1) F d_L_law_476 rfl rfl rfl ?_
  refine v_aload_n (pc' := 478) (j := 0) F d_L_law_477 rfl rfl rfl ?_
  refine v_iload (pc' := 480) F d_L_law_478 rfl rfl ?_
  refine v_iconst (pc' := 481) F d_L_law_480 rfl ?_
  refine v_iadd (pc' := 482) F d_L_law_481 rfl ?_
  refine v_sld (pc' := 483) F d_L_law_482 rfl hX hsa hlen (by omega) (by omega) ?_
  refine v_aload_n (pc' := 484) (j := 0) F d_L_law_483 rfl rfl rfl ?_
  refine v_iload (pc' := 486) F d_L_law_484 rfl rfl ?_
  refine v_iconst (pc' := 487) F d_L_law_486 rfl ?_
  refine v_iadd (pc' := 488) F d_L_law_487 rfl ?_
  refine v_sld (pc' := 489) F d_L_law_488 rfl hX hsa hlen (by omega) (by omega) ?_
  refine v_aload_n (pc' := 490) (j := 0) F d_L_law_489 rfl rfl rfl ?_
  refine v_iload (pc' := 492) F d_L_law_490 rfl rfl ?_
  refine v_iconst (pc' := 493) F d_L_law_492 rfl ?_
  refine v_iadd (pc' := 494) F d_L_law_493 rfl ?_
  refine v_sld (pc' := 495) F d_L_law_494 rfl hX hsa hlen (by omega) (by omega) ?_
  refine v_aload_n (pc' := 496) (j := 3) F d_L_law_495 rfl rfl rfl ?_
  refine v_callS (pc' := 499) F d_L_law_496 rfl cal_L_correct wx_397 wx_398 (c_L_correct l X _ _ _ _ _ _ (sv xs (6 * (k : Int) + 1)) (sv xs (6 * (k : Int) + 2)) (sv xs (6 * (k : Int) + 3)) o9 g0 ht hC hI hN (sv_r _ _) (sv_r _ _) (sv_r _ _) hA ho hno) rfl ⟨by decide, by decide, by dsimp only; omega, by dsimp only; omega⟩ (Nat.le_of_ble_eq_true rfl) (fun _ _ _ q => by cases q.1) (fun r9 h8 n8 q => ?_)
  obtain ⟨q9, hn8, ⟨P8, M8, hC8, hN8, hE8⟩, hF8, g8, ho8, hv8⟩ := q
  cases q9
  have hM8 : RepM y M h8 := hM.sub (fun a z1 z2 => hF8 a (fun w => by have := w.1; omega) (by omega))
  refine v_istore_5 (pc' := 501) F d_L_law_499 rfl rfl (by decide) ?_
  refine v_aload_n (pc' := 502) (j := 2) F d_L_law_501 rfl rfl rfl ?_
  refine v_aload_n (pc' := 503) (j := 0) F d_L_law_502 rfl rfl rfl ?_
  refine v_iload (pc' := 505) F d_L_law_503 rfl rfl ?_
  refine v_iconst (pc' := 506) F d_L_law_505 rfl ?_
  refine v_iadd (pc' := 507) F d_L_law_506 rfl ?_
  refine v_sld (pc' := 508) F d_L_law_507 rfl hX hsa hlen (by omega) (by omega) ?_
  refine v_aload_n (pc' := 509) (j := 0) F d_L_law_508 rfl rfl rfl ?_
  refine v_iload (pc' := 511) F d_L_law_509 rfl rfl ?_
  refine v_iconst (pc' := 512) F d_L_law_511 rfl ?_
  refine v_iadd (pc' := 513) F d_L_law_512 rfl ?_
  refine v_sld (pc' := 514) F d_L_law_513 rfl hX hsa hlen (by omega) (by omega) ?_
  refine v_aload_n (pc' := 515) (j := 0) F d_L_law_514 rfl rfl rfl ?_
  refine v_iload (pc' := 517) F d_L_law_515 rfl rfl ?_
  refine v_iconst (pc' := 518) F d_L_law_517 rfl ?_
  refine v_iadd (pc' := 519) F d_L_law_518 rfl ?_
  refine v_sld (pc' := 520) F d_L_law_519 rfl hX hsa hlen (by omega) (by omega) ?_
  refine v_callV (pc' := 523) (C := zR_M) (T9 := zF_M) (N := 28) F d_L_law_520 rfl cal_M_correct wx_790 wx_791 wx_792 rfl hM8.1 (c_M_correct l X _ _ y M (sv xs (6 * (k : Int) + 1)) (sv xs (6 * (k : Int) + 2)) (sv xs (6 * (k : Int) + 3)) hM8 hI.hme hI.hrd hI.hda hI.hva hI.hgo hI.hrn (sv_r _ _) (sv_r _ _) (sv_r _ _)) rfl ⟨by decide, by decide, by dsimp only; omega, by dsimp only; omega⟩ (Nat.le_of_ble_eq_true rfl) (fun _ _ _ q => by obtain ⟨_, _, _, _, _, _, _, q7, _⟩ := q; cases q7) (fun r9 h7 n7 q => ?_)
  obtain ⟨M7, hM7, hF7, rfl, hc7, he7, r7, q9, hr7⟩ := q
  cases q9
  have hC7 := hC8.sub (h' := h7) (fun a ha _ => hF7 a ha.1)
  have ho7 : h7 o9 = some (am_la 1 g8) := (hF7 o9 (Or.inr hoy)).trans ho8
  have hB7 := Bo.step hM7 hC7 (T := (sp_correct M (sv xs (6 * (k : Int) + 1)) (sv xs (6 * (k : Int) + 2)) (sv xs (6 * (k : Int) + 3))).2.2) (hI.k_correct _ _ _) hN8 he7 hE8
  refine v_istore_6 (pc' := 525) F d_L_law_523 rfl rfl (by decide) ?_
  refine v_aload_n (pc' := 526) (j := 2) F d_L_law_525 rfl rfl rfl ?_
  refine v_callVP (pc' := 529) (C := zR_M) (T9 := zF_M) (N := 28) F d_L_law_526 rfl cal_M_thrown wx_747 wx_748 wx_749 rfl hM7.1 (c_M_thrown l X _ _ y M7 hM7) rfl ⟨by decide, by decide, by dsimp only; omega, by dsimp only; omega⟩ (Nat.le_of_ble_eq_true rfl) rfl rfl ?_
  refine v_topi (b := (sp_correct M (sv xs (6 * (k : Int) + 1)) (sv xs (6 * (k : Int) + 2)) (sv xs (6 * (k : Int) + 3))).1) hc7 ?_
  refine v_iload (pc' := 531) F d_L_law_529 rfl rfl ?_
  refine v_icS (tgt := 536) F d_L_law_531 (by decide) ?_
  refine v_iload (pc' := 538) F d_L_law_536 rfl rfl ?_
  have hz := (z_correct M (sv xs (6 * (k : Int) + 1)) (sv xs (6 * (k : Int) + 2)) (sv xs (6 * (k : Int) + 3))).1
  refine v_if_ne (tgt := 553) (pc' := 541) F d_L_law_538 (by decide) rfl (by omega) (fun c538 => ?_) (fun c538 => ?_)
  · refine v_goto (tgt := 1549) F d_L_law_553 (by decide) ?_
    exact v_widen (cells' := 40 + 70 * (k + 1)) (slots' := 13000 + 450 * (k + 1)) (by dsimp only; omega) (by dsimp only; omega) (v_subL (by (repeat' (first | exact trivial | exact rfl | refine And.intro ?_ ?_)); done) (hx _ _ _ _ _ hB7 ho7 (by omega)))
  · refine v_aload_n (pc' := 542) (j := 3) F d_L_law_541 rfl rfl rfl ?_
    refine v_iconst (pc' := 543) F d_L_law_542 rfl ?_
    refine v_lag (pc' := 544) F d_L_law_543 rfl ho7 (by decide) (by omega) (by omega) ?_
    refine v_topl (b := w32 (sp_correct M (sv xs (6 * (k : Int) + 1)) (sv xs (6 * (k : Int) + 2)) (sv xs (6 * (k : Int) + 3))).2.1) (hv8 (by omega)) ?_
    refine v_iload (pc' := 546) F d_L_law_544 rfl rfl ?_
    refine v_topv (b := iV (w32 r7)) (congrArg Value.int (w32_v _)) ?_
    refine v_i2l (pc' := 547) F d_L_law_546 rfl (w32_r _) ?_
    refine v_topl (b := w32 (sp_correct M (sv xs (6 * (k : Int) + 1)) (sv xs (6 * (k : Int) + 2)) (sv xs (6 * (k : Int) + 3))).2.1) (by rw [hr7 (by omega)]) ?_
    refine v_lcS (tgt := 553) F d_L_law_547 d_L_law_548 (by decide) ?_
    refine v_goto (tgt := 1549) F d_L_law_553 (by decide) ?_
    exact v_widen (cells' := 40 + 70 * (k + 1)) (slots' := 13000 + 450 * (k + 1)) (by dsimp only; omega) (by dsimp only; omega) (v_subL (by (repeat' (first | exact trivial | exact rfl | refine And.intro ?_ ?_)); done) (hx _ _ _ _ _ hB7 ho7 (by omega)))
set_option maxRecDepth 100000 in
set_option maxHeartbeats 4000000 in
theorem cs_tested {p : Program} {l : Launch} {e : Env} {s : State} {m : MethodId} {args : Array Value} {below : List Frame} {meth : Method} {c : Code} {X : am_X} {Q : State → Prop}  {h : am_H} {nx x y o9 sa N k : Nat} {M : MS} {P : Tg → Nat} {g0 : Int → Int} {xs : Nat → Int32} (F : am_Fx p s m args meth c y_L_law b_L_law 8 ((Option.some FieldType.boolean)) [] X) (ht : l.flags = pinnedFlags ++ [noTraceFlag]) (hoy : y + 26 ≤ o9) (hB : Bo X x y o9 M P h) (ho : h o9 = some (am_la 1 g0)) (hnx : o9 < nx) (hlen : N < 2147483648) (hk : 6 * k + 6 ≤ N) (hkk : k < 512) (hX : va_X sa N xs s X.2.2.1) (hsa : sa < am_sz X) (hx : ∀ (h8 : am_H) (n8 : Nat) (M8 : MS) (P8 : Tg → Nat) (g8 : Int → Int), Bo X x y o9 M8 P8 h8 → h8 o9 = some (am_la 1 g8) → o9 < n8 → V p l e ({ frames := 13, cells := 601024, slots := 7293034, locals := 488 }) s m args below meth c 8 X Q h8 n8 (40 + 70 * (k + 1)) (13000 + 450 * (k + 1)) 1549 [some (.ref sa), some (.ref x), some (.ref y), some (.ref o9), some (iV (6 * (k : Int))), none, none, none] []) : V p l e ({ frames := 13, cells := 601024, slots := 7293034, locals := 488 }) s m args below meth c 8 X Q h nx (40 + 70 * k) (13000 + 450 * k) 556 [some (.ref sa), some (.ref x), some (.ref y), some (.ref o9), some (iV (6 * (k : Int))), none, none, none] [] := by
  obtain ⟨hM, hC, hI, hN⟩ := hB
  obtain rfl := hC.top
  have hno : ¬ AA y o9 o9 := fun w => w.2 rfl
  have hA : ∀ q : Nat, nx ≤ q → AA y o9 q := fun q hq => ⟨Or.inr (by omega), by omega⟩
  refine v_aload_n (pc' := 557) (j := 1) F d_L_law_556 rfl rfl rfl ?_
  refine v_aload_n (pc' := 558) (j := 0) F d_L_law_557 rfl rfl rfl ?_
  refine v_iload (pc' := 560) F d_L_law_558 rfl rfl ?_
  refine v_iconst (pc' := 561) F d_L_law_560 rfl ?_
  refine v_iadd (pc' := 562) F d_L_law_561 rfl ?_
  refine v_sld (pc' := 563) F d_L_law_562 rfl hX hsa hlen (by omega) (by omega) ?_
  refine v_aload_n (pc' := 564) (j := 0) F d_L_law_563 rfl rfl rfl ?_
  refine v_iload (pc' := 566) F d_L_law_564 rfl rfl ?_
  refine v_iconst (pc' := 567) F d_L_law_566 rfl ?_
  refine v_iadd (pc' := 568) F d_L_law_567 rfl ?_
  refine v_sld (pc' := 569) F d_L_law_568 rfl hX hsa hlen (by omega) (by omega) ?_
  refine v_aload_n (pc' := 570) (j := 3) F d_L_law_569 rfl rfl rfl ?_
  refine v_callS (pc' := 573) F d_L_law_570 rfl cal_L_tested wx_417 wx_418 (c_L_tested l X _ _ _ _ _ _ (sv xs (6 * (k : Int) + 1)) (sv xs (6 * (k : Int) + 2)) o9 g0 ht hC hI hN (sv_r _ _) (sv_r _ _) hA ho hno) rfl ⟨by decide, by decide, by dsimp only; omega, by dsimp only; omega⟩ (Nat.le_of_ble_eq_true rfl) (fun _ _ _ q => by cases q.1) (fun r9 h8 n8 q => ?_)
  obtain ⟨q9, hn8, ⟨P8, M8, hC8, hN8, hE8⟩, hF8, g8, ho8, hv8⟩ := q
  cases q9
  have hM8 : RepM y M h8 := hM.sub (fun a z1 z2 => hF8 a (fun w => by have := w.1; omega) (by omega))
  refine v_istore_5 (pc' := 575) F d_L_law_573 rfl rfl (by decide) ?_
  refine v_aload_n (pc' := 576) (j := 2) F d_L_law_575 rfl rfl rfl ?_
  refine v_aload_n (pc' := 577) (j := 0) F d_L_law_576 rfl rfl rfl ?_
  refine v_iload (pc' := 579) F d_L_law_577 rfl rfl ?_
  refine v_iconst (pc' := 580) F d_L_law_579 rfl ?_
  refine v_iadd (pc' := 581) F d_L_law_580 rfl ?_
  refine v_sld (pc' := 582) F d_L_law_581 rfl hX hsa hlen (by omega) (by omega) ?_
  refine v_aload_n (pc' := 583) (j := 0) F d_L_law_582 rfl rfl rfl ?_
  refine v_iload (pc' := 585) F d_L_law_583 rfl rfl ?_
  refine v_iconst (pc' := 586) F d_L_law_585 rfl ?_
  refine v_iadd (pc' := 587) F d_L_law_586 rfl ?_
  refine v_sld (pc' := 588) F d_L_law_587 rfl hX hsa hlen (by omega) (by omega) ?_
  refine v_callV (pc' := 591) (C := zR_M) (T9 := zF_M) (N := 28) F d_L_law_588 rfl cal_M_tested wx_794 wx_795 wx_796 rfl hM8.1 (c_M_tested l X _ _ y M (sv xs (6 * (k : Int) + 1)) (sv xs (6 * (k : Int) + 2)) hM8 hI.hme (sv_r _ _) (sv_r _ _)) rfl ⟨by decide, by decide, by dsimp only; omega, by dsimp only; omega⟩ (Nat.le_of_ble_eq_true rfl) (fun _ _ _ q => by obtain ⟨_, _, _, _, _, _, _, q7, _⟩ := q; cases q7) (fun r9 h7 n7 q => ?_)
  obtain ⟨M7, hM7, hF7, rfl, hc7, he7, r7, q9, hr7⟩ := q
  cases q9
  have hC7 := hC8.sub (h' := h7) (fun a ha _ => hF7 a ha.1)
  have ho7 : h7 o9 = some (am_la 1 g8) := (hF7 o9 (Or.inr hoy)).trans ho8
  have hB7 := Bo.step hM7 hC7 (T := (sp_tested M (sv xs (6 * (k : Int) + 1)) (sv xs (6 * (k : Int) + 2))).2.2) (hI.k_tested _ _) hN8 he7 hE8
  refine v_istore_6 (pc' := 593) F d_L_law_591 rfl rfl (by decide) ?_
  refine v_aload_n (pc' := 594) (j := 2) F d_L_law_593 rfl rfl rfl ?_
  refine v_callVP (pc' := 597) (C := zR_M) (T9 := zF_M) (N := 28) F d_L_law_594 rfl cal_M_thrown wx_747 wx_748 wx_749 rfl hM7.1 (c_M_thrown l X _ _ y M7 hM7) rfl ⟨by decide, by decide, by dsimp only; omega, by dsimp only; omega⟩ (Nat.le_of_ble_eq_true rfl) rfl rfl ?_
  refine v_topi (b := (sp_tested M (sv xs (6 * (k : Int) + 1)) (sv xs (6 * (k : Int) + 2))).1) hc7 ?_
  refine v_iload (pc' := 599) F d_L_law_597 rfl rfl ?_
  refine v_icS (tgt := 604) F d_L_law_599 (by decide) ?_
  refine v_iload (pc' := 606) F d_L_law_604 rfl rfl ?_
  have hz := (z_tested M (sv xs (6 * (k : Int) + 1)) (sv xs (6 * (k : Int) + 2))).1
  refine v_if_ne (tgt := 621) (pc' := 609) F d_L_law_606 (by decide) rfl (by omega) (fun c606 => ?_) (fun c606 => ?_)
  · refine v_goto (tgt := 1549) F d_L_law_621 (by decide) ?_
    exact v_widen (cells' := 40 + 70 * (k + 1)) (slots' := 13000 + 450 * (k + 1)) (by dsimp only; omega) (by dsimp only; omega) (v_subL (by (repeat' (first | exact trivial | exact rfl | refine And.intro ?_ ?_)); done) (hx _ _ _ _ _ hB7 ho7 (by omega)))
  · refine v_aload_n (pc' := 610) (j := 3) F d_L_law_609 rfl rfl rfl ?_
    refine v_iconst (pc' := 611) F d_L_law_610 rfl ?_
    refine v_lag (pc' := 612) F d_L_law_611 rfl ho7 (by decide) (by omega) (by omega) ?_
    refine v_topl (b := w32 (sp_tested M (sv xs (6 * (k : Int) + 1)) (sv xs (6 * (k : Int) + 2))).2.1) (hv8 (by omega)) ?_
    refine v_iload (pc' := 614) F d_L_law_612 rfl rfl ?_
    refine v_topv (b := iV (w32 r7)) (congrArg Value.int (w32_v _)) ?_
    refine v_i2l (pc' := 615) F d_L_law_614 rfl (w32_r _) ?_
    refine v_topl (b := w32 (sp_tested M (sv xs (6 * (k : Int) + 1)) (sv xs (6 * (k : Int) + 2))).2.1) (by rw [hr7 (by omega)]) ?_
    refine v_lcS (tgt := 621) F d_L_law_615 d_L_law_616 (by decide) ?_
    refine v_goto (tgt := 1549) F d_L_law_621 (by decide) ?_
    exact v_widen (cells' := 40 + 70 * (k + 1)) (slots' := 13000 + 450 * (k + 1)) (by dsimp only; omega) (by dsimp only; omega) (v_subL (by (repeat' (first | exact trivial | exact rfl | refine And.intro ?_ ?_)); done) (hx _ _ _ _ _ hB7 ho7 (by omega)))
set_option maxRecDepth 100000 in
set_option maxHeartbeats 4000000 in
theorem cs_cost {p : Program} {l : Launch} {e : Env} {s : State} {m : MethodId} {args : Array Value} {below : List Frame} {meth : Method} {c : Code} {X : am_X} {Q : State → Prop}  {h : am_H} {nx x y o9 sa N k : Nat} {M : MS} {P : Tg → Nat} {g0 : Int → Int} {xs : Nat → Int32} (F : am_Fx p s m args meth c y_L_law b_L_law 8 ((Option.some FieldType.boolean)) [] X) (ht : l.flags = pinnedFlags ++ [noTraceFlag]) (hoy : y + 26 ≤ o9) (hB : Bo X x y o9 M P h) (ho : h o9 = some (am_la 1 g0)) (hnx : o9 < nx) (hlen : N < 2147483648) (hk : 6 * k + 6 ≤ N) (hkk : k < 512) (hX : va_X sa N xs s X.2.2.1) (hsa : sa < am_sz X) (hx : ∀ (h8 : am_H) (n8 : Nat) (M8 : MS) (P8 : Tg → Nat) (g8 : Int → Int), Bo X x y o9 M8 P8 h8 → h8 o9 = some (am_la 1 g8) → o9 < n8 → V p l e ({ frames := 13, cells := 601024, slots := 7293034, locals := 488 }) s m args below meth c 8 X Q h8 n8 (40 + 70 * (k + 1)) (13000 + 450 * (k + 1)) 1549 [some (.ref sa), some (.ref x), some (.ref y), some (.ref o9), some (iV (6 * (k : Int))), none, none, none] []) : V p l e ({ frames := 13, cells := 601024, slots := 7293034, locals := 488 }) s m args below meth c 8 X Q h nx (40 + 70 * k) (13000 + 450 * k) 624 [some (.ref sa), some (.ref x), some (.ref y), some (.ref o9), some (iV (6 * (k : Int))), none, none, none] [] := by
  obtain ⟨hM, hC, hI, hN⟩ := hB
  obtain rfl := hC.top
  have hno : ¬ AA y o9 o9 := fun w => w.2 rfl
  have hA : ∀ q : Nat, nx ≤ q → AA y o9 q := fun q hq => ⟨Or.inr (by omega), by omega⟩
  refine v_aload_n (pc' := 625) (j := 1) F d_L_law_624 rfl rfl rfl ?_
  refine v_aload_n (pc' := 626) (j := 0) F d_L_law_625 rfl rfl rfl ?_
  refine v_iload (pc' := 628) F d_L_law_626 rfl rfl ?_
  refine v_iconst (pc' := 629) F d_L_law_628 rfl ?_
  refine v_iadd (pc' := 630) F d_L_law_629 rfl ?_
  refine v_sld (pc' := 631) F d_L_law_630 rfl hX hsa hlen (by omega) (by omega) ?_
  refine v_aload_n (pc' := 632) (j := 0) F d_L_law_631 rfl rfl rfl ?_
  refine v_iload (pc' := 634) F d_L_law_632 rfl rfl ?_
  refine v_iconst (pc' := 635) F d_L_law_634 rfl ?_
  refine v_iadd (pc' := 636) F d_L_law_635 rfl ?_
  refine v_sld (pc' := 637) F d_L_law_636 rfl hX hsa hlen (by omega) (by omega) ?_
  refine v_aload_n (pc' := 638) (j := 0) F d_L_law_637 rfl rfl rfl ?_
  refine v_iload (pc' := 640) F d_L_law_638 rfl rfl ?_
  refine v_iconst (pc' := 641) F d_L_law_640 rfl ?_
  refine v_iadd (pc' := 642) F d_L_law_641 rfl ?_
  refine v_sld (pc' := 643) F d_L_law_642 rfl hX hsa hlen (by omega) (by omega) ?_
  refine v_aload_n (pc' := 644) (j := 3) F d_L_law_643 rfl rfl rfl ?_
  refine v_callS (pc' := 647) F d_L_law_644 rfl cal_L_cost wx_424 wx_425 (c_L_cost l X _ _ _ _ _ _ (sv xs (6 * (k : Int) + 1)) (sv xs (6 * (k : Int) + 2)) (sv xs (6 * (k : Int) + 3)) o9 g0 ht hC hI hN (sv_r _ _) (sv_r _ _) (sv_r _ _) hA ho hno) rfl ⟨by decide, by decide, by dsimp only; omega, by dsimp only; omega⟩ (Nat.le_of_ble_eq_true rfl) (fun _ _ _ q => by cases q.1) (fun r9 h8 n8 q => ?_)
  obtain ⟨q9, hn8, ⟨P8, M8, hC8, hN8, hE8⟩, hF8, g8, ho8, hv8⟩ := q
  cases q9
  have hM8 : RepM y M h8 := hM.sub (fun a z1 z2 => hF8 a (fun w => by have := w.1; omega) (by omega))
  refine v_istore_5 (pc' := 649) F d_L_law_647 rfl rfl (by decide) ?_
  refine v_aload_n (pc' := 650) (j := 2) F d_L_law_649 rfl rfl rfl ?_
  refine v_aload_n (pc' := 651) (j := 0) F d_L_law_650 rfl rfl rfl ?_
  refine v_iload (pc' := 653) F d_L_law_651 rfl rfl ?_
  refine v_iconst (pc' := 654) F d_L_law_653 rfl ?_
  refine v_iadd (pc' := 655) F d_L_law_654 rfl ?_
  refine v_sld (pc' := 656) F d_L_law_655 rfl hX hsa hlen (by omega) (by omega) ?_
  refine v_aload_n (pc' := 657) (j := 0) F d_L_law_656 rfl rfl rfl ?_
  refine v_iload (pc' := 659) F d_L_law_657 rfl rfl ?_
  refine v_iconst (pc' := 660) F d_L_law_659 rfl ?_
  refine v_iadd (pc' := 661) F d_L_law_660 rfl ?_
  refine v_sld (pc' := 662) F d_L_law_661 rfl hX hsa hlen (by omega) (by omega) ?_
  refine v_aload_n (pc' := 663) (j := 0) F d_L_law_662 rfl rfl rfl ?_
  refine v_iload (pc' := 665) F d_L_law_663 rfl rfl ?_
  refine v_iconst (pc' := 666) F d_L_law_665 rfl ?_
  refine v_iadd (pc' := 667) F d_L_law_666 rfl ?_
  refine v_sld (pc' := 668) F d_L_law_667 rfl hX hsa hlen (by omega) (by omega) ?_
  refine v_callV (pc' := 671) (C := zR_M) (T9 := zF_M) (N := 28) F d_L_law_668 rfl cal_M_cost wx_798 wx_799 wx_800 rfl hM8.1 (c_M_cost l X _ _ y M (sv xs (6 * (k : Int) + 1)) (sv xs (6 * (k : Int) + 2)) (sv xs (6 * (k : Int) + 3)) hM8 (sv_r _ _) (sv_r _ _) (sv_r _ _)) rfl ⟨by decide, by decide, by dsimp only; omega, by dsimp only; omega⟩ (Nat.le_of_ble_eq_true rfl) (fun _ _ _ q => by obtain ⟨_, _, _, _, _, _, _, q7, _⟩ := q; cases q7) (fun r9 h7 n7 q => ?_)
  obtain ⟨M7, hM7, hF7, rfl, hc7, he7, r7, q9, hr7⟩ := q
  cases q9
  have hC7 := hC8.sub (h' := h7) (fun a ha _ => hF7 a ha.1)
  have ho7 : h7 o9 = some (am_la 1 g8) := (hF7 o9 (Or.inr hoy)).trans ho8
  have hB7 := Bo.step hM7 hC7 (T := (sp_cost M (sv xs (6 * (k : Int) + 1)) (sv xs (6 * (k : Int) + 2)) (sv xs (6 * (k : Int) + 3))).2.2) (hI.k_cost _ _ _) hN8 he7 hE8
  refine v_istore_6 (pc' := 673) F d_L_law_671 rfl rfl (by decide) ?_
  refine v_aload_n (pc' := 674) (j := 2) F d_L_law_673 rfl rfl rfl ?_
  refine v_callVP (pc' := 677) (C := zR_M) (T9 := zF_M) (N := 28) F d_L_law_674 rfl cal_M_thrown wx_747 wx_748 wx_749 rfl hM7.1 (c_M_thrown l X _ _ y M7 hM7) rfl ⟨by decide, by decide, by dsimp only; omega, by dsimp only; omega⟩ (Nat.le_of_ble_eq_true rfl) rfl rfl ?_
  refine v_topi (b := (sp_cost M (sv xs (6 * (k : Int) + 1)) (sv xs (6 * (k : Int) + 2)) (sv xs (6 * (k : Int) + 3))).1) hc7 ?_
  refine v_iload (pc' := 679) F d_L_law_677 rfl rfl ?_
  refine v_icS (tgt := 684) F d_L_law_679 (by decide) ?_
  refine v_iload (pc' := 686) F d_L_law_684 rfl rfl ?_
  have hz := (z_cost M (sv xs (6 * (k : Int) + 1)) (sv xs (6 * (k : Int) + 2)) (sv xs (6 * (k : Int) + 3))).1
  refine v_if_ne (tgt := 701) (pc' := 689) F d_L_law_686 (by decide) rfl (by omega) (fun c686 => ?_) (fun c686 => ?_)
  · refine v_goto (tgt := 1549) F d_L_law_701 (by decide) ?_
    exact v_widen (cells' := 40 + 70 * (k + 1)) (slots' := 13000 + 450 * (k + 1)) (by dsimp only; omega) (by dsimp only; omega) (v_subL (by (repeat' (first | exact trivial | exact rfl | refine And.intro ?_ ?_)); done) (hx _ _ _ _ _ hB7 ho7 (by omega)))
  · refine v_aload_n (pc' := 690) (j := 3) F d_L_law_689 rfl rfl rfl ?_
    refine v_iconst (pc' := 691) F d_L_law_690 rfl ?_
    refine v_lag (pc' := 692) F d_L_law_691 rfl ho7 (by decide) (by omega) (by omega) ?_
    refine v_topl (b := w32 (sp_cost M (sv xs (6 * (k : Int) + 1)) (sv xs (6 * (k : Int) + 2)) (sv xs (6 * (k : Int) + 3))).2.1) (hv8 (by omega)) ?_
    refine v_iload (pc' := 694) F d_L_law_692 rfl rfl ?_
    refine v_topv (b := iV (w32 r7)) (congrArg Value.int (w32_v _)) ?_
    refine v_i2l (pc' := 695) F d_L_law_694 rfl (w32_r _) ?_
    refine v_topl (b := w32 (sp_cost M (sv xs (6 * (k : Int) + 1)) (sv xs (6 * (k : Int) + 2)) (sv xs (6 * (k : Int) + 3))).2.1) (by rw [hr7 (by omega)]) ?_
    refine v_lcS (tgt := 701) F d_L_law_695 d_L_law_696 (by decide) ?_
    refine v_goto (tgt := 1549) F d_L_law_701 (by decide) ?_
    exact v_widen (cells' := 40 + 70 * (k + 1)) (slots' := 13000 + 450 * (k + 1)) (by dsimp only; omega) (by dsimp only; omega) (v_subL (by (repeat' (first | exact trivial | exact rfl | refine And.intro ?_ ?_)); done) (hx _ _ _ _ _ hB7 ho7 (by omega)))
set_option maxRecDepth 100000 in
set_option maxHeartbeats 4000000 in
theorem cs_base {p : Program} {l : Launch} {e : Env} {s : State} {m : MethodId} {args : Array Value} {below : List Frame} {meth : Method} {c : Code} {X : am_X} {Q : State → Prop}  {h : am_H} {nx x y o9 sa N k : Nat} {M : MS} {P : Tg → Nat} {g0 : Int → Int} {xs : Nat → Int32} (F : am_Fx p s m args meth c y_L_law b_L_law 8 ((Option.some FieldType.boolean)) [] X) (ht : l.flags = pinnedFlags ++ [noTraceFlag]) (hoy : y + 26 ≤ o9) (hB : Bo X x y o9 M P h) (ho : h o9 = some (am_la 1 g0)) (hnx : o9 < nx) (hlen : N < 2147483648) (hk : 6 * k + 6 ≤ N) (hkk : k < 512) (hX : va_X sa N xs s X.2.2.1) (hsa : sa < am_sz X) (hx : ∀ (h8 : am_H) (n8 : Nat) (M8 : MS) (P8 : Tg → Nat) (g8 : Int → Int), Bo X x y o9 M8 P8 h8 → h8 o9 = some (am_la 1 g8) → o9 < n8 → V p l e ({ frames := 13, cells := 601024, slots := 7293034, locals := 488 }) s m args below meth c 8 X Q h8 n8 (40 + 70 * (k + 1)) (13000 + 450 * (k + 1)) 1549 [some (.ref sa), some (.ref x), some (.ref y), some (.ref o9), some (iV (6 * (k : Int))), none, none, none] []) : V p l e ({ frames := 13, cells := 601024, slots := 7293034, locals := 488 }) s m args below meth c 8 X Q h nx (40 + 70 * k) (13000 + 450 * k) 704 [some (.ref sa), some (.ref x), some (.ref y), some (.ref o9), some (iV (6 * (k : Int))), none, none, none] [] := by
  obtain ⟨hM, hC, hI, hN⟩ := hB
  obtain rfl := hC.top
  have hno : ¬ AA y o9 o9 := fun w => w.2 rfl
  have hA : ∀ q : Nat, nx ≤ q → AA y o9 q := fun q hq => ⟨Or.inr (by omega), by omega⟩
  refine v_aload_n (pc' := 705) (j := 1) F d_L_law_704 rfl rfl rfl ?_
  refine v_aload_n (pc' := 706) (j := 0) F d_L_law_705 rfl rfl rfl ?_
  refine v_iload (pc' := 708) F d_L_law_706 rfl rfl ?_
  refine v_iconst (pc' := 709) F d_L_law_708 rfl ?_
  refine v_iadd (pc' := 710) F d_L_law_709 rfl ?_
  refine v_sld (pc' := 711) F d_L_law_710 rfl hX hsa hlen (by omega) (by omega) ?_
  refine v_aload_n (pc' := 712) (j := 0) F d_L_law_711 rfl rfl rfl ?_
  refine v_iload (pc' := 714) F d_L_law_712 rfl rfl ?_
  refine v_iconst (pc' := 715) F d_L_law_714 rfl ?_
  refine v_iadd (pc' := 716) F d_L_law_715 rfl ?_
  refine v_sld (pc' := 717) F d_L_law_716 rfl hX hsa hlen (by omega) (by omega) ?_
  refine v_aload_n (pc' := 718) (j := 3) F d_L_law_717 rfl rfl rfl ?_
  refine v_callS (pc' := 721) F d_L_law_718 rfl cal_L_base wx_435 wx_436 (c_L_base l X _ _ _ _ _ _ (sv xs (6 * (k : Int) + 1)) (sv xs (6 * (k : Int) + 2)) o9 g0 ht hC hI hN (sv_r _ _) (sv_r _ _) hA ho hno) rfl ⟨by decide, by decide, by dsimp only; omega, by dsimp only; omega⟩ (Nat.le_of_ble_eq_true rfl) (fun _ _ _ q => by cases q.1) (fun r9 h8 n8 q => ?_)
  obtain ⟨q9, hn8, ⟨P8, M8, hC8, hN8, hE8⟩, hF8, g8, ho8, hv8⟩ := q
  cases q9
  have hM8 : RepM y M h8 := hM.sub (fun a z1 z2 => hF8 a (fun w => by have := w.1; omega) (by omega))
  refine v_istore_5 (pc' := 723) F d_L_law_721 rfl rfl (by decide) ?_
  refine v_aload_n (pc' := 724) (j := 2) F d_L_law_723 rfl rfl rfl ?_
  refine v_aload_n (pc' := 725) (j := 0) F d_L_law_724 rfl rfl rfl ?_
  refine v_iload (pc' := 727) F d_L_law_725 rfl rfl ?_
  refine v_iconst (pc' := 728) F d_L_law_727 rfl ?_
  refine v_iadd (pc' := 729) F d_L_law_728 rfl ?_
  refine v_sld (pc' := 730) F d_L_law_729 rfl hX hsa hlen (by omega) (by omega) ?_
  refine v_aload_n (pc' := 731) (j := 0) F d_L_law_730 rfl rfl rfl ?_
  refine v_iload (pc' := 733) F d_L_law_731 rfl rfl ?_
  refine v_iconst (pc' := 734) F d_L_law_733 rfl ?_
  refine v_iadd (pc' := 735) F d_L_law_734 rfl ?_
  refine v_sld (pc' := 736) F d_L_law_735 rfl hX hsa hlen (by omega) (by omega) ?_
  refine v_callV (pc' := 739) (C := zR_M) (T9 := zF_M) (N := 28) F d_L_law_736 rfl cal_M_base wx_803 wx_804 wx_805 rfl hM8.1 (c_M_base l X _ _ y M (sv xs (6 * (k : Int) + 1)) (sv xs (6 * (k : Int) + 2)) hM8 (sv_r _ _) (sv_r _ _)) rfl ⟨by decide, by decide, by dsimp only; omega, by dsimp only; omega⟩ (Nat.le_of_ble_eq_true rfl) (fun _ _ _ q => by obtain ⟨_, _, _, _, _, _, _, q7, _⟩ := q; cases q7) (fun r9 h7 n7 q => ?_)
  obtain ⟨M7, hM7, hF7, rfl, hc7, he7, r7, q9, hr7⟩ := q
  cases q9
  have hC7 := hC8.sub (h' := h7) (fun a ha _ => hF7 a ha.1)
  have ho7 : h7 o9 = some (am_la 1 g8) := (hF7 o9 (Or.inr hoy)).trans ho8
  have hB7 := Bo.step hM7 hC7 (T := (sp_base M (sv xs (6 * (k : Int) + 1)) (sv xs (6 * (k : Int) + 2))).2.2) (hI.k_base _ _) hN8 he7 hE8
  refine v_istore_6 (pc' := 741) F d_L_law_739 rfl rfl (by decide) ?_
  refine v_aload_n (pc' := 742) (j := 2) F d_L_law_741 rfl rfl rfl ?_
  refine v_callVP (pc' := 745) (C := zR_M) (T9 := zF_M) (N := 28) F d_L_law_742 rfl cal_M_thrown wx_747 wx_748 wx_749 rfl hM7.1 (c_M_thrown l X _ _ y M7 hM7) rfl ⟨by decide, by decide, by dsimp only; omega, by dsimp only; omega⟩ (Nat.le_of_ble_eq_true rfl) rfl rfl ?_
  refine v_topi (b := (sp_base M (sv xs (6 * (k : Int) + 1)) (sv xs (6 * (k : Int) + 2))).1) hc7 ?_
  refine v_iload (pc' := 747) F d_L_law_745 rfl rfl ?_
  refine v_icS (tgt := 752) F d_L_law_747 (by decide) ?_
  refine v_iload (pc' := 754) F d_L_law_752 rfl rfl ?_
  have hz := (z_base M (sv xs (6 * (k : Int) + 1)) (sv xs (6 * (k : Int) + 2))).1
  refine v_if_ne (tgt := 769) (pc' := 757) F d_L_law_754 (by decide) rfl (by omega) (fun c754 => ?_) (fun c754 => ?_)
  · refine v_goto (tgt := 1549) F d_L_law_769 (by decide) ?_
    exact v_widen (cells' := 40 + 70 * (k + 1)) (slots' := 13000 + 450 * (k + 1)) (by dsimp only; omega) (by dsimp only; omega) (v_subL (by (repeat' (first | exact trivial | exact rfl | refine And.intro ?_ ?_)); done) (hx _ _ _ _ _ hB7 ho7 (by omega)))
  · refine v_aload_n (pc' := 758) (j := 3) F d_L_law_757 rfl rfl rfl ?_
    refine v_iconst (pc' := 759) F d_L_law_758 rfl ?_
    refine v_lag (pc' := 760) F d_L_law_759 rfl ho7 (by decide) (by omega) (by omega) ?_
    refine v_topl (b := w32 (sp_base M (sv xs (6 * (k : Int) + 1)) (sv xs (6 * (k : Int) + 2))).2.1) (hv8 (by omega)) ?_
    refine v_iload (pc' := 762) F d_L_law_760 rfl rfl ?_
    refine v_topv (b := iV (w32 r7)) (congrArg Value.int (w32_v _)) ?_
    refine v_i2l (pc' := 763) F d_L_law_762 rfl (w32_r _) ?_
    refine v_topl (b := w32 (sp_base M (sv xs (6 * (k : Int) + 1)) (sv xs (6 * (k : Int) + 2))).2.1) (by rw [hr7 (by omega)]) ?_
    refine v_lcS (tgt := 769) F d_L_law_763 d_L_law_764 (by decide) ?_
    refine v_goto (tgt := 1549) F d_L_law_769 (by decide) ?_
    exact v_widen (cells' := 40 + 70 * (k + 1)) (slots' := 13000 + 450 * (k + 1)) (by dsimp only; omega) (by dsimp only; omega) (v_subL (by (repeat' (first | exact trivial | exact rfl | refine And.intro ?_ ?_)); done) (hx _ _ _ _ _ hB7 ho7 (by omega)))
set_option maxRecDepth 100000 in
set_option maxHeartbeats 4000000 in
theorem cs_moves {p : Program} {l : Launch} {e : Env} {s : State} {m : MethodId} {args : Array Value} {below : List Frame} {meth : Method} {c : Code} {X : am_X} {Q : State → Prop}  {h : am_H} {nx x y o9 sa N k : Nat} {M : MS} {P : Tg → Nat} {g0 : Int → Int} {xs : Nat → Int32} (F : am_Fx p s m args meth c y_L_law b_L_law 8 ((Option.some FieldType.boolean)) [] X) (ht : l.flags = pinnedFlags ++ [noTraceFlag]) (hoy : y + 26 ≤ o9) (hB : Bo X x y o9 M P h) (ho : h o9 = some (am_la 1 g0)) (hnx : o9 < nx) (hlen : N < 2147483648) (hk : 6 * k + 6 ≤ N) (hkk : k < 512) (hX : va_X sa N xs s X.2.2.1) (hsa : sa < am_sz X) (hx : ∀ (h8 : am_H) (n8 : Nat) (M8 : MS) (P8 : Tg → Nat) (g8 : Int → Int), Bo X x y o9 M8 P8 h8 → h8 o9 = some (am_la 1 g8) → o9 < n8 → V p l e ({ frames := 13, cells := 601024, slots := 7293034, locals := 488 }) s m args below meth c 8 X Q h8 n8 (40 + 70 * (k + 1)) (13000 + 450 * (k + 1)) 1549 [some (.ref sa), some (.ref x), some (.ref y), some (.ref o9), some (iV (6 * (k : Int))), none, none, none] []) : V p l e ({ frames := 13, cells := 601024, slots := 7293034, locals := 488 }) s m args below meth c 8 X Q h nx (40 + 70 * k) (13000 + 450 * k) 772 [some (.ref sa), some (.ref x), some (.ref y), some (.ref o9), some (iV (6 * (k : Int))), none, none, none] [] := by
  obtain ⟨hM, hC, hI, hN⟩ := hB
  obtain rfl := hC.top
  have hno : ¬ AA y o9 o9 := fun w => w.2 rfl
  have hA : ∀ q : Nat, nx ≤ q → AA y o9 q := fun q hq => ⟨Or.inr (by omega), by omega⟩
  refine v_aload_n (pc' := 773) (j := 1) F d_L_law_772 rfl rfl rfl ?_
  refine v_aload_n (pc' := 774) (j := 0) F d_L_law_773 rfl rfl rfl ?_
  refine v_iload (pc' := 776) F d_L_law_774 rfl rfl ?_
  refine v_iconst (pc' := 777) F d_L_law_776 rfl ?_
  refine v_iadd (pc' := 778) F d_L_law_777 rfl ?_
  refine v_sld (pc' := 779) F d_L_law_778 rfl hX hsa hlen (by omega) (by omega) ?_
  refine v_aload_n (pc' := 780) (j := 0) F d_L_law_779 rfl rfl rfl ?_
  refine v_iload (pc' := 782) F d_L_law_780 rfl rfl ?_
  refine v_iconst (pc' := 783) F d_L_law_782 rfl ?_
  refine v_iadd (pc' := 784) F d_L_law_783 rfl ?_
  refine v_sld (pc' := 785) F d_L_law_784 rfl hX hsa hlen (by omega) (by omega) ?_
  refine v_aload_n (pc' := 786) (j := 3) F d_L_law_785 rfl rfl rfl ?_
  refine v_callS (pc' := 789) F d_L_law_786 rfl cal_L_moves wx_442 wx_443 (c_L_moves l X _ _ _ _ _ _ (sv xs (6 * (k : Int) + 1)) (sv xs (6 * (k : Int) + 2)) o9 g0 ht hC hI hN (sv_r _ _) (sv_r _ _) hA ho hno) rfl ⟨by decide, by decide, by dsimp only; omega, by dsimp only; omega⟩ (Nat.le_of_ble_eq_true rfl) (fun _ _ _ q => by cases q.1) (fun r9 h8 n8 q => ?_)
  obtain ⟨q9, hn8, ⟨P8, M8, hC8, hN8, hE8⟩, hF8, g8, ho8, hv8⟩ := q
  cases q9
  have hM8 : RepM y M h8 := hM.sub (fun a z1 z2 => hF8 a (fun w => by have := w.1; omega) (by omega))
  refine v_istore_5 (pc' := 791) F d_L_law_789 rfl rfl (by decide) ?_
  refine v_aload_n (pc' := 792) (j := 2) F d_L_law_791 rfl rfl rfl ?_
  refine v_aload_n (pc' := 793) (j := 0) F d_L_law_792 rfl rfl rfl ?_
  refine v_iload (pc' := 795) F d_L_law_793 rfl rfl ?_
  refine v_iconst (pc' := 796) F d_L_law_795 rfl ?_
  refine v_iadd (pc' := 797) F d_L_law_796 rfl ?_
  refine v_sld (pc' := 798) F d_L_law_797 rfl hX hsa hlen (by omega) (by omega) ?_
  refine v_aload_n (pc' := 799) (j := 0) F d_L_law_798 rfl rfl rfl ?_
  refine v_iload (pc' := 801) F d_L_law_799 rfl rfl ?_
  refine v_iconst (pc' := 802) F d_L_law_801 rfl ?_
  refine v_iadd (pc' := 803) F d_L_law_802 rfl ?_
  refine v_sld (pc' := 804) F d_L_law_803 rfl hX hsa hlen (by omega) (by omega) ?_
  refine v_callV (pc' := 807) (C := zR_M) (T9 := zF_M) (N := 28) F d_L_law_804 rfl cal_M_moves wx_807 wx_808 wx_809 rfl hM8.1 (c_M_moves l X _ _ y M (sv xs (6 * (k : Int) + 1)) (sv xs (6 * (k : Int) + 2)) hM8 hI.hfl hI.hlv hI.hsi (sv_r _ _) (sv_r _ _)) rfl ⟨by decide, by decide, by dsimp only; omega, by dsimp only; omega⟩ (Nat.le_of_ble_eq_true rfl) (fun _ _ _ q => by obtain ⟨_, _, _, _, _, _, _, q7, _⟩ := q; cases q7) (fun r9 h7 n7 q => ?_)
  obtain ⟨M7, hM7, hF7, rfl, hc7, he7, r7, q9, hr7⟩ := q
  cases q9
  have hC7 := hC8.sub (h' := h7) (fun a ha _ => hF7 a ha.1)
  have ho7 : h7 o9 = some (am_la 1 g8) := (hF7 o9 (Or.inr hoy)).trans ho8
  have hB7 := Bo.step hM7 hC7 (T := (sp_moves M (sv xs (6 * (k : Int) + 1)) (sv xs (6 * (k : Int) + 2))).2.2) (hI.k_moves _ _) hN8 he7 hE8
  refine v_istore_6 (pc' := 809) F d_L_law_807 rfl rfl (by decide) ?_
  refine v_aload_n (pc' := 810) (j := 2) F d_L_law_809 rfl rfl rfl ?_
  refine v_callVP (pc' := 813) (C := zR_M) (T9 := zF_M) (N := 28) F d_L_law_810 rfl cal_M_thrown wx_747 wx_748 wx_749 rfl hM7.1 (c_M_thrown l X _ _ y M7 hM7) rfl ⟨by decide, by decide, by dsimp only; omega, by dsimp only; omega⟩ (Nat.le_of_ble_eq_true rfl) rfl rfl ?_
  refine v_topi (b := (sp_moves M (sv xs (6 * (k : Int) + 1)) (sv xs (6 * (k : Int) + 2))).1) hc7 ?_
  refine v_iload (pc' := 815) F d_L_law_813 rfl rfl ?_
  refine v_icS (tgt := 820) F d_L_law_815 (by decide) ?_
  refine v_iload (pc' := 822) F d_L_law_820 rfl rfl ?_
  have hz := (z_moves M (sv xs (6 * (k : Int) + 1)) (sv xs (6 * (k : Int) + 2))).1
  refine v_if_ne (tgt := 837) (pc' := 825) F d_L_law_822 (by decide) rfl (by omega) (fun c822 => ?_) (fun c822 => ?_)
  · refine v_goto (tgt := 1549) F d_L_law_837 (by decide) ?_
    exact v_widen (cells' := 40 + 70 * (k + 1)) (slots' := 13000 + 450 * (k + 1)) (by dsimp only; omega) (by dsimp only; omega) (v_subL (by (repeat' (first | exact trivial | exact rfl | refine And.intro ?_ ?_)); done) (hx _ _ _ _ _ hB7 ho7 (by omega)))
  · refine v_aload_n (pc' := 826) (j := 3) F d_L_law_825 rfl rfl rfl ?_
    refine v_iconst (pc' := 827) F d_L_law_826 rfl ?_
    refine v_lag (pc' := 828) F d_L_law_827 rfl ho7 (by decide) (by omega) (by omega) ?_
    refine v_topl (b := w32 (sp_moves M (sv xs (6 * (k : Int) + 1)) (sv xs (6 * (k : Int) + 2))).2.1) (hv8 (by omega)) ?_
    refine v_iload (pc' := 830) F d_L_law_828 rfl rfl ?_
    refine v_topv (b := iV (w32 r7)) (congrArg Value.int (w32_v _)) ?_
    refine v_i2l (pc' := 831) F d_L_law_830 rfl (w32_r _) ?_
    refine v_topl (b := w32 (sp_moves M (sv xs (6 * (k : Int) + 1)) (sv xs (6 * (k : Int) + 2))).2.1) (by rw [hr7 (by omega)]) ?_
    refine v_lcS (tgt := 837) F d_L_law_831 d_L_law_832 (by decide) ?_
    refine v_goto (tgt := 1549) F d_L_law_837 (by decide) ?_
    exact v_widen (cells' := 40 + 70 * (k + 1)) (slots' := 13000 + 450 * (k + 1)) (by dsimp only; omega) (by dsimp only; omega) (v_subL (by (repeat' (first | exact trivial | exact rfl | refine And.intro ?_ ?_)); done) (hx _ _ _ _ _ hB7 ho7 (by omega)))
set_option maxRecDepth 100000 in
set_option maxHeartbeats 4000000 in
theorem cs_prepaid {p : Program} {l : Launch} {e : Env} {s : State} {m : MethodId} {args : Array Value} {below : List Frame} {meth : Method} {c : Code} {X : am_X} {Q : State → Prop}  {h : am_H} {nx x y o9 sa N k : Nat} {M : MS} {P : Tg → Nat} {g0 : Int → Int} {xs : Nat → Int32} (F : am_Fx p s m args meth c y_L_law b_L_law 8 ((Option.some FieldType.boolean)) [] X) (ht : l.flags = pinnedFlags ++ [noTraceFlag]) (hoy : y + 26 ≤ o9) (hB : Bo X x y o9 M P h) (ho : h o9 = some (am_la 1 g0)) (hnx : o9 < nx) (hlen : N < 2147483648) (hk : 6 * k + 6 ≤ N) (hkk : k < 512) (hX : va_X sa N xs s X.2.2.1) (hsa : sa < am_sz X) (hx : ∀ (h8 : am_H) (n8 : Nat) (M8 : MS) (P8 : Tg → Nat) (g8 : Int → Int), Bo X x y o9 M8 P8 h8 → h8 o9 = some (am_la 1 g8) → o9 < n8 → V p l e ({ frames := 13, cells := 601024, slots := 7293034, locals := 488 }) s m args below meth c 8 X Q h8 n8 (40 + 70 * (k + 1)) (13000 + 450 * (k + 1)) 1549 [some (.ref sa), some (.ref x), some (.ref y), some (.ref o9), some (iV (6 * (k : Int))), none, none, none] []) : V p l e ({ frames := 13, cells := 601024, slots := 7293034, locals := 488 }) s m args below meth c 8 X Q h nx (40 + 70 * k) (13000 + 450 * k) 840 [some (.ref sa), some (.ref x), some (.ref y), some (.ref o9), some (iV (6 * (k : Int))), none, none, none] [] := by
  obtain ⟨hM, hC, hI, hN⟩ := hB
  obtain rfl := hC.top
  have hno : ¬ AA y o9 o9 := fun w => w.2 rfl
  have hA : ∀ q : Nat, nx ≤ q → AA y o9 q := fun q hq => ⟨Or.inr (by omega), by omega⟩
  refine v_aload_n (pc' := 841) (j := 1) F d_L_law_840 rfl rfl rfl ?_
  refine v_aload_n (pc' := 842) (j := 0) F d_L_law_841 rfl rfl rfl ?_
  refine v_iload (pc' := 844) F d_L_law_842 rfl rfl ?_
  refine v_iconst (pc' := 845) F d_L_law_844 rfl ?_
  refine v_iadd (pc' := 846) F d_L_law_845 rfl ?_
  refine v_sld (pc' := 847) F d_L_law_846 rfl hX hsa hlen (by omega) (by omega) ?_
  refine v_aload_n (pc' := 848) (j := 0) F d_L_law_847 rfl rfl rfl ?_
  refine v_iload (pc' := 850) F d_L_law_848 rfl rfl ?_
  refine v_iconst (pc' := 851) F d_L_law_850 rfl ?_
  refine v_iadd (pc' := 852) F d_L_law_851 rfl ?_
  refine v_sld (pc' := 853) F d_L_law_852 rfl hX hsa hlen (by omega) (by omega) ?_
  refine v_aload_n (pc' := 854) (j := 0) F d_L_law_853 rfl rfl rfl ?_
  refine v_iload (pc' := 856) F d_L_law_854 rfl rfl ?_
  refine v_iconst (pc' := 857) F d_L_law_856 rfl ?_
  refine v_iadd (pc' := 858) F d_L_law_857 rfl ?_
  refine v_sld (pc' := 859) F d_L_law_858 rfl hX hsa hlen (by omega) (by omega) ?_
  refine v_aload_n (pc' := 860) (j := 3) F d_L_law_859 rfl rfl rfl ?_
  refine v_callS (pc' := 863) F d_L_law_860 rfl cal_L_prepaid wx_463 wx_464 (c_L_prepaid l X _ _ _ _ _ _ (sv xs (6 * (k : Int) + 1)) (sv xs (6 * (k : Int) + 2)) (sv xs (6 * (k : Int) + 3)) o9 g0 ht hC hI hN (sv_r _ _) (sv_r _ _) (sv_r _ _) hA ho hno) rfl ⟨by decide, by decide, by dsimp only; omega, by dsimp only; omega⟩ (Nat.le_of_ble_eq_true rfl) (fun _ _ _ q => by cases q.1) (fun r9 h8 n8 q => ?_)
  obtain ⟨q9, hn8, ⟨P8, M8, hC8, hN8, hE8⟩, hF8, g8, ho8, hv8⟩ := q
  cases q9
  have hM8 : RepM y M h8 := hM.sub (fun a z1 z2 => hF8 a (fun w => by have := w.1; omega) (by omega))
  refine v_istore_5 (pc' := 865) F d_L_law_863 rfl rfl (by decide) ?_
  refine v_aload_n (pc' := 866) (j := 2) F d_L_law_865 rfl rfl rfl ?_
  refine v_aload_n (pc' := 867) (j := 0) F d_L_law_866 rfl rfl rfl ?_
  refine v_iload (pc' := 869) F d_L_law_867 rfl rfl ?_
  refine v_iconst (pc' := 870) F d_L_law_869 rfl ?_
  refine v_iadd (pc' := 871) F d_L_law_870 rfl ?_
  refine v_sld (pc' := 872) F d_L_law_871 rfl hX hsa hlen (by omega) (by omega) ?_
  refine v_aload_n (pc' := 873) (j := 0) F d_L_law_872 rfl rfl rfl ?_
  refine v_iload (pc' := 875) F d_L_law_873 rfl rfl ?_
  refine v_iconst (pc' := 876) F d_L_law_875 rfl ?_
  refine v_iadd (pc' := 877) F d_L_law_876 rfl ?_
  refine v_sld (pc' := 878) F d_L_law_877 rfl hX hsa hlen (by omega) (by omega) ?_
  refine v_aload_n (pc' := 879) (j := 0) F d_L_law_878 rfl rfl rfl ?_
  refine v_iload (pc' := 881) F d_L_law_879 rfl rfl ?_
  refine v_iconst (pc' := 882) F d_L_law_881 rfl ?_
  refine v_iadd (pc' := 883) F d_L_law_882 rfl ?_
  refine v_sld (pc' := 884) F d_L_law_883 rfl hX hsa hlen (by omega) (by omega) ?_
  refine v_callV (pc' := 887) (C := zR_M) (T9 := zF_M) (N := 28) F d_L_law_884 rfl cal_M_prepaid wx_811 wx_812 wx_813 rfl hM8.1 (c_M_prepaid l X _ _ y M (sv xs (6 * (k : Int) + 1)) (sv xs (6 * (k : Int) + 2)) (sv xs (6 * (k : Int) + 3)) hM8 hI.hfl (sv_r _ _) (sv_r _ _) (sv_r _ _)) rfl ⟨by decide, by decide, by dsimp only; omega, by dsimp only; omega⟩ (Nat.le_of_ble_eq_true rfl) (fun _ _ _ q => by obtain ⟨_, _, _, _, _, _, _, q7, _⟩ := q; cases q7) (fun r9 h7 n7 q => ?_)
  obtain ⟨M7, hM7, hF7, rfl, hc7, he7, r7, q9, hr7⟩ := q
  cases q9
  have hC7 := hC8.sub (h' := h7) (fun a ha _ => hF7 a ha.1)
  have ho7 : h7 o9 = some (am_la 1 g8) := (hF7 o9 (Or.inr hoy)).trans ho8
  have hB7 := Bo.step hM7 hC7 (T := (sp_prepaid M (sv xs (6 * (k : Int) + 1)) (sv xs (6 * (k : Int) + 2)) (sv xs (6 * (k : Int) + 3))).2.2) (hI.k_prepaid _ _ _) hN8 he7 hE8
  refine v_lstore_6 (pc' := 889) F d_L_law_887 rfl rfl (by decide) ?_
  refine v_aload_n (pc' := 890) (j := 2) F d_L_law_889 rfl rfl rfl ?_
  refine v_callVP (pc' := 893) (C := zR_M) (T9 := zF_M) (N := 28) F d_L_law_890 rfl cal_M_thrown wx_747 wx_748 wx_749 rfl hM7.1 (c_M_thrown l X _ _ y M7 hM7) rfl ⟨by decide, by decide, by dsimp only; omega, by dsimp only; omega⟩ (Nat.le_of_ble_eq_true rfl) rfl rfl ?_
  refine v_topi (b := (sp_prepaid M (sv xs (6 * (k : Int) + 1)) (sv xs (6 * (k : Int) + 2)) (sv xs (6 * (k : Int) + 3))).1) hc7 ?_
  refine v_iload (pc' := 895) F d_L_law_893 rfl rfl ?_
  refine v_icS (tgt := 900) F d_L_law_895 (by decide) ?_
  refine v_iload (pc' := 902) F d_L_law_900 rfl rfl ?_
  have hz := (z_prepaid M (sv xs (6 * (k : Int) + 1)) (sv xs (6 * (k : Int) + 2)) (sv xs (6 * (k : Int) + 3))).1
  refine v_if_ne (tgt := 916) (pc' := 905) F d_L_law_902 (by decide) rfl (by omega) (fun c902 => ?_) (fun c902 => ?_)
  · refine v_goto (tgt := 1549) F d_L_law_916 (by decide) ?_
    exact v_widen (cells' := 40 + 70 * (k + 1)) (slots' := 13000 + 450 * (k + 1)) (by dsimp only; omega) (by dsimp only; omega) (v_subL (by (repeat' (first | exact trivial | exact rfl | refine And.intro ?_ ?_)); done) (hx _ _ _ _ _ hB7 ho7 (by omega)))
  · refine v_aload_n (pc' := 906) (j := 3) F d_L_law_905 rfl rfl rfl ?_
    refine v_iconst (pc' := 907) F d_L_law_906 rfl ?_
    refine v_lag (pc' := 908) F d_L_law_907 rfl ho7 (by decide) (by omega) (by omega) ?_
    refine v_topl (b := (fun z => z) (sp_prepaid M (sv xs (6 * (k : Int) + 1)) (sv xs (6 * (k : Int) + 2)) (sv xs (6 * (k : Int) + 3))).2.1) (hv8 (by omega)) ?_
    refine v_lload (pc' := 910) F d_L_law_908 rfl rfl ?_
    refine v_topl (b := (fun z => z) (sp_prepaid M (sv xs (6 * (k : Int) + 1)) (sv xs (6 * (k : Int) + 2)) (sv xs (6 * (k : Int) + 3))).2.1) (hr7 (by omega)) ?_
    refine v_lcS (tgt := 916) F d_L_law_910 d_L_law_911 (by decide) ?_
    refine v_goto (tgt := 1549) F d_L_law_916 (by decide) ?_
    exact v_widen (cells' := 40 + 70 * (k + 1)) (slots' := 13000 + 450 * (k + 1)) (by dsimp only; omega) (by dsimp only; omega) (v_subL (by (repeat' (first | exact trivial | exact rfl | refine And.intro ?_ ?_)); done) (hx _ _ _ _ _ hB7 ho7 (by omega)))
set_option maxRecDepth 100000 in
set_option maxHeartbeats 4000000 in
theorem cs_run {p : Program} {l : Launch} {e : Env} {s : State} {m : MethodId} {args : Array Value} {below : List Frame} {meth : Method} {c : Code} {X : am_X} {Q : State → Prop}  {h : am_H} {nx x y o9 sa N k : Nat} {M : MS} {P : Tg → Nat} {g0 : Int → Int} {xs : Nat → Int32} (F : am_Fx p s m args meth c y_L_law b_L_law 8 ((Option.some FieldType.boolean)) [] X) (ht : l.flags = pinnedFlags ++ [noTraceFlag]) (hoy : y + 26 ≤ o9) (hB : Bo X x y o9 M P h) (ho : h o9 = some (am_la 1 g0)) (hnx : o9 < nx) (hlen : N < 2147483648) (hk : 6 * k + 6 ≤ N) (hkk : k < 512) (hX : va_X sa N xs s X.2.2.1) (hsa : sa < am_sz X) (hx : ∀ (h8 : am_H) (n8 : Nat) (M8 : MS) (P8 : Tg → Nat) (g8 : Int → Int), Bo X x y o9 M8 P8 h8 → h8 o9 = some (am_la 1 g8) → o9 < n8 → V p l e ({ frames := 13, cells := 601024, slots := 7293034, locals := 488 }) s m args below meth c 8 X Q h8 n8 (40 + 70 * (k + 1)) (13000 + 450 * (k + 1)) 1549 [some (.ref sa), some (.ref x), some (.ref y), some (.ref o9), some (iV (6 * (k : Int))), none, none, none] []) : V p l e ({ frames := 13, cells := 601024, slots := 7293034, locals := 488 }) s m args below meth c 8 X Q h nx (40 + 70 * k) (13000 + 450 * k) 919 [some (.ref sa), some (.ref x), some (.ref y), some (.ref o9), some (iV (6 * (k : Int))), none, none, none] [] := by
  obtain ⟨hM, hC, hI, hN⟩ := hB
  obtain rfl := hC.top
  have hno : ¬ AA y o9 o9 := fun w => w.2 rfl
  have hA : ∀ q : Nat, nx ≤ q → AA y o9 q := fun q hq => ⟨Or.inr (by omega), by omega⟩
  refine v_aload_n (pc' := 920) (j := 1) F d_L_law_919 rfl rfl rfl ?_
  refine v_aload_n (pc' := 921) (j := 0) F d_L_law_920 rfl rfl rfl ?_
  refine v_iload (pc' := 923) F d_L_law_921 rfl rfl ?_
  refine v_iconst (pc' := 924) F d_L_law_923 rfl ?_
  refine v_iadd (pc' := 925) F d_L_law_924 rfl ?_
  refine v_sld (pc' := 926) F d_L_law_925 rfl hX hsa hlen (by omega) (by omega) ?_
  refine v_aload_n (pc' := 927) (j := 3) F d_L_law_926 rfl rfl rfl ?_
  refine v_callS (pc' := 930) F d_L_law_927 rfl cal_L_run wx_470 wx_471 (c_L_run l X _ _ _ _ _ _ (sv xs (6 * (k : Int) + 1)) o9 g0 ht hC hI hN (sv_r _ _) hA ho hno) rfl ⟨by decide, by decide, by dsimp only; omega, by dsimp only; omega⟩ (Nat.le_of_ble_eq_true rfl) (fun _ _ _ q => by cases q.1) (fun r9 h8 n8 q => ?_)
  obtain ⟨q9, hn8, ⟨P8, M8, hC8, hN8, hE8⟩, hF8, g8, ho8, hv8⟩ := q
  cases q9
  have hM8 : RepM y M h8 := hM.sub (fun a z1 z2 => hF8 a (fun w => by have := w.1; omega) (by omega))
  refine v_istore_5 (pc' := 932) F d_L_law_930 rfl rfl (by decide) ?_
  refine v_aload_n (pc' := 933) (j := 2) F d_L_law_932 rfl rfl rfl ?_
  refine v_aload_n (pc' := 934) (j := 0) F d_L_law_933 rfl rfl rfl ?_
  refine v_iload (pc' := 936) F d_L_law_934 rfl rfl ?_
  refine v_iconst (pc' := 937) F d_L_law_936 rfl ?_
  refine v_iadd (pc' := 938) F d_L_law_937 rfl ?_
  refine v_sld (pc' := 939) F d_L_law_938 rfl hX hsa hlen (by omega) (by omega) ?_
  refine v_callV (pc' := 942) (C := zR_M) (T9 := zF_M) (N := 28) F d_L_law_939 rfl cal_M_run wx_815 wx_816 wx_817 rfl hM8.1 (c_M_run l X _ _ y M (sv xs (6 * (k : Int) + 1)) hM8 hI.hth hI.hed hI.hfl hI.hrk hI.har hI.ha1 hI.hcs hI.hbs hI.hme hI.hrd hI.hda hI.hva hI.hgo hI.hmo hI.hab hI.hte hI.hfo (sv_r _ _)) rfl ⟨by decide, by decide, by dsimp only; omega, by dsimp only; omega⟩ (Nat.le_of_ble_eq_true rfl) (fun _ _ _ q => by obtain ⟨_, _, _, _, _, _, _, q7, _⟩ := q; cases q7) (fun r9 h7 n7 q => ?_)
  obtain ⟨M7, hM7, hF7, rfl, hc7, he7, r7, q9, hr7⟩ := q
  cases q9
  have hC7 := hC8.sub (h' := h7) (fun a ha _ => hF7 a ha.1)
  have ho7 : h7 o9 = some (am_la 1 g8) := (hF7 o9 (Or.inr hoy)).trans ho8
  have hB7 := Bo.step hM7 hC7 (T := (sp_run M (sv xs (6 * (k : Int) + 1))).2.2) (hI.k_run _) hN8 he7 hE8
  refine v_istore_6 (pc' := 944) F d_L_law_942 rfl rfl (by decide) ?_
  refine v_aload_n (pc' := 945) (j := 2) F d_L_law_944 rfl rfl rfl ?_
  refine v_callVP (pc' := 948) (C := zR_M) (T9 := zF_M) (N := 28) F d_L_law_945 rfl cal_M_thrown wx_747 wx_748 wx_749 rfl hM7.1 (c_M_thrown l X _ _ y M7 hM7) rfl ⟨by decide, by decide, by dsimp only; omega, by dsimp only; omega⟩ (Nat.le_of_ble_eq_true rfl) rfl rfl ?_
  refine v_topi (b := (sp_run M (sv xs (6 * (k : Int) + 1))).1) hc7 ?_
  refine v_iload (pc' := 950) F d_L_law_948 rfl rfl ?_
  refine v_icS (tgt := 955) F d_L_law_950 (by decide) ?_
  refine v_iload (pc' := 957) F d_L_law_955 rfl rfl ?_
  have hz := (z_run M (sv xs (6 * (k : Int) + 1))).1
  refine v_if_ne (tgt := 972) (pc' := 960) F d_L_law_957 (by decide) rfl (by omega) (fun c957 => ?_) (fun c957 => ?_)
  · refine v_goto (tgt := 1549) F d_L_law_972 (by decide) ?_
    exact v_widen (cells' := 40 + 70 * (k + 1)) (slots' := 13000 + 450 * (k + 1)) (by dsimp only; omega) (by dsimp only; omega) (v_subL (by (repeat' (first | exact trivial | exact rfl | refine And.intro ?_ ?_)); done) (hx _ _ _ _ _ hB7 ho7 (by omega)))
  · refine v_aload_n (pc' := 961) (j := 3) F d_L_law_960 rfl rfl rfl ?_
    refine v_iconst (pc' := 962) F d_L_law_961 rfl ?_
    refine v_lag (pc' := 963) F d_L_law_962 rfl ho7 (by decide) (by omega) (by omega) ?_
    refine v_topl (b := w32 (sp_run M (sv xs (6 * (k : Int) + 1))).2.1) (hv8 (by omega)) ?_
    refine v_iload (pc' := 965) F d_L_law_963 rfl rfl ?_
    refine v_topv (b := iV (w32 r7)) (congrArg Value.int (w32_v _)) ?_
    refine v_i2l (pc' := 966) F d_L_law_965 rfl (w32_r _) ?_
    refine v_topl (b := w32 (sp_run M (sv xs (6 * (k : Int) + 1))).2.1) (by rw [hr7 (by omega)]) ?_
    refine v_lcS (tgt := 972) F d_L_law_966 d_L_law_967 (by decide) ?_
    refine v_goto (tgt := 1549) F d_L_law_972 (by decide) ?_
    exact v_widen (cells' := 40 + 70 * (k + 1)) (slots' := 13000 + 450 * (k + 1)) (by dsimp only; omega) (by dsimp only; omega) (v_subL (by (repeat' (first | exact trivial | exact rfl | refine And.intro ?_ ?_)); done) (hx _ _ _ _ _ hB7 ho7 (by omega)))
set_option maxRecDepth 100000 in
set_option maxHeartbeats 4000000 in
theorem cs_use {p : Program} {l : Launch} {e : Env} {s : State} {m : MethodId} {args : Array Value} {below : List Frame} {meth : Method} {c : Code} {X : am_X} {Q : State → Prop}  {h : am_H} {nx x y o9 sa N k : Nat} {M : MS} {P : Tg → Nat} {g0 : Int → Int} {xs : Nat → Int32} (F : am_Fx p s m args meth c y_L_law b_L_law 8 ((Option.some FieldType.boolean)) [] X) (ht : l.flags = pinnedFlags ++ [noTraceFlag]) (hoy : y + 26 ≤ o9) (hB : Bo X x y o9 M P h) (ho : h o9 = some (am_la 1 g0)) (hnx : o9 < nx) (hlen : N < 2147483648) (hk : 6 * k + 6 ≤ N) (hkk : k < 512) (hX : va_X sa N xs s X.2.2.1) (hsa : sa < am_sz X) (hx : ∀ (h8 : am_H) (n8 : Nat) (M8 : MS) (P8 : Tg → Nat) (g8 : Int → Int), Bo X x y o9 M8 P8 h8 → h8 o9 = some (am_la 1 g8) → o9 < n8 → V p l e ({ frames := 13, cells := 601024, slots := 7293034, locals := 488 }) s m args below meth c 8 X Q h8 n8 (40 + 70 * (k + 1)) (13000 + 450 * (k + 1)) 1549 [some (.ref sa), some (.ref x), some (.ref y), some (.ref o9), some (iV (6 * (k : Int))), none, none, none] []) : V p l e ({ frames := 13, cells := 601024, slots := 7293034, locals := 488 }) s m args below meth c 8 X Q h nx (40 + 70 * k) (13000 + 450 * k) 975 [some (.ref sa), some (.ref x), some (.ref y), some (.ref o9), some (iV (6 * (k : Int))), none, none, none] [] := by
  obtain ⟨hM, hC, hI, hN⟩ := hB
  obtain rfl := hC.top
  have hno : ¬ AA y o9 o9 := fun w => w.2 rfl
  have hA : ∀ q : Nat, nx ≤ q → AA y o9 q := fun q hq => ⟨Or.inr (by omega), by omega⟩
  refine v_aload_n (pc' := 976) (j := 1) F d_L_law_975 rfl rfl rfl ?_
  refine v_aload_n (pc' := 977) (j := 0) F d_L_law_976 rfl rfl rfl ?_
  refine v_iload (pc' := 979) F d_L_law_977 rfl rfl ?_
  refine v_iconst (pc' := 980) F d_L_law_979 rfl ?_
  refine v_iadd (pc' := 981) F d_L_law_980 rfl ?_
  refine v_sld (pc' := 982) F d_L_law_981 rfl hX hsa hlen (by omega) (by omega) ?_
  refine v_aload_n (pc' := 983) (j := 0) F d_L_law_982 rfl rfl rfl ?_
  refine v_iload (pc' := 985) F d_L_law_983 rfl rfl ?_
  refine v_iconst (pc' := 986) F d_L_law_985 rfl ?_
  refine v_iadd (pc' := 987) F d_L_law_986 rfl ?_
  refine v_sld (pc' := 988) F d_L_law_987 rfl hX hsa hlen (by omega) (by omega) ?_
  refine v_aload_n (pc' := 989) (j := 3) F d_L_law_988 rfl rfl rfl ?_
  refine v_callS (pc' := 992) F d_L_law_989 rfl cal_L_use wx_571 wx_572 (c_L_use l X _ _ _ _ _ _ (sv xs (6 * (k : Int) + 1)) (sv xs (6 * (k : Int) + 2)) o9 g0 ht hC hI hN (sv_r _ _) (sv_r _ _) hA ho hno) rfl ⟨by decide, by decide, by dsimp only; omega, by dsimp only; omega⟩ (Nat.le_of_ble_eq_true rfl) (fun _ _ _ q => by cases q.1) (fun r9 h8 n8 q => ?_)
  obtain ⟨q9, hn8, ⟨P8, M8, hC8, hN8, hE8⟩, hF8, g8, ho8, hv8⟩ := q
  cases q9
  have hM8 : RepM y M h8 := hM.sub (fun a z1 z2 => hF8 a (fun w => by have := w.1; omega) (by omega))
  refine v_istore_5 (pc' := 994) F d_L_law_992 rfl rfl (by decide) ?_
  refine v_aload_n (pc' := 995) (j := 2) F d_L_law_994 rfl rfl rfl ?_
  refine v_aload_n (pc' := 996) (j := 0) F d_L_law_995 rfl rfl rfl ?_
  refine v_iload (pc' := 998) F d_L_law_996 rfl rfl ?_
  refine v_iconst (pc' := 999) F d_L_law_998 rfl ?_
  refine v_iadd (pc' := 1000) F d_L_law_999 rfl ?_
  refine v_sld (pc' := 1001) F d_L_law_1000 rfl hX hsa hlen (by omega) (by omega) ?_
  refine v_aload_n (pc' := 1002) (j := 0) F d_L_law_1001 rfl rfl rfl ?_
  refine v_iload (pc' := 1004) F d_L_law_1002 rfl rfl ?_
  refine v_iconst (pc' := 1005) F d_L_law_1004 rfl ?_
  refine v_iadd (pc' := 1006) F d_L_law_1005 rfl ?_
  refine v_sld (pc' := 1007) F d_L_law_1006 rfl hX hsa hlen (by omega) (by omega) ?_
  refine v_callV (pc' := 1010) (C := zR_M) (T9 := zF_M) (N := 28) F d_L_law_1007 rfl cal_M_use wx_860 wx_861 wx_862 rfl hM8.1 (c_M_use l X _ _ y M (sv xs (6 * (k : Int) + 1)) (sv xs (6 * (k : Int) + 2)) hM8 hI.hme hI.hrd hI.hda hI.hva hI.hgo hI.hmo hI.hab hI.hte hI.hfo (sv_r _ _) (sv_r _ _)) rfl ⟨by decide, by decide, by dsimp only; omega, by dsimp only; omega⟩ (Nat.le_of_ble_eq_true rfl) (fun _ _ _ q => by obtain ⟨_, _, _, _, _, _, _, q7, _⟩ := q; cases q7) (fun r9 h7 n7 q => ?_)
  obtain ⟨M7, hM7, hF7, rfl, hc7, he7, r7, q9, hr7⟩ := q
  cases q9
  have hC7 := hC8.sub (h' := h7) (fun a ha _ => hF7 a ha.1)
  have ho7 : h7 o9 = some (am_la 1 g8) := (hF7 o9 (Or.inr hoy)).trans ho8
  have hB7 := Bo.step hM7 hC7 (T := (sp_useR M (sv xs (6 * (k : Int) + 1)) (sv xs (6 * (k : Int) + 2))).2.2) ((by rw [zs_use M (sv xs (6 * (k : Int) + 1)) (sv xs (6 * (k : Int) + 2))]; exact hI)) hN8 he7 hE8
  refine v_lstore_6 (pc' := 1012) F d_L_law_1010 rfl rfl (by decide) ?_
  refine v_aload_n (pc' := 1013) (j := 2) F d_L_law_1012 rfl rfl rfl ?_
  refine v_callVP (pc' := 1016) (C := zR_M) (T9 := zF_M) (N := 28) F d_L_law_1013 rfl cal_M_thrown wx_747 wx_748 wx_749 rfl hM7.1 (c_M_thrown l X _ _ y M7 hM7) rfl ⟨by decide, by decide, by dsimp only; omega, by dsimp only; omega⟩ (Nat.le_of_ble_eq_true rfl) rfl rfl ?_
  refine v_topi (b := (sp_useR M (sv xs (6 * (k : Int) + 1)) (sv xs (6 * (k : Int) + 2))).1) hc7 ?_
  refine v_iload (pc' := 1018) F d_L_law_1016 rfl rfl ?_
  refine v_icS (tgt := 1023) F d_L_law_1018 (by decide) ?_
  refine v_iload (pc' := 1025) F d_L_law_1023 rfl rfl ?_
  have hz := (z_use M (sv xs (6 * (k : Int) + 1)) (sv xs (6 * (k : Int) + 2))).1
  refine v_if_ne (tgt := 1039) (pc' := 1028) F d_L_law_1025 (by decide) rfl (by omega) (fun c1025 => ?_) (fun c1025 => ?_)
  · refine v_goto (tgt := 1549) F d_L_law_1039 (by decide) ?_
    exact v_widen (cells' := 40 + 70 * (k + 1)) (slots' := 13000 + 450 * (k + 1)) (by dsimp only; omega) (by dsimp only; omega) (v_subL (by (repeat' (first | exact trivial | exact rfl | refine And.intro ?_ ?_)); done) (hx _ _ _ _ _ hB7 ho7 (by omega)))
  · refine v_aload_n (pc' := 1029) (j := 3) F d_L_law_1028 rfl rfl rfl ?_
    refine v_iconst (pc' := 1030) F d_L_law_1029 rfl ?_
    refine v_lag (pc' := 1031) F d_L_law_1030 rfl ho7 (by decide) (by omega) (by omega) ?_
    refine v_topl (b := (fun z => z) (sp_useR M (sv xs (6 * (k : Int) + 1)) (sv xs (6 * (k : Int) + 2))).2.1) (hv8 (by omega)) ?_
    refine v_lload (pc' := 1033) F d_L_law_1031 rfl rfl ?_
    refine v_topl (b := (fun z => z) (sp_useR M (sv xs (6 * (k : Int) + 1)) (sv xs (6 * (k : Int) + 2))).2.1) (hr7 (by omega)) ?_
    refine v_lcS (tgt := 1039) F d_L_law_1033 d_L_law_1034 (by decide) ?_
    refine v_goto (tgt := 1549) F d_L_law_1039 (by decide) ?_
    exact v_widen (cells' := 40 + 70 * (k + 1)) (slots' := 13000 + 450 * (k + 1)) (by dsimp only; omega) (by dsimp only; omega) (v_subL (by (repeat' (first | exact trivial | exact rfl | refine And.intro ?_ ?_)); done) (hx _ _ _ _ _ hB7 ho7 (by omega)))
set_option maxRecDepth 100000 in
set_option maxHeartbeats 4000000 in
theorem cs_barred {p : Program} {l : Launch} {e : Env} {s : State} {m : MethodId} {args : Array Value} {below : List Frame} {meth : Method} {c : Code} {X : am_X} {Q : State → Prop}  {h : am_H} {nx x y o9 sa N k : Nat} {M : MS} {P : Tg → Nat} {g0 : Int → Int} {xs : Nat → Int32} (F : am_Fx p s m args meth c y_L_law b_L_law 8 ((Option.some FieldType.boolean)) [] X) (ht : l.flags = pinnedFlags ++ [noTraceFlag]) (hoy : y + 26 ≤ o9) (hB : Bo X x y o9 M P h) (ho : h o9 = some (am_la 1 g0)) (hnx : o9 < nx) (hlen : N < 2147483648) (hk : 6 * k + 6 ≤ N) (hkk : k < 512) (hX : va_X sa N xs s X.2.2.1) (hsa : sa < am_sz X) (hx : ∀ (h8 : am_H) (n8 : Nat) (M8 : MS) (P8 : Tg → Nat) (g8 : Int → Int), Bo X x y o9 M8 P8 h8 → h8 o9 = some (am_la 1 g8) → o9 < n8 → V p l e ({ frames := 13, cells := 601024, slots := 7293034, locals := 488 }) s m args below meth c 8 X Q h8 n8 (40 + 70 * (k + 1)) (13000 + 450 * (k + 1)) 1549 [some (.ref sa), some (.ref x), some (.ref y), some (.ref o9), some (iV (6 * (k : Int))), none, none, none] []) : V p l e ({ frames := 13, cells := 601024, slots := 7293034, locals := 488 }) s m args below meth c 8 X Q h nx (40 + 70 * k) (13000 + 450 * k) 1042 [some (.ref sa), some (.ref x), some (.ref y), some (.ref o9), some (iV (6 * (k : Int))), none, none, none] [] := by
  obtain ⟨hM, hC, hI, hN⟩ := hB
  obtain rfl := hC.top
  have hno : ¬ AA y o9 o9 := fun w => w.2 rfl
  have hA : ∀ q : Nat, nx ≤ q → AA y o9 q := fun q hq => ⟨Or.inr (by omega), by omega⟩
  refine v_aload_n (pc' := 1043) (j := 1) F d_L_law_1042 rfl rfl rfl ?_
  refine v_aload_n (pc' := 1044) (j := 0) F d_L_law_1043 rfl rfl rfl ?_
  refine v_iload (pc' := 1046) F d_L_law_1044 rfl rfl ?_
  refine v_iconst (pc' := 1047) F d_L_law_1046 rfl ?_
  refine v_iadd (pc' := 1048) F d_L_law_1047 rfl ?_
  refine v_sld (pc' := 1049) F d_L_law_1048 rfl hX hsa hlen (by omega) (by omega) ?_
  refine v_aload_n (pc' := 1050) (j := 0) F d_L_law_1049 rfl rfl rfl ?_
  refine v_iload (pc' := 1052) F d_L_law_1050 rfl rfl ?_
  refine v_iconst (pc' := 1053) F d_L_law_1052 rfl ?_
  refine v_iadd (pc' := 1054) F d_L_law_1053 rfl ?_
  refine v_sld (pc' := 1055) F d_L_law_1054 rfl hX hsa hlen (by omega) (by omega) ?_
  refine v_aload_n (pc' := 1056) (j := 0) F d_L_law_1055 rfl rfl rfl ?_
  refine v_iload (pc' := 1058) F d_L_law_1056 rfl rfl ?_
  refine v_iconst (pc' := 1059) F d_L_law_1058 rfl ?_
  refine v_iadd (pc' := 1060) F d_L_law_1059 rfl ?_
  refine v_sld (pc' := 1061) F d_L_law_1060 rfl hX hsa hlen (by omega) (by omega) ?_
  refine v_aload_n (pc' := 1062) (j := 3) F d_L_law_1061 rfl rfl rfl ?_
  refine v_callS (pc' := 1065) F d_L_law_1062 rfl cal_L_barred wx_581 wx_582 (c_L_barred l X _ _ _ _ _ _ (sv xs (6 * (k : Int) + 1)) (sv xs (6 * (k : Int) + 2)) (sv xs (6 * (k : Int) + 3)) o9 g0 ht hC hI hN (sv_r _ _) (sv_r _ _) (sv_r _ _) hA ho hno) rfl ⟨by decide, by decide, by dsimp only; omega, by dsimp only; omega⟩ (Nat.le_of_ble_eq_true rfl) (fun _ _ _ q => by cases q.1) (fun r9 h8 n8 q => ?_)
  obtain ⟨q9, hn8, ⟨P8, M8, hC8, hN8, hE8⟩, hF8, g8, ho8, hv8⟩ := q
  cases q9
  have hM8 : RepM y M h8 := hM.sub (fun a z1 z2 => hF8 a (fun w => by have := w.1; omega) (by omega))
  refine v_istore_5 (pc' := 1067) F d_L_law_1065 rfl rfl (by decide) ?_
  refine v_aload_n (pc' := 1068) (j := 2) F d_L_law_1067 rfl rfl rfl ?_
  refine v_aload_n (pc' := 1069) (j := 0) F d_L_law_1068 rfl rfl rfl ?_
  refine v_iload (pc' := 1071) F d_L_law_1069 rfl rfl ?_
  refine v_iconst (pc' := 1072) F d_L_law_1071 rfl ?_
  refine v_iadd (pc' := 1073) F d_L_law_1072 rfl ?_
  refine v_sld (pc' := 1074) F d_L_law_1073 rfl hX hsa hlen (by omega) (by omega) ?_
  refine v_aload_n (pc' := 1075) (j := 0) F d_L_law_1074 rfl rfl rfl ?_
  refine v_iload (pc' := 1077) F d_L_law_1075 rfl rfl ?_
  refine v_iconst (pc' := 1078) F d_L_law_1077 rfl ?_
  refine v_iadd (pc' := 1079) F d_L_law_1078 rfl ?_
  refine v_sld (pc' := 1080) F d_L_law_1079 rfl hX hsa hlen (by omega) (by omega) ?_
  refine v_aload_n (pc' := 1081) (j := 0) F d_L_law_1080 rfl rfl rfl ?_
  refine v_iload (pc' := 1083) F d_L_law_1081 rfl rfl ?_
  refine v_iconst (pc' := 1084) F d_L_law_1083 rfl ?_
  refine v_iadd (pc' := 1085) F d_L_law_1084 rfl ?_
  refine v_sld (pc' := 1086) F d_L_law_1085 rfl hX hsa hlen (by omega) (by omega) ?_
  refine v_callV (pc' := 1089) (C := zR_M) (T9 := zF_M) (N := 28) F d_L_law_1086 rfl cal_M_barred wx_865 wx_866 wx_867 rfl hM8.1 (c_M_barred l X _ _ y M (sv xs (6 * (k : Int) + 1)) (sv xs (6 * (k : Int) + 2)) (sv xs (6 * (k : Int) + 3)) hM8 hI.hfl hI.hme hI.hrd hI.hda hI.hva hI.hgo hI.hmo hI.hab hI.hte hI.hfo (sv_r _ _) (sv_r _ _) (sv_r _ _)) rfl ⟨by decide, by decide, by dsimp only; omega, by dsimp only; omega⟩ (Nat.le_of_ble_eq_true rfl) (fun _ _ _ q => by obtain ⟨_, _, _, _, _, _, _, q7, _⟩ := q; cases q7) (fun r9 h7 n7 q => ?_)
  obtain ⟨M7, hM7, hF7, rfl, hc7, he7, r7, q9, hr7⟩ := q
  cases q9
  have hC7 := hC8.sub (h' := h7) (fun a ha _ => hF7 a ha.1)
  have ho7 : h7 o9 = some (am_la 1 g8) := (hF7 o9 (Or.inr hoy)).trans ho8
  have hB7 := Bo.step hM7 hC7 (T := (sp_barredR M (sv xs (6 * (k : Int) + 1)) (sv xs (6 * (k : Int) + 2)) (sv xs (6 * (k : Int) + 3))).2.2) ((by rw [zs_barred M (sv xs (6 * (k : Int) + 1)) (sv xs (6 * (k : Int) + 2)) (sv xs (6 * (k : Int) + 3))]; exact hI)) hN8 he7 hE8
  refine v_istore_6 (pc' := 1091) F d_L_law_1089 rfl rfl (by decide) ?_
  refine v_aload_n (pc' := 1092) (j := 2) F d_L_law_1091 rfl rfl rfl ?_
  refine v_callVP (pc' := 1095) (C := zR_M) (T9 := zF_M) (N := 28) F d_L_law_1092 rfl cal_M_thrown wx_747 wx_748 wx_749 rfl hM7.1 (c_M_thrown l X _ _ y M7 hM7) rfl ⟨by decide, by decide, by dsimp only; omega, by dsimp only; omega⟩ (Nat.le_of_ble_eq_true rfl) rfl rfl ?_
  refine v_topi (b := (sp_barredR M (sv xs (6 * (k : Int) + 1)) (sv xs (6 * (k : Int) + 2)) (sv xs (6 * (k : Int) + 3))).1) hc7 ?_
  refine v_iload (pc' := 1097) F d_L_law_1095 rfl rfl ?_
  refine v_icS (tgt := 1102) F d_L_law_1097 (by decide) ?_
  refine v_iload (pc' := 1104) F d_L_law_1102 rfl rfl ?_
  have hz := (z_barred M (sv xs (6 * (k : Int) + 1)) (sv xs (6 * (k : Int) + 2)) (sv xs (6 * (k : Int) + 3))).1
  refine v_if_ne (tgt := 1119) (pc' := 1107) F d_L_law_1104 (by decide) rfl (by omega) (fun c1104 => ?_) (fun c1104 => ?_)
  · refine v_goto (tgt := 1549) F d_L_law_1119 (by decide) ?_
    exact v_widen (cells' := 40 + 70 * (k + 1)) (slots' := 13000 + 450 * (k + 1)) (by dsimp only; omega) (by dsimp only; omega) (v_subL (by (repeat' (first | exact trivial | exact rfl | refine And.intro ?_ ?_)); done) (hx _ _ _ _ _ hB7 ho7 (by omega)))
  · refine v_aload_n (pc' := 1108) (j := 3) F d_L_law_1107 rfl rfl rfl ?_
    refine v_iconst (pc' := 1109) F d_L_law_1108 rfl ?_
    refine v_lag (pc' := 1110) F d_L_law_1109 rfl ho7 (by decide) (by omega) (by omega) ?_
    refine v_topl (b := w32 (sp_barredR M (sv xs (6 * (k : Int) + 1)) (sv xs (6 * (k : Int) + 2)) (sv xs (6 * (k : Int) + 3))).2.1) (hv8 (by omega)) ?_
    refine v_iload (pc' := 1112) F d_L_law_1110 rfl rfl ?_
    refine v_topv (b := iV (w32 r7)) (congrArg Value.int (w32_v _)) ?_
    refine v_i2l (pc' := 1113) F d_L_law_1112 rfl (w32_r _) ?_
    refine v_topl (b := w32 (sp_barredR M (sv xs (6 * (k : Int) + 1)) (sv xs (6 * (k : Int) + 2)) (sv xs (6 * (k : Int) + 3))).2.1) (by rw [hr7 (by omega)]) ?_
    refine v_lcS (tgt := 1119) F d_L_law_1113 d_L_law_1114 (by decide) ?_
    refine v_goto (tgt := 1549) F d_L_law_1119 (by decide) ?_
    exact v_widen (cells' := 40 + 70 * (k + 1)) (slots' := 13000 + 450 * (k + 1)) (by dsimp only; omega) (by dsimp only; omega) (v_subL (by (repeat' (first | exact trivial | exact rfl | refine And.intro ?_ ?_)); done) (hx _ _ _ _ _ hB7 ho7 (by omega)))
set_option maxRecDepth 100000 in
set_option maxHeartbeats 4000000 in
theorem cs_line {p : Program} {l : Launch} {e : Env} {s : State} {m : MethodId} {args : Array Value} {below : List Frame} {meth : Method} {c : Code} {X : am_X} {Q : State → Prop}  {h : am_H} {nx x y o9 sa N k : Nat} {M : MS} {P : Tg → Nat} {g0 : Int → Int} {xs : Nat → Int32} (F : am_Fx p s m args meth c y_L_law b_L_law 8 ((Option.some FieldType.boolean)) [] X) (ht : l.flags = pinnedFlags ++ [noTraceFlag]) (hoy : y + 26 ≤ o9) (hB : Bo X x y o9 M P h) (ho : h o9 = some (am_la 1 g0)) (hnx : o9 < nx) (hlen : N < 2147483648) (hk : 6 * k + 6 ≤ N) (hkk : k < 512) (hX : va_X sa N xs s X.2.2.1) (hsa : sa < am_sz X) (hx : ∀ (h8 : am_H) (n8 : Nat) (M8 : MS) (P8 : Tg → Nat) (g8 : Int → Int), Bo X x y o9 M8 P8 h8 → h8 o9 = some (am_la 1 g8) → o9 < n8 → V p l e ({ frames := 13, cells := 601024, slots := 7293034, locals := 488 }) s m args below meth c 8 X Q h8 n8 (40 + 70 * (k + 1)) (13000 + 450 * (k + 1)) 1549 [some (.ref sa), some (.ref x), some (.ref y), some (.ref o9), some (iV (6 * (k : Int))), none, none, none] []) : V p l e ({ frames := 13, cells := 601024, slots := 7293034, locals := 488 }) s m args below meth c 8 X Q h nx (40 + 70 * k) (13000 + 450 * k) 1122 [some (.ref sa), some (.ref x), some (.ref y), some (.ref o9), some (iV (6 * (k : Int))), none, none, none] [] := by
  obtain ⟨hM, hC, hI, hN⟩ := hB
  obtain rfl := hC.top
  have hno : ¬ AA y o9 o9 := fun w => w.2 rfl
  have hA : ∀ q : Nat, nx ≤ q → AA y o9 q := fun q hq => ⟨Or.inr (by omega), by omega⟩
  refine v_aload_n (pc' := 1123) (j := 1) F d_L_law_1122 rfl rfl rfl ?_
  refine v_aload_n (pc' := 1124) (j := 0) F d_L_law_1123 rfl rfl rfl ?_
  refine v_iload (pc' := 1126) F d_L_law_1124 rfl rfl ?_
  refine v_iconst (pc' := 1127) F d_L_law_1126 rfl ?_
  refine v_iadd (pc' := 1128) F d_L_law_1127 rfl ?_
  refine v_sld (pc' := 1129) F d_L_law_1128 rfl hX hsa hlen (by omega) (by omega) ?_
  refine v_aload_n (pc' := 1130) (j := 0) F d_L_law_1129 rfl rfl rfl ?_
  refine v_iload (pc' := 1132) F d_L_law_1130 rfl rfl ?_
  refine v_iconst (pc' := 1133) F d_L_law_1132 rfl ?_
  refine v_iadd (pc' := 1134) F d_L_law_1133 rfl ?_
  refine v_sld (pc' := 1135) F d_L_law_1134 rfl hX hsa hlen (by omega) (by omega) ?_
  refine v_aload_n (pc' := 1136) (j := 0) F d_L_law_1135 rfl rfl rfl ?_
  refine v_iload (pc' := 1138) F d_L_law_1136 rfl rfl ?_
  refine v_iconst (pc' := 1139) F d_L_law_1138 rfl ?_
  refine v_iadd (pc' := 1140) F d_L_law_1139 rfl ?_
  refine v_sld (pc' := 1141) F d_L_law_1140 rfl hX hsa hlen (by omega) (by omega) ?_
  refine v_aload_n (pc' := 1142) (j := 0) F d_L_law_1141 rfl rfl rfl ?_
  refine v_iload (pc' := 1144) F d_L_law_1142 rfl rfl ?_
  refine v_iconst (pc' := 1145) F d_L_law_1144 rfl ?_
  refine v_iadd (pc' := 1146) F d_L_law_1145 rfl ?_
  refine v_sld (pc' := 1147) F d_L_law_1146 rfl hX hsa hlen (by omega) (by omega) ?_
  refine v_aload_n (pc' := 1148) (j := 3) F d_L_law_1147 rfl rfl rfl ?_
  refine v_callS (pc' := 1151) F d_L_law_1148 rfl cal_L_line wx_588 wx_589 (c_L_line l X _ _ _ _ _ _ (sv xs (6 * (k : Int) + 1)) (sv xs (6 * (k : Int) + 2)) (sv xs (6 * (k : Int) + 3)) (sv xs (6 * (k : Int) + 4)) o9 g0 ht hC hI hN (sv_r _ _) (sv_r _ _) (sv_r _ _) (sv_r _ _) hA ho hno) rfl ⟨by decide, by decide, by dsimp only; omega, by dsimp only; omega⟩ (Nat.le_of_ble_eq_true rfl) (fun _ _ _ q => by cases q.1) (fun r9 h8 n8 q => ?_)
  obtain ⟨q9, hn8, ⟨P8, M8, hC8, hN8, hE8⟩, hF8, g8, ho8, hv8⟩ := q
  cases q9
  have hM8 : RepM y M h8 := hM.sub (fun a z1 z2 => hF8 a (fun w => by have := w.1; omega) (by omega))
  refine v_istore_5 (pc' := 1153) F d_L_law_1151 rfl rfl (by decide) ?_
  refine v_aload_n (pc' := 1154) (j := 2) F d_L_law_1153 rfl rfl rfl ?_
  refine v_aload_n (pc' := 1155) (j := 0) F d_L_law_1154 rfl rfl rfl ?_
  refine v_iload (pc' := 1157) F d_L_law_1155 rfl rfl ?_
  refine v_iconst (pc' := 1158) F d_L_law_1157 rfl ?_
  refine v_iadd (pc' := 1159) F d_L_law_1158 rfl ?_
  refine v_sld (pc' := 1160) F d_L_law_1159 rfl hX hsa hlen (by omega) (by omega) ?_
  refine v_aload_n (pc' := 1161) (j := 0) F d_L_law_1160 rfl rfl rfl ?_
  refine v_iload (pc' := 1163) F d_L_law_1161 rfl rfl ?_
  refine v_iconst (pc' := 1164) F d_L_law_1163 rfl ?_
  refine v_iadd (pc' := 1165) F d_L_law_1164 rfl ?_
  refine v_sld (pc' := 1166) F d_L_law_1165 rfl hX hsa hlen (by omega) (by omega) ?_
  refine v_aload_n (pc' := 1167) (j := 0) F d_L_law_1166 rfl rfl rfl ?_
  refine v_iload (pc' := 1169) F d_L_law_1167 rfl rfl ?_
  refine v_iconst (pc' := 1170) F d_L_law_1169 rfl ?_
  refine v_iadd (pc' := 1171) F d_L_law_1170 rfl ?_
  refine v_sld (pc' := 1172) F d_L_law_1171 rfl hX hsa hlen (by omega) (by omega) ?_
  refine v_aload_n (pc' := 1173) (j := 0) F d_L_law_1172 rfl rfl rfl ?_
  refine v_iload (pc' := 1175) F d_L_law_1173 rfl rfl ?_
  refine v_iconst (pc' := 1176) F d_L_law_1175 rfl ?_
  refine v_iadd (pc' := 1177) F d_L_law_1176 rfl ?_
  refine v_sld (pc' := 1178) F d_L_law_1177 rfl hX hsa hlen (by omega) (by omega) ?_
  refine v_callV (pc' := 1181) (C := zR_M) (T9 := zF_M) (N := 28) F d_L_law_1178 rfl cal_M_line wx_869 wx_870 wx_871 rfl hM8.1 (c_M_line l X _ _ y M (sv xs (6 * (k : Int) + 1)) (sv xs (6 * (k : Int) + 2)) (sv xs (6 * (k : Int) + 3)) (sv xs (6 * (k : Int) + 4)) hM8 hI.hfl hI.hed hI.hth (sv_r _ _) (sv_r _ _) (sv_r _ _) (sv_r _ _)) rfl ⟨by decide, by decide, by dsimp only; omega, by dsimp only; omega⟩ (Nat.le_of_ble_eq_true rfl) (fun _ _ _ q => by obtain ⟨_, _, _, _, _, _, _, q7, _⟩ := q; cases q7) (fun r9 h7 n7 q => ?_)
  obtain ⟨M7, hM7, hF7, rfl, hc7, he7, r7, q9, hr7⟩ := q
  cases q9
  have hC7 := hC8.sub (h' := h7) (fun a ha _ => hF7 a ha.1)
  have ho7 : h7 o9 = some (am_la 1 g8) := (hF7 o9 (Or.inr hoy)).trans ho8
  have hB7 := Bo.step hM7 hC7 (T := (sp_lineR M (sv xs (6 * (k : Int) + 1)) (sv xs (6 * (k : Int) + 2)) (sv xs (6 * (k : Int) + 3)) (sv xs (6 * (k : Int) + 4))).2.2) ((by rw [zs_line M (sv xs (6 * (k : Int) + 1)) (sv xs (6 * (k : Int) + 2)) (sv xs (6 * (k : Int) + 3)) (sv xs (6 * (k : Int) + 4))]; exact hI)) hN8 he7 hE8
  refine v_lstore_6 (pc' := 1183) F d_L_law_1181 rfl rfl (by decide) ?_
  refine v_aload_n (pc' := 1184) (j := 2) F d_L_law_1183 rfl rfl rfl ?_
  refine v_callVP (pc' := 1187) (C := zR_M) (T9 := zF_M) (N := 28) F d_L_law_1184 rfl cal_M_thrown wx_747 wx_748 wx_749 rfl hM7.1 (c_M_thrown l X _ _ y M7 hM7) rfl ⟨by decide, by decide, by dsimp only; omega, by dsimp only; omega⟩ (Nat.le_of_ble_eq_true rfl) rfl rfl ?_
  refine v_topi (b := (sp_lineR M (sv xs (6 * (k : Int) + 1)) (sv xs (6 * (k : Int) + 2)) (sv xs (6 * (k : Int) + 3)) (sv xs (6 * (k : Int) + 4))).1) hc7 ?_
  refine v_iload (pc' := 1189) F d_L_law_1187 rfl rfl ?_
  refine v_icS (tgt := 1194) F d_L_law_1189 (by decide) ?_
  refine v_iload (pc' := 1196) F d_L_law_1194 rfl rfl ?_
  have hz := (z_line M (sv xs (6 * (k : Int) + 1)) (sv xs (6 * (k : Int) + 2)) (sv xs (6 * (k : Int) + 3)) (sv xs (6 * (k : Int) + 4))).1
  refine v_if_ne (tgt := 1210) (pc' := 1199) F d_L_law_1196 (by decide) rfl (by omega) (fun c1196 => ?_) (fun c1196 => ?_)
  · refine v_goto (tgt := 1549) F d_L_law_1210 (by decide) ?_
    exact v_widen (cells' := 40 + 70 * (k + 1)) (slots' := 13000 + 450 * (k + 1)) (by dsimp only; omega) (by dsimp only; omega) (v_subL (by (repeat' (first | exact trivial | exact rfl | refine And.intro ?_ ?_)); done) (hx _ _ _ _ _ hB7 ho7 (by omega)))
  · refine v_aload_n (pc' := 1200) (j := 3) F d_L_law_1199 rfl rfl rfl ?_
    refine v_iconst (pc' := 1201) F d_L_law_1200 rfl ?_
    refine v_lag (pc' := 1202) F d_L_law_1201 rfl ho7 (by decide) (by omega) (by omega) ?_
    refine v_topl (b := (fun z => z) (sp_lineR M (sv xs (6 * (k : Int) + 1)) (sv xs (6 * (k : Int) + 2)) (sv xs (6 * (k : Int) + 3)) (sv xs (6 * (k : Int) + 4))).2.1) (hv8 (by omega)) ?_
    refine v_lload (pc' := 1204) F d_L_law_1202 rfl rfl ?_
    refine v_topl (b := (fun z => z) (sp_lineR M (sv xs (6 * (k : Int) + 1)) (sv xs (6 * (k : Int) + 2)) (sv xs (6 * (k : Int) + 3)) (sv xs (6 * (k : Int) + 4))).2.1) (hr7 (by omega)) ?_
    refine v_lcS (tgt := 1210) F d_L_law_1204 d_L_law_1205 (by decide) ?_
    refine v_goto (tgt := 1549) F d_L_law_1210 (by decide) ?_
    exact v_widen (cells' := 40 + 70 * (k + 1)) (slots' := 13000 + 450 * (k + 1)) (by dsimp only; omega) (by dsimp only; omega) (v_subL (by (repeat' (first | exact trivial | exact rfl | refine And.intro ?_ ?_)); done) (hx _ _ _ _ _ hB7 ho7 (by omega)))
set_option maxRecDepth 100000 in
set_option maxHeartbeats 4000000 in
theorem cs_share {p : Program} {l : Launch} {e : Env} {s : State} {m : MethodId} {args : Array Value} {below : List Frame} {meth : Method} {c : Code} {X : am_X} {Q : State → Prop}  {h : am_H} {nx x y o9 sa N k : Nat} {M : MS} {P : Tg → Nat} {g0 : Int → Int} {xs : Nat → Int32} (F : am_Fx p s m args meth c y_L_law b_L_law 8 ((Option.some FieldType.boolean)) [] X) (ht : l.flags = pinnedFlags ++ [noTraceFlag]) (hoy : y + 26 ≤ o9) (hB : Bo X x y o9 M P h) (ho : h o9 = some (am_la 1 g0)) (hnx : o9 < nx) (hlen : N < 2147483648) (hk : 6 * k + 6 ≤ N) (hkk : k < 512) (hX : va_X sa N xs s X.2.2.1) (hsa : sa < am_sz X) (hx : ∀ (h8 : am_H) (n8 : Nat) (M8 : MS) (P8 : Tg → Nat) (g8 : Int → Int), Bo X x y o9 M8 P8 h8 → h8 o9 = some (am_la 1 g8) → o9 < n8 → V p l e ({ frames := 13, cells := 601024, slots := 7293034, locals := 488 }) s m args below meth c 8 X Q h8 n8 (40 + 70 * (k + 1)) (13000 + 450 * (k + 1)) 1549 [some (.ref sa), some (.ref x), some (.ref y), some (.ref o9), some (iV (6 * (k : Int))), none, none, none] []) : V p l e ({ frames := 13, cells := 601024, slots := 7293034, locals := 488 }) s m args below meth c 8 X Q h nx (40 + 70 * k) (13000 + 450 * k) 1213 [some (.ref sa), some (.ref x), some (.ref y), some (.ref o9), some (iV (6 * (k : Int))), none, none, none] [] := by
  obtain ⟨hM, hC, hI, hN⟩ := hB
  obtain rfl := hC.top
  have hno : ¬ AA y o9 o9 := fun w => w.2 rfl
  have hA : ∀ q : Nat, nx ≤ q → AA y o9 q := fun q hq => ⟨Or.inr (by omega), by omega⟩
  refine v_aload_n (pc' := 1214) (j := 1) F d_L_law_1213 rfl rfl rfl ?_
  refine v_aload_n (pc' := 1215) (j := 0) F d_L_law_1214 rfl rfl rfl ?_
  refine v_iload (pc' := 1217) F d_L_law_1215 rfl rfl ?_
  refine v_iconst (pc' := 1218) F d_L_law_1217 rfl ?_
  refine v_iadd (pc' := 1219) F d_L_law_1218 rfl ?_
  refine v_sld (pc' := 1220) F d_L_law_1219 rfl hX hsa hlen (by omega) (by omega) ?_
  refine v_aload_n (pc' := 1221) (j := 0) F d_L_law_1220 rfl rfl rfl ?_
  refine v_iload (pc' := 1223) F d_L_law_1221 rfl rfl ?_
  refine v_iconst (pc' := 1224) F d_L_law_1223 rfl ?_
  refine v_iadd (pc' := 1225) F d_L_law_1224 rfl ?_
  refine v_sld (pc' := 1226) F d_L_law_1225 rfl hX hsa hlen (by omega) (by omega) ?_
  refine v_aload_n (pc' := 1227) (j := 3) F d_L_law_1226 rfl rfl rfl ?_
  refine v_callS (pc' := 1230) F d_L_law_1227 rfl cal_L_share wx_601 wx_602 (c_L_share l X _ _ _ _ _ _ (sv xs (6 * (k : Int) + 1)) (sv xs (6 * (k : Int) + 2)) o9 g0 ht hC hI hN (sv_r _ _) (sv_r _ _) hA ho hno) rfl ⟨by decide, by decide, by dsimp only; omega, by dsimp only; omega⟩ (Nat.le_of_ble_eq_true rfl) (fun _ _ _ q => by cases q.1) (fun r9 h8 n8 q => ?_)
  obtain ⟨q9, hn8, ⟨P8, M8, hC8, hN8, hE8⟩, hF8, g8, ho8, hv8⟩ := q
  cases q9
  have hM8 : RepM y M h8 := hM.sub (fun a z1 z2 => hF8 a (fun w => by have := w.1; omega) (by omega))
  refine v_istore_5 (pc' := 1232) F d_L_law_1230 rfl rfl (by decide) ?_
  refine v_aload_n (pc' := 1233) (j := 2) F d_L_law_1232 rfl rfl rfl ?_
  refine v_aload_n (pc' := 1234) (j := 0) F d_L_law_1233 rfl rfl rfl ?_
  refine v_iload (pc' := 1236) F d_L_law_1234 rfl rfl ?_
  refine v_iconst (pc' := 1237) F d_L_law_1236 rfl ?_
  refine v_iadd (pc' := 1238) F d_L_law_1237 rfl ?_
  refine v_sld (pc' := 1239) F d_L_law_1238 rfl hX hsa hlen (by omega) (by omega) ?_
  refine v_aload_n (pc' := 1240) (j := 0) F d_L_law_1239 rfl rfl rfl ?_
  refine v_iload (pc' := 1242) F d_L_law_1240 rfl rfl ?_
  refine v_iconst (pc' := 1243) F d_L_law_1242 rfl ?_
  refine v_iadd (pc' := 1244) F d_L_law_1243 rfl ?_
  refine v_sld (pc' := 1245) F d_L_law_1244 rfl hX hsa hlen (by omega) (by omega) ?_
  refine v_callV (pc' := 1248) (C := zR_M) (T9 := zF_M) (N := 28) F d_L_law_1245 rfl cal_M_share wx_877 wx_878 wx_879 rfl hM8.1 (c_M_share l X _ _ y M (sv xs (6 * (k : Int) + 1)) (sv xs (6 * (k : Int) + 2)) hM8 hI.hfl hI.hed hI.hth (sv_r _ _) (sv_r _ _)) rfl ⟨by decide, by decide, by dsimp only; omega, by dsimp only; omega⟩ (Nat.le_of_ble_eq_true rfl) (fun _ _ _ q => by obtain ⟨_, _, _, _, _, _, _, q7, _⟩ := q; cases q7) (fun r9 h7 n7 q => ?_)
  obtain ⟨M7, hM7, hF7, rfl, hc7, he7, r7, q9, hr7⟩ := q
  cases q9
  have hC7 := hC8.sub (h' := h7) (fun a ha _ => hF7 a ha.1)
  have ho7 : h7 o9 = some (am_la 1 g8) := (hF7 o9 (Or.inr hoy)).trans ho8
  have hB7 := Bo.step hM7 hC7 (T := (sp_shareR M (sv xs (6 * (k : Int) + 1)) (sv xs (6 * (k : Int) + 2))).2.2) ((by rw [zs_share M (sv xs (6 * (k : Int) + 1)) (sv xs (6 * (k : Int) + 2))]; exact hI)) hN8 he7 hE8
  refine v_lstore_6 (pc' := 1250) F d_L_law_1248 rfl rfl (by decide) ?_
  refine v_aload_n (pc' := 1251) (j := 2) F d_L_law_1250 rfl rfl rfl ?_
  refine v_callVP (pc' := 1254) (C := zR_M) (T9 := zF_M) (N := 28) F d_L_law_1251 rfl cal_M_thrown wx_747 wx_748 wx_749 rfl hM7.1 (c_M_thrown l X _ _ y M7 hM7) rfl ⟨by decide, by decide, by dsimp only; omega, by dsimp only; omega⟩ (Nat.le_of_ble_eq_true rfl) rfl rfl ?_
  refine v_topi (b := (sp_shareR M (sv xs (6 * (k : Int) + 1)) (sv xs (6 * (k : Int) + 2))).1) hc7 ?_
  refine v_iload (pc' := 1256) F d_L_law_1254 rfl rfl ?_
  refine v_icS (tgt := 1261) F d_L_law_1256 (by decide) ?_
  refine v_iload (pc' := 1263) F d_L_law_1261 rfl rfl ?_
  have hz := (z_share M (sv xs (6 * (k : Int) + 1)) (sv xs (6 * (k : Int) + 2))).1
  refine v_if_ne (tgt := 1277) (pc' := 1266) F d_L_law_1263 (by decide) rfl (by omega) (fun c1263 => ?_) (fun c1263 => ?_)
  · refine v_goto (tgt := 1549) F d_L_law_1277 (by decide) ?_
    exact v_widen (cells' := 40 + 70 * (k + 1)) (slots' := 13000 + 450 * (k + 1)) (by dsimp only; omega) (by dsimp only; omega) (v_subL (by (repeat' (first | exact trivial | exact rfl | refine And.intro ?_ ?_)); done) (hx _ _ _ _ _ hB7 ho7 (by omega)))
  · refine v_aload_n (pc' := 1267) (j := 3) F d_L_law_1266 rfl rfl rfl ?_
    refine v_iconst (pc' := 1268) F d_L_law_1267 rfl ?_
    refine v_lag (pc' := 1269) F d_L_law_1268 rfl ho7 (by decide) (by omega) (by omega) ?_
    refine v_topl (b := (fun z => z) (sp_shareR M (sv xs (6 * (k : Int) + 1)) (sv xs (6 * (k : Int) + 2))).2.1) (hv8 (by omega)) ?_
    refine v_lload (pc' := 1271) F d_L_law_1269 rfl rfl ?_
    refine v_topl (b := (fun z => z) (sp_shareR M (sv xs (6 * (k : Int) + 1)) (sv xs (6 * (k : Int) + 2))).2.1) (hr7 (by omega)) ?_
    refine v_lcS (tgt := 1277) F d_L_law_1271 d_L_law_1272 (by decide) ?_
    refine v_goto (tgt := 1549) F d_L_law_1277 (by decide) ?_
    exact v_widen (cells' := 40 + 70 * (k + 1)) (slots' := 13000 + 450 * (k + 1)) (by dsimp only; omega) (by dsimp only; omega) (v_subL (by (repeat' (first | exact trivial | exact rfl | refine And.intro ?_ ?_)); done) (hx _ _ _ _ _ hB7 ho7 (by omega)))
set_option maxRecDepth 100000 in
set_option maxHeartbeats 4000000 in
theorem cs_part {p : Program} {l : Launch} {e : Env} {s : State} {m : MethodId} {args : Array Value} {below : List Frame} {meth : Method} {c : Code} {X : am_X} {Q : State → Prop}  {h : am_H} {nx x y o9 sa N k : Nat} {M : MS} {P : Tg → Nat} {g0 : Int → Int} {xs : Nat → Int32} (F : am_Fx p s m args meth c y_L_law b_L_law 8 ((Option.some FieldType.boolean)) [] X) (ht : l.flags = pinnedFlags ++ [noTraceFlag]) (hoy : y + 26 ≤ o9) (hB : Bo X x y o9 M P h) (ho : h o9 = some (am_la 1 g0)) (hnx : o9 < nx) (hlen : N < 2147483648) (hk : 6 * k + 6 ≤ N) (hkk : k < 512) (hX : va_X sa N xs s X.2.2.1) (hsa : sa < am_sz X) (hx : ∀ (h8 : am_H) (n8 : Nat) (M8 : MS) (P8 : Tg → Nat) (g8 : Int → Int), Bo X x y o9 M8 P8 h8 → h8 o9 = some (am_la 1 g8) → o9 < n8 → V p l e ({ frames := 13, cells := 601024, slots := 7293034, locals := 488 }) s m args below meth c 8 X Q h8 n8 (40 + 70 * (k + 1)) (13000 + 450 * (k + 1)) 1549 [some (.ref sa), some (.ref x), some (.ref y), some (.ref o9), some (iV (6 * (k : Int))), none, none, none] []) : V p l e ({ frames := 13, cells := 601024, slots := 7293034, locals := 488 }) s m args below meth c 8 X Q h nx (40 + 70 * k) (13000 + 450 * k) 1280 [some (.ref sa), some (.ref x), some (.ref y), some (.ref o9), some (iV (6 * (k : Int))), none, none, none] [] := by
  obtain ⟨hM, hC, hI, hN⟩ := hB
  obtain rfl := hC.top
  have hno : ¬ AA y o9 o9 := fun w => w.2 rfl
  have hA : ∀ q : Nat, nx ≤ q → AA y o9 q := fun q hq => ⟨Or.inr (by omega), by omega⟩
  refine v_aload_n (pc' := 1281) (j := 1) F d_L_law_1280 rfl rfl rfl ?_
  refine v_aload_n (pc' := 1282) (j := 0) F d_L_law_1281 rfl rfl rfl ?_
  refine v_iload (pc' := 1284) F d_L_law_1282 rfl rfl ?_
  refine v_iconst (pc' := 1285) F d_L_law_1284 rfl ?_
  refine v_iadd (pc' := 1286) F d_L_law_1285 rfl ?_
  refine v_sld (pc' := 1287) F d_L_law_1286 rfl hX hsa hlen (by omega) (by omega) ?_
  refine v_aload_n (pc' := 1288) (j := 0) F d_L_law_1287 rfl rfl rfl ?_
  refine v_iload (pc' := 1290) F d_L_law_1288 rfl rfl ?_
  refine v_iconst (pc' := 1291) F d_L_law_1290 rfl ?_
  refine v_iadd (pc' := 1292) F d_L_law_1291 rfl ?_
  refine v_sld (pc' := 1293) F d_L_law_1292 rfl hX hsa hlen (by omega) (by omega) ?_
  refine v_aload_n (pc' := 1294) (j := 0) F d_L_law_1293 rfl rfl rfl ?_
  refine v_iload (pc' := 1296) F d_L_law_1294 rfl rfl ?_
  refine v_iconst (pc' := 1297) F d_L_law_1296 rfl ?_
  refine v_iadd (pc' := 1298) F d_L_law_1297 rfl ?_
  refine v_sld (pc' := 1299) F d_L_law_1298 rfl hX hsa hlen (by omega) (by omega) ?_
  refine v_aload_n (pc' := 1300) (j := 3) F d_L_law_1299 rfl rfl rfl ?_
  refine v_callS (pc' := 1303) F d_L_law_1300 rfl cal_L_part wx_608 wx_609 (c_L_part l X _ _ _ _ _ _ (sv xs (6 * (k : Int) + 1)) (sv xs (6 * (k : Int) + 2)) (sv xs (6 * (k : Int) + 3)) o9 g0 ht hC hI hN (sv_r _ _) (sv_r _ _) (sv_r _ _) hA ho hno) rfl ⟨by decide, by decide, by dsimp only; omega, by dsimp only; omega⟩ (Nat.le_of_ble_eq_true rfl) (fun _ _ _ q => by cases q.1) (fun r9 h8 n8 q => ?_)
  obtain ⟨q9, hn8, ⟨P8, M8, hC8, hN8, hE8⟩, hF8, g8, ho8, hv8⟩ := q
  cases q9
  have hM8 : RepM y M h8 := hM.sub (fun a z1 z2 => hF8 a (fun w => by have := w.1; omega) (by omega))
  refine v_istore_5 (pc' := 1305) F d_L_law_1303 rfl rfl (by decide) ?_
  refine v_aload_n (pc' := 1306) (j := 2) F d_L_law_1305 rfl rfl rfl ?_
  refine v_aload_n (pc' := 1307) (j := 0) F d_L_law_1306 rfl rfl rfl ?_
  refine v_iload (pc' := 1309) F d_L_law_1307 rfl rfl ?_
  refine v_iconst (pc' := 1310) F d_L_law_1309 rfl ?_
  refine v_iadd (pc' := 1311) F d_L_law_1310 rfl ?_
  refine v_sld (pc' := 1312) F d_L_law_1311 rfl hX hsa hlen (by omega) (by omega) ?_
  refine v_aload_n (pc' := 1313) (j := 0) F d_L_law_1312 rfl rfl rfl ?_
  refine v_iload (pc' := 1315) F d_L_law_1313 rfl rfl ?_
  refine v_iconst (pc' := 1316) F d_L_law_1315 rfl ?_
  refine v_iadd (pc' := 1317) F d_L_law_1316 rfl ?_
  refine v_sld (pc' := 1318) F d_L_law_1317 rfl hX hsa hlen (by omega) (by omega) ?_
  refine v_aload_n (pc' := 1319) (j := 0) F d_L_law_1318 rfl rfl rfl ?_
  refine v_iload (pc' := 1321) F d_L_law_1319 rfl rfl ?_
  refine v_iconst (pc' := 1322) F d_L_law_1321 rfl ?_
  refine v_iadd (pc' := 1323) F d_L_law_1322 rfl ?_
  refine v_sld (pc' := 1324) F d_L_law_1323 rfl hX hsa hlen (by omega) (by omega) ?_
  refine v_callV (pc' := 1327) (C := zR_M) (T9 := zF_M) (N := 28) F d_L_law_1324 rfl cal_M_part wx_881 wx_882 wx_883 rfl hM8.1 (c_M_part l X _ _ y M (sv xs (6 * (k : Int) + 1)) (sv xs (6 * (k : Int) + 2)) (sv xs (6 * (k : Int) + 3)) hM8 hI.hfl hI.hlv hI.hsi hI.hbp hI.hme hI.hrd hI.hda hI.hva hI.hgo hI.hmo hI.hab hI.hte hI.hfo hI.hed hI.hth (sv_r _ _) (sv_r _ _) (sv_r _ _)) rfl ⟨by decide, by decide, by dsimp only; omega, by dsimp only; omega⟩ (Nat.le_of_ble_eq_true rfl) (fun _ _ _ q => by obtain ⟨_, _, _, _, _, _, _, q7, _⟩ := q; cases q7) (fun r9 h7 n7 q => ?_)
  obtain ⟨M7, hM7, hF7, rfl, hc7, he7, r7, q9, hr7⟩ := q
  cases q9
  have hC7 := hC8.sub (h' := h7) (fun a ha _ => hF7 a ha.1)
  have ho7 : h7 o9 = some (am_la 1 g8) := (hF7 o9 (Or.inr hoy)).trans ho8
  have hB7 := Bo.step hM7 hC7 (T := (sp_partR M (sv xs (6 * (k : Int) + 1)) (sv xs (6 * (k : Int) + 2)) (sv xs (6 * (k : Int) + 3))).2.2) ((by rw [zs_part M (sv xs (6 * (k : Int) + 1)) (sv xs (6 * (k : Int) + 2)) (sv xs (6 * (k : Int) + 3))]; exact hI)) hN8 he7 hE8
  refine v_lstore_6 (pc' := 1329) F d_L_law_1327 rfl rfl (by decide) ?_
  refine v_aload_n (pc' := 1330) (j := 2) F d_L_law_1329 rfl rfl rfl ?_
  refine v_callVP (pc' := 1333) (C := zR_M) (T9 := zF_M) (N := 28) F d_L_law_1330 rfl cal_M_thrown wx_747 wx_748 wx_749 rfl hM7.1 (c_M_thrown l X _ _ y M7 hM7) rfl ⟨by decide, by decide, by dsimp only; omega, by dsimp only; omega⟩ (Nat.le_of_ble_eq_true rfl) rfl rfl ?_
  refine v_topi (b := (sp_partR M (sv xs (6 * (k : Int) + 1)) (sv xs (6 * (k : Int) + 2)) (sv xs (6 * (k : Int) + 3))).1) hc7 ?_
  refine v_iload (pc' := 1335) F d_L_law_1333 rfl rfl ?_
  refine v_icS (tgt := 1340) F d_L_law_1335 (by decide) ?_
  refine v_iload (pc' := 1342) F d_L_law_1340 rfl rfl ?_
  have hz := (z_part M (sv xs (6 * (k : Int) + 1)) (sv xs (6 * (k : Int) + 2)) (sv xs (6 * (k : Int) + 3))).1
  refine v_if_ne (tgt := 1356) (pc' := 1345) F d_L_law_1342 (by decide) rfl (by omega) (fun c1342 => ?_) (fun c1342 => ?_)
  · refine v_goto (tgt := 1549) F d_L_law_1356 (by decide) ?_
    exact v_widen (cells' := 40 + 70 * (k + 1)) (slots' := 13000 + 450 * (k + 1)) (by dsimp only; omega) (by dsimp only; omega) (v_subL (by (repeat' (first | exact trivial | exact rfl | refine And.intro ?_ ?_)); done) (hx _ _ _ _ _ hB7 ho7 (by omega)))
  · refine v_aload_n (pc' := 1346) (j := 3) F d_L_law_1345 rfl rfl rfl ?_
    refine v_iconst (pc' := 1347) F d_L_law_1346 rfl ?_
    refine v_lag (pc' := 1348) F d_L_law_1347 rfl ho7 (by decide) (by omega) (by omega) ?_
    refine v_topl (b := (fun z => z) (sp_partR M (sv xs (6 * (k : Int) + 1)) (sv xs (6 * (k : Int) + 2)) (sv xs (6 * (k : Int) + 3))).2.1) (hv8 (by omega)) ?_
    refine v_lload (pc' := 1350) F d_L_law_1348 rfl rfl ?_
    refine v_topl (b := (fun z => z) (sp_partR M (sv xs (6 * (k : Int) + 1)) (sv xs (6 * (k : Int) + 2)) (sv xs (6 * (k : Int) + 3))).2.1) (hr7 (by omega)) ?_
    refine v_lcS (tgt := 1356) F d_L_law_1350 d_L_law_1351 (by decide) ?_
    refine v_goto (tgt := 1549) F d_L_law_1356 (by decide) ?_
    exact v_widen (cells' := 40 + 70 * (k + 1)) (slots' := 13000 + 450 * (k + 1)) (by dsimp only; omega) (by dsimp only; omega) (v_subL (by (repeat' (first | exact trivial | exact rfl | refine And.intro ?_ ?_)); done) (hx _ _ _ _ _ hB7 ho7 (by omega)))
set_option maxRecDepth 100000 in
set_option maxHeartbeats 4000000 in
theorem cs_balance {p : Program} {l : Launch} {e : Env} {s : State} {m : MethodId} {args : Array Value} {below : List Frame} {meth : Method} {c : Code} {X : am_X} {Q : State → Prop}  {h : am_H} {nx x y o9 sa N k : Nat} {M : MS} {P : Tg → Nat} {g0 : Int → Int} {xs : Nat → Int32} (F : am_Fx p s m args meth c y_L_law b_L_law 8 ((Option.some FieldType.boolean)) [] X) (ht : l.flags = pinnedFlags ++ [noTraceFlag]) (hoy : y + 26 ≤ o9) (hB : Bo X x y o9 M P h) (ho : h o9 = some (am_la 1 g0)) (hnx : o9 < nx) (hlen : N < 2147483648) (hk : 6 * k + 6 ≤ N) (hkk : k < 512) (hX : va_X sa N xs s X.2.2.1) (hsa : sa < am_sz X) (hx : ∀ (h8 : am_H) (n8 : Nat) (M8 : MS) (P8 : Tg → Nat) (g8 : Int → Int), Bo X x y o9 M8 P8 h8 → h8 o9 = some (am_la 1 g8) → o9 < n8 → V p l e ({ frames := 13, cells := 601024, slots := 7293034, locals := 488 }) s m args below meth c 8 X Q h8 n8 (40 + 70 * (k + 1)) (13000 + 450 * (k + 1)) 1549 [some (.ref sa), some (.ref x), some (.ref y), some (.ref o9), some (iV (6 * (k : Int))), none, none, none] []) : V p l e ({ frames := 13, cells := 601024, slots := 7293034, locals := 488 }) s m args below meth c 8 X Q h nx (40 + 70 * k) (13000 + 450 * k) 1359 [some (.ref sa), some (.ref x), some (.ref y), some (.ref o9), some (iV (6 * (k : Int))), none, none, none] [] := by
  obtain ⟨hM, hC, hI, hN⟩ := hB
  obtain rfl := hC.top
  have hno : ¬ AA y o9 o9 := fun w => w.2 rfl
  have hA : ∀ q : Nat, nx ≤ q → AA y o9 q := fun q hq => ⟨Or.inr (by omega), by omega⟩
  refine v_aload_n (pc' := 1360) (j := 1) F d_L_law_1359 rfl rfl rfl ?_
  refine v_aload_n (pc' := 1361) (j := 0) F d_L_law_1360 rfl rfl rfl ?_
  refine v_iload (pc' := 1363) F d_L_law_1361 rfl rfl ?_
  refine v_iconst (pc' := 1364) F d_L_law_1363 rfl ?_
  refine v_iadd (pc' := 1365) F d_L_law_1364 rfl ?_
  refine v_sld (pc' := 1366) F d_L_law_1365 rfl hX hsa hlen (by omega) (by omega) ?_
  refine v_aload_n (pc' := 1367) (j := 0) F d_L_law_1366 rfl rfl rfl ?_
  refine v_iload (pc' := 1369) F d_L_law_1367 rfl rfl ?_
  refine v_iconst (pc' := 1370) F d_L_law_1369 rfl ?_
  refine v_iadd (pc' := 1371) F d_L_law_1370 rfl ?_
  refine v_sld (pc' := 1372) F d_L_law_1371 rfl hX hsa hlen (by omega) (by omega) ?_
  refine v_aload_n (pc' := 1373) (j := 3) F d_L_law_1372 rfl rfl rfl ?_
  refine v_callS (pc' := 1376) F d_L_law_1373 rfl cal_L_balance wx_634 wx_635 (c_L_balance l X _ _ _ _ _ _ (sv xs (6 * (k : Int) + 1)) (sv xs (6 * (k : Int) + 2)) o9 g0 ht hC hI hN (sv_r _ _) (sv_r _ _) hA ho hno) rfl ⟨by decide, by decide, by dsimp only; omega, by dsimp only; omega⟩ (Nat.le_of_ble_eq_true rfl) (fun _ _ _ q => by cases q.1) (fun r9 h8 n8 q => ?_)
  obtain ⟨q9, hn8, ⟨P8, M8, hC8, hN8, hE8⟩, hF8, g8, ho8, hv8⟩ := q
  cases q9
  have hM8 : RepM y M h8 := hM.sub (fun a z1 z2 => hF8 a (fun w => by have := w.1; omega) (by omega))
  refine v_istore_5 (pc' := 1378) F d_L_law_1376 rfl rfl (by decide) ?_
  refine v_aload_n (pc' := 1379) (j := 2) F d_L_law_1378 rfl rfl rfl ?_
  refine v_aload_n (pc' := 1380) (j := 0) F d_L_law_1379 rfl rfl rfl ?_
  refine v_iload (pc' := 1382) F d_L_law_1380 rfl rfl ?_
  refine v_iconst (pc' := 1383) F d_L_law_1382 rfl ?_
  refine v_iadd (pc' := 1384) F d_L_law_1383 rfl ?_
  refine v_sld (pc' := 1385) F d_L_law_1384 rfl hX hsa hlen (by omega) (by omega) ?_
  refine v_aload_n (pc' := 1386) (j := 0) F d_L_law_1385 rfl rfl rfl ?_
  refine v_iload (pc' := 1388) F d_L_law_1386 rfl rfl ?_
  refine v_iconst (pc' := 1389) F d_L_law_1388 rfl ?_
  refine v_iadd (pc' := 1390) F d_L_law_1389 rfl ?_
  refine v_sld (pc' := 1391) F d_L_law_1390 rfl hX hsa hlen (by omega) (by omega) ?_
  refine v_callV (pc' := 1394) (C := zR_M) (T9 := zF_M) (N := 28) F d_L_law_1391 rfl cal_M_balance wx_902 wx_903 wx_904 rfl hM8.1 (c_M_balance l X _ _ y M (sv xs (6 * (k : Int) + 1)) (sv xs (6 * (k : Int) + 2)) hM8 hI.hfl hI.hed hI.hth (sv_r _ _) (sv_r _ _)) rfl ⟨by decide, by decide, by dsimp only; omega, by dsimp only; omega⟩ (Nat.le_of_ble_eq_true rfl) (fun _ _ _ q => by obtain ⟨_, _, _, _, _, _, _, q7, _⟩ := q; cases q7) (fun r9 h7 n7 q => ?_)
  obtain ⟨M7, hM7, hF7, rfl, hc7, he7, r7, q9, hr7⟩ := q
  cases q9
  have hC7 := hC8.sub (h' := h7) (fun a ha _ => hF7 a ha.1)
  have ho7 : h7 o9 = some (am_la 1 g8) := (hF7 o9 (Or.inr hoy)).trans ho8
  have hB7 := Bo.step hM7 hC7 (T := (sp_balance M (sv xs (6 * (k : Int) + 1)) (sv xs (6 * (k : Int) + 2))).2.2) ((by rw [zs_balance M (sv xs (6 * (k : Int) + 1)) (sv xs (6 * (k : Int) + 2))]; exact hI)) hN8 he7 hE8
  refine v_lstore_6 (pc' := 1396) F d_L_law_1394 rfl rfl (by decide) ?_
  refine v_aload_n (pc' := 1397) (j := 2) F d_L_law_1396 rfl rfl rfl ?_
  refine v_callVP (pc' := 1400) (C := zR_M) (T9 := zF_M) (N := 28) F d_L_law_1397 rfl cal_M_thrown wx_747 wx_748 wx_749 rfl hM7.1 (c_M_thrown l X _ _ y M7 hM7) rfl ⟨by decide, by decide, by dsimp only; omega, by dsimp only; omega⟩ (Nat.le_of_ble_eq_true rfl) rfl rfl ?_
  refine v_topi (b := (sp_balance M (sv xs (6 * (k : Int) + 1)) (sv xs (6 * (k : Int) + 2))).1) hc7 ?_
  refine v_iload (pc' := 1402) F d_L_law_1400 rfl rfl ?_
  refine v_icS (tgt := 1407) F d_L_law_1402 (by decide) ?_
  refine v_iload (pc' := 1409) F d_L_law_1407 rfl rfl ?_
  have hz := (z_balance M (sv xs (6 * (k : Int) + 1)) (sv xs (6 * (k : Int) + 2))).1
  refine v_if_ne (tgt := 1423) (pc' := 1412) F d_L_law_1409 (by decide) rfl (by omega) (fun c1409 => ?_) (fun c1409 => ?_)
  · refine v_goto (tgt := 1549) F d_L_law_1423 (by decide) ?_
    exact v_widen (cells' := 40 + 70 * (k + 1)) (slots' := 13000 + 450 * (k + 1)) (by dsimp only; omega) (by dsimp only; omega) (v_subL (by (repeat' (first | exact trivial | exact rfl | refine And.intro ?_ ?_)); done) (hx _ _ _ _ _ hB7 ho7 (by omega)))
  · refine v_aload_n (pc' := 1413) (j := 3) F d_L_law_1412 rfl rfl rfl ?_
    refine v_iconst (pc' := 1414) F d_L_law_1413 rfl ?_
    refine v_lag (pc' := 1415) F d_L_law_1414 rfl ho7 (by decide) (by omega) (by omega) ?_
    refine v_topl (b := (fun z => z) (sp_balance M (sv xs (6 * (k : Int) + 1)) (sv xs (6 * (k : Int) + 2))).2.1) (hv8 (by omega)) ?_
    refine v_lload (pc' := 1417) F d_L_law_1415 rfl rfl ?_
    refine v_topl (b := (fun z => z) (sp_balance M (sv xs (6 * (k : Int) + 1)) (sv xs (6 * (k : Int) + 2))).2.1) (hr7 (by omega)) ?_
    refine v_lcS (tgt := 1423) F d_L_law_1417 d_L_law_1418 (by decide) ?_
    refine v_goto (tgt := 1549) F d_L_law_1423 (by decide) ?_
    exact v_widen (cells' := 40 + 70 * (k + 1)) (slots' := 13000 + 450 * (k + 1)) (by dsimp only; omega) (by dsimp only; omega) (v_subL (by (repeat' (first | exact trivial | exact rfl | refine And.intro ?_ ?_)); done) (hx _ _ _ _ _ hB7 ho7 (by omega)))
set_option maxRecDepth 100000 in
set_option maxHeartbeats 4000000 in
theorem cs_difference {p : Program} {l : Launch} {e : Env} {s : State} {m : MethodId} {args : Array Value} {below : List Frame} {meth : Method} {c : Code} {X : am_X} {Q : State → Prop}  {h : am_H} {nx x y o9 sa N k : Nat} {M : MS} {P : Tg → Nat} {g0 : Int → Int} {xs : Nat → Int32} (F : am_Fx p s m args meth c y_L_law b_L_law 8 ((Option.some FieldType.boolean)) [] X) (ht : l.flags = pinnedFlags ++ [noTraceFlag]) (hoy : y + 26 ≤ o9) (hB : Bo X x y o9 M P h) (ho : h o9 = some (am_la 1 g0)) (hnx : o9 < nx) (hlen : N < 2147483648) (hk : 6 * k + 6 ≤ N) (hkk : k < 512) (hX : va_X sa N xs s X.2.2.1) (hsa : sa < am_sz X) (hx : ∀ (h8 : am_H) (n8 : Nat) (M8 : MS) (P8 : Tg → Nat) (g8 : Int → Int), Bo X x y o9 M8 P8 h8 → h8 o9 = some (am_la 1 g8) → o9 < n8 → V p l e ({ frames := 13, cells := 601024, slots := 7293034, locals := 488 }) s m args below meth c 8 X Q h8 n8 (40 + 70 * (k + 1)) (13000 + 450 * (k + 1)) 1549 [some (.ref sa), some (.ref x), some (.ref y), some (.ref o9), some (iV (6 * (k : Int))), none, none, none] []) : V p l e ({ frames := 13, cells := 601024, slots := 7293034, locals := 488 }) s m args below meth c 8 X Q h nx (40 + 70 * k) (13000 + 450 * k) 1426 [some (.ref sa), some (.ref x), some (.ref y), some (.ref o9), some (iV (6 * (k : Int))), none, none, none] [] := by
  obtain ⟨hM, hC, hI, hN⟩ := hB
  obtain rfl := hC.top
  have hno : ¬ AA y o9 o9 := fun w => w.2 rfl
  have hA : ∀ q : Nat, nx ≤ q → AA y o9 q := fun q hq => ⟨Or.inr (by omega), by omega⟩
  refine v_aload_n (pc' := 1427) (j := 1) F d_L_law_1426 rfl rfl rfl ?_
  refine v_aload_n (pc' := 1428) (j := 0) F d_L_law_1427 rfl rfl rfl ?_
  refine v_iload (pc' := 1430) F d_L_law_1428 rfl rfl ?_
  refine v_iconst (pc' := 1431) F d_L_law_1430 rfl ?_
  refine v_iadd (pc' := 1432) F d_L_law_1431 rfl ?_
  refine v_sld (pc' := 1433) F d_L_law_1432 rfl hX hsa hlen (by omega) (by omega) ?_
  refine v_aload_n (pc' := 1434) (j := 0) F d_L_law_1433 rfl rfl rfl ?_
  refine v_iload (pc' := 1436) F d_L_law_1434 rfl rfl ?_
  refine v_iconst (pc' := 1437) F d_L_law_1436 rfl ?_
  refine v_iadd (pc' := 1438) F d_L_law_1437 rfl ?_
  refine v_sld (pc' := 1439) F d_L_law_1438 rfl hX hsa hlen (by omega) (by omega) ?_
  refine v_aload_n (pc' := 1440) (j := 3) F d_L_law_1439 rfl rfl rfl ?_
  refine v_callS (pc' := 1443) F d_L_law_1440 rfl cal_L_difference wx_641 wx_642 (c_L_difference l X _ _ _ _ _ _ (sv xs (6 * (k : Int) + 1)) (sv xs (6 * (k : Int) + 2)) o9 g0 ht hC hI hN (sv_r _ _) (sv_r _ _) hA ho hno) rfl ⟨by decide, by decide, by dsimp only; omega, by dsimp only; omega⟩ (Nat.le_of_ble_eq_true rfl) (fun _ _ _ q => by cases q.1) (fun r9 h8 n8 q => ?_)
  obtain ⟨q9, hn8, ⟨P8, M8, hC8, hN8, hE8⟩, hF8, g8, ho8, hv8⟩ := q
  cases q9
  have hM8 : RepM y M h8 := hM.sub (fun a z1 z2 => hF8 a (fun w => by have := w.1; omega) (by omega))
  refine v_istore_5 (pc' := 1445) F d_L_law_1443 rfl rfl (by decide) ?_
  refine v_aload_n (pc' := 1446) (j := 2) F d_L_law_1445 rfl rfl rfl ?_
  refine v_aload_n (pc' := 1447) (j := 0) F d_L_law_1446 rfl rfl rfl ?_
  refine v_iload (pc' := 1449) F d_L_law_1447 rfl rfl ?_
  refine v_iconst (pc' := 1450) F d_L_law_1449 rfl ?_
  refine v_iadd (pc' := 1451) F d_L_law_1450 rfl ?_
  refine v_sld (pc' := 1452) F d_L_law_1451 rfl hX hsa hlen (by omega) (by omega) ?_
  refine v_aload_n (pc' := 1453) (j := 0) F d_L_law_1452 rfl rfl rfl ?_
  refine v_iload (pc' := 1455) F d_L_law_1453 rfl rfl ?_
  refine v_iconst (pc' := 1456) F d_L_law_1455 rfl ?_
  refine v_iadd (pc' := 1457) F d_L_law_1456 rfl ?_
  refine v_sld (pc' := 1458) F d_L_law_1457 rfl hX hsa hlen (by omega) (by omega) ?_
  refine v_callV (pc' := 1461) (C := zR_M) (T9 := zF_M) (N := 28) F d_L_law_1458 rfl cal_M_difference wx_906 wx_907 wx_908 rfl hM8.1 (c_M_difference l X _ _ y M (sv xs (6 * (k : Int) + 1)) (sv xs (6 * (k : Int) + 2)) hM8 hI.hfl hI.hed hI.hth hI.htb (sv_r _ _) (sv_r _ _)) rfl ⟨by decide, by decide, by dsimp only; omega, by dsimp only; omega⟩ (Nat.le_of_ble_eq_true rfl) (fun _ _ _ q => by obtain ⟨_, _, _, _, _, _, _, q7, _⟩ := q; cases q7) (fun r9 h7 n7 q => ?_)
  obtain ⟨M7, hM7, hF7, rfl, hc7, he7, r7, q9, hr7⟩ := q
  cases q9
  have hC7 := hC8.sub (h' := h7) (fun a ha _ => hF7 a ha.1)
  have ho7 : h7 o9 = some (am_la 1 g8) := (hF7 o9 (Or.inr hoy)).trans ho8
  have hB7 := Bo.step hM7 hC7 (T := (sp_diff M (sv xs (6 * (k : Int) + 1)) (sv xs (6 * (k : Int) + 2))).2.2) ((by rw [zs_difference M (sv xs (6 * (k : Int) + 1)) (sv xs (6 * (k : Int) + 2))]; exact hI)) hN8 he7 hE8
  refine v_lstore_6 (pc' := 1463) F d_L_law_1461 rfl rfl (by decide) ?_
  refine v_aload_n (pc' := 1464) (j := 2) F d_L_law_1463 rfl rfl rfl ?_
  refine v_callVP (pc' := 1467) (C := zR_M) (T9 := zF_M) (N := 28) F d_L_law_1464 rfl cal_M_thrown wx_747 wx_748 wx_749 rfl hM7.1 (c_M_thrown l X _ _ y M7 hM7) rfl ⟨by decide, by decide, by dsimp only; omega, by dsimp only; omega⟩ (Nat.le_of_ble_eq_true rfl) rfl rfl ?_
  refine v_topi (b := (sp_diff M (sv xs (6 * (k : Int) + 1)) (sv xs (6 * (k : Int) + 2))).1) hc7 ?_
  refine v_iload (pc' := 1469) F d_L_law_1467 rfl rfl ?_
  refine v_icS (tgt := 1474) F d_L_law_1469 (by decide) ?_
  refine v_iload (pc' := 1476) F d_L_law_1474 rfl rfl ?_
  have hz := (z_difference M (sv xs (6 * (k : Int) + 1)) (sv xs (6 * (k : Int) + 2))).1
  refine v_if_ne (tgt := 1490) (pc' := 1479) F d_L_law_1476 (by decide) rfl (by omega) (fun c1476 => ?_) (fun c1476 => ?_)
  · refine v_goto (tgt := 1549) F d_L_law_1490 (by decide) ?_
    exact v_widen (cells' := 40 + 70 * (k + 1)) (slots' := 13000 + 450 * (k + 1)) (by dsimp only; omega) (by dsimp only; omega) (v_subL (by (repeat' (first | exact trivial | exact rfl | refine And.intro ?_ ?_)); done) (hx _ _ _ _ _ hB7 ho7 (by omega)))
  · refine v_aload_n (pc' := 1480) (j := 3) F d_L_law_1479 rfl rfl rfl ?_
    refine v_iconst (pc' := 1481) F d_L_law_1480 rfl ?_
    refine v_lag (pc' := 1482) F d_L_law_1481 rfl ho7 (by decide) (by omega) (by omega) ?_
    refine v_topl (b := (fun z => z) (sp_diff M (sv xs (6 * (k : Int) + 1)) (sv xs (6 * (k : Int) + 2))).2.1) (hv8 (by omega)) ?_
    refine v_lload (pc' := 1484) F d_L_law_1482 rfl rfl ?_
    refine v_topl (b := (fun z => z) (sp_diff M (sv xs (6 * (k : Int) + 1)) (sv xs (6 * (k : Int) + 2))).2.1) (hr7 (by omega)) ?_
    refine v_lcS (tgt := 1490) F d_L_law_1484 d_L_law_1485 (by decide) ?_
    refine v_goto (tgt := 1549) F d_L_law_1490 (by decide) ?_
    exact v_widen (cells' := 40 + 70 * (k + 1)) (slots' := 13000 + 450 * (k + 1)) (by dsimp only; omega) (by dsimp only; omega) (v_subL (by (repeat' (first | exact trivial | exact rfl | refine And.intro ?_ ?_)); done) (hx _ _ _ _ _ hB7 ho7 (by omega)))
set_option maxRecDepth 100000 in
set_option maxHeartbeats 4000000 in
theorem cs_edition {p : Program} {l : Launch} {e : Env} {s : State} {m : MethodId} {args : Array Value} {below : List Frame} {meth : Method} {c : Code} {X : am_X} {Q : State → Prop}  {h : am_H} {nx x y o9 sa N k : Nat} {M : MS} {P : Tg → Nat} {g0 : Int → Int} {xs : Nat → Int32} (F : am_Fx p s m args meth c y_L_law b_L_law 8 ((Option.some FieldType.boolean)) [] X) (ht : l.flags = pinnedFlags ++ [noTraceFlag]) (hoy : y + 26 ≤ o9) (hB : Bo X x y o9 M P h) (ho : h o9 = some (am_la 1 g0)) (hnx : o9 < nx) (hlen : N < 2147483648) (hk : 6 * k + 6 ≤ N) (hkk : k < 512) (hX : va_X sa N xs s X.2.2.1) (hsa : sa < am_sz X) (hx : ∀ (h8 : am_H) (n8 : Nat) (M8 : MS) (P8 : Tg → Nat) (g8 : Int → Int), Bo X x y o9 M8 P8 h8 → h8 o9 = some (am_la 1 g8) → o9 < n8 → V p l e ({ frames := 13, cells := 601024, slots := 7293034, locals := 488 }) s m args below meth c 8 X Q h8 n8 (40 + 70 * (k + 1)) (13000 + 450 * (k + 1)) 1549 [some (.ref sa), some (.ref x), some (.ref y), some (.ref o9), some (iV (6 * (k : Int))), none, none, none] []) : V p l e ({ frames := 13, cells := 601024, slots := 7293034, locals := 488 }) s m args below meth c 8 X Q h nx (40 + 70 * k) (13000 + 450 * k) 1493 [some (.ref sa), some (.ref x), some (.ref y), some (.ref o9), some (iV (6 * (k : Int))), none, none, none] [] := by
  obtain ⟨hM, hC, hI, hN⟩ := hB
  obtain rfl := hC.top
  have hno : ¬ AA y o9 o9 := fun w => w.2 rfl
  have hA : ∀ q : Nat, nx ≤ q → AA y o9 q := fun q hq => ⟨Or.inr (by omega), by omega⟩
  refine v_aload_n (pc' := 1494) (j := 1) F d_L_law_1493 rfl rfl rfl ?_
  refine v_aload_n (pc' := 1495) (j := 0) F d_L_law_1494 rfl rfl rfl ?_
  refine v_iload (pc' := 1497) F d_L_law_1495 rfl rfl ?_
  refine v_iconst (pc' := 1498) F d_L_law_1497 rfl ?_
  refine v_iadd (pc' := 1499) F d_L_law_1498 rfl ?_
  refine v_sld (pc' := 1500) F d_L_law_1499 rfl hX hsa hlen (by omega) (by omega) ?_
  refine v_aload_n (pc' := 1501) (j := 3) F d_L_law_1500 rfl rfl rfl ?_
  refine v_callS (pc' := 1504) F d_L_law_1501 rfl cal_L_edition wx_648 wx_649 (c_L_edition l X _ _ _ _ _ _ (sv xs (6 * (k : Int) + 1)) o9 g0 ht hC hI hN (sv_r _ _) hA ho hno) rfl ⟨by decide, by decide, by dsimp only; omega, by dsimp only; omega⟩ (Nat.le_of_ble_eq_true rfl) (fun _ _ _ q => by cases q.1) (fun r9 h8 n8 q => ?_)
  obtain ⟨q9, hn8, ⟨P8, M8, hC8, hN8, hE8⟩, hF8, g8, ho8, hv8⟩ := q
  cases q9
  have hM8 : RepM y M h8 := hM.sub (fun a z1 z2 => hF8 a (fun w => by have := w.1; omega) (by omega))
  refine v_istore_5 (pc' := 1506) F d_L_law_1504 rfl rfl (by decide) ?_
  refine v_aload_n (pc' := 1507) (j := 2) F d_L_law_1506 rfl rfl rfl ?_
  refine v_aload_n (pc' := 1508) (j := 0) F d_L_law_1507 rfl rfl rfl ?_
  refine v_iload (pc' := 1510) F d_L_law_1508 rfl rfl ?_
  refine v_iconst (pc' := 1511) F d_L_law_1510 rfl ?_
  refine v_iadd (pc' := 1512) F d_L_law_1511 rfl ?_
  refine v_sld (pc' := 1513) F d_L_law_1512 rfl hX hsa hlen (by omega) (by omega) ?_
  refine v_callV (pc' := 1516) (C := zR_M) (T9 := zF_M) (N := 28) F d_L_law_1513 rfl cal_M_edition wx_910 wx_911 wx_912 rfl hM8.1 (c_M_edition l X _ _ y M (sv xs (6 * (k : Int) + 1)) hM8 (sv_r _ _)) rfl ⟨by decide, by decide, by dsimp only; omega, by dsimp only; omega⟩ (Nat.le_of_ble_eq_true rfl) (fun _ _ _ q => by obtain ⟨_, _, _, _, _, _, _, q7, _⟩ := q; cases q7) (fun r9 h7 n7 q => ?_)
  obtain ⟨M7, hM7, hF7, rfl, hc7, he7, r7, q9, hr7⟩ := q
  cases q9
  have hC7 := hC8.sub (h' := h7) (fun a ha _ => hF7 a ha.1)
  have ho7 : h7 o9 = some (am_la 1 g8) := (hF7 o9 (Or.inr hoy)).trans ho8
  have hB7 := Bo.step hM7 hC7 (T := (sp_edition M (sv xs (6 * (k : Int) + 1))).2.2) ((by rw [zs_edition M (sv xs (6 * (k : Int) + 1))]; exact hI)) hN8 he7 hE8
  refine v_istore_6 (pc' := 1518) F d_L_law_1516 rfl rfl (by decide) ?_
  refine v_aload_n (pc' := 1519) (j := 2) F d_L_law_1518 rfl rfl rfl ?_
  refine v_callVP (pc' := 1522) (C := zR_M) (T9 := zF_M) (N := 28) F d_L_law_1519 rfl cal_M_thrown wx_747 wx_748 wx_749 rfl hM7.1 (c_M_thrown l X _ _ y M7 hM7) rfl ⟨by decide, by decide, by dsimp only; omega, by dsimp only; omega⟩ (Nat.le_of_ble_eq_true rfl) rfl rfl ?_
  refine v_topi (b := (sp_edition M (sv xs (6 * (k : Int) + 1))).1) hc7 ?_
  refine v_iload (pc' := 1524) F d_L_law_1522 rfl rfl ?_
  refine v_icS (tgt := 1529) F d_L_law_1524 (by decide) ?_
  refine v_iload (pc' := 1531) F d_L_law_1529 rfl rfl ?_
  have hz := (z_edition M (sv xs (6 * (k : Int) + 1))).1
  refine v_if_ne (tgt := 1546) (pc' := 1534) F d_L_law_1531 (by decide) rfl (by omega) (fun c1531 => ?_) (fun c1531 => ?_)
  · refine v_goto (tgt := 1549) F d_L_law_1546 (by decide) ?_
    exact v_widen (cells' := 40 + 70 * (k + 1)) (slots' := 13000 + 450 * (k + 1)) (by dsimp only; omega) (by dsimp only; omega) (v_subL (by (repeat' (first | exact trivial | exact rfl | refine And.intro ?_ ?_)); done) (hx _ _ _ _ _ hB7 ho7 (by omega)))
  · refine v_aload_n (pc' := 1535) (j := 3) F d_L_law_1534 rfl rfl rfl ?_
    refine v_iconst (pc' := 1536) F d_L_law_1535 rfl ?_
    refine v_lag (pc' := 1537) F d_L_law_1536 rfl ho7 (by decide) (by omega) (by omega) ?_
    refine v_topl (b := w32 (sp_edition M (sv xs (6 * (k : Int) + 1))).2.1) (hv8 (by omega)) ?_
    refine v_iload (pc' := 1539) F d_L_law_1537 rfl rfl ?_
    refine v_topv (b := iV (w32 r7)) (congrArg Value.int (w32_v _)) ?_
    refine v_i2l (pc' := 1540) F d_L_law_1539 rfl (w32_r _) ?_
    refine v_topl (b := w32 (sp_edition M (sv xs (6 * (k : Int) + 1))).2.1) (by rw [hr7 (by omega)]) ?_
    refine v_lcS (tgt := 1546) F d_L_law_1540 d_L_law_1541 (by decide) ?_
    refine v_goto (tgt := 1549) F d_L_law_1546 (by decide) ?_
    exact v_widen (cells' := 40 + 70 * (k + 1)) (slots' := 13000 + 450 * (k + 1)) (by dsimp only; omega) (by dsimp only; omega) (v_subL (by (repeat' (first | exact trivial | exact rfl | refine And.intro ?_ ?_)); done) (hx _ _ _ _ _ hB7 ho7 (by omega)))
set_option maxRecDepth 100000 in
set_option maxHeartbeats 4000000 in
theorem lp_law {p : Program} {l : Launch} {e : Env} {s : State} {m : MethodId} {args : Array Value} {below : List Frame} {meth : Method} {c : Code} {X : am_X} {Q : State → Prop}  {x y o9 sa N : Nat} {xs : Nat → Int32} (F : am_Fx p s m args meth c y_L_law b_L_law 8 ((Option.some FieldType.boolean)) [] X) (ht : l.flags = pinnedFlags ++ [noTraceFlag]) (hoy : y + 26 ≤ o9) (hN : N ≤ 3072) (hX : va_X sa N xs s X.2.2.1) (hsa : sa < am_sz X) (fin : ∀ (h8 : am_H) (n8 k8 : Nat), k8 ≤ 512 → V p l e ({ frames := 13, cells := 601024, slots := 7293034, locals := 488 }) s m args below meth c 8 X Q h8 n8 (40 + 70 * k8) (13000 + 450 * k8) 1555 [none, none, none, none, none, none, none, none] []) : ∀ (n k : Nat), N < 6 * (k + n) → 6 * k ≤ N → ∀ (h : am_H) (nx : Nat) (M : MS) (P : Tg → Nat) (g0 : Int → Int), Bo X x y o9 M P h → h o9 = some (am_la 1 g0) → o9 < nx → V p l e ({ frames := 13, cells := 601024, slots := 7293034, locals := 488 }) s m args below meth c 8 X Q h nx (40 + 70 * k) (13000 + 450 * k) 23 [some (.ref sa), some (.ref x), some (.ref y), some (.ref o9), some (iV (6 * (k : Int))), none, none, none] [] := by
  intro n
  induction n with
  | zero =>
    intro k hk hk2
    exact absurd hk (by omega)
  | succ n ih =>
    intro k hk hk2 h nx M P g0 hB ho hnx
    refine v_iload (pc' := 25) F d_L_law_23 rfl rfl ?_
    refine v_aload_n (pc' := 26) (j := 0) F d_L_law_25 rfl rfl rfl ?_
    refine v_slen (pc' := 27) F d_L_law_26 rfl hX hsa ?_
    refine v_bipush (pc' := 29) F d_L_law_27 rfl (by decide) ?_
    refine v_isub (pc' := 30) F d_L_law_29 rfl ?_
    refine v_icmp_gt (tgt := 1555) (pc' := 33) F d_L_law_30 (by decide) rfl (by omega) (by omega) (fun c30 => ?_) (fun c30 => ?_)
    · exact v_subL (by (repeat' (first | exact trivial | exact rfl | refine And.intro ?_ ?_)); done) (fin h nx k (by omega))
    · have rest : ∀ (h8 : am_H) (n8 : Nat) (M8 : MS) (P8 : Tg → Nat) (g8 : Int → Int), Bo X x y o9 M8 P8 h8 → h8 o9 = some (am_la 1 g8) → o9 < n8 → V p l e ({ frames := 13, cells := 601024, slots := 7293034, locals := 488 }) s m args below meth c 8 X Q h8 n8 (40 + 70 * (k + 1)) (13000 + 450 * (k + 1)) 1549 [some (.ref sa), some (.ref x), some (.ref y), some (.ref o9), some (iV (6 * (k : Int))), none, none, none] [] := fun h8 n8 M8 P8 g8 hB8 ho8 hn8 => by
        refine v_iinc_4 (pc' := 1552) F d_L_law_1549 rfl rfl (by decide) ?_
        refine v_goto (tgt := 23) F d_L_law_1552 (by decide) ?_
        have q9 := ih (k + 1) (by omega) (by omega) h8 n8 M8 P8 g8 hB8 ho8 hn8
        rw [show 6 * ((k + 1 : Nat) : Int) = 6 * (k : Int) + 6 by omega] at q9
        exact q9
      refine v_aload_n (pc' := 34) (j := 0) F d_L_law_33 rfl rfl rfl ?_
      refine v_iload (pc' := 36) F d_L_law_34 rfl rfl ?_
      refine v_sld (pc' := 37) F d_L_law_36 rfl hX hsa (by omega) (by omega) (by omega) ?_
      refine v_bipush (pc' := 39) F d_L_law_37 rfl (by decide) ?_
      refine v_iandX (pc' := 40) F d_L_law_39 rfl (fun z rz => ?_)
      by_cases z0 : z = 0
      · subst z0
        exact v_tswIn (tgt := 132) F d_L_law_40 rz (by decide) (by decide) rfl (by decide) (cs_flat F ht hoy hB ho hnx (by omega) (by omega) (by omega) hX hsa rest)
      by_cases z1 : z = 1
      · subst z1
        exact v_tswIn (tgt := 200) F d_L_law_40 rz (by decide) (by decide) rfl (by decide) (cs_meter F ht hoy hB ho hnx (by omega) (by omega) (by omega) hX hsa rest)
      by_cases z2 : z = 2
      · subst z2
        exact v_tswIn (tgt := 304) F d_L_law_40 rz (by decide) (by decide) rfl (by decide) (cs_reading F ht hoy hB ho hnx (by omega) (by omega) (by omega) hX hsa rest)
      by_cases z3 : z = 3
      · subst z3
        exact v_tswIn (tgt := 384) F d_L_law_40 rz (by decide) (by decide) rfl (by decide) (cs_changed F ht hoy hB ho hnx (by omega) (by omega) (by omega) hX hsa rest)
      by_cases z4 : z = 4
      · subst z4
        exact v_tswIn (tgt := 476) F d_L_law_40 rz (by decide) (by decide) rfl (by decide) (cs_correct F ht hoy hB ho hnx (by omega) (by omega) (by omega) hX hsa rest)
      by_cases z5 : z = 5
      · subst z5
        exact v_tswIn (tgt := 556) F d_L_law_40 rz (by decide) (by decide) rfl (by decide) (cs_tested F ht hoy hB ho hnx (by omega) (by omega) (by omega) hX hsa rest)
      by_cases z6 : z = 6
      · subst z6
        exact v_tswIn (tgt := 624) F d_L_law_40 rz (by decide) (by decide) rfl (by decide) (cs_cost F ht hoy hB ho hnx (by omega) (by omega) (by omega) hX hsa rest)
      by_cases z7 : z = 7
      · subst z7
        exact v_tswIn (tgt := 704) F d_L_law_40 rz (by decide) (by decide) rfl (by decide) (cs_base F ht hoy hB ho hnx (by omega) (by omega) (by omega) hX hsa rest)
      by_cases z8 : z = 8
      · subst z8
        exact v_tswIn (tgt := 772) F d_L_law_40 rz (by decide) (by decide) rfl (by decide) (cs_moves F ht hoy hB ho hnx (by omega) (by omega) (by omega) hX hsa rest)
      by_cases z9 : z = 9
      · subst z9
        exact v_tswIn (tgt := 840) F d_L_law_40 rz (by decide) (by decide) rfl (by decide) (cs_prepaid F ht hoy hB ho hnx (by omega) (by omega) (by omega) hX hsa rest)
      by_cases z10 : z = 10
      · subst z10
        exact v_tswIn (tgt := 919) F d_L_law_40 rz (by decide) (by decide) rfl (by decide) (cs_run F ht hoy hB ho hnx (by omega) (by omega) (by omega) hX hsa rest)
      by_cases z11 : z = 11
      · subst z11
        exact v_tswIn (tgt := 975) F d_L_law_40 rz (by decide) (by decide) rfl (by decide) (cs_use F ht hoy hB ho hnx (by omega) (by omega) (by omega) hX hsa rest)
      by_cases z12 : z = 12
      · subst z12
        exact v_tswIn (tgt := 1042) F d_L_law_40 rz (by decide) (by decide) rfl (by decide) (cs_barred F ht hoy hB ho hnx (by omega) (by omega) (by omega) hX hsa rest)
      by_cases z13 : z = 13
      · subst z13
        exact v_tswIn (tgt := 1122) F d_L_law_40 rz (by decide) (by decide) rfl (by decide) (cs_line F ht hoy hB ho hnx (by omega) (by omega) (by omega) hX hsa rest)
      by_cases z14 : z = 14
      · subst z14
        exact v_tswIn (tgt := 1213) F d_L_law_40 rz (by decide) (by decide) rfl (by decide) (cs_share F ht hoy hB ho hnx (by omega) (by omega) (by omega) hX hsa rest)
      by_cases z15 : z = 15
      · subst z15
        exact v_tswIn (tgt := 1280) F d_L_law_40 rz (by decide) (by decide) rfl (by decide) (cs_part F ht hoy hB ho hnx (by omega) (by omega) (by omega) hX hsa rest)
      by_cases z16 : z = 16
      · subst z16
        exact v_tswIn (tgt := 1359) F d_L_law_40 rz (by decide) (by decide) rfl (by decide) (cs_balance F ht hoy hB ho hnx (by omega) (by omega) (by omega) hX hsa rest)
      by_cases z17 : z = 17
      · subst z17
        exact v_tswIn (tgt := 1426) F d_L_law_40 rz (by decide) (by decide) rfl (by decide) (cs_difference F ht hoy hB ho hnx (by omega) (by omega) (by omega) hX hsa rest)
      by_cases z18 : z = 18
      · subst z18
        exact v_tswIn (tgt := 1493) F d_L_law_40 rz (by decide) (by decide) rfl (by decide) (cs_edition F ht hoy hB ho hnx (by omega) (by omega) (by omega) hX hsa rest)
      refine v_tswOut (tgt := 1549) F d_L_law_40 rz (by omega) (by decide) ?_
      exact v_widen (cells' := 40 + 70 * (k + 1)) (slots' := 13000 + 450 * (k + 1)) (by omega) (by omega) (rest h nx M P g0 hB ho hnx)
