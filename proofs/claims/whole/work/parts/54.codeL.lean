/-! code rows of the law (written by wip/whole/mkcode.py: L_law) -/
abbrev y_L_law : MethodName := ⟨"BillSharesLaw", "law", "([I)Z"⟩
abbrev b_L_law : ByteArray := code
theorem d_L_law_0 : decode b_L_law 0 = .ok (.new 8, 3) := by decide +kernel
theorem d_L_law_3 : decode b_L_law 3 = .ok (.dup, 1) := by decide +kernel
theorem d_L_law_4 : decode b_L_law 4 = .ok (.invokespecial 78, 3) := by decide +kernel
theorem d_L_law_7 : decode b_L_law 7 = .ok (.astore_n 1, 1) := by decide +kernel
theorem d_L_law_8 : decode b_L_law 8 = .ok (.new 79, 3) := by decide +kernel
theorem d_L_law_11 : decode b_L_law 11 = .ok (.dup, 1) := by decide +kernel
theorem d_L_law_12 : decode b_L_law 12 = .ok (.invokespecial 81, 3) := by decide +kernel
theorem d_L_law_15 : decode b_L_law 15 = .ok (.astore_n 2, 1) := by decide +kernel
theorem d_L_law_16 : decode b_L_law 16 = .ok (.iconst 1, 1) := by decide +kernel
theorem d_L_law_17 : decode b_L_law 17 = .ok (.newarray .long, 2) := by decide +kernel
theorem d_L_law_19 : decode b_L_law 19 = .ok (.astore_n 3, 1) := by decide +kernel
theorem d_L_law_20 : decode b_L_law 20 = .ok (.iconst 0, 1) := by decide +kernel
theorem d_L_law_21 : decode b_L_law 21 = .ok (.istore 4, 2) := by decide +kernel
theorem d_L_law_23 : decode b_L_law 23 = .ok (.iload 4, 2) := by decide +kernel
theorem d_L_law_25 : decode b_L_law 25 = .ok (.aload_n 0, 1) := by decide +kernel
theorem d_L_law_26 : decode b_L_law 26 = .ok (.arraylength, 1) := by decide +kernel
theorem d_L_law_27 : decode b_L_law 27 = .ok (.bipush 6, 2) := by decide +kernel
theorem d_L_law_29 : decode b_L_law 29 = .ok (.isub, 1) := by decide +kernel
theorem d_L_law_30 : decode b_L_law 30 = .ok (.if_icmp .gt 1525, 3) := by decide +kernel
theorem d_L_law_33 : decode b_L_law 33 = .ok (.aload_n 0, 1) := by decide +kernel
theorem d_L_law_34 : decode b_L_law 34 = .ok (.iload 4, 2) := by decide +kernel
theorem d_L_law_36 : decode b_L_law 36 = .ok (.iaload, 1) := by decide +kernel
theorem d_L_law_37 : decode b_L_law 37 = .ok (.bipush 31, 2) := by decide +kernel
theorem d_L_law_39 : decode b_L_law 39 = .ok (.iand, 1) := by decide +kernel
theorem d_L_law_40 : decode b_L_law 40 = .ok (.tableswitch 1509 0 18 #[92, 160, 264, 344, 436, 516, 584, 664, 732, 800, 879, 935, 1002, 1082, 1173, 1240, 1319, 1386, 1453], 92) := by decide +kernel
theorem d_L_law_132 : decode b_L_law 132 = .ok (.aload_n 1, 1) := by decide +kernel
theorem d_L_law_133 : decode b_L_law 133 = .ok (.aload_n 0, 1) := by decide +kernel
theorem d_L_law_134 : decode b_L_law 134 = .ok (.iload 4, 2) := by decide +kernel
theorem d_L_law_136 : decode b_L_law 136 = .ok (.iconst 1, 1) := by decide +kernel
theorem d_L_law_137 : decode b_L_law 137 = .ok (.iadd, 1) := by decide +kernel
theorem d_L_law_138 : decode b_L_law 138 = .ok (.iaload, 1) := by decide +kernel
theorem d_L_law_139 : decode b_L_law 139 = .ok (.aload_n 0, 1) := by decide +kernel
theorem d_L_law_140 : decode b_L_law 140 = .ok (.iload 4, 2) := by decide +kernel
theorem d_L_law_142 : decode b_L_law 142 = .ok (.iconst 2, 1) := by decide +kernel
theorem d_L_law_143 : decode b_L_law 143 = .ok (.iadd, 1) := by decide +kernel
theorem d_L_law_144 : decode b_L_law 144 = .ok (.iaload, 1) := by decide +kernel
theorem d_L_law_145 : decode b_L_law 145 = .ok (.aload_n 3, 1) := by decide +kernel
theorem d_L_law_146 : decode b_L_law 146 = .ok (.invokestatic 82, 3) := by decide +kernel
theorem d_L_law_149 : decode b_L_law 149 = .ok (.istore 5, 2) := by decide +kernel
theorem d_L_law_151 : decode b_L_law 151 = .ok (.aload_n 2, 1) := by decide +kernel
theorem d_L_law_152 : decode b_L_law 152 = .ok (.aload_n 0, 1) := by decide +kernel
theorem d_L_law_153 : decode b_L_law 153 = .ok (.iload 4, 2) := by decide +kernel
theorem d_L_law_155 : decode b_L_law 155 = .ok (.iconst 1, 1) := by decide +kernel
theorem d_L_law_156 : decode b_L_law 156 = .ok (.iadd, 1) := by decide +kernel
theorem d_L_law_157 : decode b_L_law 157 = .ok (.iaload, 1) := by decide +kernel
theorem d_L_law_158 : decode b_L_law 158 = .ok (.aload_n 0, 1) := by decide +kernel
theorem d_L_law_159 : decode b_L_law 159 = .ok (.iload 4, 2) := by decide +kernel
theorem d_L_law_161 : decode b_L_law 161 = .ok (.iconst 2, 1) := by decide +kernel
theorem d_L_law_162 : decode b_L_law 162 = .ok (.iadd, 1) := by decide +kernel
theorem d_L_law_163 : decode b_L_law 163 = .ok (.iaload, 1) := by decide +kernel
theorem d_L_law_164 : decode b_L_law 164 = .ok (.invokevirtual 87, 3) := by decide +kernel
theorem d_L_law_167 : decode b_L_law 167 = .ok (.istore 6, 2) := by decide +kernel
theorem d_L_law_169 : decode b_L_law 169 = .ok (.aload_n 2, 1) := by decide +kernel
theorem d_L_law_170 : decode b_L_law 170 = .ok (.invokevirtual 88, 3) := by decide +kernel
theorem d_L_law_173 : decode b_L_law 173 = .ok (.iload 5, 2) := by decide +kernel
theorem d_L_law_175 : decode b_L_law 175 = .ok (.if_icmp .eq 5, 3) := by decide +kernel
theorem d_L_law_178 : decode b_L_law 178 = .ok (.iconst 0, 1) := by decide +kernel
theorem d_L_law_179 : decode b_L_law 179 = .ok (.ireturn, 1) := by decide +kernel
theorem d_L_law_180 : decode b_L_law 180 = .ok (.iload 5, 2) := by decide +kernel
theorem d_L_law_182 : decode b_L_law 182 = .ok (.ifCond .ne 15, 3) := by decide +kernel
theorem d_L_law_185 : decode b_L_law 185 = .ok (.aload_n 3, 1) := by decide +kernel
theorem d_L_law_186 : decode b_L_law 186 = .ok (.iconst 0, 1) := by decide +kernel
theorem d_L_law_187 : decode b_L_law 187 = .ok (.laload, 1) := by decide +kernel
theorem d_L_law_188 : decode b_L_law 188 = .ok (.iload 6, 2) := by decide +kernel
theorem d_L_law_190 : decode b_L_law 190 = .ok (.i2l, 1) := by decide +kernel
theorem d_L_law_191 : decode b_L_law 191 = .ok (.lcmp, 1) := by decide +kernel
theorem d_L_law_192 : decode b_L_law 192 = .ok (.ifCond .eq 5, 3) := by decide +kernel
theorem d_L_law_195 : decode b_L_law 195 = .ok (.iconst 0, 1) := by decide +kernel
theorem d_L_law_196 : decode b_L_law 196 = .ok (.ireturn, 1) := by decide +kernel
theorem d_L_law_197 : decode b_L_law 197 = .ok (.goto 1352, 3) := by decide +kernel
theorem d_L_law_200 : decode b_L_law 200 = .ok (.aload_n 1, 1) := by decide +kernel
theorem d_L_law_201 : decode b_L_law 201 = .ok (.aload_n 0, 1) := by decide +kernel
theorem d_L_law_202 : decode b_L_law 202 = .ok (.iload 4, 2) := by decide +kernel
theorem d_L_law_204 : decode b_L_law 204 = .ok (.iconst 1, 1) := by decide +kernel
theorem d_L_law_205 : decode b_L_law 205 = .ok (.iadd, 1) := by decide +kernel
theorem d_L_law_206 : decode b_L_law 206 = .ok (.iaload, 1) := by decide +kernel
theorem d_L_law_207 : decode b_L_law 207 = .ok (.aload_n 0, 1) := by decide +kernel
theorem d_L_law_208 : decode b_L_law 208 = .ok (.iload 4, 2) := by decide +kernel
theorem d_L_law_210 : decode b_L_law 210 = .ok (.iconst 2, 1) := by decide +kernel
theorem d_L_law_211 : decode b_L_law 211 = .ok (.iadd, 1) := by decide +kernel
theorem d_L_law_212 : decode b_L_law 212 = .ok (.iaload, 1) := by decide +kernel
theorem d_L_law_213 : decode b_L_law 213 = .ok (.aload_n 0, 1) := by decide +kernel
theorem d_L_law_214 : decode b_L_law 214 = .ok (.iload 4, 2) := by decide +kernel
theorem d_L_law_216 : decode b_L_law 216 = .ok (.iconst 3, 1) := by decide +kernel
theorem d_L_law_217 : decode b_L_law 217 = .ok (.iadd, 1) := by decide +kernel
theorem d_L_law_218 : decode b_L_law 218 = .ok (.iaload, 1) := by decide +kernel
theorem d_L_law_219 : decode b_L_law 219 = .ok (.aload_n 0, 1) := by decide +kernel
theorem d_L_law_220 : decode b_L_law 220 = .ok (.iload 4, 2) := by decide +kernel
theorem d_L_law_222 : decode b_L_law 222 = .ok (.iconst 4, 1) := by decide +kernel
theorem d_L_law_223 : decode b_L_law 223 = .ok (.iadd, 1) := by decide +kernel
theorem d_L_law_224 : decode b_L_law 224 = .ok (.iaload, 1) := by decide +kernel
theorem d_L_law_225 : decode b_L_law 225 = .ok (.aload_n 0, 1) := by decide +kernel
theorem d_L_law_226 : decode b_L_law 226 = .ok (.iload 4, 2) := by decide +kernel
theorem d_L_law_228 : decode b_L_law 228 = .ok (.iconst 5, 1) := by decide +kernel
theorem d_L_law_229 : decode b_L_law 229 = .ok (.iadd, 1) := by decide +kernel
theorem d_L_law_230 : decode b_L_law 230 = .ok (.iaload, 1) := by decide +kernel
theorem d_L_law_231 : decode b_L_law 231 = .ok (.aload_n 3, 1) := by decide +kernel
theorem d_L_law_232 : decode b_L_law 232 = .ok (.invokestatic 92, 3) := by decide +kernel
theorem d_L_law_235 : decode b_L_law 235 = .ok (.istore 5, 2) := by decide +kernel
theorem d_L_law_237 : decode b_L_law 237 = .ok (.aload_n 2, 1) := by decide +kernel
theorem d_L_law_238 : decode b_L_law 238 = .ok (.aload_n 0, 1) := by decide +kernel
theorem d_L_law_239 : decode b_L_law 239 = .ok (.iload 4, 2) := by decide +kernel
theorem d_L_law_241 : decode b_L_law 241 = .ok (.iconst 1, 1) := by decide +kernel
theorem d_L_law_242 : decode b_L_law 242 = .ok (.iadd, 1) := by decide +kernel
theorem d_L_law_243 : decode b_L_law 243 = .ok (.iaload, 1) := by decide +kernel
theorem d_L_law_244 : decode b_L_law 244 = .ok (.aload_n 0, 1) := by decide +kernel
theorem d_L_law_245 : decode b_L_law 245 = .ok (.iload 4, 2) := by decide +kernel
theorem d_L_law_247 : decode b_L_law 247 = .ok (.iconst 2, 1) := by decide +kernel
theorem d_L_law_248 : decode b_L_law 248 = .ok (.iadd, 1) := by decide +kernel
theorem d_L_law_249 : decode b_L_law 249 = .ok (.iaload, 1) := by decide +kernel
theorem d_L_law_250 : decode b_L_law 250 = .ok (.aload_n 0, 1) := by decide +kernel
theorem d_L_law_251 : decode b_L_law 251 = .ok (.iload 4, 2) := by decide +kernel
theorem d_L_law_253 : decode b_L_law 253 = .ok (.iconst 3, 1) := by decide +kernel
theorem d_L_law_254 : decode b_L_law 254 = .ok (.iadd, 1) := by decide +kernel
theorem d_L_law_255 : decode b_L_law 255 = .ok (.iaload, 1) := by decide +kernel
theorem d_L_law_256 : decode b_L_law 256 = .ok (.aload_n 0, 1) := by decide +kernel
theorem d_L_law_257 : decode b_L_law 257 = .ok (.iload 4, 2) := by decide +kernel
theorem d_L_law_259 : decode b_L_law 259 = .ok (.iconst 4, 1) := by decide +kernel
theorem d_L_law_260 : decode b_L_law 260 = .ok (.iadd, 1) := by decide +kernel
theorem d_L_law_261 : decode b_L_law 261 = .ok (.iaload, 1) := by decide +kernel
theorem d_L_law_262 : decode b_L_law 262 = .ok (.aload_n 0, 1) := by decide +kernel
theorem d_L_law_263 : decode b_L_law 263 = .ok (.iload 4, 2) := by decide +kernel
theorem d_L_law_265 : decode b_L_law 265 = .ok (.iconst 5, 1) := by decide +kernel
theorem d_L_law_266 : decode b_L_law 266 = .ok (.iadd, 1) := by decide +kernel
theorem d_L_law_267 : decode b_L_law 267 = .ok (.iaload, 1) := by decide +kernel
theorem d_L_law_268 : decode b_L_law 268 = .ok (.invokevirtual 95, 3) := by decide +kernel
theorem d_L_law_271 : decode b_L_law 271 = .ok (.istore 6, 2) := by decide +kernel
theorem d_L_law_273 : decode b_L_law 273 = .ok (.aload_n 2, 1) := by decide +kernel
theorem d_L_law_274 : decode b_L_law 274 = .ok (.invokevirtual 88, 3) := by decide +kernel
theorem d_L_law_277 : decode b_L_law 277 = .ok (.iload 5, 2) := by decide +kernel
theorem d_L_law_279 : decode b_L_law 279 = .ok (.if_icmp .eq 5, 3) := by decide +kernel
theorem d_L_law_282 : decode b_L_law 282 = .ok (.iconst 0, 1) := by decide +kernel
theorem d_L_law_283 : decode b_L_law 283 = .ok (.ireturn, 1) := by decide +kernel
theorem d_L_law_284 : decode b_L_law 284 = .ok (.iload 5, 2) := by decide +kernel
theorem d_L_law_286 : decode b_L_law 286 = .ok (.ifCond .ne 15, 3) := by decide +kernel
theorem d_L_law_289 : decode b_L_law 289 = .ok (.aload_n 3, 1) := by decide +kernel
theorem d_L_law_290 : decode b_L_law 290 = .ok (.iconst 0, 1) := by decide +kernel
theorem d_L_law_291 : decode b_L_law 291 = .ok (.laload, 1) := by decide +kernel
theorem d_L_law_292 : decode b_L_law 292 = .ok (.iload 6, 2) := by decide +kernel
theorem d_L_law_294 : decode b_L_law 294 = .ok (.i2l, 1) := by decide +kernel
theorem d_L_law_295 : decode b_L_law 295 = .ok (.lcmp, 1) := by decide +kernel
theorem d_L_law_296 : decode b_L_law 296 = .ok (.ifCond .eq 5, 3) := by decide +kernel
theorem d_L_law_299 : decode b_L_law 299 = .ok (.iconst 0, 1) := by decide +kernel
theorem d_L_law_300 : decode b_L_law 300 = .ok (.ireturn, 1) := by decide +kernel
theorem d_L_law_301 : decode b_L_law 301 = .ok (.goto 1248, 3) := by decide +kernel
theorem d_L_law_304 : decode b_L_law 304 = .ok (.aload_n 1, 1) := by decide +kernel
theorem d_L_law_305 : decode b_L_law 305 = .ok (.aload_n 0, 1) := by decide +kernel
theorem d_L_law_306 : decode b_L_law 306 = .ok (.iload 4, 2) := by decide +kernel
theorem d_L_law_308 : decode b_L_law 308 = .ok (.iconst 1, 1) := by decide +kernel
theorem d_L_law_309 : decode b_L_law 309 = .ok (.iadd, 1) := by decide +kernel
theorem d_L_law_310 : decode b_L_law 310 = .ok (.iaload, 1) := by decide +kernel
theorem d_L_law_311 : decode b_L_law 311 = .ok (.aload_n 0, 1) := by decide +kernel
theorem d_L_law_312 : decode b_L_law 312 = .ok (.iload 4, 2) := by decide +kernel
theorem d_L_law_314 : decode b_L_law 314 = .ok (.iconst 2, 1) := by decide +kernel
theorem d_L_law_315 : decode b_L_law 315 = .ok (.iadd, 1) := by decide +kernel
theorem d_L_law_316 : decode b_L_law 316 = .ok (.iaload, 1) := by decide +kernel
theorem d_L_law_317 : decode b_L_law 317 = .ok (.aload_n 0, 1) := by decide +kernel
theorem d_L_law_318 : decode b_L_law 318 = .ok (.iload 4, 2) := by decide +kernel
theorem d_L_law_320 : decode b_L_law 320 = .ok (.iconst 3, 1) := by decide +kernel
theorem d_L_law_321 : decode b_L_law 321 = .ok (.iadd, 1) := by decide +kernel
theorem d_L_law_322 : decode b_L_law 322 = .ok (.iaload, 1) := by decide +kernel
theorem d_L_law_323 : decode b_L_law 323 = .ok (.aload_n 3, 1) := by decide +kernel
theorem d_L_law_324 : decode b_L_law 324 = .ok (.invokestatic 96, 3) := by decide +kernel
theorem d_L_law_327 : decode b_L_law 327 = .ok (.istore 5, 2) := by decide +kernel
theorem d_L_law_329 : decode b_L_law 329 = .ok (.aload_n 2, 1) := by decide +kernel
theorem d_L_law_330 : decode b_L_law 330 = .ok (.aload_n 0, 1) := by decide +kernel
theorem d_L_law_331 : decode b_L_law 331 = .ok (.iload 4, 2) := by decide +kernel
theorem d_L_law_333 : decode b_L_law 333 = .ok (.iconst 1, 1) := by decide +kernel
theorem d_L_law_334 : decode b_L_law 334 = .ok (.iadd, 1) := by decide +kernel
theorem d_L_law_335 : decode b_L_law 335 = .ok (.iaload, 1) := by decide +kernel
theorem d_L_law_336 : decode b_L_law 336 = .ok (.aload_n 0, 1) := by decide +kernel
theorem d_L_law_337 : decode b_L_law 337 = .ok (.iload 4, 2) := by decide +kernel
theorem d_L_law_339 : decode b_L_law 339 = .ok (.iconst 2, 1) := by decide +kernel
theorem d_L_law_340 : decode b_L_law 340 = .ok (.iadd, 1) := by decide +kernel
theorem d_L_law_341 : decode b_L_law 341 = .ok (.iaload, 1) := by decide +kernel
theorem d_L_law_342 : decode b_L_law 342 = .ok (.aload_n 0, 1) := by decide +kernel
theorem d_L_law_343 : decode b_L_law 343 = .ok (.iload 4, 2) := by decide +kernel
theorem d_L_law_345 : decode b_L_law 345 = .ok (.iconst 3, 1) := by decide +kernel
theorem d_L_law_346 : decode b_L_law 346 = .ok (.iadd, 1) := by decide +kernel
theorem d_L_law_347 : decode b_L_law 347 = .ok (.iaload, 1) := by decide +kernel
theorem d_L_law_348 : decode b_L_law 348 = .ok (.invokevirtual 99, 3) := by decide +kernel
theorem d_L_law_351 : decode b_L_law 351 = .ok (.istore 6, 2) := by decide +kernel
theorem d_L_law_353 : decode b_L_law 353 = .ok (.aload_n 2, 1) := by decide +kernel
theorem d_L_law_354 : decode b_L_law 354 = .ok (.invokevirtual 88, 3) := by decide +kernel
theorem d_L_law_357 : decode b_L_law 357 = .ok (.iload 5, 2) := by decide +kernel
theorem d_L_law_359 : decode b_L_law 359 = .ok (.if_icmp .eq 5, 3) := by decide +kernel
theorem d_L_law_362 : decode b_L_law 362 = .ok (.iconst 0, 1) := by decide +kernel
theorem d_L_law_363 : decode b_L_law 363 = .ok (.ireturn, 1) := by decide +kernel
theorem d_L_law_364 : decode b_L_law 364 = .ok (.iload 5, 2) := by decide +kernel
theorem d_L_law_366 : decode b_L_law 366 = .ok (.ifCond .ne 15, 3) := by decide +kernel
theorem d_L_law_369 : decode b_L_law 369 = .ok (.aload_n 3, 1) := by decide +kernel
theorem d_L_law_370 : decode b_L_law 370 = .ok (.iconst 0, 1) := by decide +kernel
theorem d_L_law_371 : decode b_L_law 371 = .ok (.laload, 1) := by decide +kernel
theorem d_L_law_372 : decode b_L_law 372 = .ok (.iload 6, 2) := by decide +kernel
theorem d_L_law_374 : decode b_L_law 374 = .ok (.i2l, 1) := by decide +kernel
theorem d_L_law_375 : decode b_L_law 375 = .ok (.lcmp, 1) := by decide +kernel
theorem d_L_law_376 : decode b_L_law 376 = .ok (.ifCond .eq 5, 3) := by decide +kernel
theorem d_L_law_379 : decode b_L_law 379 = .ok (.iconst 0, 1) := by decide +kernel
theorem d_L_law_380 : decode b_L_law 380 = .ok (.ireturn, 1) := by decide +kernel
theorem d_L_law_381 : decode b_L_law 381 = .ok (.goto 1168, 3) := by decide +kernel
theorem d_L_law_384 : decode b_L_law 384 = .ok (.aload_n 1, 1) := by decide +kernel
theorem d_L_law_385 : decode b_L_law 385 = .ok (.aload_n 0, 1) := by decide +kernel
theorem d_L_law_386 : decode b_L_law 386 = .ok (.iload 4, 2) := by decide +kernel
theorem d_L_law_388 : decode b_L_law 388 = .ok (.iconst 1, 1) := by decide +kernel
theorem d_L_law_389 : decode b_L_law 389 = .ok (.iadd, 1) := by decide +kernel
theorem d_L_law_390 : decode b_L_law 390 = .ok (.iaload, 1) := by decide +kernel
theorem d_L_law_391 : decode b_L_law 391 = .ok (.aload_n 0, 1) := by decide +kernel
theorem d_L_law_392 : decode b_L_law 392 = .ok (.iload 4, 2) := by decide +kernel
theorem d_L_law_394 : decode b_L_law 394 = .ok (.iconst 2, 1) := by decide +kernel
theorem d_L_law_395 : decode b_L_law 395 = .ok (.iadd, 1) := by decide +kernel
theorem d_L_law_396 : decode b_L_law 396 = .ok (.iaload, 1) := by decide +kernel
theorem d_L_law_397 : decode b_L_law 397 = .ok (.aload_n 0, 1) := by decide +kernel
theorem d_L_law_398 : decode b_L_law 398 = .ok (.iload 4, 2) := by decide +kernel
theorem d_L_law_400 : decode b_L_law 400 = .ok (.iconst 3, 1) := by decide +kernel
theorem d_L_law_401 : decode b_L_law 401 = .ok (.iadd, 1) := by decide +kernel
theorem d_L_law_402 : decode b_L_law 402 = .ok (.iaload, 1) := by decide +kernel
theorem d_L_law_403 : decode b_L_law 403 = .ok (.aload_n 0, 1) := by decide +kernel
theorem d_L_law_404 : decode b_L_law 404 = .ok (.iload 4, 2) := by decide +kernel
theorem d_L_law_406 : decode b_L_law 406 = .ok (.iconst 4, 1) := by decide +kernel
theorem d_L_law_407 : decode b_L_law 407 = .ok (.iadd, 1) := by decide +kernel
theorem d_L_law_408 : decode b_L_law 408 = .ok (.iaload, 1) := by decide +kernel
theorem d_L_law_409 : decode b_L_law 409 = .ok (.aload_n 3, 1) := by decide +kernel
theorem d_L_law_410 : decode b_L_law 410 = .ok (.invokestatic 100, 3) := by decide +kernel
theorem d_L_law_413 : decode b_L_law 413 = .ok (.istore 5, 2) := by decide +kernel
theorem d_L_law_415 : decode b_L_law 415 = .ok (.aload_n 2, 1) := by decide +kernel
theorem d_L_law_416 : decode b_L_law 416 = .ok (.aload_n 0, 1) := by decide +kernel
theorem d_L_law_417 : decode b_L_law 417 = .ok (.iload 4, 2) := by decide +kernel
theorem d_L_law_419 : decode b_L_law 419 = .ok (.iconst 1, 1) := by decide +kernel
theorem d_L_law_420 : decode b_L_law 420 = .ok (.iadd, 1) := by decide +kernel
theorem d_L_law_421 : decode b_L_law 421 = .ok (.iaload, 1) := by decide +kernel
theorem d_L_law_422 : decode b_L_law 422 = .ok (.aload_n 0, 1) := by decide +kernel
theorem d_L_law_423 : decode b_L_law 423 = .ok (.iload 4, 2) := by decide +kernel
theorem d_L_law_425 : decode b_L_law 425 = .ok (.iconst 2, 1) := by decide +kernel
theorem d_L_law_426 : decode b_L_law 426 = .ok (.iadd, 1) := by decide +kernel
theorem d_L_law_427 : decode b_L_law 427 = .ok (.iaload, 1) := by decide +kernel
theorem d_L_law_428 : decode b_L_law 428 = .ok (.aload_n 0, 1) := by decide +kernel
theorem d_L_law_429 : decode b_L_law 429 = .ok (.iload 4, 2) := by decide +kernel
theorem d_L_law_431 : decode b_L_law 431 = .ok (.iconst 3, 1) := by decide +kernel
theorem d_L_law_432 : decode b_L_law 432 = .ok (.iadd, 1) := by decide +kernel
theorem d_L_law_433 : decode b_L_law 433 = .ok (.iaload, 1) := by decide +kernel
theorem d_L_law_434 : decode b_L_law 434 = .ok (.aload_n 0, 1) := by decide +kernel
theorem d_L_law_435 : decode b_L_law 435 = .ok (.iload 4, 2) := by decide +kernel
theorem d_L_law_437 : decode b_L_law 437 = .ok (.iconst 4, 1) := by decide +kernel
theorem d_L_law_438 : decode b_L_law 438 = .ok (.iadd, 1) := by decide +kernel
theorem d_L_law_439 : decode b_L_law 439 = .ok (.iaload, 1) := by decide +kernel
theorem d_L_law_440 : decode b_L_law 440 = .ok (.invokevirtual 103, 3) := by decide +kernel
theorem d_L_law_443 : decode b_L_law 443 = .ok (.istore 6, 2) := by decide +kernel
theorem d_L_law_445 : decode b_L_law 445 = .ok (.aload_n 2, 1) := by decide +kernel
theorem d_L_law_446 : decode b_L_law 446 = .ok (.invokevirtual 88, 3) := by decide +kernel
theorem d_L_law_449 : decode b_L_law 449 = .ok (.iload 5, 2) := by decide +kernel
theorem d_L_law_451 : decode b_L_law 451 = .ok (.if_icmp .eq 5, 3) := by decide +kernel
theorem d_L_law_454 : decode b_L_law 454 = .ok (.iconst 0, 1) := by decide +kernel
theorem d_L_law_455 : decode b_L_law 455 = .ok (.ireturn, 1) := by decide +kernel
theorem d_L_law_456 : decode b_L_law 456 = .ok (.iload 5, 2) := by decide +kernel
theorem d_L_law_458 : decode b_L_law 458 = .ok (.ifCond .ne 15, 3) := by decide +kernel
theorem d_L_law_461 : decode b_L_law 461 = .ok (.aload_n 3, 1) := by decide +kernel
theorem d_L_law_462 : decode b_L_law 462 = .ok (.iconst 0, 1) := by decide +kernel
theorem d_L_law_463 : decode b_L_law 463 = .ok (.laload, 1) := by decide +kernel
theorem d_L_law_464 : decode b_L_law 464 = .ok (.iload 6, 2) := by decide +kernel
theorem d_L_law_466 : decode b_L_law 466 = .ok (.i2l, 1) := by decide +kernel
theorem d_L_law_467 : decode b_L_law 467 = .ok (.lcmp, 1) := by decide +kernel
theorem d_L_law_468 : decode b_L_law 468 = .ok (.ifCond .eq 5, 3) := by decide +kernel
theorem d_L_law_471 : decode b_L_law 471 = .ok (.iconst 0, 1) := by decide +kernel
theorem d_L_law_472 : decode b_L_law 472 = .ok (.ireturn, 1) := by decide +kernel
theorem d_L_law_473 : decode b_L_law 473 = .ok (.goto 1076, 3) := by decide +kernel
theorem d_L_law_476 : decode b_L_law 476 = .ok (.aload_n 1, 1) := by decide +kernel
theorem d_L_law_477 : decode b_L_law 477 = .ok (.aload_n 0, 1) := by decide +kernel
theorem d_L_law_478 : decode b_L_law 478 = .ok (.iload 4, 2) := by decide +kernel
theorem d_L_law_480 : decode b_L_law 480 = .ok (.iconst 1, 1) := by decide +kernel
theorem d_L_law_481 : decode b_L_law 481 = .ok (.iadd, 1) := by decide +kernel
theorem d_L_law_482 : decode b_L_law 482 = .ok (.iaload, 1) := by decide +kernel
theorem d_L_law_483 : decode b_L_law 483 = .ok (.aload_n 0, 1) := by decide +kernel
theorem d_L_law_484 : decode b_L_law 484 = .ok (.iload 4, 2) := by decide +kernel
theorem d_L_law_486 : decode b_L_law 486 = .ok (.iconst 2, 1) := by decide +kernel
theorem d_L_law_487 : decode b_L_law 487 = .ok (.iadd, 1) := by decide +kernel
theorem d_L_law_488 : decode b_L_law 488 = .ok (.iaload, 1) := by decide +kernel
theorem d_L_law_489 : decode b_L_law 489 = .ok (.aload_n 0, 1) := by decide +kernel
theorem d_L_law_490 : decode b_L_law 490 = .ok (.iload 4, 2) := by decide +kernel
theorem d_L_law_492 : decode b_L_law 492 = .ok (.iconst 3, 1) := by decide +kernel
theorem d_L_law_493 : decode b_L_law 493 = .ok (.iadd, 1) := by decide +kernel
theorem d_L_law_494 : decode b_L_law 494 = .ok (.iaload, 1) := by decide +kernel
theorem d_L_law_495 : decode b_L_law 495 = .ok (.aload_n 3, 1) := by decide +kernel
theorem d_L_law_496 : decode b_L_law 496 = .ok (.invokestatic 104, 3) := by decide +kernel
theorem d_L_law_499 : decode b_L_law 499 = .ok (.istore 5, 2) := by decide +kernel
theorem d_L_law_501 : decode b_L_law 501 = .ok (.aload_n 2, 1) := by decide +kernel
theorem d_L_law_502 : decode b_L_law 502 = .ok (.aload_n 0, 1) := by decide +kernel
theorem d_L_law_503 : decode b_L_law 503 = .ok (.iload 4, 2) := by decide +kernel
theorem d_L_law_505 : decode b_L_law 505 = .ok (.iconst 1, 1) := by decide +kernel
theorem d_L_law_506 : decode b_L_law 506 = .ok (.iadd, 1) := by decide +kernel
theorem d_L_law_507 : decode b_L_law 507 = .ok (.iaload, 1) := by decide +kernel
theorem d_L_law_508 : decode b_L_law 508 = .ok (.aload_n 0, 1) := by decide +kernel
theorem d_L_law_509 : decode b_L_law 509 = .ok (.iload 4, 2) := by decide +kernel
theorem d_L_law_511 : decode b_L_law 511 = .ok (.iconst 2, 1) := by decide +kernel
theorem d_L_law_512 : decode b_L_law 512 = .ok (.iadd, 1) := by decide +kernel
theorem d_L_law_513 : decode b_L_law 513 = .ok (.iaload, 1) := by decide +kernel
theorem d_L_law_514 : decode b_L_law 514 = .ok (.aload_n 0, 1) := by decide +kernel
theorem d_L_law_515 : decode b_L_law 515 = .ok (.iload 4, 2) := by decide +kernel
theorem d_L_law_517 : decode b_L_law 517 = .ok (.iconst 3, 1) := by decide +kernel
theorem d_L_law_518 : decode b_L_law 518 = .ok (.iadd, 1) := by decide +kernel
theorem d_L_law_519 : decode b_L_law 519 = .ok (.iaload, 1) := by decide +kernel
theorem d_L_law_520 : decode b_L_law 520 = .ok (.invokevirtual 106, 3) := by decide +kernel
theorem d_L_law_523 : decode b_L_law 523 = .ok (.istore 6, 2) := by decide +kernel
theorem d_L_law_525 : decode b_L_law 525 = .ok (.aload_n 2, 1) := by decide +kernel
theorem d_L_law_526 : decode b_L_law 526 = .ok (.invokevirtual 88, 3) := by decide +kernel
theorem d_L_law_529 : decode b_L_law 529 = .ok (.iload 5, 2) := by decide +kernel
theorem d_L_law_531 : decode b_L_law 531 = .ok (.if_icmp .eq 5, 3) := by decide +kernel
theorem d_L_law_534 : decode b_L_law 534 = .ok (.iconst 0, 1) := by decide +kernel
theorem d_L_law_535 : decode b_L_law 535 = .ok (.ireturn, 1) := by decide +kernel
theorem d_L_law_536 : decode b_L_law 536 = .ok (.iload 5, 2) := by decide +kernel
theorem d_L_law_538 : decode b_L_law 538 = .ok (.ifCond .ne 15, 3) := by decide +kernel
theorem d_L_law_541 : decode b_L_law 541 = .ok (.aload_n 3, 1) := by decide +kernel
theorem d_L_law_542 : decode b_L_law 542 = .ok (.iconst 0, 1) := by decide +kernel
theorem d_L_law_543 : decode b_L_law 543 = .ok (.laload, 1) := by decide +kernel
theorem d_L_law_544 : decode b_L_law 544 = .ok (.iload 6, 2) := by decide +kernel
theorem d_L_law_546 : decode b_L_law 546 = .ok (.i2l, 1) := by decide +kernel
theorem d_L_law_547 : decode b_L_law 547 = .ok (.lcmp, 1) := by decide +kernel
theorem d_L_law_548 : decode b_L_law 548 = .ok (.ifCond .eq 5, 3) := by decide +kernel
theorem d_L_law_551 : decode b_L_law 551 = .ok (.iconst 0, 1) := by decide +kernel
theorem d_L_law_552 : decode b_L_law 552 = .ok (.ireturn, 1) := by decide +kernel
theorem d_L_law_553 : decode b_L_law 553 = .ok (.goto 996, 3) := by decide +kernel
theorem d_L_law_556 : decode b_L_law 556 = .ok (.aload_n 1, 1) := by decide +kernel
theorem d_L_law_557 : decode b_L_law 557 = .ok (.aload_n 0, 1) := by decide +kernel
theorem d_L_law_558 : decode b_L_law 558 = .ok (.iload 4, 2) := by decide +kernel
theorem d_L_law_560 : decode b_L_law 560 = .ok (.iconst 1, 1) := by decide +kernel
theorem d_L_law_561 : decode b_L_law 561 = .ok (.iadd, 1) := by decide +kernel
theorem d_L_law_562 : decode b_L_law 562 = .ok (.iaload, 1) := by decide +kernel
theorem d_L_law_563 : decode b_L_law 563 = .ok (.aload_n 0, 1) := by decide +kernel
theorem d_L_law_564 : decode b_L_law 564 = .ok (.iload 4, 2) := by decide +kernel
theorem d_L_law_566 : decode b_L_law 566 = .ok (.iconst 2, 1) := by decide +kernel
theorem d_L_law_567 : decode b_L_law 567 = .ok (.iadd, 1) := by decide +kernel
theorem d_L_law_568 : decode b_L_law 568 = .ok (.iaload, 1) := by decide +kernel
theorem d_L_law_569 : decode b_L_law 569 = .ok (.aload_n 3, 1) := by decide +kernel
theorem d_L_law_570 : decode b_L_law 570 = .ok (.invokestatic 107, 3) := by decide +kernel
theorem d_L_law_573 : decode b_L_law 573 = .ok (.istore 5, 2) := by decide +kernel
theorem d_L_law_575 : decode b_L_law 575 = .ok (.aload_n 2, 1) := by decide +kernel
theorem d_L_law_576 : decode b_L_law 576 = .ok (.aload_n 0, 1) := by decide +kernel
theorem d_L_law_577 : decode b_L_law 577 = .ok (.iload 4, 2) := by decide +kernel
theorem d_L_law_579 : decode b_L_law 579 = .ok (.iconst 1, 1) := by decide +kernel
theorem d_L_law_580 : decode b_L_law 580 = .ok (.iadd, 1) := by decide +kernel
theorem d_L_law_581 : decode b_L_law 581 = .ok (.iaload, 1) := by decide +kernel
theorem d_L_law_582 : decode b_L_law 582 = .ok (.aload_n 0, 1) := by decide +kernel
theorem d_L_law_583 : decode b_L_law 583 = .ok (.iload 4, 2) := by decide +kernel
theorem d_L_law_585 : decode b_L_law 585 = .ok (.iconst 2, 1) := by decide +kernel
theorem d_L_law_586 : decode b_L_law 586 = .ok (.iadd, 1) := by decide +kernel
theorem d_L_law_587 : decode b_L_law 587 = .ok (.iaload, 1) := by decide +kernel
theorem d_L_law_588 : decode b_L_law 588 = .ok (.invokevirtual 109, 3) := by decide +kernel
theorem d_L_law_591 : decode b_L_law 591 = .ok (.istore 6, 2) := by decide +kernel
theorem d_L_law_593 : decode b_L_law 593 = .ok (.aload_n 2, 1) := by decide +kernel
theorem d_L_law_594 : decode b_L_law 594 = .ok (.invokevirtual 88, 3) := by decide +kernel
theorem d_L_law_597 : decode b_L_law 597 = .ok (.iload 5, 2) := by decide +kernel
theorem d_L_law_599 : decode b_L_law 599 = .ok (.if_icmp .eq 5, 3) := by decide +kernel
theorem d_L_law_602 : decode b_L_law 602 = .ok (.iconst 0, 1) := by decide +kernel
theorem d_L_law_603 : decode b_L_law 603 = .ok (.ireturn, 1) := by decide +kernel
theorem d_L_law_604 : decode b_L_law 604 = .ok (.iload 5, 2) := by decide +kernel
theorem d_L_law_606 : decode b_L_law 606 = .ok (.ifCond .ne 15, 3) := by decide +kernel
theorem d_L_law_609 : decode b_L_law 609 = .ok (.aload_n 3, 1) := by decide +kernel
theorem d_L_law_610 : decode b_L_law 610 = .ok (.iconst 0, 1) := by decide +kernel
theorem d_L_law_611 : decode b_L_law 611 = .ok (.laload, 1) := by decide +kernel
theorem d_L_law_612 : decode b_L_law 612 = .ok (.iload 6, 2) := by decide +kernel
theorem d_L_law_614 : decode b_L_law 614 = .ok (.i2l, 1) := by decide +kernel
theorem d_L_law_615 : decode b_L_law 615 = .ok (.lcmp, 1) := by decide +kernel
theorem d_L_law_616 : decode b_L_law 616 = .ok (.ifCond .eq 5, 3) := by decide +kernel
theorem d_L_law_619 : decode b_L_law 619 = .ok (.iconst 0, 1) := by decide +kernel
theorem d_L_law_620 : decode b_L_law 620 = .ok (.ireturn, 1) := by decide +kernel
theorem d_L_law_621 : decode b_L_law 621 = .ok (.goto 928, 3) := by decide +kernel
theorem d_L_law_624 : decode b_L_law 624 = .ok (.aload_n 1, 1) := by decide +kernel
theorem d_L_law_625 : decode b_L_law 625 = .ok (.aload_n 0, 1) := by decide +kernel
theorem d_L_law_626 : decode b_L_law 626 = .ok (.iload 4, 2) := by decide +kernel
theorem d_L_law_628 : decode b_L_law 628 = .ok (.iconst 1, 1) := by decide +kernel
theorem d_L_law_629 : decode b_L_law 629 = .ok (.iadd, 1) := by decide +kernel
theorem d_L_law_630 : decode b_L_law 630 = .ok (.iaload, 1) := by decide +kernel
theorem d_L_law_631 : decode b_L_law 631 = .ok (.aload_n 0, 1) := by decide +kernel
theorem d_L_law_632 : decode b_L_law 632 = .ok (.iload 4, 2) := by decide +kernel
theorem d_L_law_634 : decode b_L_law 634 = .ok (.iconst 2, 1) := by decide +kernel
theorem d_L_law_635 : decode b_L_law 635 = .ok (.iadd, 1) := by decide +kernel
theorem d_L_law_636 : decode b_L_law 636 = .ok (.iaload, 1) := by decide +kernel
theorem d_L_law_637 : decode b_L_law 637 = .ok (.aload_n 0, 1) := by decide +kernel
theorem d_L_law_638 : decode b_L_law 638 = .ok (.iload 4, 2) := by decide +kernel
theorem d_L_law_640 : decode b_L_law 640 = .ok (.iconst 3, 1) := by decide +kernel
theorem d_L_law_641 : decode b_L_law 641 = .ok (.iadd, 1) := by decide +kernel
theorem d_L_law_642 : decode b_L_law 642 = .ok (.iaload, 1) := by decide +kernel
theorem d_L_law_643 : decode b_L_law 643 = .ok (.aload_n 3, 1) := by decide +kernel
theorem d_L_law_644 : decode b_L_law 644 = .ok (.invokestatic 110, 3) := by decide +kernel
theorem d_L_law_647 : decode b_L_law 647 = .ok (.istore 5, 2) := by decide +kernel
theorem d_L_law_649 : decode b_L_law 649 = .ok (.aload_n 2, 1) := by decide +kernel
theorem d_L_law_650 : decode b_L_law 650 = .ok (.aload_n 0, 1) := by decide +kernel
theorem d_L_law_651 : decode b_L_law 651 = .ok (.iload 4, 2) := by decide +kernel
theorem d_L_law_653 : decode b_L_law 653 = .ok (.iconst 1, 1) := by decide +kernel
theorem d_L_law_654 : decode b_L_law 654 = .ok (.iadd, 1) := by decide +kernel
theorem d_L_law_655 : decode b_L_law 655 = .ok (.iaload, 1) := by decide +kernel
theorem d_L_law_656 : decode b_L_law 656 = .ok (.aload_n 0, 1) := by decide +kernel
theorem d_L_law_657 : decode b_L_law 657 = .ok (.iload 4, 2) := by decide +kernel
theorem d_L_law_659 : decode b_L_law 659 = .ok (.iconst 2, 1) := by decide +kernel
theorem d_L_law_660 : decode b_L_law 660 = .ok (.iadd, 1) := by decide +kernel
theorem d_L_law_661 : decode b_L_law 661 = .ok (.iaload, 1) := by decide +kernel
theorem d_L_law_662 : decode b_L_law 662 = .ok (.aload_n 0, 1) := by decide +kernel
theorem d_L_law_663 : decode b_L_law 663 = .ok (.iload 4, 2) := by decide +kernel
theorem d_L_law_665 : decode b_L_law 665 = .ok (.iconst 3, 1) := by decide +kernel
theorem d_L_law_666 : decode b_L_law 666 = .ok (.iadd, 1) := by decide +kernel
theorem d_L_law_667 : decode b_L_law 667 = .ok (.iaload, 1) := by decide +kernel
theorem d_L_law_668 : decode b_L_law 668 = .ok (.invokevirtual 112, 3) := by decide +kernel
theorem d_L_law_671 : decode b_L_law 671 = .ok (.istore 6, 2) := by decide +kernel
theorem d_L_law_673 : decode b_L_law 673 = .ok (.aload_n 2, 1) := by decide +kernel
theorem d_L_law_674 : decode b_L_law 674 = .ok (.invokevirtual 88, 3) := by decide +kernel
theorem d_L_law_677 : decode b_L_law 677 = .ok (.iload 5, 2) := by decide +kernel
theorem d_L_law_679 : decode b_L_law 679 = .ok (.if_icmp .eq 5, 3) := by decide +kernel
theorem d_L_law_682 : decode b_L_law 682 = .ok (.iconst 0, 1) := by decide +kernel
theorem d_L_law_683 : decode b_L_law 683 = .ok (.ireturn, 1) := by decide +kernel
theorem d_L_law_684 : decode b_L_law 684 = .ok (.iload 5, 2) := by decide +kernel
theorem d_L_law_686 : decode b_L_law 686 = .ok (.ifCond .ne 15, 3) := by decide +kernel
theorem d_L_law_689 : decode b_L_law 689 = .ok (.aload_n 3, 1) := by decide +kernel
theorem d_L_law_690 : decode b_L_law 690 = .ok (.iconst 0, 1) := by decide +kernel
theorem d_L_law_691 : decode b_L_law 691 = .ok (.laload, 1) := by decide +kernel
theorem d_L_law_692 : decode b_L_law 692 = .ok (.iload 6, 2) := by decide +kernel
theorem d_L_law_694 : decode b_L_law 694 = .ok (.i2l, 1) := by decide +kernel
theorem d_L_law_695 : decode b_L_law 695 = .ok (.lcmp, 1) := by decide +kernel
theorem d_L_law_696 : decode b_L_law 696 = .ok (.ifCond .eq 5, 3) := by decide +kernel
theorem d_L_law_699 : decode b_L_law 699 = .ok (.iconst 0, 1) := by decide +kernel
theorem d_L_law_700 : decode b_L_law 700 = .ok (.ireturn, 1) := by decide +kernel
theorem d_L_law_701 : decode b_L_law 701 = .ok (.goto 848, 3) := by decide +kernel
theorem d_L_law_704 : decode b_L_law 704 = .ok (.aload_n 1, 1) := by decide +kernel
theorem d_L_law_705 : decode b_L_law 705 = .ok (.aload_n 0, 1) := by decide +kernel
theorem d_L_law_706 : decode b_L_law 706 = .ok (.iload 4, 2) := by decide +kernel
theorem d_L_law_708 : decode b_L_law 708 = .ok (.iconst 1, 1) := by decide +kernel
theorem d_L_law_709 : decode b_L_law 709 = .ok (.iadd, 1) := by decide +kernel
theorem d_L_law_710 : decode b_L_law 710 = .ok (.iaload, 1) := by decide +kernel
theorem d_L_law_711 : decode b_L_law 711 = .ok (.aload_n 0, 1) := by decide +kernel
theorem d_L_law_712 : decode b_L_law 712 = .ok (.iload 4, 2) := by decide +kernel
theorem d_L_law_714 : decode b_L_law 714 = .ok (.iconst 2, 1) := by decide +kernel
theorem d_L_law_715 : decode b_L_law 715 = .ok (.iadd, 1) := by decide +kernel
theorem d_L_law_716 : decode b_L_law 716 = .ok (.iaload, 1) := by decide +kernel
theorem d_L_law_717 : decode b_L_law 717 = .ok (.aload_n 3, 1) := by decide +kernel
theorem d_L_law_718 : decode b_L_law 718 = .ok (.invokestatic 113, 3) := by decide +kernel
theorem d_L_law_721 : decode b_L_law 721 = .ok (.istore 5, 2) := by decide +kernel
theorem d_L_law_723 : decode b_L_law 723 = .ok (.aload_n 2, 1) := by decide +kernel
theorem d_L_law_724 : decode b_L_law 724 = .ok (.aload_n 0, 1) := by decide +kernel
theorem d_L_law_725 : decode b_L_law 725 = .ok (.iload 4, 2) := by decide +kernel
theorem d_L_law_727 : decode b_L_law 727 = .ok (.iconst 1, 1) := by decide +kernel
theorem d_L_law_728 : decode b_L_law 728 = .ok (.iadd, 1) := by decide +kernel
theorem d_L_law_729 : decode b_L_law 729 = .ok (.iaload, 1) := by decide +kernel
theorem d_L_law_730 : decode b_L_law 730 = .ok (.aload_n 0, 1) := by decide +kernel
theorem d_L_law_731 : decode b_L_law 731 = .ok (.iload 4, 2) := by decide +kernel
theorem d_L_law_733 : decode b_L_law 733 = .ok (.iconst 2, 1) := by decide +kernel
theorem d_L_law_734 : decode b_L_law 734 = .ok (.iadd, 1) := by decide +kernel
theorem d_L_law_735 : decode b_L_law 735 = .ok (.iaload, 1) := by decide +kernel
theorem d_L_law_736 : decode b_L_law 736 = .ok (.invokevirtual 115, 3) := by decide +kernel
theorem d_L_law_739 : decode b_L_law 739 = .ok (.istore 6, 2) := by decide +kernel
theorem d_L_law_741 : decode b_L_law 741 = .ok (.aload_n 2, 1) := by decide +kernel
theorem d_L_law_742 : decode b_L_law 742 = .ok (.invokevirtual 88, 3) := by decide +kernel
theorem d_L_law_745 : decode b_L_law 745 = .ok (.iload 5, 2) := by decide +kernel
theorem d_L_law_747 : decode b_L_law 747 = .ok (.if_icmp .eq 5, 3) := by decide +kernel
theorem d_L_law_750 : decode b_L_law 750 = .ok (.iconst 0, 1) := by decide +kernel
theorem d_L_law_751 : decode b_L_law 751 = .ok (.ireturn, 1) := by decide +kernel
theorem d_L_law_752 : decode b_L_law 752 = .ok (.iload 5, 2) := by decide +kernel
theorem d_L_law_754 : decode b_L_law 754 = .ok (.ifCond .ne 15, 3) := by decide +kernel
theorem d_L_law_757 : decode b_L_law 757 = .ok (.aload_n 3, 1) := by decide +kernel
theorem d_L_law_758 : decode b_L_law 758 = .ok (.iconst 0, 1) := by decide +kernel
theorem d_L_law_759 : decode b_L_law 759 = .ok (.laload, 1) := by decide +kernel
theorem d_L_law_760 : decode b_L_law 760 = .ok (.iload 6, 2) := by decide +kernel
theorem d_L_law_762 : decode b_L_law 762 = .ok (.i2l, 1) := by decide +kernel
theorem d_L_law_763 : decode b_L_law 763 = .ok (.lcmp, 1) := by decide +kernel
theorem d_L_law_764 : decode b_L_law 764 = .ok (.ifCond .eq 5, 3) := by decide +kernel
theorem d_L_law_767 : decode b_L_law 767 = .ok (.iconst 0, 1) := by decide +kernel
theorem d_L_law_768 : decode b_L_law 768 = .ok (.ireturn, 1) := by decide +kernel
theorem d_L_law_769 : decode b_L_law 769 = .ok (.goto 780, 3) := by decide +kernel
theorem d_L_law_772 : decode b_L_law 772 = .ok (.aload_n 1, 1) := by decide +kernel
theorem d_L_law_773 : decode b_L_law 773 = .ok (.aload_n 0, 1) := by decide +kernel
theorem d_L_law_774 : decode b_L_law 774 = .ok (.iload 4, 2) := by decide +kernel
theorem d_L_law_776 : decode b_L_law 776 = .ok (.iconst 1, 1) := by decide +kernel
theorem d_L_law_777 : decode b_L_law 777 = .ok (.iadd, 1) := by decide +kernel
theorem d_L_law_778 : decode b_L_law 778 = .ok (.iaload, 1) := by decide +kernel
theorem d_L_law_779 : decode b_L_law 779 = .ok (.aload_n 0, 1) := by decide +kernel
theorem d_L_law_780 : decode b_L_law 780 = .ok (.iload 4, 2) := by decide +kernel
theorem d_L_law_782 : decode b_L_law 782 = .ok (.iconst 2, 1) := by decide +kernel
theorem d_L_law_783 : decode b_L_law 783 = .ok (.iadd, 1) := by decide +kernel
theorem d_L_law_784 : decode b_L_law 784 = .ok (.iaload, 1) := by decide +kernel
theorem d_L_law_785 : decode b_L_law 785 = .ok (.aload_n 3, 1) := by decide +kernel
theorem d_L_law_786 : decode b_L_law 786 = .ok (.invokestatic 116, 3) := by decide +kernel
theorem d_L_law_789 : decode b_L_law 789 = .ok (.istore 5, 2) := by decide +kernel
theorem d_L_law_791 : decode b_L_law 791 = .ok (.aload_n 2, 1) := by decide +kernel
theorem d_L_law_792 : decode b_L_law 792 = .ok (.aload_n 0, 1) := by decide +kernel
theorem d_L_law_793 : decode b_L_law 793 = .ok (.iload 4, 2) := by decide +kernel
theorem d_L_law_795 : decode b_L_law 795 = .ok (.iconst 1, 1) := by decide +kernel
theorem d_L_law_796 : decode b_L_law 796 = .ok (.iadd, 1) := by decide +kernel
theorem d_L_law_797 : decode b_L_law 797 = .ok (.iaload, 1) := by decide +kernel
theorem d_L_law_798 : decode b_L_law 798 = .ok (.aload_n 0, 1) := by decide +kernel
theorem d_L_law_799 : decode b_L_law 799 = .ok (.iload 4, 2) := by decide +kernel
theorem d_L_law_801 : decode b_L_law 801 = .ok (.iconst 2, 1) := by decide +kernel
theorem d_L_law_802 : decode b_L_law 802 = .ok (.iadd, 1) := by decide +kernel
theorem d_L_law_803 : decode b_L_law 803 = .ok (.iaload, 1) := by decide +kernel
theorem d_L_law_804 : decode b_L_law 804 = .ok (.invokevirtual 118, 3) := by decide +kernel
theorem d_L_law_807 : decode b_L_law 807 = .ok (.istore 6, 2) := by decide +kernel
theorem d_L_law_809 : decode b_L_law 809 = .ok (.aload_n 2, 1) := by decide +kernel
theorem d_L_law_810 : decode b_L_law 810 = .ok (.invokevirtual 88, 3) := by decide +kernel
theorem d_L_law_813 : decode b_L_law 813 = .ok (.iload 5, 2) := by decide +kernel
theorem d_L_law_815 : decode b_L_law 815 = .ok (.if_icmp .eq 5, 3) := by decide +kernel
theorem d_L_law_818 : decode b_L_law 818 = .ok (.iconst 0, 1) := by decide +kernel
theorem d_L_law_819 : decode b_L_law 819 = .ok (.ireturn, 1) := by decide +kernel
theorem d_L_law_820 : decode b_L_law 820 = .ok (.iload 5, 2) := by decide +kernel
theorem d_L_law_822 : decode b_L_law 822 = .ok (.ifCond .ne 15, 3) := by decide +kernel
