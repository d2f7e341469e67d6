section LAW
variable {S : List (Nat × Nat)} {F : Nat → Nat → Option Nat} {L : Nat → Nat → Int64} {I : Nat → Nat → Int32} {σ : ai_S} {n : Nat} {xs : Nat → Int32} {Q : Option Value → ai_H → Prop} {ls : ai_L} {st : List Value} {pc : Nat}
theorem la_ld (pc2 : Nat) (hp : pc + 1 = pc2) {t : Nat} (hd : decode (ai_b 179) pc = .ok (.iaload, 1)) (ht : t < n) (hn : n ≤ 3072) (hk : ai_Ev (some (n, xs)) 179 pc2 ls (.int (xs t) :: st) (S, I, L, F) Q) : ai_Ev (some (n, xs)) 179 pc ls (.int (nI t) :: .ref 0 :: st) (S, I, L, F) Q := by
  subst hp
  refine ai_Ev_step (h' := (S, I, L, F)) (pc' := pc + 1) (ls' := ls) (st' := .int (xs t) :: st) hd ?_ ⟨Nat.le_refl _, Nat.le_refl _⟩ hk
  simp only [ai_op, ai_i1, ai_r1]
  rw [if_pos (by trivial)]
  simp only [ai_xs]
  rw [if_neg (ai_inN ht (by omega)), nI_clamp (by omega)]
  simp [ai_o2, ai_nx]
theorem la_len (pc2 : Nat) (hp : pc + 1 = pc2) (hd : decode (ai_b 179) pc = .ok (.arraylength, 1)) (hk : ai_Ev (some (n, xs)) 179 pc2 ls (.int (nI n) :: st) (S, I, L, F) Q) : ai_Ev (some (n, xs)) 179 pc ls (.ref 0 :: st) (S, I, L, F) Q := by
  subst hp
  refine ai_Ev_step (h' := (S, I, L, F)) (pc' := pc + 1) (ls' := ls) (st' := .int (nI n) :: st) hd ?_ ⟨Nat.le_refl _, Nat.le_refl _⟩ hk
  simp only [ai_op, ai_r1]
  rw [if_pos (by trivial)]
  simp only [ai_nx]
  rfl
theorem la_gt {i : Nat} (hi : i < 2147483648) (hn : n ≤ 3072) : ai_cond .gt (nI i) (nI n - nI 6) = true ↔ n < i + 6 := by
  have e : (nI n - nI 6).toInt = (n : Int) - 6 := by
    rw [Int32.toInt_sub, nI_ti (by omega), nI_ti (by omega)]
    exact Int.bmod_eq_of_le (by omega) (by omega)
  rw [cz_gt, Int32.lt_iff_toInt_lt, e, nI_ti hi]; omega
theorem la_eq {v : Int32} : ai_cond .eq v v = true := cz_eq.mpr rfl
theorem la_cmp {v : Int64} : lg_cmp v v = nI 0 := by
  unfold lg_cmp
  rw [if_neg (Int64.lt_irrefl), if_pos rfl]; rfl
def la_Q (S : List (Nat × Nat)) : Option Value → ai_H → Prop := fun r h => r = some (.int (nI 1)) ∧ h.1 = S
def la_ls (i : Nat) : ai_L := [some (.ref 0), some (.ref 1), some (.ref 572), some (.int (nI i))]
theorem la_k0 (G : ai_G S F) (hX : ai_RX σ I L) (hM : ai_RM σ I L) (hV : ai_IV σ) {i : Nat} (hn : n ≤ 3072) (hi : i + 6 ≤ n) (hk : ∀ (σ2 : ai_S) (I2 : Nat → Nat → Int32) (L2 : Nat → Nat → Int64), ai_RX σ2 I2 L2 → ai_RM σ2 I2 L2 → ai_IV σ2 → ai_Ev (some (n, xs)) 179 1282 (la_ls i) [] (S, I2, L2, F) Q) : ai_Ev (some (n, xs)) 179 172 (la_ls i) [] (S, I, L, F) Q := by
  unfold la_ls at hk ⊢
  refine ev_aload_n 173 rfl d179_172 rfl ?_
  refine ev_aload_n 174 rfl d179_173 rfl ?_
  refine ev_iload_n 175 rfl d179_174 rfl ?_
  refine ev_iconst (v := nI 1) 176 rfl d179_175 (by decide) ?_
  refine ev_iadd (v := nI (i + 1)) 177 rfl d179_176 (nI_add _ _) ?_
  refine la_ld 178 rfl d179_177 (by omega) hn ?_
  refine ev_aload_n 179 rfl d179_178 rfl ?_
  refine ev_iload_n 180 rfl d179_179 rfl ?_
  refine ev_iconst (v := nI 2) 181 rfl d179_180 (by decide) ?_
  refine ev_iadd (v := nI (i + 2)) 182 rfl d179_181 (nI_add _ _) ?_
  refine la_ld 183 rfl d179_182 (by omega) hn ?_
  refine ev_aload_n 184 rfl d179_183 rfl ?_
  refine ev_iload_n 185 rfl d179_184 rfl ?_
  refine ev_iconst (v := nI 3) 186 rfl d179_185 (by decide) ?_
  refine ev_iadd (v := nI (i + 3)) 187 rfl d179_186 (nI_add _ _) ?_
  refine la_ld 188 rfl d179_187 (by omega) hn ?_
  refine ev_cv3 191 rfl 53 d179_188 rfl rfl (by rw [G.1 _ _ (rfl : ai_sp 1 = (8, 0)) (by decide) (by decide)]; rfl) (by decide) rfl (x_row G hX hV) ?_
  rintro _ _ ⟨I2, L2, rfl, rfl, hX2, hf⟩
  show ai_Ev _ _ _ _ (.int _ :: []) _ _
  refine ev_aload_n 192 rfl d179_191 rfl ?_
  refine ev_aload_n 193 rfl d179_192 rfl ?_
  refine ev_iload_n 194 rfl d179_193 rfl ?_
  refine ev_iconst (v := nI 1) 195 rfl d179_194 (by decide) ?_
  refine ev_iadd (v := nI (i + 1)) 196 rfl d179_195 (nI_add _ _) ?_
  refine la_ld 197 rfl d179_196 (by omega) hn ?_
  refine ev_aload_n 198 rfl d179_197 rfl ?_
  refine ev_iload_n 199 rfl d179_198 rfl ?_
  refine ev_iconst (v := nI 2) 200 rfl d179_199 (by decide) ?_
  refine ev_iadd (v := nI (i + 2)) 201 rfl d179_200 (nI_add _ _) ?_
  refine la_ld 202 rfl d179_201 (by omega) hn ?_
  refine ev_aload_n 203 rfl d179_202 rfl ?_
  refine ev_iload_n 204 rfl d179_203 rfl ?_
  refine ev_iconst (v := nI 3) 205 rfl d179_204 (by decide) ?_
  refine ev_iadd (v := nI (i + 3)) 206 rfl d179_205 (nI_add _ _) ?_
  refine la_ld 207 rfl d179_206 (by omega) hn ?_
  refine ev_cv3 210 rfl 119 d179_207 rfl rfl (by rw [G.1 _ _ (rfl : ai_sp 572 = (9, 0)) (by decide) (by decide)]; rfl) (by decide) rfl (m_row G (rm_hi hM hf) hV) ?_
  rintro _ _ ⟨I3, L3, rfl, rfl, hM3, hg⟩
  show ai_Ev _ _ _ _ (.int _ :: .int _ :: []) _ _
  refine ev_icmp_T 1282 (by decide) la_eq d179_210 ?_
  exact hk _ I3 L3 (rx_lo hX2 hg) hM3 (i_row hV)
theorem la_k1 (G : ai_G S F) (hX : ai_RX σ I L) (hM : ai_RM σ I L) (hV : ai_IV σ) {i : Nat} (hn : n ≤ 3072) (hi : i + 6 ≤ n) (hk : ∀ (σ2 : ai_S) (I2 : Nat → Nat → Int32) (L2 : Nat → Nat → Int64), ai_RX σ2 I2 L2 → ai_RM σ2 I2 L2 → ai_IV σ2 → ai_Ev (some (n, xs)) 179 1282 (la_ls i) [] (S, I2, L2, F) Q) : ai_Ev (some (n, xs)) 179 215 (la_ls i) [] (S, I, L, F) Q := by
  unfold la_ls at hk ⊢
  refine ev_aload_n 216 rfl d179_215 rfl ?_
  refine ev_aload_n 217 rfl d179_216 rfl ?_
  refine ev_iload_n 218 rfl d179_217 rfl ?_
  refine ev_iconst (v := nI 1) 219 rfl d179_218 (by decide) ?_
  refine ev_iadd (v := nI (i + 1)) 220 rfl d179_219 (nI_add _ _) ?_
  refine la_ld 221 rfl d179_220 (by omega) hn ?_
  refine ev_aload_n 222 rfl d179_221 rfl ?_
  refine ev_iload_n 223 rfl d179_222 rfl ?_
  refine ev_iconst (v := nI 2) 224 rfl d179_223 (by decide) ?_
  refine ev_iadd (v := nI (i + 2)) 225 rfl d179_224 (nI_add _ _) ?_
  refine la_ld 226 rfl d179_225 (by omega) hn ?_
  refine ev_aload_n 227 rfl d179_226 rfl ?_
  refine ev_iload_n 228 rfl d179_227 rfl ?_
  refine ev_iconst (v := nI 3) 229 rfl d179_228 (by decide) ?_
  refine ev_iadd (v := nI (i + 3)) 230 rfl d179_229 (nI_add _ _) ?_
  refine la_ld 231 rfl d179_230 (by omega) hn ?_
  refine ev_i2l (v := (xs (i + 3)).toInt64) 232 rfl d179_231 rfl ?_
  refine ev_bipush (v := nI 32) 234 rfl d179_232 (by decide) ?_
  refine ev_lshl (v := (xs (i + 3)).toInt64 <<< ((nI 32).toInt64 &&& 63)) 235 rfl d179_234 rfl ?_
  refine ev_aload_n 236 rfl d179_235 rfl ?_
  refine ev_iload_n 237 rfl d179_236 rfl ?_
  refine ev_iconst (v := nI 4) 238 rfl d179_237 (by decide) ?_
  refine ev_iadd (v := nI (i + 4)) 239 rfl d179_238 (nI_add _ _) ?_
  refine la_ld 240 rfl d179_239 (by omega) hn ?_
  refine ev_i2l (v := (xs (i + 4)).toInt64) 241 rfl d179_240 rfl ?_
  refine ev_ldc2 (v := 4294967295) 244 rfl d179_241 (by decide) ?_
  refine ev_land (v := (xs (i + 4)).toInt64 &&& 4294967295) 245 rfl d179_244 rfl ?_
  refine ev_lor (v := ((xs (i + 3)).toInt64 <<< ((nI 32).toInt64 &&& 63)) ||| ((xs (i + 4)).toInt64 &&& 4294967295)) 246 rfl d179_245 rfl ?_
  refine ev_cv3 249 rfl 54 d179_246 rfl rfl (by rw [G.1 _ _ (rfl : ai_sp 1 = (8, 0)) (by decide) (by decide)]; rfl) (by decide) rfl (x_set G hX hV) ?_
  rintro _ _ ⟨I2, L2, rfl, rfl, hX2, hf⟩
  show ai_Ev _ _ _ _ (.int _ :: []) _ _
  refine ev_aload_n 250 rfl d179_249 rfl ?_
  refine ev_aload_n 251 rfl d179_250 rfl ?_
  refine ev_iload_n 252 rfl d179_251 rfl ?_
  refine ev_iconst (v := nI 1) 253 rfl d179_252 (by decide) ?_
  refine ev_iadd (v := nI (i + 1)) 254 rfl d179_253 (nI_add _ _) ?_
  refine la_ld 255 rfl d179_254 (by omega) hn ?_
  refine ev_aload_n 256 rfl d179_255 rfl ?_
  refine ev_iload_n 257 rfl d179_256 rfl ?_
  refine ev_iconst (v := nI 2) 258 rfl d179_257 (by decide) ?_
  refine ev_iadd (v := nI (i + 2)) 259 rfl d179_258 (nI_add _ _) ?_
  refine la_ld 260 rfl d179_259 (by omega) hn ?_
  refine ev_aload_n 261 rfl d179_260 rfl ?_
  refine ev_iload_n 262 rfl d179_261 rfl ?_
  refine ev_iconst (v := nI 3) 263 rfl d179_262 (by decide) ?_
  refine ev_iadd (v := nI (i + 3)) 264 rfl d179_263 (nI_add _ _) ?_
  refine la_ld 265 rfl d179_264 (by omega) hn ?_
  refine ev_i2l (v := (xs (i + 3)).toInt64) 266 rfl d179_265 rfl ?_
  refine ev_bipush (v := nI 32) 268 rfl d179_266 (by decide) ?_
  refine ev_lshl (v := (xs (i + 3)).toInt64 <<< ((nI 32).toInt64 &&& 63)) 269 rfl d179_268 rfl ?_
  refine ev_aload_n 270 rfl d179_269 rfl ?_
  refine ev_iload_n 271 rfl d179_270 rfl ?_
  refine ev_iconst (v := nI 4) 272 rfl d179_271 (by decide) ?_
  refine ev_iadd (v := nI (i + 4)) 273 rfl d179_272 (nI_add _ _) ?_
  refine la_ld 274 rfl d179_273 (by omega) hn ?_
  refine ev_i2l (v := (xs (i + 4)).toInt64) 275 rfl d179_274 rfl ?_
  refine ev_ldc2 (v := 4294967295) 278 rfl d179_275 (by decide) ?_
  refine ev_land (v := (xs (i + 4)).toInt64 &&& 4294967295) 279 rfl d179_278 rfl ?_
  refine ev_lor (v := ((xs (i + 3)).toInt64 <<< ((nI 32).toInt64 &&& 63)) ||| ((xs (i + 4)).toInt64 &&& 4294967295)) 280 rfl d179_279 rfl ?_
  refine ev_cv3 283 rfl 120 d179_280 rfl rfl (by rw [G.1 _ _ (rfl : ai_sp 572 = (9, 0)) (by decide) (by decide)]; rfl) (by decide) rfl (m_set G (rm_hi hM hf) hV) ?_
  rintro _ _ ⟨I3, L3, rfl, rfl, hM3, hg⟩
  show ai_Ev _ _ _ _ (.int _ :: .int _ :: []) _ _
  refine ev_icmp_T 1282 (by decide) la_eq d179_283 ?_
  exact hk _ I3 L3 (rx_lo hX2 hg) hM3 (i_set hV)
theorem la_k2 (G : ai_G S F) (hX : ai_RX σ I L) (hM : ai_RM σ I L) (hV : ai_IV σ) {i : Nat} (hn : n ≤ 3072) (hi : i + 6 ≤ n) (hk : ∀ (σ2 : ai_S) (I2 : Nat → Nat → Int32) (L2 : Nat → Nat → Int64), ai_RX σ2 I2 L2 → ai_RM σ2 I2 L2 → ai_IV σ2 → ai_Ev (some (n, xs)) 179 1282 (la_ls i) [] (S, I2, L2, F) Q) : ai_Ev (some (n, xs)) 179 288 (la_ls i) [] (S, I, L, F) Q := by
  unfold la_ls at hk ⊢
  refine ev_aload_n 289 rfl d179_288 rfl ?_
  refine ev_aload_n 290 rfl d179_289 rfl ?_
  refine ev_iload_n 291 rfl d179_290 rfl ?_
  refine ev_iconst (v := nI 1) 292 rfl d179_291 (by decide) ?_
  refine ev_iadd (v := nI (i + 1)) 293 rfl d179_292 (nI_add _ _) ?_
  refine la_ld 294 rfl d179_293 (by omega) hn ?_
  refine ev_aload_n 295 rfl d179_294 rfl ?_
  refine ev_iload_n 296 rfl d179_295 rfl ?_
  refine ev_iconst (v := nI 2) 297 rfl d179_296 (by decide) ?_
  refine ev_iadd (v := nI (i + 2)) 298 rfl d179_297 (nI_add _ _) ?_
  refine la_ld 299 rfl d179_298 (by omega) hn ?_
  refine ev_aload_n 300 rfl d179_299 rfl ?_
  refine ev_iload_n 301 rfl d179_300 rfl ?_
  refine ev_iconst (v := nI 3) 302 rfl d179_301 (by decide) ?_
  refine ev_iadd (v := nI (i + 3)) 303 rfl d179_302 (nI_add _ _) ?_
  refine la_ld 304 rfl d179_303 (by omega) hn ?_
  refine ev_aload_n 305 rfl d179_304 rfl ?_
  refine ev_iload_n 306 rfl d179_305 rfl ?_
  refine ev_iconst (v := nI 4) 307 rfl d179_306 (by decide) ?_
  refine ev_iadd (v := nI (i + 4)) 308 rfl d179_307 (nI_add _ _) ?_
  refine la_ld 309 rfl d179_308 (by omega) hn ?_
  refine ev_aload_n 310 rfl d179_309 rfl ?_
  refine ev_iload_n 311 rfl d179_310 rfl ?_
  refine ev_iconst (v := nI 5) 312 rfl d179_311 (by decide) ?_
  refine ev_iadd (v := nI (i + 5)) 313 rfl d179_312 (nI_add _ _) ?_
  refine la_ld 314 rfl d179_313 (by omega) hn ?_
  refine ev_cv5 317 rfl 55 d179_314 rfl rfl (by rw [G.1 _ _ (rfl : ai_sp 1 = (8, 0)) (by decide) (by decide)]; rfl) (by decide) rfl (x_copy G hX hV) ?_
  rintro _ _ ⟨I2, L2, rfl, rfl, hX2, hf⟩
  show ai_Ev _ _ _ _ (.int _ :: []) _ _
  refine ev_aload_n 318 rfl d179_317 rfl ?_
  refine ev_aload_n 319 rfl d179_318 rfl ?_
  refine ev_iload_n 320 rfl d179_319 rfl ?_
  refine ev_iconst (v := nI 1) 321 rfl d179_320 (by decide) ?_
  refine ev_iadd (v := nI (i + 1)) 322 rfl d179_321 (nI_add _ _) ?_
  refine la_ld 323 rfl d179_322 (by omega) hn ?_
  refine ev_aload_n 324 rfl d179_323 rfl ?_
  refine ev_iload_n 325 rfl d179_324 rfl ?_
  refine ev_iconst (v := nI 2) 326 rfl d179_325 (by decide) ?_
  refine ev_iadd (v := nI (i + 2)) 327 rfl d179_326 (nI_add _ _) ?_
  refine la_ld 328 rfl d179_327 (by omega) hn ?_
  refine ev_aload_n 329 rfl d179_328 rfl ?_
  refine ev_iload_n 330 rfl d179_329 rfl ?_
  refine ev_iconst (v := nI 3) 331 rfl d179_330 (by decide) ?_
  refine ev_iadd (v := nI (i + 3)) 332 rfl d179_331 (nI_add _ _) ?_
  refine la_ld 333 rfl d179_332 (by omega) hn ?_
  refine ev_aload_n 334 rfl d179_333 rfl ?_
  refine ev_iload_n 335 rfl d179_334 rfl ?_
  refine ev_iconst (v := nI 4) 336 rfl d179_335 (by decide) ?_
  refine ev_iadd (v := nI (i + 4)) 337 rfl d179_336 (nI_add _ _) ?_
  refine la_ld 338 rfl d179_337 (by omega) hn ?_
  refine ev_aload_n 339 rfl d179_338 rfl ?_
  refine ev_iload_n 340 rfl d179_339 rfl ?_
  refine ev_iconst (v := nI 5) 341 rfl d179_340 (by decide) ?_
  refine ev_iadd (v := nI (i + 5)) 342 rfl d179_341 (nI_add _ _) ?_
  refine la_ld 343 rfl d179_342 (by omega) hn ?_
  refine ev_cv5 346 rfl 121 d179_343 rfl rfl (by rw [G.1 _ _ (rfl : ai_sp 572 = (9, 0)) (by decide) (by decide)]; rfl) (by decide) rfl (m_copyC G (rm_hi hM hf) hV) ?_
  rintro _ _ ⟨I3, L3, rfl, rfl, hM3, hg⟩
  show ai_Ev _ _ _ _ (.int _ :: .int _ :: []) _ _
  refine ev_icmp_T 1282 (by decide) la_eq d179_346 ?_
  exact hk _ I3 L3 (rx_lo hX2 hg) hM3 (i_copy hV)
theorem la_k3 (G : ai_G S F) (hX : ai_RX σ I L) (hM : ai_RM σ I L) (hV : ai_IV σ) {i : Nat} (hn : n ≤ 3072) (hi : i + 6 ≤ n) (hk : ∀ (σ2 : ai_S) (I2 : Nat → Nat → Int32) (L2 : Nat → Nat → Int64), ai_RX σ2 I2 L2 → ai_RM σ2 I2 L2 → ai_IV σ2 → ai_Ev (some (n, xs)) 179 1282 (la_ls i) [] (S, I2, L2, F) Q) : ai_Ev (some (n, xs)) 179 351 (la_ls i) [] (S, I, L, F) Q := by
  unfold la_ls at hk ⊢
  refine ev_aload_n 352 rfl d179_351 rfl ?_
  refine ev_aload_n 353 rfl d179_352 rfl ?_
  refine ev_iload_n 354 rfl d179_353 rfl ?_
  refine ev_iconst (v := nI 1) 355 rfl d179_354 (by decide) ?_
  refine ev_iadd (v := nI (i + 1)) 356 rfl d179_355 (nI_add _ _) ?_
  refine la_ld 357 rfl d179_356 (by omega) hn ?_
  refine ev_aload_n 358 rfl d179_357 rfl ?_
  refine ev_iload_n 359 rfl d179_358 rfl ?_
  refine ev_iconst (v := nI 2) 360 rfl d179_359 (by decide) ?_
  refine ev_iadd (v := nI (i + 2)) 361 rfl d179_360 (nI_add _ _) ?_
  refine la_ld 362 rfl d179_361 (by omega) hn ?_
  refine ev_cv2 365 rfl 56 d179_362 rfl rfl (by rw [G.1 _ _ (rfl : ai_sp 1 = (8, 0)) (by decide) (by decide)]; rfl) (by decide) rfl (x_element G hX hV) ?_
  rintro _ _ ⟨I2, L2, rfl, rfl, hX2, hf⟩
  show ai_Ev _ _ _ _ (.long _ :: []) _ _
  refine ev_aload_n 366 rfl d179_365 rfl ?_
  refine ev_aload_n 367 rfl d179_366 rfl ?_
  refine ev_iload_n 368 rfl d179_367 rfl ?_
  refine ev_iconst (v := nI 1) 369 rfl d179_368 (by decide) ?_
  refine ev_iadd (v := nI (i + 1)) 370 rfl d179_369 (nI_add _ _) ?_
  refine la_ld 371 rfl d179_370 (by omega) hn ?_
  refine ev_aload_n 372 rfl d179_371 rfl ?_
  refine ev_iload_n 373 rfl d179_372 rfl ?_
  refine ev_iconst (v := nI 2) 374 rfl d179_373 (by decide) ?_
  refine ev_iadd (v := nI (i + 2)) 375 rfl d179_374 (nI_add _ _) ?_
  refine la_ld 376 rfl d179_375 (by omega) hn ?_
  refine ev_cv2 379 rfl 122 d179_376 rfl rfl (by rw [G.1 _ _ (rfl : ai_sp 572 = (9, 0)) (by decide) (by decide)]; rfl) (by decide) rfl (m_element G (rm_hi hM hf) hV) ?_
  rintro _ _ ⟨I3, L3, rfl, rfl, hM3, hg⟩
  show ai_Ev _ _ _ _ (.long _ :: .long _ :: []) _ _
  refine ev_lcmp (v := nI 0) 380 rfl d179_379 la_cmp ?_
  refine ev_if_T 1282 (by decide) (by decide) d179_380 ?_
  exact hk _ I3 L3 (rx_lo hX2 hg) hM3 hV
theorem la_k4 (G : ai_G S F) (hX : ai_RX σ I L) (hM : ai_RM σ I L) (hV : ai_IV σ) {i : Nat} (hn : n ≤ 3072) (hi : i + 6 ≤ n) (hk : ∀ (σ2 : ai_S) (I2 : Nat → Nat → Int32) (L2 : Nat → Nat → Int64), ai_RX σ2 I2 L2 → ai_RM σ2 I2 L2 → ai_IV σ2 → ai_Ev (some (n, xs)) 179 1282 (la_ls i) [] (S, I2, L2, F) Q) : ai_Ev (some (n, xs)) 179 385 (la_ls i) [] (S, I, L, F) Q := by
  unfold la_ls at hk ⊢
  refine ev_aload_n 386 rfl d179_385 rfl ?_
  refine ev_aload_n 387 rfl d179_386 rfl ?_
  refine ev_iload_n 388 rfl d179_387 rfl ?_
  refine ev_iconst (v := nI 1) 389 rfl d179_388 (by decide) ?_
  refine ev_iadd (v := nI (i + 1)) 390 rfl d179_389 (nI_add _ _) ?_
  refine la_ld 391 rfl d179_390 (by omega) hn ?_
  refine ev_aload_n 392 rfl d179_391 rfl ?_
  refine ev_iload_n 393 rfl d179_392 rfl ?_
  refine ev_iconst (v := nI 2) 394 rfl d179_393 (by decide) ?_
  refine ev_iadd (v := nI (i + 2)) 395 rfl d179_394 (nI_add _ _) ?_
  refine la_ld 396 rfl d179_395 (by omega) hn ?_
  refine ev_cv2 399 rfl 57 d179_396 rfl rfl (by rw [G.1 _ _ (rfl : ai_sp 1 = (8, 0)) (by decide) (by decide)]; rfl) (by decide) rfl (x_show G hX hV) ?_
  rintro _ _ ⟨I2, L2, rfl, rfl, hX2, hf⟩
  show ai_Ev _ _ _ _ (.int _ :: []) _ _
  refine ev_aload_n 400 rfl d179_399 rfl ?_
  refine ev_aload_n 401 rfl d179_400 rfl ?_
  refine ev_iload_n 402 rfl d179_401 rfl ?_
  refine ev_iconst (v := nI 1) 403 rfl d179_402 (by decide) ?_
  refine ev_iadd (v := nI (i + 1)) 404 rfl d179_403 (nI_add _ _) ?_
  refine la_ld 405 rfl d179_404 (by omega) hn ?_
  refine ev_aload_n 406 rfl d179_405 rfl ?_
  refine ev_iload_n 407 rfl d179_406 rfl ?_
  refine ev_iconst (v := nI 2) 408 rfl d179_407 (by decide) ?_
  refine ev_iadd (v := nI (i + 2)) 409 rfl d179_408 (nI_add _ _) ?_
  refine la_ld 410 rfl d179_409 (by omega) hn ?_
  refine ev_cv2 413 rfl 123 d179_410 rfl rfl (by rw [G.1 _ _ (rfl : ai_sp 572 = (9, 0)) (by decide) (by decide)]; rfl) (by decide) rfl (m_show G (rm_hi hM hf) hV) ?_
  rintro _ _ ⟨I3, L3, rfl, rfl, hM3, hg⟩
  show ai_Ev _ _ _ _ (.int _ :: .int _ :: []) _ _
  refine ev_icmp_T 1282 (by decide) la_eq d179_413 ?_
  exact hk _ I3 L3 (rx_lo hX2 hg) hM3 (i_show hV)
theorem la_k5 (G : ai_G S F) (hX : ai_RX σ I L) (hM : ai_RM σ I L) (hV : ai_IV σ) {i : Nat} (hn : n ≤ 3072) (hi : i + 6 ≤ n) (hk : ∀ (σ2 : ai_S) (I2 : Nat → Nat → Int32) (L2 : Nat → Nat → Int64), ai_RX σ2 I2 L2 → ai_RM σ2 I2 L2 → ai_IV σ2 → ai_Ev (some (n, xs)) 179 1282 (la_ls i) [] (S, I2, L2, F) Q) : ai_Ev (some (n, xs)) 179 418 (la_ls i) [] (S, I, L, F) Q := by
  unfold la_ls at hk ⊢
  refine ev_aload_n 419 rfl d179_418 rfl ?_
  refine ev_aload_n 420 rfl d179_419 rfl ?_
  refine ev_iload_n 421 rfl d179_420 rfl ?_
  refine ev_iconst (v := nI 1) 422 rfl d179_421 (by decide) ?_
  refine ev_iadd (v := nI (i + 1)) 423 rfl d179_422 (nI_add _ _) ?_
  refine la_ld 424 rfl d179_423 (by omega) hn ?_
  refine ev_cv1 427 rfl 58 d179_424 rfl rfl (by rw [G.1 _ _ (rfl : ai_sp 1 = (8, 0)) (by decide) (by decide)]; rfl) (by decide) rfl (x_holds G hX hV) ?_
  rintro _ _ ⟨I2, L2, rfl, rfl, hX2, hf⟩
  show ai_Ev _ _ _ _ (.int _ :: []) _ _
  refine ev_aload_n 428 rfl d179_427 rfl ?_
  refine ev_aload_n 429 rfl d179_428 rfl ?_
  refine ev_iload_n 430 rfl d179_429 rfl ?_
  refine ev_iconst (v := nI 1) 431 rfl d179_430 (by decide) ?_
  refine ev_iadd (v := nI (i + 1)) 432 rfl d179_431 (nI_add _ _) ?_
  refine la_ld 433 rfl d179_432 (by omega) hn ?_
  refine ev_cv1 436 rfl 124 d179_433 rfl rfl (by rw [G.1 _ _ (rfl : ai_sp 572 = (9, 0)) (by decide) (by decide)]; rfl) (by decide) rfl (m_holds G (rm_hi hM hf) hV) ?_
  rintro _ _ ⟨I3, L3, rfl, rfl, hM3, hg⟩
  show ai_Ev _ _ _ _ (.int _ :: .int _ :: []) _ _
  refine ev_icmp_T 1282 (by decide) la_eq d179_436 ?_
  exact hk _ I3 L3 (rx_lo hX2 hg) hM3 (i_holds hV)
theorem la_k6 (G : ai_G S F) (hX : ai_RX σ I L) (hM : ai_RM σ I L) (hV : ai_IV σ) {i : Nat} (hn : n ≤ 3072) (hi : i + 6 ≤ n) (hk : ∀ (σ2 : ai_S) (I2 : Nat → Nat → Int32) (L2 : Nat → Nat → Int64), ai_RX σ2 I2 L2 → ai_RM σ2 I2 L2 → ai_IV σ2 → ai_Ev (some (n, xs)) 179 1282 (la_ls i) [] (S, I2, L2, F) Q) : ai_Ev (some (n, xs)) 179 441 (la_ls i) [] (S, I, L, F) Q := by
  unfold la_ls at hk ⊢
  refine ev_aload_n 442 rfl d179_441 rfl ?_
  refine ev_aload_n 443 rfl d179_442 rfl ?_
  refine ev_iload_n 444 rfl d179_443 rfl ?_
  refine ev_iconst (v := nI 1) 445 rfl d179_444 (by decide) ?_
  refine ev_iadd (v := nI (i + 1)) 446 rfl d179_445 (nI_add _ _) ?_
  refine la_ld 447 rfl d179_446 (by omega) hn ?_
  refine ev_cv1 450 rfl 59 d179_447 rfl rfl (by rw [G.1 _ _ (rfl : ai_sp 1 = (8, 0)) (by decide) (by decide)]; rfl) (by decide) rfl (x_countsIn G hX hV) ?_
  rintro _ _ ⟨I2, L2, rfl, rfl, hX2, hf⟩
  show ai_Ev _ _ _ _ (.int _ :: []) _ _
  refine ev_aload_n 451 rfl d179_450 rfl ?_
  refine ev_aload_n 452 rfl d179_451 rfl ?_
  refine ev_iload_n 453 rfl d179_452 rfl ?_
  refine ev_iconst (v := nI 1) 454 rfl d179_453 (by decide) ?_
  refine ev_iadd (v := nI (i + 1)) 455 rfl d179_454 (nI_add _ _) ?_
  refine la_ld 456 rfl d179_455 (by omega) hn ?_
  refine ev_cv1 459 rfl 147 d179_456 rfl rfl (by rw [G.1 _ _ (rfl : ai_sp 572 = (9, 0)) (by decide) (by decide)]; rfl) (by decide) rfl (m_countsIn G (rm_hi hM hf) hV) ?_
  rintro _ _ ⟨I3, L3, rfl, rfl, hM3, hg⟩
  show ai_Ev _ _ _ _ (.int _ :: .int _ :: []) _ _
  refine ev_icmp_T 1282 (by decide) la_eq d179_459 ?_
  exact hk _ I3 L3 (rx_lo hX2 hg) hM3 (i_countsIn hV)
theorem la_k7 (G : ai_G S F) (hX : ai_RX σ I L) (hM : ai_RM σ I L) (hV : ai_IV σ) {i : Nat} (hn : n ≤ 3072) (hi : i + 6 ≤ n) (hk : ∀ (σ2 : ai_S) (I2 : Nat → Nat → Int32) (L2 : Nat → Nat → Int64), ai_RX σ2 I2 L2 → ai_RM σ2 I2 L2 → ai_IV σ2 → ai_Ev (some (n, xs)) 179 1282 (la_ls i) [] (S, I2, L2, F) Q) : ai_Ev (some (n, xs)) 179 464 (la_ls i) [] (S, I, L, F) Q := by
  unfold la_ls at hk ⊢
  refine ev_aload_n 465 rfl d179_464 rfl ?_
  refine ev_aload_n 466 rfl d179_465 rfl ?_
  refine ev_iload_n 467 rfl d179_466 rfl ?_
  refine ev_iconst (v := nI 1) 468 rfl d179_467 (by decide) ?_
  refine ev_iadd (v := nI (i + 1)) 469 rfl d179_468 (nI_add _ _) ?_
  refine la_ld 470 rfl d179_469 (by omega) hn ?_
  refine ev_aload_n 471 rfl d179_470 rfl ?_
  refine ev_iload_n 472 rfl d179_471 rfl ?_
  refine ev_iconst (v := nI 2) 473 rfl d179_472 (by decide) ?_
  refine ev_iadd (v := nI (i + 2)) 474 rfl d179_473 (nI_add _ _) ?_
  refine la_ld 475 rfl d179_474 (by omega) hn ?_
  refine ev_aload_n 476 rfl d179_475 rfl ?_
  refine ev_iload_n 477 rfl d179_476 rfl ?_
  refine ev_iconst (v := nI 3) 478 rfl d179_477 (by decide) ?_
  refine ev_iadd (v := nI (i + 3)) 479 rfl d179_478 (nI_add _ _) ?_
  refine la_ld 480 rfl d179_479 (by omega) hn ?_
  refine ev_cv3 483 rfl 60 d179_480 rfl rfl (by rw [G.1 _ _ (rfl : ai_sp 1 = (8, 0)) (by decide) (by decide)]; rfl) (by decide) rfl (x_question G hX hV) ?_
  rintro _ _ ⟨I2, L2, rfl, rfl, hX2, hf⟩
  show ai_Ev _ _ _ _ (.int _ :: []) _ _
  refine ev_aload_n 484 rfl d179_483 rfl ?_
  refine ev_aload_n 485 rfl d179_484 rfl ?_
  refine ev_iload_n 486 rfl d179_485 rfl ?_
  refine ev_iconst (v := nI 1) 487 rfl d179_486 (by decide) ?_
  refine ev_iadd (v := nI (i + 1)) 488 rfl d179_487 (nI_add _ _) ?_
  refine la_ld 489 rfl d179_488 (by omega) hn ?_
  refine ev_aload_n 490 rfl d179_489 rfl ?_
  refine ev_iload_n 491 rfl d179_490 rfl ?_
  refine ev_iconst (v := nI 2) 492 rfl d179_491 (by decide) ?_
  refine ev_iadd (v := nI (i + 2)) 493 rfl d179_492 (nI_add _ _) ?_
  refine la_ld 494 rfl d179_493 (by omega) hn ?_
  refine ev_aload_n 495 rfl d179_494 rfl ?_
  refine ev_iload_n 496 rfl d179_495 rfl ?_
  refine ev_iconst (v := nI 3) 497 rfl d179_496 (by decide) ?_
  refine ev_iadd (v := nI (i + 3)) 498 rfl d179_497 (nI_add _ _) ?_
  refine la_ld 499 rfl d179_498 (by omega) hn ?_
  refine ev_cv3 502 rfl 130 d179_499 rfl rfl (by rw [G.1 _ _ (rfl : ai_sp 572 = (9, 0)) (by decide) (by decide)]; rfl) (by decide) rfl (m_question G (rm_hi hM hf) hV) ?_
  rintro _ _ ⟨I3, L3, rfl, rfl, hM3, hg⟩
  show ai_Ev _ _ _ _ (.int _ :: .int _ :: []) _ _
  refine ev_icmp_T 1282 (by decide) la_eq d179_502 ?_
  exact hk _ I3 L3 (rx_lo hX2 hg) hM3 (i_question hV)
theorem la_k8 (G : ai_G S F) (hX : ai_RX σ I L) (hM : ai_RM σ I L) (hV : ai_IV σ) {i : Nat} (hn : n ≤ 3072) (hi : i + 6 ≤ n) (hk : ∀ (σ2 : ai_S) (I2 : Nat → Nat → Int32) (L2 : Nat → Nat → Int64), ai_RX σ2 I2 L2 → ai_RM σ2 I2 L2 → ai_IV σ2 → ai_Ev (some (n, xs)) 179 1282 (la_ls i) [] (S, I2, L2, F) Q) : ai_Ev (some (n, xs)) 179 507 (la_ls i) [] (S, I, L, F) Q := by
  unfold la_ls at hk ⊢
  refine ev_aload_n 508 rfl d179_507 rfl ?_
  refine ev_aload_n 509 rfl d179_508 rfl ?_
  refine ev_iload_n 510 rfl d179_509 rfl ?_
  refine ev_iconst (v := nI 1) 511 rfl d179_510 (by decide) ?_
  refine ev_iadd (v := nI (i + 1)) 512 rfl d179_511 (nI_add _ _) ?_
  refine la_ld 513 rfl d179_512 (by omega) hn ?_
  refine ev_cv1 516 rfl 61 d179_513 rfl rfl (by rw [G.1 _ _ (rfl : ai_sp 1 = (8, 0)) (by decide) (by decide)]; rfl) (by decide) rfl (x_things G hX hV) ?_
  rintro _ _ ⟨I2, L2, rfl, rfl, hX2, hf⟩
  show ai_Ev _ _ _ _ (.int _ :: []) _ _
  refine ev_aload_n 517 rfl d179_516 rfl ?_
  refine ev_aload_n 518 rfl d179_517 rfl ?_
  refine ev_iload_n 519 rfl d179_518 rfl ?_
  refine ev_iconst (v := nI 1) 520 rfl d179_519 (by decide) ?_
  refine ev_iadd (v := nI (i + 1)) 521 rfl d179_520 (nI_add _ _) ?_
  refine la_ld 522 rfl d179_521 (by omega) hn ?_
  refine ev_cv1 525 rfl 131 d179_522 rfl rfl (by rw [G.1 _ _ (rfl : ai_sp 572 = (9, 0)) (by decide) (by decide)]; rfl) (by decide) rfl (m_things G (rm_hi hM hf) hV) ?_
  rintro _ _ ⟨I3, L3, rfl, rfl, hM3, hg⟩
  show ai_Ev _ _ _ _ (.int _ :: .int _ :: []) _ _
  refine ev_icmp_T 1282 (by decide) la_eq d179_525 ?_
  exact hk _ I3 L3 (rx_lo hX2 hg) hM3 (i_things hV)
theorem la_k9 (G : ai_G S F) (hX : ai_RX σ I L) (hM : ai_RM σ I L) (hV : ai_IV σ) {i : Nat} (hn : n ≤ 3072) (hi : i + 6 ≤ n) (hk : ∀ (σ2 : ai_S) (I2 : Nat → Nat → Int32) (L2 : Nat → Nat → Int64), ai_RX σ2 I2 L2 → ai_RM σ2 I2 L2 → ai_IV σ2 → ai_Ev (some (n, xs)) 179 1282 (la_ls i) [] (S, I2, L2, F) Q) : ai_Ev (some (n, xs)) 179 530 (la_ls i) [] (S, I, L, F) Q := by
  unfold la_ls at hk ⊢
  refine ev_aload_n 531 rfl d179_530 rfl ?_
  refine ev_cv0 534 rfl 62 d179_531 rfl rfl (by rw [G.1 _ _ (rfl : ai_sp 1 = (8, 0)) (by decide) (by decide)]; rfl) (by decide) rfl (x_judge G hX hV) ?_
  rintro _ _ ⟨I2, L2, rfl, rfl, hX2, hf⟩
  show ai_Ev _ _ _ _ (.int _ :: []) _ _
  refine ev_aload_n 535 rfl d179_534 rfl ?_
  refine ev_cv0 538 rfl 132 d179_535 rfl rfl (by rw [G.1 _ _ (rfl : ai_sp 572 = (9, 0)) (by decide) (by decide)]; rfl) (by decide) rfl (m_judge G (rm_hi hM hf) hV) ?_
  rintro _ _ ⟨I3, L3, rfl, rfl, hM3, hg⟩
  show ai_Ev _ _ _ _ (.int _ :: .int _ :: []) _ _
  refine ev_icmp_T 1282 (by decide) la_eq d179_538 ?_
  exact hk _ I3 L3 (rx_lo hX2 hg) hM3 (i_judge hV)
theorem la_k10 (G : ai_G S F) (hX : ai_RX σ I L) (hM : ai_RM σ I L) (hV : ai_IV σ) {i : Nat} (hn : n ≤ 3072) (hi : i + 6 ≤ n) (hk : ∀ (σ2 : ai_S) (I2 : Nat → Nat → Int32) (L2 : Nat → Nat → Int64), ai_RX σ2 I2 L2 → ai_RM σ2 I2 L2 → ai_IV σ2 → ai_Ev (some (n, xs)) 179 1282 (la_ls i) [] (S, I2, L2, F) Q) : ai_Ev (some (n, xs)) 179 543 (la_ls i) [] (S, I, L, F) Q := by
  unfold la_ls at hk ⊢
  refine ev_aload_n 544 rfl d179_543 rfl ?_
  refine ev_aload_n 545 rfl d179_544 rfl ?_
  refine ev_iload_n 546 rfl d179_545 rfl ?_
  refine ev_iconst (v := nI 1) 547 rfl d179_546 (by decide) ?_
  refine ev_iadd (v := nI (i + 1)) 548 rfl d179_547 (nI_add _ _) ?_
  refine la_ld 549 rfl d179_548 (by omega) hn ?_
  refine ev_aload_n 550 rfl d179_549 rfl ?_
  refine ev_iload_n 551 rfl d179_550 rfl ?_
  refine ev_iconst (v := nI 2) 552 rfl d179_551 (by decide) ?_
  refine ev_iadd (v := nI (i + 2)) 553 rfl d179_552 (nI_add _ _) ?_
  refine la_ld 554 rfl d179_553 (by omega) hn ?_
  refine ev_aload_n 555 rfl d179_554 rfl ?_
  refine ev_iload_n 556 rfl d179_555 rfl ?_
  refine ev_iconst (v := nI 3) 557 rfl d179_556 (by decide) ?_
  refine ev_iadd (v := nI (i + 3)) 558 rfl d179_557 (nI_add _ _) ?_
  refine la_ld 559 rfl d179_558 (by omega) hn ?_
  refine ev_cv3 562 rfl 63 d179_559 rfl rfl (by rw [G.1 _ _ (rfl : ai_sp 1 = (8, 0)) (by decide) (by decide)]; rfl) (by decide) rfl (x_know G hX hV) ?_
  rintro _ _ ⟨I2, L2, rfl, rfl, hX2, hf⟩
  show ai_Ev _ _ _ _ (.int _ :: []) _ _
  refine ev_aload_n 563 rfl d179_562 rfl ?_
  refine ev_aload_n 564 rfl d179_563 rfl ?_
  refine ev_iload_n 565 rfl d179_564 rfl ?_
  refine ev_iconst (v := nI 1) 566 rfl d179_565 (by decide) ?_
  refine ev_iadd (v := nI (i + 1)) 567 rfl d179_566 (nI_add _ _) ?_
  refine la_ld 568 rfl d179_567 (by omega) hn ?_
  refine ev_aload_n 569 rfl d179_568 rfl ?_
  refine ev_iload_n 570 rfl d179_569 rfl ?_
  refine ev_iconst (v := nI 2) 571 rfl d179_570 (by decide) ?_
  refine ev_iadd (v := nI (i + 2)) 572 rfl d179_571 (nI_add _ _) ?_
  refine la_ld 573 rfl d179_572 (by omega) hn ?_
  refine ev_aload_n 574 rfl d179_573 rfl ?_
  refine ev_iload_n 575 rfl d179_574 rfl ?_
  refine ev_iconst (v := nI 3) 576 rfl d179_575 (by decide) ?_
  refine ev_iadd (v := nI (i + 3)) 577 rfl d179_576 (nI_add _ _) ?_
  refine la_ld 578 rfl d179_577 (by omega) hn ?_
  refine ev_cv3 581 rfl 133 d179_578 rfl rfl (by rw [G.1 _ _ (rfl : ai_sp 572 = (9, 0)) (by decide) (by decide)]; rfl) (by decide) rfl (m_know G (rm_hi hM hf) hV) ?_
  rintro _ _ ⟨I3, L3, rfl, rfl, hM3, hg⟩
  show ai_Ev _ _ _ _ (.int _ :: .int _ :: []) _ _
  refine ev_icmp_T 1282 (by decide) la_eq d179_581 ?_
  exact hk _ I3 L3 (rx_lo hX2 hg) hM3 (i_know hV)
theorem la_k11 (G : ai_G S F) (hX : ai_RX σ I L) (hM : ai_RM σ I L) (hV : ai_IV σ) {i : Nat} (hn : n ≤ 3072) (hi : i + 6 ≤ n) (hk : ∀ (σ2 : ai_S) (I2 : Nat → Nat → Int32) (L2 : Nat → Nat → Int64), ai_RX σ2 I2 L2 → ai_RM σ2 I2 L2 → ai_IV σ2 → ai_Ev (some (n, xs)) 179 1282 (la_ls i) [] (S, I2, L2, F) Q) : ai_Ev (some (n, xs)) 179 586 (la_ls i) [] (S, I, L, F) Q := by
  unfold la_ls at hk ⊢
  refine ev_aload_n 587 rfl d179_586 rfl ?_
  refine ev_aload_n 588 rfl d179_587 rfl ?_
  refine ev_iload_n 589 rfl d179_588 rfl ?_
  refine ev_iconst (v := nI 1) 590 rfl d179_589 (by decide) ?_
  refine ev_iadd (v := nI (i + 1)) 591 rfl d179_590 (nI_add _ _) ?_
  refine la_ld 592 rfl d179_591 (by omega) hn ?_
  refine ev_aload_n 593 rfl d179_592 rfl ?_
  refine ev_iload_n 594 rfl d179_593 rfl ?_
  refine ev_iconst (v := nI 2) 595 rfl d179_594 (by decide) ?_
  refine ev_iadd (v := nI (i + 2)) 596 rfl d179_595 (nI_add _ _) ?_
  refine la_ld 597 rfl d179_596 (by omega) hn ?_
  refine ev_aload_n 598 rfl d179_597 rfl ?_
  refine ev_iload_n 599 rfl d179_598 rfl ?_
  refine ev_iconst (v := nI 3) 600 rfl d179_599 (by decide) ?_
  refine ev_iadd (v := nI (i + 3)) 601 rfl d179_600 (nI_add _ _) ?_
  refine la_ld 602 rfl d179_601 (by omega) hn ?_
  refine ev_aload_n 603 rfl d179_602 rfl ?_
  refine ev_iload_n 604 rfl d179_603 rfl ?_
  refine ev_iconst (v := nI 4) 605 rfl d179_604 (by decide) ?_
  refine ev_iadd (v := nI (i + 4)) 606 rfl d179_605 (nI_add _ _) ?_
  refine la_ld 607 rfl d179_606 (by omega) hn ?_
  refine ev_aload_n 608 rfl d179_607 rfl ?_
  refine ev_iload_n 609 rfl d179_608 rfl ?_
  refine ev_iconst (v := nI 5) 610 rfl d179_609 (by decide) ?_
  refine ev_iadd (v := nI (i + 5)) 611 rfl d179_610 (nI_add _ _) ?_
  refine la_ld 612 rfl d179_611 (by omega) hn ?_
  refine ev_cv5 615 rfl 64 d179_612 rfl rfl (by rw [G.1 _ _ (rfl : ai_sp 1 = (8, 0)) (by decide) (by decide)]; rfl) (by decide) rfl (x_answer G hX hV) ?_
  rintro _ _ ⟨I2, L2, rfl, rfl, hX2, hf⟩
  show ai_Ev _ _ _ _ (.int _ :: []) _ _
  refine ev_aload_n 616 rfl d179_615 rfl ?_
  refine ev_aload_n 617 rfl d179_616 rfl ?_
  refine ev_iload_n 618 rfl d179_617 rfl ?_
  refine ev_iconst (v := nI 1) 619 rfl d179_618 (by decide) ?_
  refine ev_iadd (v := nI (i + 1)) 620 rfl d179_619 (nI_add _ _) ?_
  refine la_ld 621 rfl d179_620 (by omega) hn ?_
  refine ev_aload_n 622 rfl d179_621 rfl ?_
  refine ev_iload_n 623 rfl d179_622 rfl ?_
  refine ev_iconst (v := nI 2) 624 rfl d179_623 (by decide) ?_
  refine ev_iadd (v := nI (i + 2)) 625 rfl d179_624 (nI_add _ _) ?_
  refine la_ld 626 rfl d179_625 (by omega) hn ?_
  refine ev_aload_n 627 rfl d179_626 rfl ?_
  refine ev_iload_n 628 rfl d179_627 rfl ?_
  refine ev_iconst (v := nI 3) 629 rfl d179_628 (by decide) ?_
  refine ev_iadd (v := nI (i + 3)) 630 rfl d179_629 (nI_add _ _) ?_
  refine la_ld 631 rfl d179_630 (by omega) hn ?_
  refine ev_aload_n 632 rfl d179_631 rfl ?_
  refine ev_iload_n 633 rfl d179_632 rfl ?_
  refine ev_iconst (v := nI 4) 634 rfl d179_633 (by decide) ?_
  refine ev_iadd (v := nI (i + 4)) 635 rfl d179_634 (nI_add _ _) ?_
  refine la_ld 636 rfl d179_635 (by omega) hn ?_
  refine ev_aload_n 637 rfl d179_636 rfl ?_
  refine ev_iload_n 638 rfl d179_637 rfl ?_
  refine ev_iconst (v := nI 5) 639 rfl d179_638 (by decide) ?_
  refine ev_iadd (v := nI (i + 5)) 640 rfl d179_639 (nI_add _ _) ?_
  refine la_ld 641 rfl d179_640 (by omega) hn ?_
  refine ev_cv5 644 rfl 137 d179_641 rfl rfl (by rw [G.1 _ _ (rfl : ai_sp 572 = (9, 0)) (by decide) (by decide)]; rfl) (by decide) rfl (m_answer G (rm_hi hM hf) hV) ?_
  rintro _ _ ⟨I3, L3, rfl, rfl, hM3, hg⟩
  show ai_Ev _ _ _ _ (.int _ :: .int _ :: []) _ _
  refine ev_icmp_T 1282 (by decide) la_eq d179_644 ?_
  exact hk _ I3 L3 (rx_lo hX2 hg) hM3 (i_answer hV)
theorem la_k12 (G : ai_G S F) (hX : ai_RX σ I L) (hM : ai_RM σ I L) (hV : ai_IV σ) {i : Nat} (hn : n ≤ 3072) (hi : i + 6 ≤ n) (hk : ∀ (σ2 : ai_S) (I2 : Nat → Nat → Int32) (L2 : Nat → Nat → Int64), ai_RX σ2 I2 L2 → ai_RM σ2 I2 L2 → ai_IV σ2 → ai_Ev (some (n, xs)) 179 1282 (la_ls i) [] (S, I2, L2, F) Q) : ai_Ev (some (n, xs)) 179 649 (la_ls i) [] (S, I, L, F) Q := by
  unfold la_ls at hk ⊢
  refine ev_aload_n 650 rfl d179_649 rfl ?_
  refine ev_aload_n 651 rfl d179_650 rfl ?_
  refine ev_iload_n 652 rfl d179_651 rfl ?_
  refine ev_iconst (v := nI 1) 653 rfl d179_652 (by decide) ?_
  refine ev_iadd (v := nI (i + 1)) 654 rfl d179_653 (nI_add _ _) ?_
  refine la_ld 655 rfl d179_654 (by omega) hn ?_
  refine ev_cv1 658 rfl 65 d179_655 rfl rfl (by rw [G.1 _ _ (rfl : ai_sp 1 = (8, 0)) (by decide) (by decide)]; rfl) (by decide) rfl (x_answers G hX hV) ?_
  rintro _ _ ⟨I2, L2, rfl, rfl, hX2, hf⟩
  show ai_Ev _ _ _ _ (.int _ :: []) _ _
  refine ev_aload_n 659 rfl d179_658 rfl ?_
  refine ev_aload_n 660 rfl d179_659 rfl ?_
  refine ev_iload_n 661 rfl d179_660 rfl ?_
  refine ev_iconst (v := nI 1) 662 rfl d179_661 (by decide) ?_
  refine ev_iadd (v := nI (i + 1)) 663 rfl d179_662 (nI_add _ _) ?_
  refine la_ld 664 rfl d179_663 (by omega) hn ?_
  refine ev_cv1 667 rfl 138 d179_664 rfl rfl (by rw [G.1 _ _ (rfl : ai_sp 572 = (9, 0)) (by decide) (by decide)]; rfl) (by decide) rfl (m_answers G (rm_hi hM hf) hV) ?_
  rintro _ _ ⟨I3, L3, rfl, rfl, hM3, hg⟩
  show ai_Ev _ _ _ _ (.int _ :: .int _ :: []) _ _
  refine ev_icmp_T 1282 (by decide) la_eq d179_667 ?_
  exact hk _ I3 L3 (rx_lo hX2 hg) hM3 (i_answers hV)
theorem la_k13 (G : ai_G S F) (hX : ai_RX σ I L) (hM : ai_RM σ I L) (hV : ai_IV σ) {i : Nat} (hn : n ≤ 3072) (hi : i + 6 ≤ n) (hk : ∀ (σ2 : ai_S) (I2 : Nat → Nat → Int32) (L2 : Nat → Nat → Int64), ai_RX σ2 I2 L2 → ai_RM σ2 I2 L2 → ai_IV σ2 → ai_Ev (some (n, xs)) 179 1282 (la_ls i) [] (S, I2, L2, F) Q) : ai_Ev (some (n, xs)) 179 672 (la_ls i) [] (S, I, L, F) Q := by
  unfold la_ls at hk ⊢
  refine ev_aload_n 673 rfl d179_672 rfl ?_
  refine ev_aload_n 674 rfl d179_673 rfl ?_
  refine ev_iload_n 675 rfl d179_674 rfl ?_
  refine ev_iconst (v := nI 1) 676 rfl d179_675 (by decide) ?_
  refine ev_iadd (v := nI (i + 1)) 677 rfl d179_676 (nI_add _ _) ?_
  refine la_ld 678 rfl d179_677 (by omega) hn ?_
  refine ev_cv1 681 rfl 66 d179_678 rfl rfl (by rw [G.1 _ _ (rfl : ai_sp 1 = (8, 0)) (by decide) (by decide)]; rfl) (by decide) rfl (x_rest G hX hV) ?_
  rintro _ _ ⟨I2, L2, rfl, rfl, hX2, hf⟩
  show ai_Ev _ _ _ _ (.int _ :: []) _ _
  refine ev_aload_n 682 rfl d179_681 rfl ?_
  refine ev_aload_n 683 rfl d179_682 rfl ?_
  refine ev_iload_n 684 rfl d179_683 rfl ?_
  refine ev_iconst (v := nI 1) 685 rfl d179_684 (by decide) ?_
  refine ev_iadd (v := nI (i + 1)) 686 rfl d179_685 (nI_add _ _) ?_
  refine la_ld 687 rfl d179_686 (by omega) hn ?_
  refine ev_cv1 690 rfl 139 d179_687 rfl rfl (by rw [G.1 _ _ (rfl : ai_sp 572 = (9, 0)) (by decide) (by decide)]; rfl) (by decide) rfl (m_rest G (rm_hi hM hf) hV) ?_
  rintro _ _ ⟨I3, L3, rfl, rfl, hM3, hg⟩
  show ai_Ev _ _ _ _ (.int _ :: .int _ :: []) _ _
  refine ev_icmp_T 1282 (by decide) la_eq d179_690 ?_
  exact hk _ I3 L3 (rx_lo hX2 hg) hM3 (i_rest hV)
theorem la_k14 (G : ai_G S F) (hX : ai_RX σ I L) (hM : ai_RM σ I L) (hV : ai_IV σ) {i : Nat} (hn : n ≤ 3072) (hi : i + 6 ≤ n) (hk : ∀ (σ2 : ai_S) (I2 : Nat → Nat → Int32) (L2 : Nat → Nat → Int64), ai_RX σ2 I2 L2 → ai_RM σ2 I2 L2 → ai_IV σ2 → ai_Ev (some (n, xs)) 179 1282 (la_ls i) [] (S, I2, L2, F) Q) : ai_Ev (some (n, xs)) 179 695 (la_ls i) [] (S, I, L, F) Q := by
  unfold la_ls at hk ⊢
  refine ev_aload_n 696 rfl d179_695 rfl ?_
  refine ev_aload_n 697 rfl d179_696 rfl ?_
  refine ev_iload_n 698 rfl d179_697 rfl ?_
  refine ev_iconst (v := nI 1) 699 rfl d179_698 (by decide) ?_
  refine ev_iadd (v := nI (i + 1)) 700 rfl d179_699 (nI_add _ _) ?_
  refine la_ld 701 rfl d179_700 (by omega) hn ?_
  refine ev_cv1 704 rfl 67 d179_701 rfl rfl (by rw [G.1 _ _ (rfl : ai_sp 1 = (8, 0)) (by decide) (by decide)]; rfl) (by decide) rfl (x_leave G hX hV) ?_
  rintro _ _ ⟨I2, L2, rfl, rfl, hX2, hf⟩
  show ai_Ev _ _ _ _ (.int _ :: []) _ _
  refine ev_aload_n 705 rfl d179_704 rfl ?_
  refine ev_aload_n 706 rfl d179_705 rfl ?_
  refine ev_iload_n 707 rfl d179_706 rfl ?_
  refine ev_iconst (v := nI 1) 708 rfl d179_707 (by decide) ?_
  refine ev_iadd (v := nI (i + 1)) 709 rfl d179_708 (nI_add _ _) ?_
  refine la_ld 710 rfl d179_709 (by omega) hn ?_
  refine ev_cv1 713 rfl 140 d179_710 rfl rfl (by rw [G.1 _ _ (rfl : ai_sp 572 = (9, 0)) (by decide) (by decide)]; rfl) (by decide) rfl (m_leave G (rm_hi hM hf) hV) ?_
  rintro _ _ ⟨I3, L3, rfl, rfl, hM3, hg⟩
  show ai_Ev _ _ _ _ (.int _ :: .int _ :: []) _ _
  refine ev_icmp_T 1282 (by decide) la_eq d179_713 ?_
  exact hk _ I3 L3 (rx_lo hX2 hg) hM3 (i_leave hV)
theorem la_k15 (G : ai_G S F) (hX : ai_RX σ I L) (hM : ai_RM σ I L) (hV : ai_IV σ) {i : Nat} (hn : n ≤ 3072) (hi : i + 6 ≤ n) (hk : ∀ (σ2 : ai_S) (I2 : Nat → Nat → Int32) (L2 : Nat → Nat → Int64), ai_RX σ2 I2 L2 → ai_RM σ2 I2 L2 → ai_IV σ2 → ai_Ev (some (n, xs)) 179 1282 (la_ls i) [] (S, I2, L2, F) Q) : ai_Ev (some (n, xs)) 179 718 (la_ls i) [] (S, I, L, F) Q := by
  unfold la_ls at hk ⊢
  refine ev_aload_n 719 rfl d179_718 rfl ?_
  refine ev_aload_n 720 rfl d179_719 rfl ?_
  refine ev_iload_n 721 rfl d179_720 rfl ?_
  refine ev_iconst (v := nI 1) 722 rfl d179_721 (by decide) ?_
  refine ev_iadd (v := nI (i + 1)) 723 rfl d179_722 (nI_add _ _) ?_
  refine la_ld 724 rfl d179_723 (by omega) hn ?_
  refine ev_aload_n 725 rfl d179_724 rfl ?_
  refine ev_iload_n 726 rfl d179_725 rfl ?_
  refine ev_iconst (v := nI 2) 727 rfl d179_726 (by decide) ?_
  refine ev_iadd (v := nI (i + 2)) 728 rfl d179_727 (nI_add _ _) ?_
  refine la_ld 729 rfl d179_728 (by omega) hn ?_
  refine ev_cv2 732 rfl 68 d179_729 rfl rfl (by rw [G.1 _ _ (rfl : ai_sp 1 = (8, 0)) (by decide) (by decide)]; rfl) (by decide) rfl (x_bar G hX hV) ?_
  rintro _ _ ⟨I2, L2, rfl, rfl, hX2, hf⟩
  show ai_Ev _ _ _ _ (.int _ :: []) _ _
  refine ev_aload_n 733 rfl d179_732 rfl ?_
  refine ev_aload_n 734 rfl d179_733 rfl ?_
  refine ev_iload_n 735 rfl d179_734 rfl ?_
  refine ev_iconst (v := nI 1) 736 rfl d179_735 (by decide) ?_
  refine ev_iadd (v := nI (i + 1)) 737 rfl d179_736 (nI_add _ _) ?_
  refine la_ld 738 rfl d179_737 (by omega) hn ?_
  refine ev_aload_n 739 rfl d179_738 rfl ?_
  refine ev_iload_n 740 rfl d179_739 rfl ?_
  refine ev_iconst (v := nI 2) 741 rfl d179_740 (by decide) ?_
  refine ev_iadd (v := nI (i + 2)) 742 rfl d179_741 (nI_add _ _) ?_
  refine la_ld 743 rfl d179_742 (by omega) hn ?_
  refine ev_cv2 746 rfl 141 d179_743 rfl rfl (by rw [G.1 _ _ (rfl : ai_sp 572 = (9, 0)) (by decide) (by decide)]; rfl) (by decide) rfl (m_bar G (rm_hi hM hf) hV) ?_
  rintro _ _ ⟨I3, L3, rfl, rfl, hM3, hg⟩
  show ai_Ev _ _ _ _ (.int _ :: .int _ :: []) _ _
  refine ev_icmp_T 1282 (by decide) la_eq d179_746 ?_
  exact hk _ I3 L3 (rx_lo hX2 hg) hM3 (i_bar hV)
theorem la_k16 (G : ai_G S F) (hX : ai_RX σ I L) (hM : ai_RM σ I L) (hV : ai_IV σ) {i : Nat} (hn : n ≤ 3072) (hi : i + 6 ≤ n) (hk : ∀ (σ2 : ai_S) (I2 : Nat → Nat → Int32) (L2 : Nat → Nat → Int64), ai_RX σ2 I2 L2 → ai_RM σ2 I2 L2 → ai_IV σ2 → ai_Ev (some (n, xs)) 179 1282 (la_ls i) [] (S, I2, L2, F) Q) : ai_Ev (some (n, xs)) 179 751 (la_ls i) [] (S, I, L, F) Q := by
  unfold la_ls at hk ⊢
  by_cases h0 : xs (i + 1) = 0
  · skip
    refine ev_aload_n 752 rfl d179_751 rfl ?_
    refine ev_aload_n 753 rfl d179_752 rfl ?_
    refine ev_iload_n 754 rfl d179_753 rfl ?_
    refine ev_iconst (v := nI 1) 755 rfl d179_754 (by decide) ?_
    refine ev_iadd (v := nI (i + 1)) 756 rfl d179_755 (nI_add _ _) ?_
    refine la_ld 757 rfl d179_756 (by omega) hn ?_
    refine ev_if_T 764 (by decide) (cz_eq.mpr h0) d179_757 ?_
    refine ev_iconst (v := nI 0) 765 rfl d179_764 (by decide) ?_
    refine ev_cv1 768 rfl 72 d179_765 rfl rfl (by rw [G.1 _ _ (rfl : ai_sp 1 = (8, 0)) (by decide) (by decide)]; rfl) (by decide) rfl (x_reckon0 G hX hV) ?_
    rintro _ _ ⟨I2, L2, rfl, rfl, hX2, hf⟩
    show ai_Ev _ _ _ _ (.int _ :: []) _ _
    refine ev_aload_n 769 rfl d179_768 rfl ?_
    refine ev_aload_n 770 rfl d179_769 rfl ?_
    refine ev_iload_n 771 rfl d179_770 rfl ?_
    refine ev_iconst (v := nI 1) 772 rfl d179_771 (by decide) ?_
    refine ev_iadd (v := nI (i + 1)) 773 rfl d179_772 (nI_add _ _) ?_
    refine la_ld 774 rfl d179_773 (by omega) hn ?_
    refine ev_if_T 781 (by decide) (cz_eq.mpr h0) d179_774 ?_
    refine ev_iconst (v := nI 0) 782 rfl d179_781 (by decide) ?_
    refine ev_cv1 785 rfl 160 d179_782 rfl rfl (by rw [G.1 _ _ (rfl : ai_sp 572 = (9, 0)) (by decide) (by decide)]; rfl) (by decide) rfl (m_reckon0 G (rm_hi hM hf) hV) ?_
    rintro _ _ ⟨I3, L3, rfl, rfl, hM3, hg⟩
    show ai_Ev _ _ _ _ (.int _ :: .int _ :: []) _ _
    refine ev_icmp_T 1282 (by decide) la_eq d179_785 ?_
    exact hk _ I3 L3 (rx_lo hX2 hg) hM3 (iv_reckon hV)
  · skip
    refine ev_aload_n 752 rfl d179_751 rfl ?_
    refine ev_aload_n 753 rfl d179_752 rfl ?_
    refine ev_iload_n 754 rfl d179_753 rfl ?_
    refine ev_iconst (v := nI 1) 755 rfl d179_754 (by decide) ?_
    refine ev_iadd (v := nI (i + 1)) 756 rfl d179_755 (nI_add _ _) ?_
    refine la_ld 757 rfl d179_756 (by omega) hn ?_
    refine ev_if_F 764 760 (by decide) rfl (fun h => h0 (cz_eq.mp h)) d179_757 ?_
    refine ev_iconst (v := nI 1) 761 rfl d179_760 (by decide) ?_
    refine ev_goto 765 (by decide) d179_761 ?_
    refine ev_cv1 768 rfl 72 d179_765 rfl rfl (by rw [G.1 _ _ (rfl : ai_sp 1 = (8, 0)) (by decide) (by decide)]; rfl) (by decide) rfl (x_reckon1 G hX hV) ?_
    rintro _ _ ⟨I2, L2, rfl, rfl, hX2, hf⟩
    show ai_Ev _ _ _ _ (.int _ :: []) _ _
    refine ev_aload_n 769 rfl d179_768 rfl ?_
    refine ev_aload_n 770 rfl d179_769 rfl ?_
    refine ev_iload_n 771 rfl d179_770 rfl ?_
    refine ev_iconst (v := nI 1) 772 rfl d179_771 (by decide) ?_
    refine ev_iadd (v := nI (i + 1)) 773 rfl d179_772 (nI_add _ _) ?_
    refine la_ld 774 rfl d179_773 (by omega) hn ?_
    refine ev_if_F 781 777 (by decide) rfl (fun h => h0 (cz_eq.mp h)) d179_774 ?_
    refine ev_iconst (v := nI 1) 778 rfl d179_777 (by decide) ?_
    refine ev_goto 782 (by decide) d179_778 ?_
    refine ev_cv1 785 rfl 160 d179_782 rfl rfl (by rw [G.1 _ _ (rfl : ai_sp 572 = (9, 0)) (by decide) (by decide)]; rfl) (by decide) rfl (m_reckon1 G (rm_hi hM hf) hV) ?_
    rintro _ _ ⟨I3, L3, rfl, rfl, hM3, hg⟩
    show ai_Ev _ _ _ _ (.int _ :: .int _ :: []) _ _
    refine ev_icmp_T 1282 (by decide) la_eq d179_785 ?_
    exact hk _ I3 L3 (rx_lo hX2 hg) hM3 (iv_reckon hV)
theorem la_k17 (G : ai_G S F) (hX : ai_RX σ I L) (hM : ai_RM σ I L) (hV : ai_IV σ) {i : Nat} (hn : n ≤ 3072) (hi : i + 6 ≤ n) (hk : ∀ (σ2 : ai_S) (I2 : Nat → Nat → Int32) (L2 : Nat → Nat → Int64), ai_RX σ2 I2 L2 → ai_RM σ2 I2 L2 → ai_IV σ2 → ai_Ev (some (n, xs)) 179 1282 (la_ls i) [] (S, I2, L2, F) Q) : ai_Ev (some (n, xs)) 179 790 (la_ls i) [] (S, I, L, F) Q := by
  unfold la_ls at hk ⊢
  refine ev_aload_n 791 rfl d179_790 rfl ?_
  refine ev_aload_n 792 rfl d179_791 rfl ?_
  refine ev_iload_n 793 rfl d179_792 rfl ?_
  refine ev_iconst (v := nI 1) 794 rfl d179_793 (by decide) ?_
  refine ev_iadd (v := nI (i + 1)) 795 rfl d179_794 (nI_add _ _) ?_
  refine la_ld 796 rfl d179_795 (by omega) hn ?_
  refine ev_cv1 799 rfl 73 d179_796 rfl rfl (by rw [G.1 _ _ (rfl : ai_sp 1 = (8, 0)) (by decide) (by decide)]; rfl) (by decide) rfl (x_changed G hX hV) ?_
  rintro _ _ ⟨I2, L2, rfl, rfl, hX2, hf⟩
  show ai_Ev _ _ _ _ (.int _ :: []) _ _
  refine ev_aload_n 800 rfl d179_799 rfl ?_
  refine ev_aload_n 801 rfl d179_800 rfl ?_
  refine ev_iload_n 802 rfl d179_801 rfl ?_
  refine ev_iconst (v := nI 1) 803 rfl d179_802 (by decide) ?_
  refine ev_iadd (v := nI (i + 1)) 804 rfl d179_803 (nI_add _ _) ?_
  refine la_ld 805 rfl d179_804 (by omega) hn ?_
  refine ev_cv1 808 rfl 161 d179_805 rfl rfl (by rw [G.1 _ _ (rfl : ai_sp 572 = (9, 0)) (by decide) (by decide)]; rfl) (by decide) rfl (m_changed G (rm_hi hM hf) hV) ?_
  rintro _ _ ⟨I3, L3, rfl, rfl, hM3, hg⟩
  show ai_Ev _ _ _ _ (.int _ :: .int _ :: []) _ _
  refine ev_icmp_T 1282 (by decide) la_eq d179_808 ?_
  exact hk _ I3 L3 (rx_lo hX2 hg) hM3 (i_changed hV)
theorem la_k18 (G : ai_G S F) (hX : ai_RX σ I L) (hM : ai_RM σ I L) (hV : ai_IV σ) {i : Nat} (hn : n ≤ 3072) (hi : i + 6 ≤ n) (hk : ∀ (σ2 : ai_S) (I2 : Nat → Nat → Int32) (L2 : Nat → Nat → Int64), ai_RX σ2 I2 L2 → ai_RM σ2 I2 L2 → ai_IV σ2 → ai_Ev (some (n, xs)) 179 1282 (la_ls i) [] (S, I2, L2, F) Q) : ai_Ev (some (n, xs)) 179 813 (la_ls i) [] (S, I, L, F) Q := by
  unfold la_ls at hk ⊢
  refine ev_aload_n 814 rfl d179_813 rfl ?_
  refine ev_aload_n 815 rfl d179_814 rfl ?_
  refine ev_iload_n 816 rfl d179_815 rfl ?_
  refine ev_iconst (v := nI 1) 817 rfl d179_816 (by decide) ?_
  refine ev_iadd (v := nI (i + 1)) 818 rfl d179_817 (nI_add _ _) ?_
  refine la_ld 819 rfl d179_818 (by omega) hn ?_
  refine ev_aload_n 820 rfl d179_819 rfl ?_
  refine ev_iload_n 821 rfl d179_820 rfl ?_
  refine ev_iconst (v := nI 2) 822 rfl d179_821 (by decide) ?_
  refine ev_iadd (v := nI (i + 2)) 823 rfl d179_822 (nI_add _ _) ?_
  refine la_ld 824 rfl d179_823 (by omega) hn ?_
  refine ev_cv2 827 rfl 74 d179_824 rfl rfl (by rw [G.1 _ _ (rfl : ai_sp 1 = (8, 0)) (by decide) (by decide)]; rfl) (by decide) rfl (x_agreed G hX hV) ?_
  rintro _ _ ⟨I2, L2, rfl, rfl, hX2, hf⟩
  show ai_Ev _ _ _ _ (.int _ :: []) _ _
  refine ev_aload_n 828 rfl d179_827 rfl ?_
  refine ev_aload_n 829 rfl d179_828 rfl ?_
  refine ev_iload_n 830 rfl d179_829 rfl ?_
  refine ev_iconst (v := nI 1) 831 rfl d179_830 (by decide) ?_
  refine ev_iadd (v := nI (i + 1)) 832 rfl d179_831 (nI_add _ _) ?_
  refine la_ld 833 rfl d179_832 (by omega) hn ?_
  refine ev_aload_n 834 rfl d179_833 rfl ?_
  refine ev_iload_n 835 rfl d179_834 rfl ?_
  refine ev_iconst (v := nI 2) 836 rfl d179_835 (by decide) ?_
  refine ev_iadd (v := nI (i + 2)) 837 rfl d179_836 (nI_add _ _) ?_
  refine la_ld 838 rfl d179_837 (by omega) hn ?_
  refine ev_cv2 841 rfl 162 d179_838 rfl rfl (by rw [G.1 _ _ (rfl : ai_sp 572 = (9, 0)) (by decide) (by decide)]; rfl) (by decide) rfl (m_agreed G (rm_hi hM hf) hV) ?_
  rintro _ _ ⟨I3, L3, rfl, rfl, hM3, hg⟩
  show ai_Ev _ _ _ _ (.int _ :: .int _ :: []) _ _
  refine ev_icmp_T 1282 (by decide) la_eq d179_841 ?_
  exact hk _ I3 L3 (rx_lo hX2 hg) hM3 (i_agreed hV)
theorem la_k19 (G : ai_G S F) (hX : ai_RX σ I L) (hM : ai_RM σ I L) (hV : ai_IV σ) {i : Nat} (hn : n ≤ 3072) (hi : i + 6 ≤ n) (hk : ∀ (σ2 : ai_S) (I2 : Nat → Nat → Int32) (L2 : Nat → Nat → Int64), ai_RX σ2 I2 L2 → ai_RM σ2 I2 L2 → ai_IV σ2 → ai_Ev (some (n, xs)) 179 1282 (la_ls i) [] (S, I2, L2, F) Q) : ai_Ev (some (n, xs)) 179 846 (la_ls i) [] (S, I, L, F) Q := by
  unfold la_ls at hk ⊢
  refine ev_aload_n 847 rfl d179_846 rfl ?_
  refine ev_aload_n 848 rfl d179_847 rfl ?_
  refine ev_iload_n 849 rfl d179_848 rfl ?_
  refine ev_iconst (v := nI 1) 850 rfl d179_849 (by decide) ?_
  refine ev_iadd (v := nI (i + 1)) 851 rfl d179_850 (nI_add _ _) ?_
  refine la_ld 852 rfl d179_851 (by omega) hn ?_
  refine ev_aload_n 853 rfl d179_852 rfl ?_
  refine ev_iload_n 854 rfl d179_853 rfl ?_
  refine ev_iconst (v := nI 2) 855 rfl d179_854 (by decide) ?_
  refine ev_iadd (v := nI (i + 2)) 856 rfl d179_855 (nI_add _ _) ?_
  refine la_ld 857 rfl d179_856 (by omega) hn ?_
  refine ev_aload_n 858 rfl d179_857 rfl ?_
  refine ev_iload_n 859 rfl d179_858 rfl ?_
  refine ev_iconst (v := nI 3) 860 rfl d179_859 (by decide) ?_
  refine ev_iadd (v := nI (i + 3)) 861 rfl d179_860 (nI_add _ _) ?_
  refine la_ld 862 rfl d179_861 (by omega) hn ?_
  refine ev_aload_n 863 rfl d179_862 rfl ?_
  refine ev_iload_n 864 rfl d179_863 rfl ?_
  refine ev_iconst (v := nI 4) 865 rfl d179_864 (by decide) ?_
  refine ev_iadd (v := nI (i + 4)) 866 rfl d179_865 (nI_add _ _) ?_
  refine la_ld 867 rfl d179_866 (by omega) hn ?_
  refine ev_cv4 870 rfl 75 d179_867 rfl rfl (by rw [G.1 _ _ (rfl : ai_sp 1 = (8, 0)) (by decide) (by decide)]; rfl) (by decide) rfl (x_top G hX hV) ?_
  rintro _ _ ⟨I2, L2, rfl, rfl, hX2, hf⟩
  show ai_Ev _ _ _ _ (.int _ :: []) _ _
  refine ev_aload_n 871 rfl d179_870 rfl ?_
  refine ev_aload_n 872 rfl d179_871 rfl ?_
  refine ev_iload_n 873 rfl d179_872 rfl ?_
  refine ev_iconst (v := nI 1) 874 rfl d179_873 (by decide) ?_
  refine ev_iadd (v := nI (i + 1)) 875 rfl d179_874 (nI_add _ _) ?_
  refine la_ld 876 rfl d179_875 (by omega) hn ?_
  refine ev_aload_n 877 rfl d179_876 rfl ?_
  refine ev_iload_n 878 rfl d179_877 rfl ?_
  refine ev_iconst (v := nI 2) 879 rfl d179_878 (by decide) ?_
  refine ev_iadd (v := nI (i + 2)) 880 rfl d179_879 (nI_add _ _) ?_
  refine la_ld 881 rfl d179_880 (by omega) hn ?_
  refine ev_aload_n 882 rfl d179_881 rfl ?_
  refine ev_iload_n 883 rfl d179_882 rfl ?_
  refine ev_iconst (v := nI 3) 884 rfl d179_883 (by decide) ?_
  refine ev_iadd (v := nI (i + 3)) 885 rfl d179_884 (nI_add _ _) ?_
  refine la_ld 886 rfl d179_885 (by omega) hn ?_
  refine ev_aload_n 887 rfl d179_886 rfl ?_
  refine ev_iload_n 888 rfl d179_887 rfl ?_
  refine ev_iconst (v := nI 4) 889 rfl d179_888 (by decide) ?_
  refine ev_iadd (v := nI (i + 4)) 890 rfl d179_889 (nI_add _ _) ?_
  refine la_ld 891 rfl d179_890 (by omega) hn ?_
  refine ev_cv4 894 rfl 164 d179_891 rfl rfl (by rw [G.1 _ _ (rfl : ai_sp 572 = (9, 0)) (by decide) (by decide)]; rfl) (by decide) rfl (m_top G (rm_hi hM hf) hV) ?_
  rintro _ _ ⟨I3, L3, rfl, rfl, hM3, hg⟩
  show ai_Ev _ _ _ _ (.int _ :: .int _ :: []) _ _
  refine ev_icmp_T 1282 (by decide) la_eq d179_894 ?_
  exact hk _ I3 L3 (rx_lo hX2 hg) hM3 (i_top hV)
theorem la_k20 (G : ai_G S F) (hX : ai_RX σ I L) (hM : ai_RM σ I L) (hV : ai_IV σ) {i : Nat} (hn : n ≤ 3072) (hi : i + 6 ≤ n) (hk : ∀ (σ2 : ai_S) (I2 : Nat → Nat → Int32) (L2 : Nat → Nat → Int64), ai_RX σ2 I2 L2 → ai_RM σ2 I2 L2 → ai_IV σ2 → ai_Ev (some (n, xs)) 179 1282 (la_ls i) [] (S, I2, L2, F) Q) : ai_Ev (some (n, xs)) 179 899 (la_ls i) [] (S, I, L, F) Q := by
  unfold la_ls at hk ⊢
  refine ev_aload_n 900 rfl d179_899 rfl ?_
  refine ev_aload_n 901 rfl d179_900 rfl ?_
  refine ev_iload_n 902 rfl d179_901 rfl ?_
  refine ev_iconst (v := nI 1) 903 rfl d179_902 (by decide) ?_
  refine ev_iadd (v := nI (i + 1)) 904 rfl d179_903 (nI_add _ _) ?_
  refine la_ld 905 rfl d179_904 (by omega) hn ?_
  refine ev_aload_n 906 rfl d179_905 rfl ?_
  refine ev_iload_n 907 rfl d179_906 rfl ?_
  refine ev_iconst (v := nI 2) 908 rfl d179_907 (by decide) ?_
  refine ev_iadd (v := nI (i + 2)) 909 rfl d179_908 (nI_add _ _) ?_
  refine la_ld 910 rfl d179_909 (by omega) hn ?_
  refine ev_aload_n 911 rfl d179_910 rfl ?_
  refine ev_iload_n 912 rfl d179_911 rfl ?_
  refine ev_iconst (v := nI 3) 913 rfl d179_912 (by decide) ?_
  refine ev_iadd (v := nI (i + 3)) 914 rfl d179_913 (nI_add _ _) ?_
  refine la_ld 915 rfl d179_914 (by omega) hn ?_
  refine ev_cv3 918 rfl 76 d179_915 rfl rfl (by rw [G.1 _ _ (rfl : ai_sp 1 = (8, 0)) (by decide) (by decide)]; rfl) (by decide) rfl (x_bottom G hX hV) ?_
  rintro _ _ ⟨I2, L2, rfl, rfl, hX2, hf⟩
  show ai_Ev _ _ _ _ (.int _ :: []) _ _
  refine ev_aload_n 919 rfl d179_918 rfl ?_
  refine ev_aload_n 920 rfl d179_919 rfl ?_
  refine ev_iload_n 921 rfl d179_920 rfl ?_
  refine ev_iconst (v := nI 1) 922 rfl d179_921 (by decide) ?_
  refine ev_iadd (v := nI (i + 1)) 923 rfl d179_922 (nI_add _ _) ?_
  refine la_ld 924 rfl d179_923 (by omega) hn ?_
  refine ev_aload_n 925 rfl d179_924 rfl ?_
  refine ev_iload_n 926 rfl d179_925 rfl ?_
  refine ev_iconst (v := nI 2) 927 rfl d179_926 (by decide) ?_
  refine ev_iadd (v := nI (i + 2)) 928 rfl d179_927 (nI_add _ _) ?_
  refine la_ld 929 rfl d179_928 (by omega) hn ?_
  refine ev_aload_n 930 rfl d179_929 rfl ?_
  refine ev_iload_n 931 rfl d179_930 rfl ?_
  refine ev_iconst (v := nI 3) 932 rfl d179_931 (by decide) ?_
  refine ev_iadd (v := nI (i + 3)) 933 rfl d179_932 (nI_add _ _) ?_
  refine la_ld 934 rfl d179_933 (by omega) hn ?_
  refine ev_cv3 937 rfl 165 d179_934 rfl rfl (by rw [G.1 _ _ (rfl : ai_sp 572 = (9, 0)) (by decide) (by decide)]; rfl) (by decide) rfl (m_bottom G (rm_hi hM hf) hV) ?_
  rintro _ _ ⟨I3, L3, rfl, rfl, hM3, hg⟩
  show ai_Ev _ _ _ _ (.int _ :: .int _ :: []) _ _
  refine ev_icmp_T 1282 (by decide) la_eq d179_937 ?_
  exact hk _ I3 L3 (rx_lo hX2 hg) hM3 (i_bottom hV)
theorem la_k21 (G : ai_G S F) (hX : ai_RX σ I L) (hM : ai_RM σ I L) (hV : ai_IV σ) {i : Nat} (hn : n ≤ 3072) (hi : i + 6 ≤ n) (hk : ∀ (σ2 : ai_S) (I2 : Nat → Nat → Int32) (L2 : Nat → Nat → Int64), ai_RX σ2 I2 L2 → ai_RM σ2 I2 L2 → ai_IV σ2 → ai_Ev (some (n, xs)) 179 1282 (la_ls i) [] (S, I2, L2, F) Q) : ai_Ev (some (n, xs)) 179 942 (la_ls i) [] (S, I, L, F) Q := by
  unfold la_ls at hk ⊢
  refine ev_aload_n 943 rfl d179_942 rfl ?_
  refine ev_aload_n 944 rfl d179_943 rfl ?_
  refine ev_iload_n 945 rfl d179_944 rfl ?_
  refine ev_iconst (v := nI 1) 946 rfl d179_945 (by decide) ?_
  refine ev_iadd (v := nI (i + 1)) 947 rfl d179_946 (nI_add _ _) ?_
  refine la_ld 948 rfl d179_947 (by omega) hn ?_
  refine ev_aload_n 949 rfl d179_948 rfl ?_
  refine ev_iload_n 950 rfl d179_949 rfl ?_
  refine ev_iconst (v := nI 2) 951 rfl d179_950 (by decide) ?_
  refine ev_iadd (v := nI (i + 2)) 952 rfl d179_951 (nI_add _ _) ?_
  refine la_ld 953 rfl d179_952 (by omega) hn ?_
  refine ev_aload_n 954 rfl d179_953 rfl ?_
  refine ev_iload_n 955 rfl d179_954 rfl ?_
  refine ev_iconst (v := nI 3) 956 rfl d179_955 (by decide) ?_
  refine ev_iadd (v := nI (i + 3)) 957 rfl d179_956 (nI_add _ _) ?_
  refine la_ld 958 rfl d179_957 (by omega) hn ?_
  refine ev_cv3 961 rfl 77 d179_958 rfl rfl (by rw [G.1 _ _ (rfl : ai_sp 1 = (8, 0)) (by decide) (by decide)]; rfl) (by decide) rfl (x_share G hX hV) ?_
  rintro _ _ ⟨I2, L2, rfl, rfl, hX2, hf⟩
  show ai_Ev _ _ _ _ (.int _ :: []) _ _
  refine ev_aload_n 962 rfl d179_961 rfl ?_
  refine ev_aload_n 963 rfl d179_962 rfl ?_
  refine ev_iload_n 964 rfl d179_963 rfl ?_
  refine ev_iconst (v := nI 1) 965 rfl d179_964 (by decide) ?_
  refine ev_iadd (v := nI (i + 1)) 966 rfl d179_965 (nI_add _ _) ?_
  refine la_ld 967 rfl d179_966 (by omega) hn ?_
  refine ev_aload_n 968 rfl d179_967 rfl ?_
  refine ev_iload_n 969 rfl d179_968 rfl ?_
  refine ev_iconst (v := nI 2) 970 rfl d179_969 (by decide) ?_
  refine ev_iadd (v := nI (i + 2)) 971 rfl d179_970 (nI_add _ _) ?_
  refine la_ld 972 rfl d179_971 (by omega) hn ?_
  refine ev_aload_n 973 rfl d179_972 rfl ?_
  refine ev_iload_n 974 rfl d179_973 rfl ?_
  refine ev_iconst (v := nI 3) 975 rfl d179_974 (by decide) ?_
  refine ev_iadd (v := nI (i + 3)) 976 rfl d179_975 (nI_add _ _) ?_
  refine la_ld 977 rfl d179_976 (by omega) hn ?_
  refine ev_cv3 980 rfl 166 d179_977 rfl rfl (by rw [G.1 _ _ (rfl : ai_sp 572 = (9, 0)) (by decide) (by decide)]; rfl) (by decide) rfl (m_share G (rm_hi hM hf) hV) ?_
  rintro _ _ ⟨I3, L3, rfl, rfl, hM3, hg⟩
  show ai_Ev _ _ _ _ (.int _ :: .int _ :: []) _ _
  refine ev_icmp_T 1282 (by decide) la_eq d179_980 ?_
  exact hk _ I3 L3 (rx_lo hX2 hg) hM3 (i_share hV)
theorem la_k22 (G : ai_G S F) (hX : ai_RX σ I L) (hM : ai_RM σ I L) (hV : ai_IV σ) {i : Nat} (hn : n ≤ 3072) (hi : i + 6 ≤ n) (hk : ∀ (σ2 : ai_S) (I2 : Nat → Nat → Int32) (L2 : Nat → Nat → Int64), ai_RX σ2 I2 L2 → ai_RM σ2 I2 L2 → ai_IV σ2 → ai_Ev (some (n, xs)) 179 1282 (la_ls i) [] (S, I2, L2, F) Q) : ai_Ev (some (n, xs)) 179 985 (la_ls i) [] (S, I, L, F) Q := by
  unfold la_ls at hk ⊢
  refine ev_aload_n 986 rfl d179_985 rfl ?_
  refine ev_aload_n 987 rfl d179_986 rfl ?_
  refine ev_iload_n 988 rfl d179_987 rfl ?_
  refine ev_iconst (v := nI 1) 989 rfl d179_988 (by decide) ?_
  refine ev_iadd (v := nI (i + 1)) 990 rfl d179_989 (nI_add _ _) ?_
  refine la_ld 991 rfl d179_990 (by omega) hn ?_
  refine ev_aload_n 992 rfl d179_991 rfl ?_
  refine ev_iload_n 993 rfl d179_992 rfl ?_
  refine ev_iconst (v := nI 2) 994 rfl d179_993 (by decide) ?_
  refine ev_iadd (v := nI (i + 2)) 995 rfl d179_994 (nI_add _ _) ?_
  refine la_ld 996 rfl d179_995 (by omega) hn ?_
  refine ev_cv2 999 rfl 78 d179_996 rfl rfl (by rw [G.1 _ _ (rfl : ai_sp 1 = (8, 0)) (by decide) (by decide)]; rfl) (by decide) rfl (x_leading G hX hV) ?_
  rintro _ _ ⟨I2, L2, rfl, rfl, hX2, hf⟩
  show ai_Ev _ _ _ _ (.int _ :: []) _ _
  refine ev_aload_n 1000 rfl d179_999 rfl ?_
  refine ev_aload_n 1001 rfl d179_1000 rfl ?_
  refine ev_iload_n 1002 rfl d179_1001 rfl ?_
  refine ev_iconst (v := nI 1) 1003 rfl d179_1002 (by decide) ?_
  refine ev_iadd (v := nI (i + 1)) 1004 rfl d179_1003 (nI_add _ _) ?_
  refine la_ld 1005 rfl d179_1004 (by omega) hn ?_
  refine ev_aload_n 1006 rfl d179_1005 rfl ?_
  refine ev_iload_n 1007 rfl d179_1006 rfl ?_
  refine ev_iconst (v := nI 2) 1008 rfl d179_1007 (by decide) ?_
  refine ev_iadd (v := nI (i + 2)) 1009 rfl d179_1008 (nI_add _ _) ?_
  refine la_ld 1010 rfl d179_1009 (by omega) hn ?_
  refine ev_cv2 1013 rfl 167 d179_1010 rfl rfl (by rw [G.1 _ _ (rfl : ai_sp 572 = (9, 0)) (by decide) (by decide)]; rfl) (by decide) rfl (m_leading G (rm_hi hM hf) hV) ?_
  rintro _ _ ⟨I3, L3, rfl, rfl, hM3, hg⟩
  show ai_Ev _ _ _ _ (.int _ :: .int _ :: []) _ _
  refine ev_icmp_T 1282 (by decide) la_eq d179_1013 ?_
  exact hk _ I3 L3 (rx_lo hX2 hg) hM3 (i_leading hV)
theorem la_k23 (G : ai_G S F) (hX : ai_RX σ I L) (hM : ai_RM σ I L) (hV : ai_IV σ) {i : Nat} (hn : n ≤ 3072) (hi : i + 6 ≤ n) (hk : ∀ (σ2 : ai_S) (I2 : Nat → Nat → Int32) (L2 : Nat → Nat → Int64), ai_RX σ2 I2 L2 → ai_RM σ2 I2 L2 → ai_IV σ2 → ai_Ev (some (n, xs)) 179 1282 (la_ls i) [] (S, I2, L2, F) Q) : ai_Ev (some (n, xs)) 179 1018 (la_ls i) [] (S, I, L, F) Q := by
  unfold la_ls at hk ⊢
  refine ev_aload_n 1019 rfl d179_1018 rfl ?_
  refine ev_aload_n 1020 rfl d179_1019 rfl ?_
  refine ev_iload_n 1021 rfl d179_1020 rfl ?_
  refine ev_iconst (v := nI 1) 1022 rfl d179_1021 (by decide) ?_
  refine ev_iadd (v := nI (i + 1)) 1023 rfl d179_1022 (nI_add _ _) ?_
  refine la_ld 1024 rfl d179_1023 (by omega) hn ?_
  refine ev_aload_n 1025 rfl d179_1024 rfl ?_
  refine ev_iload_n 1026 rfl d179_1025 rfl ?_
  refine ev_iconst (v := nI 2) 1027 rfl d179_1026 (by decide) ?_
  refine ev_iadd (v := nI (i + 2)) 1028 rfl d179_1027 (nI_add _ _) ?_
  refine la_ld 1029 rfl d179_1028 (by omega) hn ?_
  refine ev_aload_n 1030 rfl d179_1029 rfl ?_
  refine ev_iload_n 1031 rfl d179_1030 rfl ?_
  refine ev_iconst (v := nI 3) 1032 rfl d179_1031 (by decide) ?_
  refine ev_iadd (v := nI (i + 3)) 1033 rfl d179_1032 (nI_add _ _) ?_
  refine la_ld 1034 rfl d179_1033 (by omega) hn ?_
  refine ev_cv3 1037 rfl 79 d179_1034 rfl rfl (by rw [G.1 _ _ (rfl : ai_sp 1 = (8, 0)) (by decide) (by decide)]; rfl) (by decide) rfl (x_is G hX hV) ?_
  rintro r0 _ ⟨I2, L2, hr0, rfl, hX2, hf⟩
  obtain ⟨b0, hb0, rfl⟩ : ∃ b, ((σ.isP (xs (i + 1)) (xs (i + 2)) (xs (i + 3)) ∧ b = nI 1) ∨ (¬ σ.isP (xs (i + 1)) (xs (i + 2)) (xs (i + 3)) ∧ b = nI 0)) ∧ r0 = some (.int b) := by
      rcases hr0 with ⟨h1, h2⟩ | ⟨h1, h2⟩
      · exact ⟨_, Or.inl ⟨h1, rfl⟩, h2⟩
      · exact ⟨_, Or.inr ⟨h1, rfl⟩, h2⟩
  show ai_Ev _ _ _ _ (.int b0 :: []) _ _
  refine ev_aload_n 1038 rfl d179_1037 rfl ?_
  refine ev_aload_n 1039 rfl d179_1038 rfl ?_
  refine ev_iload_n 1040 rfl d179_1039 rfl ?_
  refine ev_iconst (v := nI 1) 1041 rfl d179_1040 (by decide) ?_
  refine ev_iadd (v := nI (i + 1)) 1042 rfl d179_1041 (nI_add _ _) ?_
  refine la_ld 1043 rfl d179_1042 (by omega) hn ?_
  refine ev_aload_n 1044 rfl d179_1043 rfl ?_
  refine ev_iload_n 1045 rfl d179_1044 rfl ?_
  refine ev_iconst (v := nI 2) 1046 rfl d179_1045 (by decide) ?_
  refine ev_iadd (v := nI (i + 2)) 1047 rfl d179_1046 (nI_add _ _) ?_
  refine la_ld 1048 rfl d179_1047 (by omega) hn ?_
  refine ev_aload_n 1049 rfl d179_1048 rfl ?_
  refine ev_iload_n 1050 rfl d179_1049 rfl ?_
  refine ev_iconst (v := nI 3) 1051 rfl d179_1050 (by decide) ?_
  refine ev_iadd (v := nI (i + 3)) 1052 rfl d179_1051 (nI_add _ _) ?_
  refine la_ld 1053 rfl d179_1052 (by omega) hn ?_
  refine ev_cv3 1056 rfl 170 d179_1053 rfl rfl (by rw [G.1 _ _ (rfl : ai_sp 572 = (9, 0)) (by decide) (by decide)]; rfl) (by decide) rfl (m_is G (rm_hi hM hf) hV) ?_
  rintro r1 _ ⟨I3, L3, hr1, rfl, hM3, hg⟩
  obtain rfl : r1 = some (Value.int b0) := by
      rcases hr1 with ⟨h1, h2⟩ | ⟨h1, h2⟩ <;> rcases hb0 with ⟨h3, h4⟩ | ⟨h3, h4⟩
      · rw [h2, h4]
      · exact absurd h1 h3
      · exact absurd h3 h1
      · rw [h2, h4]
  show ai_Ev _ _ _ _ (.int b0 :: .int b0 :: []) _ _
  refine ev_icmp_T 1282 (by decide) la_eq d179_1056 ?_
  exact hk _ I3 L3 (rx_lo hX2 hg) hM3 hV
theorem la_k24 (G : ai_G S F) (hX : ai_RX σ I L) (hM : ai_RM σ I L) (hV : ai_IV σ) {i : Nat} (hn : n ≤ 3072) (hi : i + 6 ≤ n) (hk : ∀ (σ2 : ai_S) (I2 : Nat → Nat → Int32) (L2 : Nat → Nat → Int64), ai_RX σ2 I2 L2 → ai_RM σ2 I2 L2 → ai_IV σ2 → ai_Ev (some (n, xs)) 179 1282 (la_ls i) [] (S, I2, L2, F) Q) : ai_Ev (some (n, xs)) 179 1061 (la_ls i) [] (S, I, L, F) Q := by
  unfold la_ls at hk ⊢
  refine ev_aload_n 1062 rfl d179_1061 rfl ?_
  refine ev_aload_n 1063 rfl d179_1062 rfl ?_
  refine ev_iload_n 1064 rfl d179_1063 rfl ?_
  refine ev_iconst (v := nI 1) 1065 rfl d179_1064 (by decide) ?_
  refine ev_iadd (v := nI (i + 1)) 1066 rfl d179_1065 (nI_add _ _) ?_
  refine la_ld 1067 rfl d179_1066 (by omega) hn ?_
  refine ev_aload_n 1068 rfl d179_1067 rfl ?_
  refine ev_iload_n 1069 rfl d179_1068 rfl ?_
  refine ev_iconst (v := nI 2) 1070 rfl d179_1069 (by decide) ?_
  refine ev_iadd (v := nI (i + 2)) 1071 rfl d179_1070 (nI_add _ _) ?_
  refine la_ld 1072 rfl d179_1071 (by omega) hn ?_
  refine ev_cv2 1075 rfl 71 d179_1072 rfl rfl (by rw [G.1 _ _ (rfl : ai_sp 1 = (8, 0)) (by decide) (by decide)]; rfl) (by decide) rfl (x_looks G hX hV) ?_
  rintro _ _ ⟨I2, L2, rfl, rfl, hX2, hf⟩
  show ai_Ev _ _ _ _ (.int _ :: []) _ _
  refine ev_aload_n 1076 rfl d179_1075 rfl ?_
  refine ev_aload_n 1077 rfl d179_1076 rfl ?_
  refine ev_iload_n 1078 rfl d179_1077 rfl ?_
  refine ev_iconst (v := nI 1) 1079 rfl d179_1078 (by decide) ?_
  refine ev_iadd (v := nI (i + 1)) 1080 rfl d179_1079 (nI_add _ _) ?_
  refine la_ld 1081 rfl d179_1080 (by omega) hn ?_
  refine ev_aload_n 1082 rfl d179_1081 rfl ?_
  refine ev_iload_n 1083 rfl d179_1082 rfl ?_
  refine ev_iconst (v := nI 2) 1084 rfl d179_1083 (by decide) ?_
  refine ev_iadd (v := nI (i + 2)) 1085 rfl d179_1084 (nI_add _ _) ?_
  refine la_ld 1086 rfl d179_1085 (by omega) hn ?_
  refine ev_cv2 1089 rfl 171 d179_1086 rfl rfl (by rw [G.1 _ _ (rfl : ai_sp 572 = (9, 0)) (by decide) (by decide)]; rfl) (by decide) rfl (m_looks G (rm_hi hM hf) hV) ?_
  rintro _ _ ⟨I3, L3, rfl, rfl, hM3, hg⟩
  show ai_Ev _ _ _ _ (.int _ :: .int _ :: []) _ _
  refine ev_icmp_T 1282 (by decide) la_eq d179_1089 ?_
  exact hk _ I3 L3 (rx_lo hX2 hg) hM3 (i_looks hV)
theorem la_k25 (G : ai_G S F) (hX : ai_RX σ I L) (hM : ai_RM σ I L) (hV : ai_IV σ) {i : Nat} (hn : n ≤ 3072) (hi : i + 6 ≤ n) (hk : ∀ (σ2 : ai_S) (I2 : Nat → Nat → Int32) (L2 : Nat → Nat → Int64), ai_RX σ2 I2 L2 → ai_RM σ2 I2 L2 → ai_IV σ2 → ai_Ev (some (n, xs)) 179 1282 (la_ls i) [] (S, I2, L2, F) Q) : ai_Ev (some (n, xs)) 179 1094 (la_ls i) [] (S, I, L, F) Q := by
  unfold la_ls at hk ⊢
  refine ev_aload_n 1095 rfl d179_1094 rfl ?_
  refine ev_aload_n 1096 rfl d179_1095 rfl ?_
  refine ev_iload_n 1097 rfl d179_1096 rfl ?_
  refine ev_iconst (v := nI 1) 1098 rfl d179_1097 (by decide) ?_
  refine ev_iadd (v := nI (i + 1)) 1099 rfl d179_1098 (nI_add _ _) ?_
  refine la_ld 1100 rfl d179_1099 (by omega) hn ?_
  refine ev_aload_n 1101 rfl d179_1100 rfl ?_
  refine ev_iload_n 1102 rfl d179_1101 rfl ?_
  refine ev_iconst (v := nI 2) 1103 rfl d179_1102 (by decide) ?_
  refine ev_iadd (v := nI (i + 2)) 1104 rfl d179_1103 (nI_add _ _) ?_
  refine la_ld 1105 rfl d179_1104 (by omega) hn ?_
  refine ev_aload_n 1106 rfl d179_1105 rfl ?_
  refine ev_iload_n 1107 rfl d179_1106 rfl ?_
  refine ev_iconst (v := nI 3) 1108 rfl d179_1107 (by decide) ?_
  refine ev_iadd (v := nI (i + 3)) 1109 rfl d179_1108 (nI_add _ _) ?_
  refine la_ld 1110 rfl d179_1109 (by omega) hn ?_
  refine ev_cv3 1113 rfl 69 d179_1110 rfl rfl (by rw [G.1 _ _ (rfl : ai_sp 1 = (8, 0)) (by decide) (by decide)]; rfl) (by decide) rfl (x_how G hX hV) ?_
  rintro _ _ ⟨I2, L2, rfl, rfl, hX2, hf⟩
  show ai_Ev _ _ _ _ (.int _ :: []) _ _
  refine ev_aload_n 1114 rfl d179_1113 rfl ?_
  refine ev_aload_n 1115 rfl d179_1114 rfl ?_
  refine ev_iload_n 1116 rfl d179_1115 rfl ?_
  refine ev_iconst (v := nI 1) 1117 rfl d179_1116 (by decide) ?_
  refine ev_iadd (v := nI (i + 1)) 1118 rfl d179_1117 (nI_add _ _) ?_
  refine la_ld 1119 rfl d179_1118 (by omega) hn ?_
  refine ev_aload_n 1120 rfl d179_1119 rfl ?_
  refine ev_iload_n 1121 rfl d179_1120 rfl ?_
  refine ev_iconst (v := nI 2) 1122 rfl d179_1121 (by decide) ?_
  refine ev_iadd (v := nI (i + 2)) 1123 rfl d179_1122 (nI_add _ _) ?_
  refine la_ld 1124 rfl d179_1123 (by omega) hn ?_
  refine ev_aload_n 1125 rfl d179_1124 rfl ?_
  refine ev_iload_n 1126 rfl d179_1125 rfl ?_
  refine ev_iconst (v := nI 3) 1127 rfl d179_1126 (by decide) ?_
  refine ev_iadd (v := nI (i + 3)) 1128 rfl d179_1127 (nI_add _ _) ?_
  refine la_ld 1129 rfl d179_1128 (by omega) hn ?_
  refine ev_cv3 1132 rfl 172 d179_1129 rfl rfl (by rw [G.1 _ _ (rfl : ai_sp 572 = (9, 0)) (by decide) (by decide)]; rfl) (by decide) rfl (m_how G (rm_hi hM hf) hV) ?_
  rintro _ _ ⟨I3, L3, rfl, rfl, hM3, hg⟩
  show ai_Ev _ _ _ _ (.int _ :: .int _ :: []) _ _
  refine ev_icmp_T 1282 (by decide) la_eq d179_1132 ?_
  exact hk _ I3 L3 (rx_lo hX2 hg) hM3 (i_how hV)
theorem la_k26 (G : ai_G S F) (hX : ai_RX σ I L) (hM : ai_RM σ I L) (hV : ai_IV σ) {i : Nat} (hn : n ≤ 3072) (hi : i + 6 ≤ n) (hk : ∀ (σ2 : ai_S) (I2 : Nat → Nat → Int32) (L2 : Nat → Nat → Int64), ai_RX σ2 I2 L2 → ai_RM σ2 I2 L2 → ai_IV σ2 → ai_Ev (some (n, xs)) 179 1282 (la_ls i) [] (S, I2, L2, F) Q) : ai_Ev (some (n, xs)) 179 1137 (la_ls i) [] (S, I, L, F) Q := by
  unfold la_ls at hk ⊢
  refine ev_aload_n 1138 rfl d179_1137 rfl ?_
  refine ev_aload_n 1139 rfl d179_1138 rfl ?_
  refine ev_iload_n 1140 rfl d179_1139 rfl ?_
  refine ev_iconst (v := nI 1) 1141 rfl d179_1140 (by decide) ?_
  refine ev_iadd (v := nI (i + 1)) 1142 rfl d179_1141 (nI_add _ _) ?_
  refine la_ld 1143 rfl d179_1142 (by omega) hn ?_
  refine ev_cv1 1146 rfl 70 d179_1143 rfl rfl (by rw [G.1 _ _ (rfl : ai_sp 1 = (8, 0)) (by decide) (by decide)]; rfl) (by decide) rfl (x_copied G hX hV) ?_
  rintro _ _ ⟨I2, L2, rfl, rfl, hX2, hf⟩
  show ai_Ev _ _ _ _ (.int _ :: []) _ _
  refine ev_aload_n 1147 rfl d179_1146 rfl ?_
  refine ev_aload_n 1148 rfl d179_1147 rfl ?_
  refine ev_iload_n 1149 rfl d179_1148 rfl ?_
  refine ev_iconst (v := nI 1) 1150 rfl d179_1149 (by decide) ?_
  refine ev_iadd (v := nI (i + 1)) 1151 rfl d179_1150 (nI_add _ _) ?_
  refine la_ld 1152 rfl d179_1151 (by omega) hn ?_
  refine ev_cv1 1155 rfl 173 d179_1152 rfl rfl (by rw [G.1 _ _ (rfl : ai_sp 572 = (9, 0)) (by decide) (by decide)]; rfl) (by decide) rfl (m_copied G (rm_hi hM hf) hV) ?_
  rintro _ _ ⟨I3, L3, rfl, rfl, hM3, hg⟩
  show ai_Ev _ _ _ _ (.int _ :: .int _ :: []) _ _
  refine ev_icmp_T 1282 (by decide) la_eq d179_1155 ?_
  exact hk _ I3 L3 (rx_lo hX2 hg) hM3 (i_copied hV)
theorem la_k27 (G : ai_G S F) (hX : ai_RX σ I L) (hM : ai_RM σ I L) (hV : ai_IV σ) {i : Nat} (hn : n ≤ 3072) (hi : i + 6 ≤ n) (hk : ∀ (σ2 : ai_S) (I2 : Nat → Nat → Int32) (L2 : Nat → Nat → Int64), ai_RX σ2 I2 L2 → ai_RM σ2 I2 L2 → ai_IV σ2 → ai_Ev (some (n, xs)) 179 1282 (la_ls i) [] (S, I2, L2, F) Q) : ai_Ev (some (n, xs)) 179 1160 (la_ls i) [] (S, I, L, F) Q := by
  unfold la_ls at hk ⊢
  refine ev_aload_n 1161 rfl d179_1160 rfl ?_
  refine ev_aload_n 1162 rfl d179_1161 rfl ?_
  refine ev_iload_n 1163 rfl d179_1162 rfl ?_
  refine ev_iconst (v := nI 1) 1164 rfl d179_1163 (by decide) ?_
  refine ev_iadd (v := nI (i + 1)) 1165 rfl d179_1164 (nI_add _ _) ?_
  refine la_ld 1166 rfl d179_1165 (by omega) hn ?_
  refine ev_cv1 1169 rfl 80 d179_1166 rfl rfl (by rw [G.1 _ _ (rfl : ai_sp 1 = (8, 0)) (by decide) (by decide)]; rfl) (by decide) rfl (x_next G hX hV) ?_
  rintro _ _ ⟨I2, L2, rfl, rfl, hX2, hf⟩
  show ai_Ev _ _ _ _ (.int _ :: []) _ _
  refine ev_aload_n 1170 rfl d179_1169 rfl ?_
  refine ev_aload_n 1171 rfl d179_1170 rfl ?_
  refine ev_iload_n 1172 rfl d179_1171 rfl ?_
  refine ev_iconst (v := nI 1) 1173 rfl d179_1172 (by decide) ?_
  refine ev_iadd (v := nI (i + 1)) 1174 rfl d179_1173 (nI_add _ _) ?_
  refine la_ld 1175 rfl d179_1174 (by omega) hn ?_
  refine ev_cv1 1178 rfl 176 d179_1175 rfl rfl (by rw [G.1 _ _ (rfl : ai_sp 572 = (9, 0)) (by decide) (by decide)]; rfl) (by decide) rfl (m_next G (rm_hi hM hf) hV) ?_
  rintro _ _ ⟨I3, L3, rfl, rfl, hM3, hg⟩
  show ai_Ev _ _ _ _ (.int _ :: .int _ :: []) _ _
  refine ev_icmp_T 1282 (by decide) la_eq d179_1178 ?_
  exact hk _ I3 L3 (rx_lo hX2 hg) hM3 (i_next hV)
theorem la_k28 (G : ai_G S F) (hX : ai_RX σ I L) (hM : ai_RM σ I L) (hV : ai_IV σ) {i : Nat} (hn : n ≤ 3072) (hi : i + 6 ≤ n) (hk : ∀ (σ2 : ai_S) (I2 : Nat → Nat → Int32) (L2 : Nat → Nat → Int64), ai_RX σ2 I2 L2 → ai_RM σ2 I2 L2 → ai_IV σ2 → ai_Ev (some (n, xs)) 179 1282 (la_ls i) [] (S, I2, L2, F) Q) : ai_Ev (some (n, xs)) 179 1183 (la_ls i) [] (S, I, L, F) Q := by
  unfold la_ls at hk ⊢
  refine ev_aload_n 1184 rfl d179_1183 rfl ?_
  refine ev_aload_n 1185 rfl d179_1184 rfl ?_
  refine ev_iload_n 1186 rfl d179_1185 rfl ?_
  refine ev_iconst (v := nI 1) 1187 rfl d179_1186 (by decide) ?_
  refine ev_iadd (v := nI (i + 1)) 1188 rfl d179_1187 (nI_add _ _) ?_
  refine la_ld 1189 rfl d179_1188 (by omega) hn ?_
  refine ev_aload_n 1190 rfl d179_1189 rfl ?_
  refine ev_iload_n 1191 rfl d179_1190 rfl ?_
  refine ev_iconst (v := nI 2) 1192 rfl d179_1191 (by decide) ?_
  refine ev_iadd (v := nI (i + 2)) 1193 rfl d179_1192 (nI_add _ _) ?_
  refine la_ld 1194 rfl d179_1193 (by omega) hn ?_
  refine ev_aload_n 1195 rfl d179_1194 rfl ?_
  refine ev_iload_n 1196 rfl d179_1195 rfl ?_
  refine ev_iconst (v := nI 3) 1197 rfl d179_1196 (by decide) ?_
  refine ev_iadd (v := nI (i + 3)) 1198 rfl d179_1197 (nI_add _ _) ?_
  refine la_ld 1199 rfl d179_1198 (by omega) hn ?_
  refine ev_cv3 1202 rfl 81 d179_1199 rfl rfl (by rw [G.1 _ _ (rfl : ai_sp 1 = (8, 0)) (by decide) (by decide)]; rfl) (by decide) rfl (x_gain G hX hV) ?_
  rintro _ _ ⟨I2, L2, rfl, rfl, hX2, hf⟩
  show ai_Ev _ _ _ _ (.int _ :: []) _ _
  refine ev_aload_n 1203 rfl d179_1202 rfl ?_
  refine ev_aload_n 1204 rfl d179_1203 rfl ?_
  refine ev_iload_n 1205 rfl d179_1204 rfl ?_
  refine ev_iconst (v := nI 1) 1206 rfl d179_1205 (by decide) ?_
  refine ev_iadd (v := nI (i + 1)) 1207 rfl d179_1206 (nI_add _ _) ?_
  refine la_ld 1208 rfl d179_1207 (by omega) hn ?_
  refine ev_aload_n 1209 rfl d179_1208 rfl ?_
  refine ev_iload_n 1210 rfl d179_1209 rfl ?_
  refine ev_iconst (v := nI 2) 1211 rfl d179_1210 (by decide) ?_
  refine ev_iadd (v := nI (i + 2)) 1212 rfl d179_1211 (nI_add _ _) ?_
  refine la_ld 1213 rfl d179_1212 (by omega) hn ?_
  refine ev_aload_n 1214 rfl d179_1213 rfl ?_
  refine ev_iload_n 1215 rfl d179_1214 rfl ?_
  refine ev_iconst (v := nI 3) 1216 rfl d179_1215 (by decide) ?_
  refine ev_iadd (v := nI (i + 3)) 1217 rfl d179_1216 (nI_add _ _) ?_
  refine la_ld 1218 rfl d179_1217 (by omega) hn ?_
  refine ev_cv3 1221 rfl 175 d179_1218 rfl rfl (by rw [G.1 _ _ (rfl : ai_sp 572 = (9, 0)) (by decide) (by decide)]; rfl) (by decide) rfl (m_gain G (rm_hi hM hf) hV) ?_
  rintro _ _ ⟨I3, L3, rfl, rfl, hM3, hg⟩
  show ai_Ev _ _ _ _ (.int _ :: .int _ :: []) _ _
  refine ev_icmp_T 1282 (by decide) la_eq d179_1221 ?_
  exact hk _ I3 L3 (rx_lo hX2 hg) hM3 (i_gain hV)
theorem la_k29 (G : ai_G S F) (hX : ai_RX σ I L) (hM : ai_RM σ I L) (hV : ai_IV σ) {i : Nat} (hn : n ≤ 3072) (hi : i + 6 ≤ n) (hk : ∀ (σ2 : ai_S) (I2 : Nat → Nat → Int32) (L2 : Nat → Nat → Int64), ai_RX σ2 I2 L2 → ai_RM σ2 I2 L2 → ai_IV σ2 → ai_Ev (some (n, xs)) 179 1282 (la_ls i) [] (S, I2, L2, F) Q) : ai_Ev (some (n, xs)) 179 1226 (la_ls i) [] (S, I, L, F) Q := by
  unfold la_ls at hk ⊢
  refine ev_aload_n 1227 rfl d179_1226 rfl ?_
  refine ev_aload_n 1228 rfl d179_1227 rfl ?_
  refine ev_iload_n 1229 rfl d179_1228 rfl ?_
  refine ev_iconst (v := nI 1) 1230 rfl d179_1229 (by decide) ?_
  refine ev_iadd (v := nI (i + 1)) 1231 rfl d179_1230 (nI_add _ _) ?_
  refine la_ld 1232 rfl d179_1231 (by omega) hn ?_
  refine ev_aload_n 1233 rfl d179_1232 rfl ?_
  refine ev_iload_n 1234 rfl d179_1233 rfl ?_
  refine ev_iconst (v := nI 2) 1235 rfl d179_1234 (by decide) ?_
  refine ev_iadd (v := nI (i + 2)) 1236 rfl d179_1235 (nI_add _ _) ?_
  refine la_ld 1237 rfl d179_1236 (by omega) hn ?_
  refine ev_cv2 1240 rfl 82 d179_1237 rfl rfl (by rw [G.1 _ _ (rfl : ai_sp 1 = (8, 0)) (by decide) (by decide)]; rfl) (by decide) rfl (x_total G hX hV) ?_
  rintro _ _ ⟨I2, L2, rfl, rfl, hX2, hf⟩
  show ai_Ev _ _ _ _ (.int _ :: []) _ _
  refine ev_aload_n 1241 rfl d179_1240 rfl ?_
  refine ev_aload_n 1242 rfl d179_1241 rfl ?_
  refine ev_iload_n 1243 rfl d179_1242 rfl ?_
  refine ev_iconst (v := nI 1) 1244 rfl d179_1243 (by decide) ?_
  refine ev_iadd (v := nI (i + 1)) 1245 rfl d179_1244 (nI_add _ _) ?_
  refine la_ld 1246 rfl d179_1245 (by omega) hn ?_
  refine ev_aload_n 1247 rfl d179_1246 rfl ?_
  refine ev_iload_n 1248 rfl d179_1247 rfl ?_
  refine ev_iconst (v := nI 2) 1249 rfl d179_1248 (by decide) ?_
  refine ev_iadd (v := nI (i + 2)) 1250 rfl d179_1249 (nI_add _ _) ?_
  refine la_ld 1251 rfl d179_1250 (by omega) hn ?_
  refine ev_cv2 1254 rfl 177 d179_1251 rfl rfl (by rw [G.1 _ _ (rfl : ai_sp 572 = (9, 0)) (by decide) (by decide)]; rfl) (by decide) rfl (m_total G (rm_hi hM hf) hV) ?_
  rintro _ _ ⟨I3, L3, rfl, rfl, hM3, hg⟩
  show ai_Ev _ _ _ _ (.int _ :: .int _ :: []) _ _
  refine ev_icmp_T 1282 (by decide) la_eq d179_1254 ?_
  exact hk _ I3 L3 (rx_lo hX2 hg) hM3 (i_total hV)
theorem la_k30 (G : ai_G S F) (hX : ai_RX σ I L) (hM : ai_RM σ I L) (hV : ai_IV σ) {i : Nat} (hn : n ≤ 3072) (hi : i + 6 ≤ n) (hk : ∀ (σ2 : ai_S) (I2 : Nat → Nat → Int32) (L2 : Nat → Nat → Int64), ai_RX σ2 I2 L2 → ai_RM σ2 I2 L2 → ai_IV σ2 → ai_Ev (some (n, xs)) 179 1282 (la_ls i) [] (S, I2, L2, F) Q) : ai_Ev (some (n, xs)) 179 1259 (la_ls i) [] (S, I, L, F) Q := by
  unfold la_ls at hk ⊢
  refine ev_aload_n 1260 rfl d179_1259 rfl ?_
  refine ev_aload_n 1261 rfl d179_1260 rfl ?_
  refine ev_iload_n 1262 rfl d179_1261 rfl ?_
  refine ev_iconst (v := nI 1) 1263 rfl d179_1262 (by decide) ?_
  refine ev_iadd (v := nI (i + 1)) 1264 rfl d179_1263 (nI_add _ _) ?_
  refine la_ld 1265 rfl d179_1264 (by omega) hn ?_
  refine ev_cv1 1268 rfl 83 d179_1265 rfl rfl (by rw [G.1 _ _ (rfl : ai_sp 1 = (8, 0)) (by decide) (by decide)]; rfl) (by decide) rfl (x_status G hX hV) ?_
  rintro _ _ ⟨I2, L2, rfl, rfl, hX2, hf⟩
  show ai_Ev _ _ _ _ (.int _ :: []) _ _
  refine ev_aload_n 1269 rfl d179_1268 rfl ?_
  refine ev_aload_n 1270 rfl d179_1269 rfl ?_
  refine ev_iload_n 1271 rfl d179_1270 rfl ?_
  refine ev_iconst (v := nI 1) 1272 rfl d179_1271 (by decide) ?_
  refine ev_iadd (v := nI (i + 1)) 1273 rfl d179_1272 (nI_add _ _) ?_
  refine la_ld 1274 rfl d179_1273 (by omega) hn ?_
  refine ev_cv1 1277 rfl 178 d179_1274 rfl rfl (by rw [G.1 _ _ (rfl : ai_sp 572 = (9, 0)) (by decide) (by decide)]; rfl) (by decide) rfl (m_status G (rm_hi hM hf) hV) ?_
  rintro _ _ ⟨I3, L3, rfl, rfl, hM3, hg⟩
  show ai_Ev _ _ _ _ (.int _ :: .int _ :: []) _ _
  refine ev_icmp_T 1282 (by decide) la_eq d179_1277 ?_
  exact hk _ I3 L3 (rx_lo hX2 hg) hM3 (i_status hV)
theorem la_loop (G : ai_G S F) (hn : n ≤ 3072) : ∀ (z i : Nat) (σ : ai_S) (I : Nat → Nat → Int32) (L : Nat → Nat → Int64), n < i + 6 + z → i ≤ n + 6 → ai_RX σ I L → ai_RM σ I L → ai_IV σ → ai_Ev (some (n, xs)) 179 18 (la_ls i) [] (S, I, L, F) (la_Q S) := by
  intro z
  induction z with
  | zero =>
    intro i σ I L hz hi hX hM hV
    unfold la_ls
    refine ev_iload_n 19 rfl d179_18 rfl ?_
    refine ev_aload_n 20 rfl d179_19 rfl ?_
    refine la_len 21 rfl d179_20 ?_
    refine ev_bipush (v := nI 6) 23 rfl d179_21 (by decide) ?_
    refine ev_isub (v := nI n - nI 6) 24 rfl d179_23 rfl ?_
    refine ev_icmp_T 1288 (by decide) ((la_gt (by omega) hn).mpr (by omega)) d179_24 ?_
    refine ev_iconst (v := nI 1) 1289 rfl d179_1288 (by decide) ?_
    exact ev_iret (Or.inr ⟨rfl, Or.inr (by decide)⟩) d179_1289 ⟨rfl, rfl⟩
  | succ z ih =>
    intro i σ I L hz hi hX hM hV
    by_cases h6 : n < i + 6
    · skip
      unfold la_ls
      refine ev_iload_n 19 rfl d179_18 rfl ?_
      refine ev_aload_n 20 rfl d179_19 rfl ?_
      refine la_len 21 rfl d179_20 ?_
      refine ev_bipush (v := nI 6) 23 rfl d179_21 (by decide) ?_
      refine ev_isub (v := nI n - nI 6) 24 rfl d179_23 rfl ?_
      refine ev_icmp_T 1288 (by decide) ((la_gt (by omega) hn).mpr (by omega)) d179_24 ?_
      refine ev_iconst (v := nI 1) 1289 rfl d179_1288 (by decide) ?_
      exact ev_iret (Or.inr ⟨rfl, Or.inr (by decide)⟩) d179_1289 ⟨rfl, rfl⟩
    · have hk : ∀ (σ2 : ai_S) (I2 : Nat → Nat → Int32) (L2 : Nat → Nat → Int64), ai_RX σ2 I2 L2 → ai_RM σ2 I2 L2 → ai_IV σ2 → ai_Ev (some (n, xs)) 179 1282 (la_ls i) [] (S, I2, L2, F) (la_Q S) := by
        intro σ2 I2 L2 h1 h2 h3
        unfold la_ls
        refine ev_iinc (v := nI (i + 6)) 1285 rfl d179_1282 rfl (Nat.le_of_ble_eq_true rfl) (nI_add _ 6) rfl ?_
        refine ev_goto 18 (by decide) d179_1285 ?_
        exact ih (i + 6) σ2 I2 L2 (by omega) (by omega) h1 h2 h3
      have k0 : i + 6 ≤ n := by omega
      unfold la_ls
      refine ev_iload_n 19 rfl d179_18 rfl ?_
      refine ev_aload_n 20 rfl d179_19 rfl ?_
      refine la_len 21 rfl d179_20 ?_
      refine ev_bipush (v := nI 6) 23 rfl d179_21 (by decide) ?_
      refine ev_isub (v := nI n - nI 6) 24 rfl d179_23 rfl ?_
      refine ev_icmp_F 1288 27 (by decide) rfl (fun h => h6 ((la_gt (by omega) hn).mp h)) d179_24 ?_
      refine ev_aload_n 28 rfl d179_27 rfl ?_
      refine ev_iload_n 29 rfl d179_28 rfl ?_
      refine la_ld 30 rfl d179_29 (by omega) hn ?_
      refine ev_bipush (v := nI 31) 32 rfl d179_30 (by decide) ?_
      refine ev_iand (v := xs i &&& nI 31) 33 rfl d179_32 rfl ?_
      refine ev_switch 1282 (by decide) d179_33 (by decide) (fun _ => hk σ I L hX hM hV) (fun k9 hk9 _ => ?_)
      have hk8 : k9 = 0 ∨ k9 = 1 ∨ k9 = 2 ∨ k9 = 3 ∨ k9 = 4 ∨ k9 = 5 ∨ k9 = 6 ∨ k9 = 7 ∨ k9 = 8 ∨ k9 = 9 ∨ k9 = 10 ∨ k9 = 11 ∨ k9 = 12 ∨ k9 = 13 ∨ k9 = 14 ∨ k9 = 15 ∨ k9 = 16 ∨ k9 = 17 ∨ k9 = 18 ∨ k9 = 19 ∨ k9 = 20 ∨ k9 = 21 ∨ k9 = 22 ∨ k9 = 23 ∨ k9 = 24 ∨ k9 = 25 ∨ k9 = 26 ∨ k9 = 27 ∨ k9 = 28 ∨ k9 = 29 ∨ k9 = 30 := by have h9 : k9 < 31 := hk9; omega
      rcases hk8 with rfl | rfl | rfl | rfl | rfl | rfl | rfl | rfl | rfl | rfl | rfl | rfl | rfl | rfl | rfl | rfl | rfl | rfl | rfl | rfl | rfl | rfl | rfl | rfl | rfl | rfl | rfl | rfl | rfl | rfl | rfl
      · exact ⟨172, rfl, la_k0 G hX hM hV hn k0 hk⟩
      · exact ⟨215, rfl, la_k1 G hX hM hV hn k0 hk⟩
      · exact ⟨288, rfl, la_k2 G hX hM hV hn k0 hk⟩
      · exact ⟨351, rfl, la_k3 G hX hM hV hn k0 hk⟩
      · exact ⟨385, rfl, la_k4 G hX hM hV hn k0 hk⟩
      · exact ⟨418, rfl, la_k5 G hX hM hV hn k0 hk⟩
      · exact ⟨441, rfl, la_k6 G hX hM hV hn k0 hk⟩
      · exact ⟨464, rfl, la_k7 G hX hM hV hn k0 hk⟩
      · exact ⟨507, rfl, la_k8 G hX hM hV hn k0 hk⟩
      · exact ⟨530, rfl, la_k9 G hX hM hV hn k0 hk⟩
      · exact ⟨543, rfl, la_k10 G hX hM hV hn k0 hk⟩
      · exact ⟨586, rfl, la_k11 G hX hM hV hn k0 hk⟩
      · exact ⟨649, rfl, la_k12 G hX hM hV hn k0 hk⟩
      · exact ⟨672, rfl, la_k13 G hX hM hV hn k0 hk⟩
      · exact ⟨695, rfl, la_k14 G hX hM hV hn k0 hk⟩
      · exact ⟨718, rfl, la_k15 G hX hM hV hn k0 hk⟩
      · exact ⟨751, rfl, la_k16 G hX hM hV hn k0 hk⟩
      · exact ⟨790, rfl, la_k17 G hX hM hV hn k0 hk⟩
      · exact ⟨813, rfl, la_k18 G hX hM hV hn k0 hk⟩
      · exact ⟨846, rfl, la_k19 G hX hM hV hn k0 hk⟩
      · exact ⟨899, rfl, la_k20 G hX hM hV hn k0 hk⟩
      · exact ⟨942, rfl, la_k21 G hX hM hV hn k0 hk⟩
      · exact ⟨985, rfl, la_k22 G hX hM hV hn k0 hk⟩
      · exact ⟨1018, rfl, la_k23 G hX hM hV hn k0 hk⟩
      · exact ⟨1061, rfl, la_k24 G hX hM hV hn k0 hk⟩
      · exact ⟨1094, rfl, la_k25 G hX hM hV hn k0 hk⟩
      · exact ⟨1137, rfl, la_k26 G hX hM hV hn k0 hk⟩
      · exact ⟨1160, rfl, la_k27 G hX hM hV hn k0 hk⟩
      · exact ⟨1183, rfl, la_k28 G hX hM hV hn k0 hk⟩
      · exact ⟨1226, rfl, la_k29 G hX hM hV hn k0 hk⟩
      · exact ⟨1259, rfl, la_k30 G hX hM hV hn k0 hk⟩
end LAW
