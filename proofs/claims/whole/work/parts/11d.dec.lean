theorem d179_0 : decode (ai_b 179) 0 = .ok (.new 7, 3) := by decide +kernel
theorem d179_3 : decode (ai_b 179) 3 = .ok (.dup, 1) := by decide +kernel
theorem d179_4 : decode (ai_b 179) 4 = .ok (.invokespecial 9, 3) := by decide +kernel
theorem d179_7 : decode (ai_b 179) 7 = .ok (.astore_n 1, 1) := by decide +kernel
theorem d179_8 : decode (ai_b 179) 8 = .ok (.new 10, 3) := by decide +kernel
theorem d179_11 : decode (ai_b 179) 11 = .ok (.dup, 1) := by decide +kernel
theorem d179_12 : decode (ai_b 179) 12 = .ok (.invokespecial 12, 3) := by decide +kernel
theorem d179_15 : decode (ai_b 179) 15 = .ok (.astore_n 2, 1) := by decide +kernel
theorem d179_16 : decode (ai_b 179) 16 = .ok (.iconst 0, 1) := by decide +kernel
theorem d179_17 : decode (ai_b 179) 17 = .ok (.istore_n 3, 1) := by decide +kernel
theorem d179_18 : decode (ai_b 179) 18 = .ok (.iload_n 3, 1) := by decide +kernel
theorem d179_19 : decode (ai_b 179) 19 = .ok (.aload_n 0, 1) := by decide +kernel
theorem d179_20 : decode (ai_b 179) 20 = .ok (.arraylength, 1) := by decide +kernel
theorem d179_21 : decode (ai_b 179) 21 = .ok (.bipush 6, 2) := by decide +kernel
theorem d179_23 : decode (ai_b 179) 23 = .ok (.isub, 1) := by decide +kernel
theorem d179_24 : decode (ai_b 179) 24 = .ok (.if_icmp .gt 1264, 3) := by decide +kernel
theorem d179_27 : decode (ai_b 179) 27 = .ok (.aload_n 0, 1) := by decide +kernel
theorem d179_28 : decode (ai_b 179) 28 = .ok (.iload_n 3, 1) := by decide +kernel
theorem d179_29 : decode (ai_b 179) 29 = .ok (.iaload, 1) := by decide +kernel
theorem d179_30 : decode (ai_b 179) 30 = .ok (.bipush 31, 2) := by decide +kernel
theorem d179_32 : decode (ai_b 179) 32 = .ok (.iand, 1) := by decide +kernel
theorem d179_33 : decode (ai_b 179) 33 = .ok (.tableswitch 1249 0 30 #[139, 182, 255, 318, 352, 385, 408, 431, 474, 497, 510, 553, 616, 639, 662, 685, 718, 757, 780, 813, 866, 909, 952, 985, 1028, 1061, 1104, 1127, 1150, 1193, 1226], 139) := by decide +kernel
theorem d179_172 : decode (ai_b 179) 172 = .ok (.aload_n 1, 1) := by decide +kernel
theorem d179_173 : decode (ai_b 179) 173 = .ok (.aload_n 0, 1) := by decide +kernel
theorem d179_174 : decode (ai_b 179) 174 = .ok (.iload_n 3, 1) := by decide +kernel
theorem d179_175 : decode (ai_b 179) 175 = .ok (.iconst 1, 1) := by decide +kernel
theorem d179_176 : decode (ai_b 179) 176 = .ok (.iadd, 1) := by decide +kernel
theorem d179_177 : decode (ai_b 179) 177 = .ok (.iaload, 1) := by decide +kernel
theorem d179_178 : decode (ai_b 179) 178 = .ok (.aload_n 0, 1) := by decide +kernel
theorem d179_179 : decode (ai_b 179) 179 = .ok (.iload_n 3, 1) := by decide +kernel
theorem d179_180 : decode (ai_b 179) 180 = .ok (.iconst 2, 1) := by decide +kernel
theorem d179_181 : decode (ai_b 179) 181 = .ok (.iadd, 1) := by decide +kernel
theorem d179_182 : decode (ai_b 179) 182 = .ok (.iaload, 1) := by decide +kernel
theorem d179_183 : decode (ai_b 179) 183 = .ok (.aload_n 0, 1) := by decide +kernel
theorem d179_184 : decode (ai_b 179) 184 = .ok (.iload_n 3, 1) := by decide +kernel
theorem d179_185 : decode (ai_b 179) 185 = .ok (.iconst 3, 1) := by decide +kernel
theorem d179_186 : decode (ai_b 179) 186 = .ok (.iadd, 1) := by decide +kernel
theorem d179_187 : decode (ai_b 179) 187 = .ok (.iaload, 1) := by decide +kernel
theorem d179_188 : decode (ai_b 179) 188 = .ok (.invokevirtual 13, 3) := by decide +kernel
theorem d179_191 : decode (ai_b 179) 191 = .ok (.aload_n 2, 1) := by decide +kernel
theorem d179_192 : decode (ai_b 179) 192 = .ok (.aload_n 0, 1) := by decide +kernel
theorem d179_193 : decode (ai_b 179) 193 = .ok (.iload_n 3, 1) := by decide +kernel
theorem d179_194 : decode (ai_b 179) 194 = .ok (.iconst 1, 1) := by decide +kernel
theorem d179_195 : decode (ai_b 179) 195 = .ok (.iadd, 1) := by decide +kernel
theorem d179_196 : decode (ai_b 179) 196 = .ok (.iaload, 1) := by decide +kernel
theorem d179_197 : decode (ai_b 179) 197 = .ok (.aload_n 0, 1) := by decide +kernel
theorem d179_198 : decode (ai_b 179) 198 = .ok (.iload_n 3, 1) := by decide +kernel
theorem d179_199 : decode (ai_b 179) 199 = .ok (.iconst 2, 1) := by decide +kernel
theorem d179_200 : decode (ai_b 179) 200 = .ok (.iadd, 1) := by decide +kernel
theorem d179_201 : decode (ai_b 179) 201 = .ok (.iaload, 1) := by decide +kernel
theorem d179_202 : decode (ai_b 179) 202 = .ok (.aload_n 0, 1) := by decide +kernel
theorem d179_203 : decode (ai_b 179) 203 = .ok (.iload_n 3, 1) := by decide +kernel
theorem d179_204 : decode (ai_b 179) 204 = .ok (.iconst 3, 1) := by decide +kernel
theorem d179_205 : decode (ai_b 179) 205 = .ok (.iadd, 1) := by decide +kernel
theorem d179_206 : decode (ai_b 179) 206 = .ok (.iaload, 1) := by decide +kernel
theorem d179_207 : decode (ai_b 179) 207 = .ok (.invokevirtual 17, 3) := by decide +kernel
theorem d179_210 : decode (ai_b 179) 210 = .ok (.if_icmp .eq 1072, 3) := by decide +kernel
theorem d179_213 : decode (ai_b 179) 213 = .ok (.iconst 0, 1) := by decide +kernel
theorem d179_214 : decode (ai_b 179) 214 = .ok (.ireturn, 1) := by decide +kernel
theorem d179_215 : decode (ai_b 179) 215 = .ok (.aload_n 1, 1) := by decide +kernel
theorem d179_216 : decode (ai_b 179) 216 = .ok (.aload_n 0, 1) := by decide +kernel
theorem d179_217 : decode (ai_b 179) 217 = .ok (.iload_n 3, 1) := by decide +kernel
theorem d179_218 : decode (ai_b 179) 218 = .ok (.iconst 1, 1) := by decide +kernel
theorem d179_219 : decode (ai_b 179) 219 = .ok (.iadd, 1) := by decide +kernel
theorem d179_220 : decode (ai_b 179) 220 = .ok (.iaload, 1) := by decide +kernel
theorem d179_221 : decode (ai_b 179) 221 = .ok (.aload_n 0, 1) := by decide +kernel
theorem d179_222 : decode (ai_b 179) 222 = .ok (.iload_n 3, 1) := by decide +kernel
theorem d179_223 : decode (ai_b 179) 223 = .ok (.iconst 2, 1) := by decide +kernel
theorem d179_224 : decode (ai_b 179) 224 = .ok (.iadd, 1) := by decide +kernel
theorem d179_225 : decode (ai_b 179) 225 = .ok (.iaload, 1) := by decide +kernel
theorem d179_226 : decode (ai_b 179) 226 = .ok (.aload_n 0, 1) := by decide +kernel
theorem d179_227 : decode (ai_b 179) 227 = .ok (.iload_n 3, 1) := by decide +kernel
theorem d179_228 : decode (ai_b 179) 228 = .ok (.iconst 3, 1) := by decide +kernel
theorem d179_229 : decode (ai_b 179) 229 = .ok (.iadd, 1) := by decide +kernel
theorem d179_230 : decode (ai_b 179) 230 = .ok (.iaload, 1) := by decide +kernel
theorem d179_231 : decode (ai_b 179) 231 = .ok (.i2l, 1) := by decide +kernel
theorem d179_232 : decode (ai_b 179) 232 = .ok (.bipush 32, 2) := by decide +kernel
theorem d179_234 : decode (ai_b 179) 234 = .ok (.lshl, 1) := by decide +kernel
theorem d179_235 : decode (ai_b 179) 235 = .ok (.aload_n 0, 1) := by decide +kernel
theorem d179_236 : decode (ai_b 179) 236 = .ok (.iload_n 3, 1) := by decide +kernel
theorem d179_237 : decode (ai_b 179) 237 = .ok (.iconst 4, 1) := by decide +kernel
theorem d179_238 : decode (ai_b 179) 238 = .ok (.iadd, 1) := by decide +kernel
theorem d179_239 : decode (ai_b 179) 239 = .ok (.iaload, 1) := by decide +kernel
theorem d179_240 : decode (ai_b 179) 240 = .ok (.i2l, 1) := by decide +kernel
theorem d179_241 : decode (ai_b 179) 241 = .ok (.ldc2_w 18, 3) := by decide +kernel
theorem d179_244 : decode (ai_b 179) 244 = .ok (.land, 1) := by decide +kernel
theorem d179_245 : decode (ai_b 179) 245 = .ok (.lor, 1) := by decide +kernel
theorem d179_246 : decode (ai_b 179) 246 = .ok (.invokevirtual 20, 3) := by decide +kernel
theorem d179_249 : decode (ai_b 179) 249 = .ok (.aload_n 2, 1) := by decide +kernel
theorem d179_250 : decode (ai_b 179) 250 = .ok (.aload_n 0, 1) := by decide +kernel
theorem d179_251 : decode (ai_b 179) 251 = .ok (.iload_n 3, 1) := by decide +kernel
theorem d179_252 : decode (ai_b 179) 252 = .ok (.iconst 1, 1) := by decide +kernel
theorem d179_253 : decode (ai_b 179) 253 = .ok (.iadd, 1) := by decide +kernel
theorem d179_254 : decode (ai_b 179) 254 = .ok (.iaload, 1) := by decide +kernel
theorem d179_255 : decode (ai_b 179) 255 = .ok (.aload_n 0, 1) := by decide +kernel
theorem d179_256 : decode (ai_b 179) 256 = .ok (.iload_n 3, 1) := by decide +kernel
theorem d179_257 : decode (ai_b 179) 257 = .ok (.iconst 2, 1) := by decide +kernel
theorem d179_258 : decode (ai_b 179) 258 = .ok (.iadd, 1) := by decide +kernel
theorem d179_259 : decode (ai_b 179) 259 = .ok (.iaload, 1) := by decide +kernel
theorem d179_260 : decode (ai_b 179) 260 = .ok (.aload_n 0, 1) := by decide +kernel
theorem d179_261 : decode (ai_b 179) 261 = .ok (.iload_n 3, 1) := by decide +kernel
theorem d179_262 : decode (ai_b 179) 262 = .ok (.iconst 3, 1) := by decide +kernel
theorem d179_263 : decode (ai_b 179) 263 = .ok (.iadd, 1) := by decide +kernel
theorem d179_264 : decode (ai_b 179) 264 = .ok (.iaload, 1) := by decide +kernel
theorem d179_265 : decode (ai_b 179) 265 = .ok (.i2l, 1) := by decide +kernel
theorem d179_266 : decode (ai_b 179) 266 = .ok (.bipush 32, 2) := by decide +kernel
theorem d179_268 : decode (ai_b 179) 268 = .ok (.lshl, 1) := by decide +kernel
theorem d179_269 : decode (ai_b 179) 269 = .ok (.aload_n 0, 1) := by decide +kernel
theorem d179_270 : decode (ai_b 179) 270 = .ok (.iload_n 3, 1) := by decide +kernel
theorem d179_271 : decode (ai_b 179) 271 = .ok (.iconst 4, 1) := by decide +kernel
theorem d179_272 : decode (ai_b 179) 272 = .ok (.iadd, 1) := by decide +kernel
theorem d179_273 : decode (ai_b 179) 273 = .ok (.iaload, 1) := by decide +kernel
theorem d179_274 : decode (ai_b 179) 274 = .ok (.i2l, 1) := by decide +kernel
theorem d179_275 : decode (ai_b 179) 275 = .ok (.ldc2_w 18, 3) := by decide +kernel
theorem d179_278 : decode (ai_b 179) 278 = .ok (.land, 1) := by decide +kernel
theorem d179_279 : decode (ai_b 179) 279 = .ok (.lor, 1) := by decide +kernel
theorem d179_280 : decode (ai_b 179) 280 = .ok (.invokevirtual 24, 3) := by decide +kernel
theorem d179_283 : decode (ai_b 179) 283 = .ok (.if_icmp .eq 999, 3) := by decide +kernel
theorem d179_286 : decode (ai_b 179) 286 = .ok (.iconst 0, 1) := by decide +kernel
theorem d179_287 : decode (ai_b 179) 287 = .ok (.ireturn, 1) := by decide +kernel
theorem d179_288 : decode (ai_b 179) 288 = .ok (.aload_n 1, 1) := by decide +kernel
theorem d179_289 : decode (ai_b 179) 289 = .ok (.aload_n 0, 1) := by decide +kernel
theorem d179_290 : decode (ai_b 179) 290 = .ok (.iload_n 3, 1) := by decide +kernel
theorem d179_291 : decode (ai_b 179) 291 = .ok (.iconst 1, 1) := by decide +kernel
theorem d179_292 : decode (ai_b 179) 292 = .ok (.iadd, 1) := by decide +kernel
theorem d179_293 : decode (ai_b 179) 293 = .ok (.iaload, 1) := by decide +kernel
theorem d179_294 : decode (ai_b 179) 294 = .ok (.aload_n 0, 1) := by decide +kernel
theorem d179_295 : decode (ai_b 179) 295 = .ok (.iload_n 3, 1) := by decide +kernel
theorem d179_296 : decode (ai_b 179) 296 = .ok (.iconst 2, 1) := by decide +kernel
theorem d179_297 : decode (ai_b 179) 297 = .ok (.iadd, 1) := by decide +kernel
theorem d179_298 : decode (ai_b 179) 298 = .ok (.iaload, 1) := by decide +kernel
theorem d179_299 : decode (ai_b 179) 299 = .ok (.aload_n 0, 1) := by decide +kernel
theorem d179_300 : decode (ai_b 179) 300 = .ok (.iload_n 3, 1) := by decide +kernel
theorem d179_301 : decode (ai_b 179) 301 = .ok (.iconst 3, 1) := by decide +kernel
theorem d179_302 : decode (ai_b 179) 302 = .ok (.iadd, 1) := by decide +kernel
theorem d179_303 : decode (ai_b 179) 303 = .ok (.iaload, 1) := by decide +kernel
theorem d179_304 : decode (ai_b 179) 304 = .ok (.aload_n 0, 1) := by decide +kernel
theorem d179_305 : decode (ai_b 179) 305 = .ok (.iload_n 3, 1) := by decide +kernel
theorem d179_306 : decode (ai_b 179) 306 = .ok (.iconst 4, 1) := by decide +kernel
theorem d179_307 : decode (ai_b 179) 307 = .ok (.iadd, 1) := by decide +kernel
theorem d179_308 : decode (ai_b 179) 308 = .ok (.iaload, 1) := by decide +kernel
theorem d179_309 : decode (ai_b 179) 309 = .ok (.aload_n 0, 1) := by decide +kernel
theorem d179_310 : decode (ai_b 179) 310 = .ok (.iload_n 3, 1) := by decide +kernel
theorem d179_311 : decode (ai_b 179) 311 = .ok (.iconst 5, 1) := by decide +kernel
theorem d179_312 : decode (ai_b 179) 312 = .ok (.iadd, 1) := by decide +kernel
theorem d179_313 : decode (ai_b 179) 313 = .ok (.iaload, 1) := by decide +kernel
theorem d179_314 : decode (ai_b 179) 314 = .ok (.invokevirtual 25, 3) := by decide +kernel
theorem d179_317 : decode (ai_b 179) 317 = .ok (.aload_n 2, 1) := by decide +kernel
theorem d179_318 : decode (ai_b 179) 318 = .ok (.aload_n 0, 1) := by decide +kernel
theorem d179_319 : decode (ai_b 179) 319 = .ok (.iload_n 3, 1) := by decide +kernel
theorem d179_320 : decode (ai_b 179) 320 = .ok (.iconst 1, 1) := by decide +kernel
theorem d179_321 : decode (ai_b 179) 321 = .ok (.iadd, 1) := by decide +kernel
theorem d179_322 : decode (ai_b 179) 322 = .ok (.iaload, 1) := by decide +kernel
theorem d179_323 : decode (ai_b 179) 323 = .ok (.aload_n 0, 1) := by decide +kernel
theorem d179_324 : decode (ai_b 179) 324 = .ok (.iload_n 3, 1) := by decide +kernel
theorem d179_325 : decode (ai_b 179) 325 = .ok (.iconst 2, 1) := by decide +kernel
theorem d179_326 : decode (ai_b 179) 326 = .ok (.iadd, 1) := by decide +kernel
theorem d179_327 : decode (ai_b 179) 327 = .ok (.iaload, 1) := by decide +kernel
theorem d179_328 : decode (ai_b 179) 328 = .ok (.aload_n 0, 1) := by decide +kernel
theorem d179_329 : decode (ai_b 179) 329 = .ok (.iload_n 3, 1) := by decide +kernel
theorem d179_330 : decode (ai_b 179) 330 = .ok (.iconst 3, 1) := by decide +kernel
theorem d179_331 : decode (ai_b 179) 331 = .ok (.iadd, 1) := by decide +kernel
theorem d179_332 : decode (ai_b 179) 332 = .ok (.iaload, 1) := by decide +kernel
theorem d179_333 : decode (ai_b 179) 333 = .ok (.aload_n 0, 1) := by decide +kernel
theorem d179_334 : decode (ai_b 179) 334 = .ok (.iload_n 3, 1) := by decide +kernel
theorem d179_335 : decode (ai_b 179) 335 = .ok (.iconst 4, 1) := by decide +kernel
theorem d179_336 : decode (ai_b 179) 336 = .ok (.iadd, 1) := by decide +kernel
theorem d179_337 : decode (ai_b 179) 337 = .ok (.iaload, 1) := by decide +kernel
theorem d179_338 : decode (ai_b 179) 338 = .ok (.aload_n 0, 1) := by decide +kernel
theorem d179_339 : decode (ai_b 179) 339 = .ok (.iload_n 3, 1) := by decide +kernel
theorem d179_340 : decode (ai_b 179) 340 = .ok (.iconst 5, 1) := by decide +kernel
theorem d179_341 : decode (ai_b 179) 341 = .ok (.iadd, 1) := by decide +kernel
theorem d179_342 : decode (ai_b 179) 342 = .ok (.iaload, 1) := by decide +kernel
theorem d179_343 : decode (ai_b 179) 343 = .ok (.invokevirtual 29, 3) := by decide +kernel
theorem d179_346 : decode (ai_b 179) 346 = .ok (.if_icmp .eq 936, 3) := by decide +kernel
theorem d179_349 : decode (ai_b 179) 349 = .ok (.iconst 0, 1) := by decide +kernel
theorem d179_350 : decode (ai_b 179) 350 = .ok (.ireturn, 1) := by decide +kernel
theorem d179_351 : decode (ai_b 179) 351 = .ok (.aload_n 1, 1) := by decide +kernel
theorem d179_352 : decode (ai_b 179) 352 = .ok (.aload_n 0, 1) := by decide +kernel
theorem d179_353 : decode (ai_b 179) 353 = .ok (.iload_n 3, 1) := by decide +kernel
theorem d179_354 : decode (ai_b 179) 354 = .ok (.iconst 1, 1) := by decide +kernel
theorem d179_355 : decode (ai_b 179) 355 = .ok (.iadd, 1) := by decide +kernel
theorem d179_356 : decode (ai_b 179) 356 = .ok (.iaload, 1) := by decide +kernel
theorem d179_357 : decode (ai_b 179) 357 = .ok (.aload_n 0, 1) := by decide +kernel
theorem d179_358 : decode (ai_b 179) 358 = .ok (.iload_n 3, 1) := by decide +kernel
theorem d179_359 : decode (ai_b 179) 359 = .ok (.iconst 2, 1) := by decide +kernel
theorem d179_360 : decode (ai_b 179) 360 = .ok (.iadd, 1) := by decide +kernel
theorem d179_361 : decode (ai_b 179) 361 = .ok (.iaload, 1) := by decide +kernel
theorem d179_362 : decode (ai_b 179) 362 = .ok (.invokevirtual 30, 3) := by decide +kernel
theorem d179_365 : decode (ai_b 179) 365 = .ok (.aload_n 2, 1) := by decide +kernel
theorem d179_366 : decode (ai_b 179) 366 = .ok (.aload_n 0, 1) := by decide +kernel
theorem d179_367 : decode (ai_b 179) 367 = .ok (.iload_n 3, 1) := by decide +kernel
theorem d179_368 : decode (ai_b 179) 368 = .ok (.iconst 1, 1) := by decide +kernel
theorem d179_369 : decode (ai_b 179) 369 = .ok (.iadd, 1) := by decide +kernel
theorem d179_370 : decode (ai_b 179) 370 = .ok (.iaload, 1) := by decide +kernel
theorem d179_371 : decode (ai_b 179) 371 = .ok (.aload_n 0, 1) := by decide +kernel
theorem d179_372 : decode (ai_b 179) 372 = .ok (.iload_n 3, 1) := by decide +kernel
theorem d179_373 : decode (ai_b 179) 373 = .ok (.iconst 2, 1) := by decide +kernel
theorem d179_374 : decode (ai_b 179) 374 = .ok (.iadd, 1) := by decide +kernel
theorem d179_375 : decode (ai_b 179) 375 = .ok (.iaload, 1) := by decide +kernel
theorem d179_376 : decode (ai_b 179) 376 = .ok (.invokevirtual 34, 3) := by decide +kernel
theorem d179_379 : decode (ai_b 179) 379 = .ok (.lcmp, 1) := by decide +kernel
theorem d179_380 : decode (ai_b 179) 380 = .ok (.ifCond .eq 902, 3) := by decide +kernel
theorem d179_383 : decode (ai_b 179) 383 = .ok (.iconst 0, 1) := by decide +kernel
theorem d179_384 : decode (ai_b 179) 384 = .ok (.ireturn, 1) := by decide +kernel
theorem d179_385 : decode (ai_b 179) 385 = .ok (.aload_n 1, 1) := by decide +kernel
theorem d179_386 : decode (ai_b 179) 386 = .ok (.aload_n 0, 1) := by decide +kernel
theorem d179_387 : decode (ai_b 179) 387 = .ok (.iload_n 3, 1) := by decide +kernel
theorem d179_388 : decode (ai_b 179) 388 = .ok (.iconst 1, 1) := by decide +kernel
theorem d179_389 : decode (ai_b 179) 389 = .ok (.iadd, 1) := by decide +kernel
theorem d179_390 : decode (ai_b 179) 390 = .ok (.iaload, 1) := by decide +kernel
theorem d179_391 : decode (ai_b 179) 391 = .ok (.aload_n 0, 1) := by decide +kernel
theorem d179_392 : decode (ai_b 179) 392 = .ok (.iload_n 3, 1) := by decide +kernel
theorem d179_393 : decode (ai_b 179) 393 = .ok (.iconst 2, 1) := by decide +kernel
theorem d179_394 : decode (ai_b 179) 394 = .ok (.iadd, 1) := by decide +kernel
theorem d179_395 : decode (ai_b 179) 395 = .ok (.iaload, 1) := by decide +kernel
theorem d179_396 : decode (ai_b 179) 396 = .ok (.invokevirtual 35, 3) := by decide +kernel
theorem d179_399 : decode (ai_b 179) 399 = .ok (.aload_n 2, 1) := by decide +kernel
theorem d179_400 : decode (ai_b 179) 400 = .ok (.aload_n 0, 1) := by decide +kernel
theorem d179_401 : decode (ai_b 179) 401 = .ok (.iload_n 3, 1) := by decide +kernel
theorem d179_402 : decode (ai_b 179) 402 = .ok (.iconst 1, 1) := by decide +kernel
theorem d179_403 : decode (ai_b 179) 403 = .ok (.iadd, 1) := by decide +kernel
theorem d179_404 : decode (ai_b 179) 404 = .ok (.iaload, 1) := by decide +kernel
theorem d179_405 : decode (ai_b 179) 405 = .ok (.aload_n 0, 1) := by decide +kernel
theorem d179_406 : decode (ai_b 179) 406 = .ok (.iload_n 3, 1) := by decide +kernel
theorem d179_407 : decode (ai_b 179) 407 = .ok (.iconst 2, 1) := by decide +kernel
theorem d179_408 : decode (ai_b 179) 408 = .ok (.iadd, 1) := by decide +kernel
theorem d179_409 : decode (ai_b 179) 409 = .ok (.iaload, 1) := by decide +kernel
theorem d179_410 : decode (ai_b 179) 410 = .ok (.invokevirtual 39, 3) := by decide +kernel
theorem d179_413 : decode (ai_b 179) 413 = .ok (.if_icmp .eq 869, 3) := by decide +kernel
theorem d179_416 : decode (ai_b 179) 416 = .ok (.iconst 0, 1) := by decide +kernel
theorem d179_417 : decode (ai_b 179) 417 = .ok (.ireturn, 1) := by decide +kernel
theorem d179_418 : decode (ai_b 179) 418 = .ok (.aload_n 1, 1) := by decide +kernel
theorem d179_419 : decode (ai_b 179) 419 = .ok (.aload_n 0, 1) := by decide +kernel
theorem d179_420 : decode (ai_b 179) 420 = .ok (.iload_n 3, 1) := by decide +kernel
theorem d179_421 : decode (ai_b 179) 421 = .ok (.iconst 1, 1) := by decide +kernel
theorem d179_422 : decode (ai_b 179) 422 = .ok (.iadd, 1) := by decide +kernel
theorem d179_423 : decode (ai_b 179) 423 = .ok (.iaload, 1) := by decide +kernel
theorem d179_424 : decode (ai_b 179) 424 = .ok (.invokevirtual 40, 3) := by decide +kernel
theorem d179_427 : decode (ai_b 179) 427 = .ok (.aload_n 2, 1) := by decide +kernel
theorem d179_428 : decode (ai_b 179) 428 = .ok (.aload_n 0, 1) := by decide +kernel
theorem d179_429 : decode (ai_b 179) 429 = .ok (.iload_n 3, 1) := by decide +kernel
theorem d179_430 : decode (ai_b 179) 430 = .ok (.iconst 1, 1) := by decide +kernel
theorem d179_431 : decode (ai_b 179) 431 = .ok (.iadd, 1) := by decide +kernel
theorem d179_432 : decode (ai_b 179) 432 = .ok (.iaload, 1) := by decide +kernel
theorem d179_433 : decode (ai_b 179) 433 = .ok (.invokevirtual 44, 3) := by decide +kernel
theorem d179_436 : decode (ai_b 179) 436 = .ok (.if_icmp .eq 846, 3) := by decide +kernel
theorem d179_439 : decode (ai_b 179) 439 = .ok (.iconst 0, 1) := by decide +kernel
theorem d179_440 : decode (ai_b 179) 440 = .ok (.ireturn, 1) := by decide +kernel
theorem d179_441 : decode (ai_b 179) 441 = .ok (.aload_n 1, 1) := by decide +kernel
theorem d179_442 : decode (ai_b 179) 442 = .ok (.aload_n 0, 1) := by decide +kernel
theorem d179_443 : decode (ai_b 179) 443 = .ok (.iload_n 3, 1) := by decide +kernel
theorem d179_444 : decode (ai_b 179) 444 = .ok (.iconst 1, 1) := by decide +kernel
theorem d179_445 : decode (ai_b 179) 445 = .ok (.iadd, 1) := by decide +kernel
theorem d179_446 : decode (ai_b 179) 446 = .ok (.iaload, 1) := by decide +kernel
theorem d179_447 : decode (ai_b 179) 447 = .ok (.invokevirtual 45, 3) := by decide +kernel
theorem d179_450 : decode (ai_b 179) 450 = .ok (.aload_n 2, 1) := by decide +kernel
theorem d179_451 : decode (ai_b 179) 451 = .ok (.aload_n 0, 1) := by decide +kernel
theorem d179_452 : decode (ai_b 179) 452 = .ok (.iload_n 3, 1) := by decide +kernel
theorem d179_453 : decode (ai_b 179) 453 = .ok (.iconst 1, 1) := by decide +kernel
theorem d179_454 : decode (ai_b 179) 454 = .ok (.iadd, 1) := by decide +kernel
theorem d179_455 : decode (ai_b 179) 455 = .ok (.iaload, 1) := by decide +kernel
theorem d179_456 : decode (ai_b 179) 456 = .ok (.invokevirtual 48, 3) := by decide +kernel
theorem d179_459 : decode (ai_b 179) 459 = .ok (.if_icmp .eq 823, 3) := by decide +kernel
theorem d179_462 : decode (ai_b 179) 462 = .ok (.iconst 0, 1) := by decide +kernel
theorem d179_463 : decode (ai_b 179) 463 = .ok (.ireturn, 1) := by decide +kernel
theorem d179_464 : decode (ai_b 179) 464 = .ok (.aload_n 1, 1) := by decide +kernel
theorem d179_465 : decode (ai_b 179) 465 = .ok (.aload_n 0, 1) := by decide +kernel
theorem d179_466 : decode (ai_b 179) 466 = .ok (.iload_n 3, 1) := by decide +kernel
theorem d179_467 : decode (ai_b 179) 467 = .ok (.iconst 1, 1) := by decide +kernel
theorem d179_468 : decode (ai_b 179) 468 = .ok (.iadd, 1) := by decide +kernel
theorem d179_469 : decode (ai_b 179) 469 = .ok (.iaload, 1) := by decide +kernel
theorem d179_470 : decode (ai_b 179) 470 = .ok (.aload_n 0, 1) := by decide +kernel
theorem d179_471 : decode (ai_b 179) 471 = .ok (.iload_n 3, 1) := by decide +kernel
theorem d179_472 : decode (ai_b 179) 472 = .ok (.iconst 2, 1) := by decide +kernel
theorem d179_473 : decode (ai_b 179) 473 = .ok (.iadd, 1) := by decide +kernel
theorem d179_474 : decode (ai_b 179) 474 = .ok (.iaload, 1) := by decide +kernel
theorem d179_475 : decode (ai_b 179) 475 = .ok (.aload_n 0, 1) := by decide +kernel
theorem d179_476 : decode (ai_b 179) 476 = .ok (.iload_n 3, 1) := by decide +kernel
theorem d179_477 : decode (ai_b 179) 477 = .ok (.iconst 3, 1) := by decide +kernel
theorem d179_478 : decode (ai_b 179) 478 = .ok (.iadd, 1) := by decide +kernel
theorem d179_479 : decode (ai_b 179) 479 = .ok (.iaload, 1) := by decide +kernel
theorem d179_480 : decode (ai_b 179) 480 = .ok (.invokevirtual 49, 3) := by decide +kernel
theorem d179_483 : decode (ai_b 179) 483 = .ok (.aload_n 2, 1) := by decide +kernel
theorem d179_484 : decode (ai_b 179) 484 = .ok (.aload_n 0, 1) := by decide +kernel
theorem d179_485 : decode (ai_b 179) 485 = .ok (.iload_n 3, 1) := by decide +kernel
theorem d179_486 : decode (ai_b 179) 486 = .ok (.iconst 1, 1) := by decide +kernel
theorem d179_487 : decode (ai_b 179) 487 = .ok (.iadd, 1) := by decide +kernel
theorem d179_488 : decode (ai_b 179) 488 = .ok (.iaload, 1) := by decide +kernel
theorem d179_489 : decode (ai_b 179) 489 = .ok (.aload_n 0, 1) := by decide +kernel
theorem d179_490 : decode (ai_b 179) 490 = .ok (.iload_n 3, 1) := by decide +kernel
theorem d179_491 : decode (ai_b 179) 491 = .ok (.iconst 2, 1) := by decide +kernel
theorem d179_492 : decode (ai_b 179) 492 = .ok (.iadd, 1) := by decide +kernel
theorem d179_493 : decode (ai_b 179) 493 = .ok (.iaload, 1) := by decide +kernel
theorem d179_494 : decode (ai_b 179) 494 = .ok (.aload_n 0, 1) := by decide +kernel
theorem d179_495 : decode (ai_b 179) 495 = .ok (.iload_n 3, 1) := by decide +kernel
theorem d179_496 : decode (ai_b 179) 496 = .ok (.iconst 3, 1) := by decide +kernel
theorem d179_497 : decode (ai_b 179) 497 = .ok (.iadd, 1) := by decide +kernel
theorem d179_498 : decode (ai_b 179) 498 = .ok (.iaload, 1) := by decide +kernel
theorem d179_499 : decode (ai_b 179) 499 = .ok (.invokevirtual 52, 3) := by decide +kernel
theorem d179_502 : decode (ai_b 179) 502 = .ok (.if_icmp .eq 780, 3) := by decide +kernel
theorem d179_505 : decode (ai_b 179) 505 = .ok (.iconst 0, 1) := by decide +kernel
theorem d179_506 : decode (ai_b 179) 506 = .ok (.ireturn, 1) := by decide +kernel
theorem d179_507 : decode (ai_b 179) 507 = .ok (.aload_n 1, 1) := by decide +kernel
theorem d179_508 : decode (ai_b 179) 508 = .ok (.aload_n 0, 1) := by decide +kernel
theorem d179_509 : decode (ai_b 179) 509 = .ok (.iload_n 3, 1) := by decide +kernel
theorem d179_510 : decode (ai_b 179) 510 = .ok (.iconst 1, 1) := by decide +kernel
theorem d179_511 : decode (ai_b 179) 511 = .ok (.iadd, 1) := by decide +kernel
theorem d179_512 : decode (ai_b 179) 512 = .ok (.iaload, 1) := by decide +kernel
theorem d179_513 : decode (ai_b 179) 513 = .ok (.invokevirtual 53, 3) := by decide +kernel
theorem d179_516 : decode (ai_b 179) 516 = .ok (.aload_n 2, 1) := by decide +kernel
theorem d179_517 : decode (ai_b 179) 517 = .ok (.aload_n 0, 1) := by decide +kernel
theorem d179_518 : decode (ai_b 179) 518 = .ok (.iload_n 3, 1) := by decide +kernel
theorem d179_519 : decode (ai_b 179) 519 = .ok (.iconst 1, 1) := by decide +kernel
theorem d179_520 : decode (ai_b 179) 520 = .ok (.iadd, 1) := by decide +kernel
theorem d179_521 : decode (ai_b 179) 521 = .ok (.iaload, 1) := by decide +kernel
theorem d179_522 : decode (ai_b 179) 522 = .ok (.invokevirtual 56, 3) := by decide +kernel
theorem d179_525 : decode (ai_b 179) 525 = .ok (.if_icmp .eq 757, 3) := by decide +kernel
theorem d179_528 : decode (ai_b 179) 528 = .ok (.iconst 0, 1) := by decide +kernel
theorem d179_529 : decode (ai_b 179) 529 = .ok (.ireturn, 1) := by decide +kernel
theorem d179_530 : decode (ai_b 179) 530 = .ok (.aload_n 1, 1) := by decide +kernel
theorem d179_531 : decode (ai_b 179) 531 = .ok (.invokevirtual 57, 3) := by decide +kernel
theorem d179_534 : decode (ai_b 179) 534 = .ok (.aload_n 2, 1) := by decide +kernel
theorem d179_535 : decode (ai_b 179) 535 = .ok (.invokevirtual 61, 3) := by decide +kernel
theorem d179_538 : decode (ai_b 179) 538 = .ok (.if_icmp .eq 744, 3) := by decide +kernel
theorem d179_541 : decode (ai_b 179) 541 = .ok (.iconst 0, 1) := by decide +kernel
theorem d179_542 : decode (ai_b 179) 542 = .ok (.ireturn, 1) := by decide +kernel
theorem d179_543 : decode (ai_b 179) 543 = .ok (.aload_n 1, 1) := by decide +kernel
theorem d179_544 : decode (ai_b 179) 544 = .ok (.aload_n 0, 1) := by decide +kernel
theorem d179_545 : decode (ai_b 179) 545 = .ok (.iload_n 3, 1) := by decide +kernel
theorem d179_546 : decode (ai_b 179) 546 = .ok (.iconst 1, 1) := by decide +kernel
theorem d179_547 : decode (ai_b 179) 547 = .ok (.iadd, 1) := by decide +kernel
theorem d179_548 : decode (ai_b 179) 548 = .ok (.iaload, 1) := by decide +kernel
theorem d179_549 : decode (ai_b 179) 549 = .ok (.aload_n 0, 1) := by decide +kernel
theorem d179_550 : decode (ai_b 179) 550 = .ok (.iload_n 3, 1) := by decide +kernel
theorem d179_551 : decode (ai_b 179) 551 = .ok (.iconst 2, 1) := by decide +kernel
theorem d179_552 : decode (ai_b 179) 552 = .ok (.iadd, 1) := by decide +kernel
theorem d179_553 : decode (ai_b 179) 553 = .ok (.iaload, 1) := by decide +kernel
theorem d179_554 : decode (ai_b 179) 554 = .ok (.aload_n 0, 1) := by decide +kernel
theorem d179_555 : decode (ai_b 179) 555 = .ok (.iload_n 3, 1) := by decide +kernel
theorem d179_556 : decode (ai_b 179) 556 = .ok (.iconst 3, 1) := by decide +kernel
theorem d179_557 : decode (ai_b 179) 557 = .ok (.iadd, 1) := by decide +kernel
theorem d179_558 : decode (ai_b 179) 558 = .ok (.iaload, 1) := by decide +kernel
theorem d179_559 : decode (ai_b 179) 559 = .ok (.invokevirtual 62, 3) := by decide +kernel
theorem d179_562 : decode (ai_b 179) 562 = .ok (.aload_n 2, 1) := by decide +kernel
theorem d179_563 : decode (ai_b 179) 563 = .ok (.aload_n 0, 1) := by decide +kernel
theorem d179_564 : decode (ai_b 179) 564 = .ok (.iload_n 3, 1) := by decide +kernel
theorem d179_565 : decode (ai_b 179) 565 = .ok (.iconst 1, 1) := by decide +kernel
theorem d179_566 : decode (ai_b 179) 566 = .ok (.iadd, 1) := by decide +kernel
theorem d179_567 : decode (ai_b 179) 567 = .ok (.iaload, 1) := by decide +kernel
theorem d179_568 : decode (ai_b 179) 568 = .ok (.aload_n 0, 1) := by decide +kernel
theorem d179_569 : decode (ai_b 179) 569 = .ok (.iload_n 3, 1) := by decide +kernel
theorem d179_570 : decode (ai_b 179) 570 = .ok (.iconst 2, 1) := by decide +kernel
theorem d179_571 : decode (ai_b 179) 571 = .ok (.iadd, 1) := by decide +kernel
theorem d179_572 : decode (ai_b 179) 572 = .ok (.iaload, 1) := by decide +kernel
theorem d179_573 : decode (ai_b 179) 573 = .ok (.aload_n 0, 1) := by decide +kernel
theorem d179_574 : decode (ai_b 179) 574 = .ok (.iload_n 3, 1) := by decide +kernel
theorem d179_575 : decode (ai_b 179) 575 = .ok (.iconst 3, 1) := by decide +kernel
theorem d179_576 : decode (ai_b 179) 576 = .ok (.iadd, 1) := by decide +kernel
theorem d179_577 : decode (ai_b 179) 577 = .ok (.iaload, 1) := by decide +kernel
theorem d179_578 : decode (ai_b 179) 578 = .ok (.invokevirtual 65, 3) := by decide +kernel
theorem d179_581 : decode (ai_b 179) 581 = .ok (.if_icmp .eq 701, 3) := by decide +kernel
theorem d179_584 : decode (ai_b 179) 584 = .ok (.iconst 0, 1) := by decide +kernel
theorem d179_585 : decode (ai_b 179) 585 = .ok (.ireturn, 1) := by decide +kernel
theorem d179_586 : decode (ai_b 179) 586 = .ok (.aload_n 1, 1) := by decide +kernel
theorem d179_587 : decode (ai_b 179) 587 = .ok (.aload_n 0, 1) := by decide +kernel
theorem d179_588 : decode (ai_b 179) 588 = .ok (.iload_n 3, 1) := by decide +kernel
theorem d179_589 : decode (ai_b 179) 589 = .ok (.iconst 1, 1) := by decide +kernel
theorem d179_590 : decode (ai_b 179) 590 = .ok (.iadd, 1) := by decide +kernel
theorem d179_591 : decode (ai_b 179) 591 = .ok (.iaload, 1) := by decide +kernel
theorem d179_592 : decode (ai_b 179) 592 = .ok (.aload_n 0, 1) := by decide +kernel
theorem d179_593 : decode (ai_b 179) 593 = .ok (.iload_n 3, 1) := by decide +kernel
theorem d179_594 : decode (ai_b 179) 594 = .ok (.iconst 2, 1) := by decide +kernel
theorem d179_595 : decode (ai_b 179) 595 = .ok (.iadd, 1) := by decide +kernel
theorem d179_596 : decode (ai_b 179) 596 = .ok (.iaload, 1) := by decide +kernel
theorem d179_597 : decode (ai_b 179) 597 = .ok (.aload_n 0, 1) := by decide +kernel
theorem d179_598 : decode (ai_b 179) 598 = .ok (.iload_n 3, 1) := by decide +kernel
theorem d179_599 : decode (ai_b 179) 599 = .ok (.iconst 3, 1) := by decide +kernel
theorem d179_600 : decode (ai_b 179) 600 = .ok (.iadd, 1) := by decide +kernel
theorem d179_601 : decode (ai_b 179) 601 = .ok (.iaload, 1) := by decide +kernel
theorem d179_602 : decode (ai_b 179) 602 = .ok (.aload_n 0, 1) := by decide +kernel
theorem d179_603 : decode (ai_b 179) 603 = .ok (.iload_n 3, 1) := by decide +kernel
theorem d179_604 : decode (ai_b 179) 604 = .ok (.iconst 4, 1) := by decide +kernel
theorem d179_605 : decode (ai_b 179) 605 = .ok (.iadd, 1) := by decide +kernel
theorem d179_606 : decode (ai_b 179) 606 = .ok (.iaload, 1) := by decide +kernel
theorem d179_607 : decode (ai_b 179) 607 = .ok (.aload_n 0, 1) := by decide +kernel
theorem d179_608 : decode (ai_b 179) 608 = .ok (.iload_n 3, 1) := by decide +kernel
theorem d179_609 : decode (ai_b 179) 609 = .ok (.iconst 5, 1) := by decide +kernel
theorem d179_610 : decode (ai_b 179) 610 = .ok (.iadd, 1) := by decide +kernel
theorem d179_611 : decode (ai_b 179) 611 = .ok (.iaload, 1) := by decide +kernel
theorem d179_612 : decode (ai_b 179) 612 = .ok (.invokevirtual 66, 3) := by decide +kernel
theorem d179_615 : decode (ai_b 179) 615 = .ok (.aload_n 2, 1) := by decide +kernel
theorem d179_616 : decode (ai_b 179) 616 = .ok (.aload_n 0, 1) := by decide +kernel
theorem d179_617 : decode (ai_b 179) 617 = .ok (.iload_n 3, 1) := by decide +kernel
theorem d179_618 : decode (ai_b 179) 618 = .ok (.iconst 1, 1) := by decide +kernel
theorem d179_619 : decode (ai_b 179) 619 = .ok (.iadd, 1) := by decide +kernel
theorem d179_620 : decode (ai_b 179) 620 = .ok (.iaload, 1) := by decide +kernel
theorem d179_621 : decode (ai_b 179) 621 = .ok (.aload_n 0, 1) := by decide +kernel
theorem d179_622 : decode (ai_b 179) 622 = .ok (.iload_n 3, 1) := by decide +kernel
theorem d179_623 : decode (ai_b 179) 623 = .ok (.iconst 2, 1) := by decide +kernel
theorem d179_624 : decode (ai_b 179) 624 = .ok (.iadd, 1) := by decide +kernel
theorem d179_625 : decode (ai_b 179) 625 = .ok (.iaload, 1) := by decide +kernel
theorem d179_626 : decode (ai_b 179) 626 = .ok (.aload_n 0, 1) := by decide +kernel
theorem d179_627 : decode (ai_b 179) 627 = .ok (.iload_n 3, 1) := by decide +kernel
theorem d179_628 : decode (ai_b 179) 628 = .ok (.iconst 3, 1) := by decide +kernel
theorem d179_629 : decode (ai_b 179) 629 = .ok (.iadd, 1) := by decide +kernel
theorem d179_630 : decode (ai_b 179) 630 = .ok (.iaload, 1) := by decide +kernel
theorem d179_631 : decode (ai_b 179) 631 = .ok (.aload_n 0, 1) := by decide +kernel
theorem d179_632 : decode (ai_b 179) 632 = .ok (.iload_n 3, 1) := by decide +kernel
theorem d179_633 : decode (ai_b 179) 633 = .ok (.iconst 4, 1) := by decide +kernel
theorem d179_634 : decode (ai_b 179) 634 = .ok (.iadd, 1) := by decide +kernel
theorem d179_635 : decode (ai_b 179) 635 = .ok (.iaload, 1) := by decide +kernel
theorem d179_636 : decode (ai_b 179) 636 = .ok (.aload_n 0, 1) := by decide +kernel
theorem d179_637 : decode (ai_b 179) 637 = .ok (.iload_n 3, 1) := by decide +kernel
theorem d179_638 : decode (ai_b 179) 638 = .ok (.iconst 5, 1) := by decide +kernel
theorem d179_639 : decode (ai_b 179) 639 = .ok (.iadd, 1) := by decide +kernel
theorem d179_640 : decode (ai_b 179) 640 = .ok (.iaload, 1) := by decide +kernel
theorem d179_641 : decode (ai_b 179) 641 = .ok (.invokevirtual 69, 3) := by decide +kernel
theorem d179_644 : decode (ai_b 179) 644 = .ok (.if_icmp .eq 638, 3) := by decide +kernel
theorem d179_647 : decode (ai_b 179) 647 = .ok (.iconst 0, 1) := by decide +kernel
theorem d179_648 : decode (ai_b 179) 648 = .ok (.ireturn, 1) := by decide +kernel
theorem d179_649 : decode (ai_b 179) 649 = .ok (.aload_n 1, 1) := by decide +kernel
theorem d179_650 : decode (ai_b 179) 650 = .ok (.aload_n 0, 1) := by decide +kernel
theorem d179_651 : decode (ai_b 179) 651 = .ok (.iload_n 3, 1) := by decide +kernel
theorem d179_652 : decode (ai_b 179) 652 = .ok (.iconst 1, 1) := by decide +kernel
theorem d179_653 : decode (ai_b 179) 653 = .ok (.iadd, 1) := by decide +kernel
theorem d179_654 : decode (ai_b 179) 654 = .ok (.iaload, 1) := by decide +kernel
theorem d179_655 : decode (ai_b 179) 655 = .ok (.invokevirtual 70, 3) := by decide +kernel
theorem d179_658 : decode (ai_b 179) 658 = .ok (.aload_n 2, 1) := by decide +kernel
theorem d179_659 : decode (ai_b 179) 659 = .ok (.aload_n 0, 1) := by decide +kernel
theorem d179_660 : decode (ai_b 179) 660 = .ok (.iload_n 3, 1) := by decide +kernel
theorem d179_661 : decode (ai_b 179) 661 = .ok (.iconst 1, 1) := by decide +kernel
theorem d179_662 : decode (ai_b 179) 662 = .ok (.iadd, 1) := by decide +kernel
theorem d179_663 : decode (ai_b 179) 663 = .ok (.iaload, 1) := by decide +kernel
theorem d179_664 : decode (ai_b 179) 664 = .ok (.invokevirtual 73, 3) := by decide +kernel
theorem d179_667 : decode (ai_b 179) 667 = .ok (.if_icmp .eq 615, 3) := by decide +kernel
theorem d179_670 : decode (ai_b 179) 670 = .ok (.iconst 0, 1) := by decide +kernel
theorem d179_671 : decode (ai_b 179) 671 = .ok (.ireturn, 1) := by decide +kernel
theorem d179_672 : decode (ai_b 179) 672 = .ok (.aload_n 1, 1) := by decide +kernel
theorem d179_673 : decode (ai_b 179) 673 = .ok (.aload_n 0, 1) := by decide +kernel
theorem d179_674 : decode (ai_b 179) 674 = .ok (.iload_n 3, 1) := by decide +kernel
theorem d179_675 : decode (ai_b 179) 675 = .ok (.iconst 1, 1) := by decide +kernel
theorem d179_676 : decode (ai_b 179) 676 = .ok (.iadd, 1) := by decide +kernel
theorem d179_677 : decode (ai_b 179) 677 = .ok (.iaload, 1) := by decide +kernel
theorem d179_678 : decode (ai_b 179) 678 = .ok (.invokevirtual 74, 3) := by decide +kernel
theorem d179_681 : decode (ai_b 179) 681 = .ok (.aload_n 2, 1) := by decide +kernel
theorem d179_682 : decode (ai_b 179) 682 = .ok (.aload_n 0, 1) := by decide +kernel
theorem d179_683 : decode (ai_b 179) 683 = .ok (.iload_n 3, 1) := by decide +kernel
theorem d179_684 : decode (ai_b 179) 684 = .ok (.iconst 1, 1) := by decide +kernel
theorem d179_685 : decode (ai_b 179) 685 = .ok (.iadd, 1) := by decide +kernel
theorem d179_686 : decode (ai_b 179) 686 = .ok (.iaload, 1) := by decide +kernel
theorem d179_687 : decode (ai_b 179) 687 = .ok (.invokevirtual 77, 3) := by decide +kernel
theorem d179_690 : decode (ai_b 179) 690 = .ok (.if_icmp .eq 592, 3) := by decide +kernel
theorem d179_693 : decode (ai_b 179) 693 = .ok (.iconst 0, 1) := by decide +kernel
theorem d179_694 : decode (ai_b 179) 694 = .ok (.ireturn, 1) := by decide +kernel
theorem d179_695 : decode (ai_b 179) 695 = .ok (.aload_n 1, 1) := by decide +kernel
theorem d179_696 : decode (ai_b 179) 696 = .ok (.aload_n 0, 1) := by decide +kernel
theorem d179_697 : decode (ai_b 179) 697 = .ok (.iload_n 3, 1) := by decide +kernel
theorem d179_698 : decode (ai_b 179) 698 = .ok (.iconst 1, 1) := by decide +kernel
theorem d179_699 : decode (ai_b 179) 699 = .ok (.iadd, 1) := by decide +kernel
theorem d179_700 : decode (ai_b 179) 700 = .ok (.iaload, 1) := by decide +kernel
theorem d179_701 : decode (ai_b 179) 701 = .ok (.invokevirtual 78, 3) := by decide +kernel
theorem d179_704 : decode (ai_b 179) 704 = .ok (.aload_n 2, 1) := by decide +kernel
theorem d179_705 : decode (ai_b 179) 705 = .ok (.aload_n 0, 1) := by decide +kernel
theorem d179_706 : decode (ai_b 179) 706 = .ok (.iload_n 3, 1) := by decide +kernel
theorem d179_707 : decode (ai_b 179) 707 = .ok (.iconst 1, 1) := by decide +kernel
theorem d179_708 : decode (ai_b 179) 708 = .ok (.iadd, 1) := by decide +kernel
theorem d179_709 : decode (ai_b 179) 709 = .ok (.iaload, 1) := by decide +kernel
theorem d179_710 : decode (ai_b 179) 710 = .ok (.invokevirtual 81, 3) := by decide +kernel
theorem d179_713 : decode (ai_b 179) 713 = .ok (.if_icmp .eq 569, 3) := by decide +kernel
theorem d179_716 : decode (ai_b 179) 716 = .ok (.iconst 0, 1) := by decide +kernel
theorem d179_717 : decode (ai_b 179) 717 = .ok (.ireturn, 1) := by decide +kernel
theorem d179_718 : decode (ai_b 179) 718 = .ok (.aload_n 1, 1) := by decide +kernel
theorem d179_719 : decode (ai_b 179) 719 = .ok (.aload_n 0, 1) := by decide +kernel
theorem d179_720 : decode (ai_b 179) 720 = .ok (.iload_n 3, 1) := by decide +kernel
theorem d179_721 : decode (ai_b 179) 721 = .ok (.iconst 1, 1) := by decide +kernel
theorem d179_722 : decode (ai_b 179) 722 = .ok (.iadd, 1) := by decide +kernel
theorem d179_723 : decode (ai_b 179) 723 = .ok (.iaload, 1) := by decide +kernel
theorem d179_724 : decode (ai_b 179) 724 = .ok (.aload_n 0, 1) := by decide +kernel
theorem d179_725 : decode (ai_b 179) 725 = .ok (.iload_n 3, 1) := by decide +kernel
theorem d179_726 : decode (ai_b 179) 726 = .ok (.iconst 2, 1) := by decide +kernel
theorem d179_727 : decode (ai_b 179) 727 = .ok (.iadd, 1) := by decide +kernel
theorem d179_728 : decode (ai_b 179) 728 = .ok (.iaload, 1) := by decide +kernel
theorem d179_729 : decode (ai_b 179) 729 = .ok (.invokevirtual 82, 3) := by decide +kernel
theorem d179_732 : decode (ai_b 179) 732 = .ok (.aload_n 2, 1) := by decide +kernel
theorem d179_733 : decode (ai_b 179) 733 = .ok (.aload_n 0, 1) := by decide +kernel
theorem d179_734 : decode (ai_b 179) 734 = .ok (.iload_n 3, 1) := by decide +kernel
theorem d179_735 : decode (ai_b 179) 735 = .ok (.iconst 1, 1) := by decide +kernel
theorem d179_736 : decode (ai_b 179) 736 = .ok (.iadd, 1) := by decide +kernel
theorem d179_737 : decode (ai_b 179) 737 = .ok (.iaload, 1) := by decide +kernel
theorem d179_738 : decode (ai_b 179) 738 = .ok (.aload_n 0, 1) := by decide +kernel
theorem d179_739 : decode (ai_b 179) 739 = .ok (.iload_n 3, 1) := by decide +kernel
theorem d179_740 : decode (ai_b 179) 740 = .ok (.iconst 2, 1) := by decide +kernel
theorem d179_741 : decode (ai_b 179) 741 = .ok (.iadd, 1) := by decide +kernel
theorem d179_742 : decode (ai_b 179) 742 = .ok (.iaload, 1) := by decide +kernel
theorem d179_743 : decode (ai_b 179) 743 = .ok (.invokevirtual 85, 3) := by decide +kernel
theorem d179_746 : decode (ai_b 179) 746 = .ok (.if_icmp .eq 536, 3) := by decide +kernel
theorem d179_749 : decode (ai_b 179) 749 = .ok (.iconst 0, 1) := by decide +kernel
theorem d179_750 : decode (ai_b 179) 750 = .ok (.ireturn, 1) := by decide +kernel
theorem d179_751 : decode (ai_b 179) 751 = .ok (.aload_n 1, 1) := by decide +kernel
theorem d179_752 : decode (ai_b 179) 752 = .ok (.aload_n 0, 1) := by decide +kernel
theorem d179_753 : decode (ai_b 179) 753 = .ok (.iload_n 3, 1) := by decide +kernel
theorem d179_754 : decode (ai_b 179) 754 = .ok (.iconst 1, 1) := by decide +kernel
theorem d179_755 : decode (ai_b 179) 755 = .ok (.iadd, 1) := by decide +kernel
theorem d179_756 : decode (ai_b 179) 756 = .ok (.iaload, 1) := by decide +kernel
theorem d179_757 : decode (ai_b 179) 757 = .ok (.ifCond .eq 7, 3) := by decide +kernel
theorem d179_760 : decode (ai_b 179) 760 = .ok (.iconst 1, 1) := by decide +kernel
theorem d179_761 : decode (ai_b 179) 761 = .ok (.goto 4, 3) := by decide +kernel
theorem d179_764 : decode (ai_b 179) 764 = .ok (.iconst 0, 1) := by decide +kernel
theorem d179_765 : decode (ai_b 179) 765 = .ok (.invokevirtual 86, 3) := by decide +kernel
theorem d179_768 : decode (ai_b 179) 768 = .ok (.aload_n 2, 1) := by decide +kernel
theorem d179_769 : decode (ai_b 179) 769 = .ok (.aload_n 0, 1) := by decide +kernel
theorem d179_770 : decode (ai_b 179) 770 = .ok (.iload_n 3, 1) := by decide +kernel
theorem d179_771 : decode (ai_b 179) 771 = .ok (.iconst 1, 1) := by decide +kernel
theorem d179_772 : decode (ai_b 179) 772 = .ok (.iadd, 1) := by decide +kernel
theorem d179_773 : decode (ai_b 179) 773 = .ok (.iaload, 1) := by decide +kernel
theorem d179_774 : decode (ai_b 179) 774 = .ok (.ifCond .eq 7, 3) := by decide +kernel
theorem d179_777 : decode (ai_b 179) 777 = .ok (.iconst 1, 1) := by decide +kernel
theorem d179_778 : decode (ai_b 179) 778 = .ok (.goto 4, 3) := by decide +kernel
theorem d179_781 : decode (ai_b 179) 781 = .ok (.iconst 0, 1) := by decide +kernel
theorem d179_782 : decode (ai_b 179) 782 = .ok (.invokevirtual 90, 3) := by decide +kernel
theorem d179_785 : decode (ai_b 179) 785 = .ok (.if_icmp .eq 497, 3) := by decide +kernel
theorem d179_788 : decode (ai_b 179) 788 = .ok (.iconst 0, 1) := by decide +kernel
theorem d179_789 : decode (ai_b 179) 789 = .ok (.ireturn, 1) := by decide +kernel
theorem d179_790 : decode (ai_b 179) 790 = .ok (.aload_n 1, 1) := by decide +kernel
theorem d179_791 : decode (ai_b 179) 791 = .ok (.aload_n 0, 1) := by decide +kernel
theorem d179_792 : decode (ai_b 179) 792 = .ok (.iload_n 3, 1) := by decide +kernel
theorem d179_793 : decode (ai_b 179) 793 = .ok (.iconst 1, 1) := by decide +kernel
theorem d179_794 : decode (ai_b 179) 794 = .ok (.iadd, 1) := by decide +kernel
theorem d179_795 : decode (ai_b 179) 795 = .ok (.iaload, 1) := by decide +kernel
theorem d179_796 : decode (ai_b 179) 796 = .ok (.invokevirtual 91, 3) := by decide +kernel
theorem d179_799 : decode (ai_b 179) 799 = .ok (.aload_n 2, 1) := by decide +kernel
theorem d179_800 : decode (ai_b 179) 800 = .ok (.aload_n 0, 1) := by decide +kernel
theorem d179_801 : decode (ai_b 179) 801 = .ok (.iload_n 3, 1) := by decide +kernel
theorem d179_802 : decode (ai_b 179) 802 = .ok (.iconst 1, 1) := by decide +kernel
theorem d179_803 : decode (ai_b 179) 803 = .ok (.iadd, 1) := by decide +kernel
theorem d179_804 : decode (ai_b 179) 804 = .ok (.iaload, 1) := by decide +kernel
theorem d179_805 : decode (ai_b 179) 805 = .ok (.invokevirtual 94, 3) := by decide +kernel
theorem d179_808 : decode (ai_b 179) 808 = .ok (.if_icmp .eq 474, 3) := by decide +kernel
theorem d179_811 : decode (ai_b 179) 811 = .ok (.iconst 0, 1) := by decide +kernel
theorem d179_812 : decode (ai_b 179) 812 = .ok (.ireturn, 1) := by decide +kernel
theorem d179_813 : decode (ai_b 179) 813 = .ok (.aload_n 1, 1) := by decide +kernel
theorem d179_814 : decode (ai_b 179) 814 = .ok (.aload_n 0, 1) := by decide +kernel
theorem d179_815 : decode (ai_b 179) 815 = .ok (.iload_n 3, 1) := by decide +kernel
theorem d179_816 : decode (ai_b 179) 816 = .ok (.iconst 1, 1) := by decide +kernel
theorem d179_817 : decode (ai_b 179) 817 = .ok (.iadd, 1) := by decide +kernel
theorem d179_818 : decode (ai_b 179) 818 = .ok (.iaload, 1) := by decide +kernel
theorem d179_819 : decode (ai_b 179) 819 = .ok (.aload_n 0, 1) := by decide +kernel
theorem d179_820 : decode (ai_b 179) 820 = .ok (.iload_n 3, 1) := by decide +kernel
theorem d179_821 : decode (ai_b 179) 821 = .ok (.iconst 2, 1) := by decide +kernel
theorem d179_822 : decode (ai_b 179) 822 = .ok (.iadd, 1) := by decide +kernel
theorem d179_823 : decode (ai_b 179) 823 = .ok (.iaload, 1) := by decide +kernel
theorem d179_824 : decode (ai_b 179) 824 = .ok (.invokevirtual 95, 3) := by decide +kernel
theorem d179_827 : decode (ai_b 179) 827 = .ok (.aload_n 2, 1) := by decide +kernel
theorem d179_828 : decode (ai_b 179) 828 = .ok (.aload_n 0, 1) := by decide +kernel
theorem d179_829 : decode (ai_b 179) 829 = .ok (.iload_n 3, 1) := by decide +kernel
theorem d179_830 : decode (ai_b 179) 830 = .ok (.iconst 1, 1) := by decide +kernel
theorem d179_831 : decode (ai_b 179) 831 = .ok (.iadd, 1) := by decide +kernel
theorem d179_832 : decode (ai_b 179) 832 = .ok (.iaload, 1) := by decide +kernel
theorem d179_833 : decode (ai_b 179) 833 = .ok (.aload_n 0, 1) := by decide +kernel
theorem d179_834 : decode (ai_b 179) 834 = .ok (.iload_n 3, 1) := by decide +kernel
theorem d179_835 : decode (ai_b 179) 835 = .ok (.iconst 2, 1) := by decide +kernel
theorem d179_836 : decode (ai_b 179) 836 = .ok (.iadd, 1) := by decide +kernel
theorem d179_837 : decode (ai_b 179) 837 = .ok (.iaload, 1) := by decide +kernel
theorem d179_838 : decode (ai_b 179) 838 = .ok (.invokevirtual 98, 3) := by decide +kernel
theorem d179_841 : decode (ai_b 179) 841 = .ok (.if_icmp .eq 441, 3) := by decide +kernel
theorem d179_844 : decode (ai_b 179) 844 = .ok (.iconst 0, 1) := by decide +kernel
theorem d179_845 : decode (ai_b 179) 845 = .ok (.ireturn, 1) := by decide +kernel
theorem d179_846 : decode (ai_b 179) 846 = .ok (.aload_n 1, 1) := by decide +kernel
theorem d179_847 : decode (ai_b 179) 847 = .ok (.aload_n 0, 1) := by decide +kernel
theorem d179_848 : decode (ai_b 179) 848 = .ok (.iload_n 3, 1) := by decide +kernel
theorem d179_849 : decode (ai_b 179) 849 = .ok (.iconst 1, 1) := by decide +kernel
theorem d179_850 : decode (ai_b 179) 850 = .ok (.iadd, 1) := by decide +kernel
theorem d179_851 : decode (ai_b 179) 851 = .ok (.iaload, 1) := by decide +kernel
theorem d179_852 : decode (ai_b 179) 852 = .ok (.aload_n 0, 1) := by decide +kernel
theorem d179_853 : decode (ai_b 179) 853 = .ok (.iload_n 3, 1) := by decide +kernel
theorem d179_854 : decode (ai_b 179) 854 = .ok (.iconst 2, 1) := by decide +kernel
theorem d179_855 : decode (ai_b 179) 855 = .ok (.iadd, 1) := by decide +kernel
theorem d179_856 : decode (ai_b 179) 856 = .ok (.iaload, 1) := by decide +kernel
theorem d179_857 : decode (ai_b 179) 857 = .ok (.aload_n 0, 1) := by decide +kernel
theorem d179_858 : decode (ai_b 179) 858 = .ok (.iload_n 3, 1) := by decide +kernel
theorem d179_859 : decode (ai_b 179) 859 = .ok (.iconst 3, 1) := by decide +kernel
theorem d179_860 : decode (ai_b 179) 860 = .ok (.iadd, 1) := by decide +kernel
theorem d179_861 : decode (ai_b 179) 861 = .ok (.iaload, 1) := by decide +kernel
theorem d179_862 : decode (ai_b 179) 862 = .ok (.aload_n 0, 1) := by decide +kernel
theorem d179_863 : decode (ai_b 179) 863 = .ok (.iload_n 3, 1) := by decide +kernel
theorem d179_864 : decode (ai_b 179) 864 = .ok (.iconst 4, 1) := by decide +kernel
theorem d179_865 : decode (ai_b 179) 865 = .ok (.iadd, 1) := by decide +kernel
theorem d179_866 : decode (ai_b 179) 866 = .ok (.iaload, 1) := by decide +kernel
theorem d179_867 : decode (ai_b 179) 867 = .ok (.invokevirtual 99, 3) := by decide +kernel
theorem d179_870 : decode (ai_b 179) 870 = .ok (.aload_n 2, 1) := by decide +kernel
theorem d179_871 : decode (ai_b 179) 871 = .ok (.aload_n 0, 1) := by decide +kernel
theorem d179_872 : decode (ai_b 179) 872 = .ok (.iload_n 3, 1) := by decide +kernel
theorem d179_873 : decode (ai_b 179) 873 = .ok (.iconst 1, 1) := by decide +kernel
theorem d179_874 : decode (ai_b 179) 874 = .ok (.iadd, 1) := by decide +kernel
theorem d179_875 : decode (ai_b 179) 875 = .ok (.iaload, 1) := by decide +kernel
theorem d179_876 : decode (ai_b 179) 876 = .ok (.aload_n 0, 1) := by decide +kernel
theorem d179_877 : decode (ai_b 179) 877 = .ok (.iload_n 3, 1) := by decide +kernel
theorem d179_878 : decode (ai_b 179) 878 = .ok (.iconst 2, 1) := by decide +kernel
theorem d179_879 : decode (ai_b 179) 879 = .ok (.iadd, 1) := by decide +kernel
theorem d179_880 : decode (ai_b 179) 880 = .ok (.iaload, 1) := by decide +kernel
theorem d179_881 : decode (ai_b 179) 881 = .ok (.aload_n 0, 1) := by decide +kernel
theorem d179_882 : decode (ai_b 179) 882 = .ok (.iload_n 3, 1) := by decide +kernel
theorem d179_883 : decode (ai_b 179) 883 = .ok (.iconst 3, 1) := by decide +kernel
theorem d179_884 : decode (ai_b 179) 884 = .ok (.iadd, 1) := by decide +kernel
theorem d179_885 : decode (ai_b 179) 885 = .ok (.iaload, 1) := by decide +kernel
theorem d179_886 : decode (ai_b 179) 886 = .ok (.aload_n 0, 1) := by decide +kernel
theorem d179_887 : decode (ai_b 179) 887 = .ok (.iload_n 3, 1) := by decide +kernel
theorem d179_888 : decode (ai_b 179) 888 = .ok (.iconst 4, 1) := by decide +kernel
theorem d179_889 : decode (ai_b 179) 889 = .ok (.iadd, 1) := by decide +kernel
theorem d179_890 : decode (ai_b 179) 890 = .ok (.iaload, 1) := by decide +kernel
theorem d179_891 : decode (ai_b 179) 891 = .ok (.invokevirtual 103, 3) := by decide +kernel
theorem d179_894 : decode (ai_b 179) 894 = .ok (.if_icmp .eq 388, 3) := by decide +kernel
theorem d179_897 : decode (ai_b 179) 897 = .ok (.iconst 0, 1) := by decide +kernel
theorem d179_898 : decode (ai_b 179) 898 = .ok (.ireturn, 1) := by decide +kernel
theorem d179_899 : decode (ai_b 179) 899 = .ok (.aload_n 1, 1) := by decide +kernel
theorem d179_900 : decode (ai_b 179) 900 = .ok (.aload_n 0, 1) := by decide +kernel
theorem d179_901 : decode (ai_b 179) 901 = .ok (.iload_n 3, 1) := by decide +kernel
theorem d179_902 : decode (ai_b 179) 902 = .ok (.iconst 1, 1) := by decide +kernel
theorem d179_903 : decode (ai_b 179) 903 = .ok (.iadd, 1) := by decide +kernel
theorem d179_904 : decode (ai_b 179) 904 = .ok (.iaload, 1) := by decide +kernel
theorem d179_905 : decode (ai_b 179) 905 = .ok (.aload_n 0, 1) := by decide +kernel
theorem d179_906 : decode (ai_b 179) 906 = .ok (.iload_n 3, 1) := by decide +kernel
theorem d179_907 : decode (ai_b 179) 907 = .ok (.iconst 2, 1) := by decide +kernel
theorem d179_908 : decode (ai_b 179) 908 = .ok (.iadd, 1) := by decide +kernel
theorem d179_909 : decode (ai_b 179) 909 = .ok (.iaload, 1) := by decide +kernel
theorem d179_910 : decode (ai_b 179) 910 = .ok (.aload_n 0, 1) := by decide +kernel
theorem d179_911 : decode (ai_b 179) 911 = .ok (.iload_n 3, 1) := by decide +kernel
theorem d179_912 : decode (ai_b 179) 912 = .ok (.iconst 3, 1) := by decide +kernel
theorem d179_913 : decode (ai_b 179) 913 = .ok (.iadd, 1) := by decide +kernel
theorem d179_914 : decode (ai_b 179) 914 = .ok (.iaload, 1) := by decide +kernel
theorem d179_915 : decode (ai_b 179) 915 = .ok (.invokevirtual 104, 3) := by decide +kernel
theorem d179_918 : decode (ai_b 179) 918 = .ok (.aload_n 2, 1) := by decide +kernel
theorem d179_919 : decode (ai_b 179) 919 = .ok (.aload_n 0, 1) := by decide +kernel
theorem d179_920 : decode (ai_b 179) 920 = .ok (.iload_n 3, 1) := by decide +kernel
theorem d179_921 : decode (ai_b 179) 921 = .ok (.iconst 1, 1) := by decide +kernel
theorem d179_922 : decode (ai_b 179) 922 = .ok (.iadd, 1) := by decide +kernel
theorem d179_923 : decode (ai_b 179) 923 = .ok (.iaload, 1) := by decide +kernel
theorem d179_924 : decode (ai_b 179) 924 = .ok (.aload_n 0, 1) := by decide +kernel
theorem d179_925 : decode (ai_b 179) 925 = .ok (.iload_n 3, 1) := by decide +kernel
theorem d179_926 : decode (ai_b 179) 926 = .ok (.iconst 2, 1) := by decide +kernel
theorem d179_927 : decode (ai_b 179) 927 = .ok (.iadd, 1) := by decide +kernel
theorem d179_928 : decode (ai_b 179) 928 = .ok (.iaload, 1) := by decide +kernel
theorem d179_929 : decode (ai_b 179) 929 = .ok (.aload_n 0, 1) := by decide +kernel
theorem d179_930 : decode (ai_b 179) 930 = .ok (.iload_n 3, 1) := by decide +kernel
theorem d179_931 : decode (ai_b 179) 931 = .ok (.iconst 3, 1) := by decide +kernel
theorem d179_932 : decode (ai_b 179) 932 = .ok (.iadd, 1) := by decide +kernel
theorem d179_933 : decode (ai_b 179) 933 = .ok (.iaload, 1) := by decide +kernel
theorem d179_934 : decode (ai_b 179) 934 = .ok (.invokevirtual 107, 3) := by decide +kernel
theorem d179_937 : decode (ai_b 179) 937 = .ok (.if_icmp .eq 345, 3) := by decide +kernel
theorem d179_940 : decode (ai_b 179) 940 = .ok (.iconst 0, 1) := by decide +kernel
theorem d179_941 : decode (ai_b 179) 941 = .ok (.ireturn, 1) := by decide +kernel
theorem d179_942 : decode (ai_b 179) 942 = .ok (.aload_n 1, 1) := by decide +kernel
theorem d179_943 : decode (ai_b 179) 943 = .ok (.aload_n 0, 1) := by decide +kernel
theorem d179_944 : decode (ai_b 179) 944 = .ok (.iload_n 3, 1) := by decide +kernel
theorem d179_945 : decode (ai_b 179) 945 = .ok (.iconst 1, 1) := by decide +kernel
theorem d179_946 : decode (ai_b 179) 946 = .ok (.iadd, 1) := by decide +kernel
theorem d179_947 : decode (ai_b 179) 947 = .ok (.iaload, 1) := by decide +kernel
theorem d179_948 : decode (ai_b 179) 948 = .ok (.aload_n 0, 1) := by decide +kernel
theorem d179_949 : decode (ai_b 179) 949 = .ok (.iload_n 3, 1) := by decide +kernel
theorem d179_950 : decode (ai_b 179) 950 = .ok (.iconst 2, 1) := by decide +kernel
theorem d179_951 : decode (ai_b 179) 951 = .ok (.iadd, 1) := by decide +kernel
theorem d179_952 : decode (ai_b 179) 952 = .ok (.iaload, 1) := by decide +kernel
theorem d179_953 : decode (ai_b 179) 953 = .ok (.aload_n 0, 1) := by decide +kernel
theorem d179_954 : decode (ai_b 179) 954 = .ok (.iload_n 3, 1) := by decide +kernel
theorem d179_955 : decode (ai_b 179) 955 = .ok (.iconst 3, 1) := by decide +kernel
theorem d179_956 : decode (ai_b 179) 956 = .ok (.iadd, 1) := by decide +kernel
theorem d179_957 : decode (ai_b 179) 957 = .ok (.iaload, 1) := by decide +kernel
theorem d179_958 : decode (ai_b 179) 958 = .ok (.invokevirtual 108, 3) := by decide +kernel
theorem d179_961 : decode (ai_b 179) 961 = .ok (.aload_n 2, 1) := by decide +kernel
theorem d179_962 : decode (ai_b 179) 962 = .ok (.aload_n 0, 1) := by decide +kernel
theorem d179_963 : decode (ai_b 179) 963 = .ok (.iload_n 3, 1) := by decide +kernel
theorem d179_964 : decode (ai_b 179) 964 = .ok (.iconst 1, 1) := by decide +kernel
theorem d179_965 : decode (ai_b 179) 965 = .ok (.iadd, 1) := by decide +kernel
theorem d179_966 : decode (ai_b 179) 966 = .ok (.iaload, 1) := by decide +kernel
theorem d179_967 : decode (ai_b 179) 967 = .ok (.aload_n 0, 1) := by decide +kernel
theorem d179_968 : decode (ai_b 179) 968 = .ok (.iload_n 3, 1) := by decide +kernel
theorem d179_969 : decode (ai_b 179) 969 = .ok (.iconst 2, 1) := by decide +kernel
theorem d179_970 : decode (ai_b 179) 970 = .ok (.iadd, 1) := by decide +kernel
theorem d179_971 : decode (ai_b 179) 971 = .ok (.iaload, 1) := by decide +kernel
theorem d179_972 : decode (ai_b 179) 972 = .ok (.aload_n 0, 1) := by decide +kernel
theorem d179_973 : decode (ai_b 179) 973 = .ok (.iload_n 3, 1) := by decide +kernel
theorem d179_974 : decode (ai_b 179) 974 = .ok (.iconst 3, 1) := by decide +kernel
theorem d179_975 : decode (ai_b 179) 975 = .ok (.iadd, 1) := by decide +kernel
theorem d179_976 : decode (ai_b 179) 976 = .ok (.iaload, 1) := by decide +kernel
theorem d179_977 : decode (ai_b 179) 977 = .ok (.invokevirtual 111, 3) := by decide +kernel
theorem d179_980 : decode (ai_b 179) 980 = .ok (.if_icmp .eq 302, 3) := by decide +kernel
theorem d179_983 : decode (ai_b 179) 983 = .ok (.iconst 0, 1) := by decide +kernel
theorem d179_984 : decode (ai_b 179) 984 = .ok (.ireturn, 1) := by decide +kernel
theorem d179_985 : decode (ai_b 179) 985 = .ok (.aload_n 1, 1) := by decide +kernel
theorem d179_986 : decode (ai_b 179) 986 = .ok (.aload_n 0, 1) := by decide +kernel
theorem d179_987 : decode (ai_b 179) 987 = .ok (.iload_n 3, 1) := by decide +kernel
theorem d179_988 : decode (ai_b 179) 988 = .ok (.iconst 1, 1) := by decide +kernel
theorem d179_989 : decode (ai_b 179) 989 = .ok (.iadd, 1) := by decide +kernel
theorem d179_990 : decode (ai_b 179) 990 = .ok (.iaload, 1) := by decide +kernel
theorem d179_991 : decode (ai_b 179) 991 = .ok (.aload_n 0, 1) := by decide +kernel
theorem d179_992 : decode (ai_b 179) 992 = .ok (.iload_n 3, 1) := by decide +kernel
theorem d179_993 : decode (ai_b 179) 993 = .ok (.iconst 2, 1) := by decide +kernel
theorem d179_994 : decode (ai_b 179) 994 = .ok (.iadd, 1) := by decide +kernel
theorem d179_995 : decode (ai_b 179) 995 = .ok (.iaload, 1) := by decide +kernel
theorem d179_996 : decode (ai_b 179) 996 = .ok (.invokevirtual 112, 3) := by decide +kernel
theorem d179_999 : decode (ai_b 179) 999 = .ok (.aload_n 2, 1) := by decide +kernel
theorem d179_1000 : decode (ai_b 179) 1000 = .ok (.aload_n 0, 1) := by decide +kernel
theorem d179_1001 : decode (ai_b 179) 1001 = .ok (.iload_n 3, 1) := by decide +kernel
theorem d179_1002 : decode (ai_b 179) 1002 = .ok (.iconst 1, 1) := by decide +kernel
theorem d179_1003 : decode (ai_b 179) 1003 = .ok (.iadd, 1) := by decide +kernel
theorem d179_1004 : decode (ai_b 179) 1004 = .ok (.iaload, 1) := by decide +kernel
theorem d179_1005 : decode (ai_b 179) 1005 = .ok (.aload_n 0, 1) := by decide +kernel
theorem d179_1006 : decode (ai_b 179) 1006 = .ok (.iload_n 3, 1) := by decide +kernel
theorem d179_1007 : decode (ai_b 179) 1007 = .ok (.iconst 2, 1) := by decide +kernel
theorem d179_1008 : decode (ai_b 179) 1008 = .ok (.iadd, 1) := by decide +kernel
theorem d179_1009 : decode (ai_b 179) 1009 = .ok (.iaload, 1) := by decide +kernel
theorem d179_1010 : decode (ai_b 179) 1010 = .ok (.invokevirtual 115, 3) := by decide +kernel
theorem d179_1013 : decode (ai_b 179) 1013 = .ok (.if_icmp .eq 269, 3) := by decide +kernel
theorem d179_1016 : decode (ai_b 179) 1016 = .ok (.iconst 0, 1) := by decide +kernel
theorem d179_1017 : decode (ai_b 179) 1017 = .ok (.ireturn, 1) := by decide +kernel
theorem d179_1018 : decode (ai_b 179) 1018 = .ok (.aload_n 1, 1) := by decide +kernel
theorem d179_1019 : decode (ai_b 179) 1019 = .ok (.aload_n 0, 1) := by decide +kernel
theorem d179_1020 : decode (ai_b 179) 1020 = .ok (.iload_n 3, 1) := by decide +kernel
theorem d179_1021 : decode (ai_b 179) 1021 = .ok (.iconst 1, 1) := by decide +kernel
theorem d179_1022 : decode (ai_b 179) 1022 = .ok (.iadd, 1) := by decide +kernel
theorem d179_1023 : decode (ai_b 179) 1023 = .ok (.iaload, 1) := by decide +kernel
theorem d179_1024 : decode (ai_b 179) 1024 = .ok (.aload_n 0, 1) := by decide +kernel
theorem d179_1025 : decode (ai_b 179) 1025 = .ok (.iload_n 3, 1) := by decide +kernel
theorem d179_1026 : decode (ai_b 179) 1026 = .ok (.iconst 2, 1) := by decide +kernel
theorem d179_1027 : decode (ai_b 179) 1027 = .ok (.iadd, 1) := by decide +kernel
theorem d179_1028 : decode (ai_b 179) 1028 = .ok (.iaload, 1) := by decide +kernel
theorem d179_1029 : decode (ai_b 179) 1029 = .ok (.aload_n 0, 1) := by decide +kernel
theorem d179_1030 : decode (ai_b 179) 1030 = .ok (.iload_n 3, 1) := by decide +kernel
theorem d179_1031 : decode (ai_b 179) 1031 = .ok (.iconst 3, 1) := by decide +kernel
theorem d179_1032 : decode (ai_b 179) 1032 = .ok (.iadd, 1) := by decide +kernel
theorem d179_1033 : decode (ai_b 179) 1033 = .ok (.iaload, 1) := by decide +kernel
theorem d179_1034 : decode (ai_b 179) 1034 = .ok (.invokevirtual 116, 3) := by decide +kernel
theorem d179_1037 : decode (ai_b 179) 1037 = .ok (.aload_n 2, 1) := by decide +kernel
theorem d179_1038 : decode (ai_b 179) 1038 = .ok (.aload_n 0, 1) := by decide +kernel
theorem d179_1039 : decode (ai_b 179) 1039 = .ok (.iload_n 3, 1) := by decide +kernel
theorem d179_1040 : decode (ai_b 179) 1040 = .ok (.iconst 1, 1) := by decide +kernel
theorem d179_1041 : decode (ai_b 179) 1041 = .ok (.iadd, 1) := by decide +kernel
theorem d179_1042 : decode (ai_b 179) 1042 = .ok (.iaload, 1) := by decide +kernel
theorem d179_1043 : decode (ai_b 179) 1043 = .ok (.aload_n 0, 1) := by decide +kernel
theorem d179_1044 : decode (ai_b 179) 1044 = .ok (.iload_n 3, 1) := by decide +kernel
theorem d179_1045 : decode (ai_b 179) 1045 = .ok (.iconst 2, 1) := by decide +kernel
theorem d179_1046 : decode (ai_b 179) 1046 = .ok (.iadd, 1) := by decide +kernel
theorem d179_1047 : decode (ai_b 179) 1047 = .ok (.iaload, 1) := by decide +kernel
theorem d179_1048 : decode (ai_b 179) 1048 = .ok (.aload_n 0, 1) := by decide +kernel
theorem d179_1049 : decode (ai_b 179) 1049 = .ok (.iload_n 3, 1) := by decide +kernel
theorem d179_1050 : decode (ai_b 179) 1050 = .ok (.iconst 3, 1) := by decide +kernel
theorem d179_1051 : decode (ai_b 179) 1051 = .ok (.iadd, 1) := by decide +kernel
theorem d179_1052 : decode (ai_b 179) 1052 = .ok (.iaload, 1) := by decide +kernel
theorem d179_1053 : decode (ai_b 179) 1053 = .ok (.invokevirtual 120, 3) := by decide +kernel
theorem d179_1056 : decode (ai_b 179) 1056 = .ok (.if_icmp .eq 226, 3) := by decide +kernel
theorem d179_1059 : decode (ai_b 179) 1059 = .ok (.iconst 0, 1) := by decide +kernel
theorem d179_1060 : decode (ai_b 179) 1060 = .ok (.ireturn, 1) := by decide +kernel
theorem d179_1061 : decode (ai_b 179) 1061 = .ok (.aload_n 1, 1) := by decide +kernel
theorem d179_1062 : decode (ai_b 179) 1062 = .ok (.aload_n 0, 1) := by decide +kernel
theorem d179_1063 : decode (ai_b 179) 1063 = .ok (.iload_n 3, 1) := by decide +kernel
theorem d179_1064 : decode (ai_b 179) 1064 = .ok (.iconst 1, 1) := by decide +kernel
theorem d179_1065 : decode (ai_b 179) 1065 = .ok (.iadd, 1) := by decide +kernel
theorem d179_1066 : decode (ai_b 179) 1066 = .ok (.iaload, 1) := by decide +kernel
theorem d179_1067 : decode (ai_b 179) 1067 = .ok (.aload_n 0, 1) := by decide +kernel
theorem d179_1068 : decode (ai_b 179) 1068 = .ok (.iload_n 3, 1) := by decide +kernel
theorem d179_1069 : decode (ai_b 179) 1069 = .ok (.iconst 2, 1) := by decide +kernel
theorem d179_1070 : decode (ai_b 179) 1070 = .ok (.iadd, 1) := by decide +kernel
theorem d179_1071 : decode (ai_b 179) 1071 = .ok (.iaload, 1) := by decide +kernel
theorem d179_1072 : decode (ai_b 179) 1072 = .ok (.invokevirtual 121, 3) := by decide +kernel
theorem d179_1075 : decode (ai_b 179) 1075 = .ok (.aload_n 2, 1) := by decide +kernel
theorem d179_1076 : decode (ai_b 179) 1076 = .ok (.aload_n 0, 1) := by decide +kernel
theorem d179_1077 : decode (ai_b 179) 1077 = .ok (.iload_n 3, 1) := by decide +kernel
theorem d179_1078 : decode (ai_b 179) 1078 = .ok (.iconst 1, 1) := by decide +kernel
theorem d179_1079 : decode (ai_b 179) 1079 = .ok (.iadd, 1) := by decide +kernel
theorem d179_1080 : decode (ai_b 179) 1080 = .ok (.iaload, 1) := by decide +kernel
theorem d179_1081 : decode (ai_b 179) 1081 = .ok (.aload_n 0, 1) := by decide +kernel
theorem d179_1082 : decode (ai_b 179) 1082 = .ok (.iload_n 3, 1) := by decide +kernel
theorem d179_1083 : decode (ai_b 179) 1083 = .ok (.iconst 2, 1) := by decide +kernel
theorem d179_1084 : decode (ai_b 179) 1084 = .ok (.iadd, 1) := by decide +kernel
theorem d179_1085 : decode (ai_b 179) 1085 = .ok (.iaload, 1) := by decide +kernel
theorem d179_1086 : decode (ai_b 179) 1086 = .ok (.invokevirtual 124, 3) := by decide +kernel
theorem d179_1089 : decode (ai_b 179) 1089 = .ok (.if_icmp .eq 193, 3) := by decide +kernel
theorem d179_1092 : decode (ai_b 179) 1092 = .ok (.iconst 0, 1) := by decide +kernel
theorem d179_1093 : decode (ai_b 179) 1093 = .ok (.ireturn, 1) := by decide +kernel
theorem d179_1094 : decode (ai_b 179) 1094 = .ok (.aload_n 1, 1) := by decide +kernel
theorem d179_1095 : decode (ai_b 179) 1095 = .ok (.aload_n 0, 1) := by decide +kernel
theorem d179_1096 : decode (ai_b 179) 1096 = .ok (.iload_n 3, 1) := by decide +kernel
theorem d179_1097 : decode (ai_b 179) 1097 = .ok (.iconst 1, 1) := by decide +kernel
theorem d179_1098 : decode (ai_b 179) 1098 = .ok (.iadd, 1) := by decide +kernel
theorem d179_1099 : decode (ai_b 179) 1099 = .ok (.iaload, 1) := by decide +kernel
theorem d179_1100 : decode (ai_b 179) 1100 = .ok (.aload_n 0, 1) := by decide +kernel
theorem d179_1101 : decode (ai_b 179) 1101 = .ok (.iload_n 3, 1) := by decide +kernel
theorem d179_1102 : decode (ai_b 179) 1102 = .ok (.iconst 2, 1) := by decide +kernel
theorem d179_1103 : decode (ai_b 179) 1103 = .ok (.iadd, 1) := by decide +kernel
theorem d179_1104 : decode (ai_b 179) 1104 = .ok (.iaload, 1) := by decide +kernel
theorem d179_1105 : decode (ai_b 179) 1105 = .ok (.aload_n 0, 1) := by decide +kernel
theorem d179_1106 : decode (ai_b 179) 1106 = .ok (.iload_n 3, 1) := by decide +kernel
theorem d179_1107 : decode (ai_b 179) 1107 = .ok (.iconst 3, 1) := by decide +kernel
theorem d179_1108 : decode (ai_b 179) 1108 = .ok (.iadd, 1) := by decide +kernel
theorem d179_1109 : decode (ai_b 179) 1109 = .ok (.iaload, 1) := by decide +kernel
theorem d179_1110 : decode (ai_b 179) 1110 = .ok (.invokevirtual 125, 3) := by decide +kernel
theorem d179_1113 : decode (ai_b 179) 1113 = .ok (.aload_n 2, 1) := by decide +kernel
theorem d179_1114 : decode (ai_b 179) 1114 = .ok (.aload_n 0, 1) := by decide +kernel
theorem d179_1115 : decode (ai_b 179) 1115 = .ok (.iload_n 3, 1) := by decide +kernel
theorem d179_1116 : decode (ai_b 179) 1116 = .ok (.iconst 1, 1) := by decide +kernel
theorem d179_1117 : decode (ai_b 179) 1117 = .ok (.iadd, 1) := by decide +kernel
theorem d179_1118 : decode (ai_b 179) 1118 = .ok (.iaload, 1) := by decide +kernel
theorem d179_1119 : decode (ai_b 179) 1119 = .ok (.aload_n 0, 1) := by decide +kernel
theorem d179_1120 : decode (ai_b 179) 1120 = .ok (.iload_n 3, 1) := by decide +kernel
theorem d179_1121 : decode (ai_b 179) 1121 = .ok (.iconst 2, 1) := by decide +kernel
theorem d179_1122 : decode (ai_b 179) 1122 = .ok (.iadd, 1) := by decide +kernel
theorem d179_1123 : decode (ai_b 179) 1123 = .ok (.iaload, 1) := by decide +kernel
theorem d179_1124 : decode (ai_b 179) 1124 = .ok (.aload_n 0, 1) := by decide +kernel
theorem d179_1125 : decode (ai_b 179) 1125 = .ok (.iload_n 3, 1) := by decide +kernel
theorem d179_1126 : decode (ai_b 179) 1126 = .ok (.iconst 3, 1) := by decide +kernel
theorem d179_1127 : decode (ai_b 179) 1127 = .ok (.iadd, 1) := by decide +kernel
theorem d179_1128 : decode (ai_b 179) 1128 = .ok (.iaload, 1) := by decide +kernel
theorem d179_1129 : decode (ai_b 179) 1129 = .ok (.invokevirtual 128, 3) := by decide +kernel
theorem d179_1132 : decode (ai_b 179) 1132 = .ok (.if_icmp .eq 150, 3) := by decide +kernel
theorem d179_1135 : decode (ai_b 179) 1135 = .ok (.iconst 0, 1) := by decide +kernel
theorem d179_1136 : decode (ai_b 179) 1136 = .ok (.ireturn, 1) := by decide +kernel
theorem d179_1137 : decode (ai_b 179) 1137 = .ok (.aload_n 1, 1) := by decide +kernel
theorem d179_1138 : decode (ai_b 179) 1138 = .ok (.aload_n 0, 1) := by decide +kernel
theorem d179_1139 : decode (ai_b 179) 1139 = .ok (.iload_n 3, 1) := by decide +kernel
theorem d179_1140 : decode (ai_b 179) 1140 = .ok (.iconst 1, 1) := by decide +kernel
theorem d179_1141 : decode (ai_b 179) 1141 = .ok (.iadd, 1) := by decide +kernel
theorem d179_1142 : decode (ai_b 179) 1142 = .ok (.iaload, 1) := by decide +kernel
theorem d179_1143 : decode (ai_b 179) 1143 = .ok (.invokevirtual 129, 3) := by decide +kernel
theorem d179_1146 : decode (ai_b 179) 1146 = .ok (.aload_n 2, 1) := by decide +kernel
theorem d179_1147 : decode (ai_b 179) 1147 = .ok (.aload_n 0, 1) := by decide +kernel
theorem d179_1148 : decode (ai_b 179) 1148 = .ok (.iload_n 3, 1) := by decide +kernel
theorem d179_1149 : decode (ai_b 179) 1149 = .ok (.iconst 1, 1) := by decide +kernel
theorem d179_1150 : decode (ai_b 179) 1150 = .ok (.iadd, 1) := by decide +kernel
theorem d179_1151 : decode (ai_b 179) 1151 = .ok (.iaload, 1) := by decide +kernel
theorem d179_1152 : decode (ai_b 179) 1152 = .ok (.invokevirtual 132, 3) := by decide +kernel
theorem d179_1155 : decode (ai_b 179) 1155 = .ok (.if_icmp .eq 127, 3) := by decide +kernel
theorem d179_1158 : decode (ai_b 179) 1158 = .ok (.iconst 0, 1) := by decide +kernel
theorem d179_1159 : decode (ai_b 179) 1159 = .ok (.ireturn, 1) := by decide +kernel
theorem d179_1160 : decode (ai_b 179) 1160 = .ok (.aload_n 1, 1) := by decide +kernel
theorem d179_1161 : decode (ai_b 179) 1161 = .ok (.aload_n 0, 1) := by decide +kernel
theorem d179_1162 : decode (ai_b 179) 1162 = .ok (.iload_n 3, 1) := by decide +kernel
theorem d179_1163 : decode (ai_b 179) 1163 = .ok (.iconst 1, 1) := by decide +kernel
theorem d179_1164 : decode (ai_b 179) 1164 = .ok (.iadd, 1) := by decide +kernel
theorem d179_1165 : decode (ai_b 179) 1165 = .ok (.iaload, 1) := by decide +kernel
theorem d179_1166 : decode (ai_b 179) 1166 = .ok (.invokevirtual 133, 3) := by decide +kernel
theorem d179_1169 : decode (ai_b 179) 1169 = .ok (.aload_n 2, 1) := by decide +kernel
theorem d179_1170 : decode (ai_b 179) 1170 = .ok (.aload_n 0, 1) := by decide +kernel
theorem d179_1171 : decode (ai_b 179) 1171 = .ok (.iload_n 3, 1) := by decide +kernel
theorem d179_1172 : decode (ai_b 179) 1172 = .ok (.iconst 1, 1) := by decide +kernel
theorem d179_1173 : decode (ai_b 179) 1173 = .ok (.iadd, 1) := by decide +kernel
theorem d179_1174 : decode (ai_b 179) 1174 = .ok (.iaload, 1) := by decide +kernel
theorem d179_1175 : decode (ai_b 179) 1175 = .ok (.invokevirtual 136, 3) := by decide +kernel
theorem d179_1178 : decode (ai_b 179) 1178 = .ok (.if_icmp .eq 104, 3) := by decide +kernel
theorem d179_1181 : decode (ai_b 179) 1181 = .ok (.iconst 0, 1) := by decide +kernel
theorem d179_1182 : decode (ai_b 179) 1182 = .ok (.ireturn, 1) := by decide +kernel
theorem d179_1183 : decode (ai_b 179) 1183 = .ok (.aload_n 1, 1) := by decide +kernel
theorem d179_1184 : decode (ai_b 179) 1184 = .ok (.aload_n 0, 1) := by decide +kernel
theorem d179_1185 : decode (ai_b 179) 1185 = .ok (.iload_n 3, 1) := by decide +kernel
theorem d179_1186 : decode (ai_b 179) 1186 = .ok (.iconst 1, 1) := by decide +kernel
theorem d179_1187 : decode (ai_b 179) 1187 = .ok (.iadd, 1) := by decide +kernel
theorem d179_1188 : decode (ai_b 179) 1188 = .ok (.iaload, 1) := by decide +kernel
theorem d179_1189 : decode (ai_b 179) 1189 = .ok (.aload_n 0, 1) := by decide +kernel
theorem d179_1190 : decode (ai_b 179) 1190 = .ok (.iload_n 3, 1) := by decide +kernel
theorem d179_1191 : decode (ai_b 179) 1191 = .ok (.iconst 2, 1) := by decide +kernel
theorem d179_1192 : decode (ai_b 179) 1192 = .ok (.iadd, 1) := by decide +kernel
theorem d179_1193 : decode (ai_b 179) 1193 = .ok (.iaload, 1) := by decide +kernel
theorem d179_1194 : decode (ai_b 179) 1194 = .ok (.aload_n 0, 1) := by decide +kernel
theorem d179_1195 : decode (ai_b 179) 1195 = .ok (.iload_n 3, 1) := by decide +kernel
theorem d179_1196 : decode (ai_b 179) 1196 = .ok (.iconst 3, 1) := by decide +kernel
theorem d179_1197 : decode (ai_b 179) 1197 = .ok (.iadd, 1) := by decide +kernel
theorem d179_1198 : decode (ai_b 179) 1198 = .ok (.iaload, 1) := by decide +kernel
theorem d179_1199 : decode (ai_b 179) 1199 = .ok (.invokevirtual 137, 3) := by decide +kernel
theorem d179_1202 : decode (ai_b 179) 1202 = .ok (.aload_n 2, 1) := by decide +kernel
theorem d179_1203 : decode (ai_b 179) 1203 = .ok (.aload_n 0, 1) := by decide +kernel
theorem d179_1204 : decode (ai_b 179) 1204 = .ok (.iload_n 3, 1) := by decide +kernel
theorem d179_1205 : decode (ai_b 179) 1205 = .ok (.iconst 1, 1) := by decide +kernel
theorem d179_1206 : decode (ai_b 179) 1206 = .ok (.iadd, 1) := by decide +kernel
theorem d179_1207 : decode (ai_b 179) 1207 = .ok (.iaload, 1) := by decide +kernel
theorem d179_1208 : decode (ai_b 179) 1208 = .ok (.aload_n 0, 1) := by decide +kernel
theorem d179_1209 : decode (ai_b 179) 1209 = .ok (.iload_n 3, 1) := by decide +kernel
theorem d179_1210 : decode (ai_b 179) 1210 = .ok (.iconst 2, 1) := by decide +kernel
theorem d179_1211 : decode (ai_b 179) 1211 = .ok (.iadd, 1) := by decide +kernel
theorem d179_1212 : decode (ai_b 179) 1212 = .ok (.iaload, 1) := by decide +kernel
theorem d179_1213 : decode (ai_b 179) 1213 = .ok (.aload_n 0, 1) := by decide +kernel
theorem d179_1214 : decode (ai_b 179) 1214 = .ok (.iload_n 3, 1) := by decide +kernel
theorem d179_1215 : decode (ai_b 179) 1215 = .ok (.iconst 3, 1) := by decide +kernel
theorem d179_1216 : decode (ai_b 179) 1216 = .ok (.iadd, 1) := by decide +kernel
theorem d179_1217 : decode (ai_b 179) 1217 = .ok (.iaload, 1) := by decide +kernel
theorem d179_1218 : decode (ai_b 179) 1218 = .ok (.invokevirtual 140, 3) := by decide +kernel
theorem d179_1221 : decode (ai_b 179) 1221 = .ok (.if_icmp .eq 61, 3) := by decide +kernel
theorem d179_1224 : decode (ai_b 179) 1224 = .ok (.iconst 0, 1) := by decide +kernel
theorem d179_1225 : decode (ai_b 179) 1225 = .ok (.ireturn, 1) := by decide +kernel
theorem d179_1226 : decode (ai_b 179) 1226 = .ok (.aload_n 1, 1) := by decide +kernel
theorem d179_1227 : decode (ai_b 179) 1227 = .ok (.aload_n 0, 1) := by decide +kernel
theorem d179_1228 : decode (ai_b 179) 1228 = .ok (.iload_n 3, 1) := by decide +kernel
theorem d179_1229 : decode (ai_b 179) 1229 = .ok (.iconst 1, 1) := by decide +kernel
theorem d179_1230 : decode (ai_b 179) 1230 = .ok (.iadd, 1) := by decide +kernel
theorem d179_1231 : decode (ai_b 179) 1231 = .ok (.iaload, 1) := by decide +kernel
theorem d179_1232 : decode (ai_b 179) 1232 = .ok (.aload_n 0, 1) := by decide +kernel
theorem d179_1233 : decode (ai_b 179) 1233 = .ok (.iload_n 3, 1) := by decide +kernel
theorem d179_1234 : decode (ai_b 179) 1234 = .ok (.iconst 2, 1) := by decide +kernel
theorem d179_1235 : decode (ai_b 179) 1235 = .ok (.iadd, 1) := by decide +kernel
theorem d179_1236 : decode (ai_b 179) 1236 = .ok (.iaload, 1) := by decide +kernel
theorem d179_1237 : decode (ai_b 179) 1237 = .ok (.invokevirtual 141, 3) := by decide +kernel
theorem d179_1240 : decode (ai_b 179) 1240 = .ok (.aload_n 2, 1) := by decide +kernel
theorem d179_1241 : decode (ai_b 179) 1241 = .ok (.aload_n 0, 1) := by decide +kernel
theorem d179_1242 : decode (ai_b 179) 1242 = .ok (.iload_n 3, 1) := by decide +kernel
theorem d179_1243 : decode (ai_b 179) 1243 = .ok (.iconst 1, 1) := by decide +kernel
theorem d179_1244 : decode (ai_b 179) 1244 = .ok (.iadd, 1) := by decide +kernel
theorem d179_1245 : decode (ai_b 179) 1245 = .ok (.iaload, 1) := by decide +kernel
theorem d179_1246 : decode (ai_b 179) 1246 = .ok (.aload_n 0, 1) := by decide +kernel
theorem d179_1247 : decode (ai_b 179) 1247 = .ok (.iload_n 3, 1) := by decide +kernel
theorem d179_1248 : decode (ai_b 179) 1248 = .ok (.iconst 2, 1) := by decide +kernel
theorem d179_1249 : decode (ai_b 179) 1249 = .ok (.iadd, 1) := by decide +kernel
theorem d179_1250 : decode (ai_b 179) 1250 = .ok (.iaload, 1) := by decide +kernel
theorem d179_1251 : decode (ai_b 179) 1251 = .ok (.invokevirtual 144, 3) := by decide +kernel
theorem d179_1254 : decode (ai_b 179) 1254 = .ok (.if_icmp .eq 28, 3) := by decide +kernel
theorem d179_1257 : decode (ai_b 179) 1257 = .ok (.iconst 0, 1) := by decide +kernel
theorem d179_1258 : decode (ai_b 179) 1258 = .ok (.ireturn, 1) := by decide +kernel
theorem d179_1259 : decode (ai_b 179) 1259 = .ok (.aload_n 1, 1) := by decide +kernel
theorem d179_1260 : decode (ai_b 179) 1260 = .ok (.aload_n 0, 1) := by decide +kernel
theorem d179_1261 : decode (ai_b 179) 1261 = .ok (.iload_n 3, 1) := by decide +kernel
theorem d179_1262 : decode (ai_b 179) 1262 = .ok (.iconst 1, 1) := by decide +kernel
theorem d179_1263 : decode (ai_b 179) 1263 = .ok (.iadd, 1) := by decide +kernel
theorem d179_1264 : decode (ai_b 179) 1264 = .ok (.iaload, 1) := by decide +kernel
theorem d179_1265 : decode (ai_b 179) 1265 = .ok (.invokevirtual 145, 3) := by decide +kernel
theorem d179_1268 : decode (ai_b 179) 1268 = .ok (.aload_n 2, 1) := by decide +kernel
theorem d179_1269 : decode (ai_b 179) 1269 = .ok (.aload_n 0, 1) := by decide +kernel
theorem d179_1270 : decode (ai_b 179) 1270 = .ok (.iload_n 3, 1) := by decide +kernel
theorem d179_1271 : decode (ai_b 179) 1271 = .ok (.iconst 1, 1) := by decide +kernel
theorem d179_1272 : decode (ai_b 179) 1272 = .ok (.iadd, 1) := by decide +kernel
theorem d179_1273 : decode (ai_b 179) 1273 = .ok (.iaload, 1) := by decide +kernel
theorem d179_1274 : decode (ai_b 179) 1274 = .ok (.invokevirtual 148, 3) := by decide +kernel
theorem d179_1277 : decode (ai_b 179) 1277 = .ok (.if_icmp .eq 5, 3) := by decide +kernel
theorem d179_1280 : decode (ai_b 179) 1280 = .ok (.iconst 0, 1) := by decide +kernel
theorem d179_1281 : decode (ai_b 179) 1281 = .ok (.ireturn, 1) := by decide +kernel
theorem d179_1282 : decode (ai_b 179) 1282 = .ok (.iinc 3 6, 3) := by decide +kernel
theorem d179_1285 : decode (ai_b 179) 1285 = .ok (.goto (-1267), 3) := by decide +kernel
theorem d179_1288 : decode (ai_b 179) 1288 = .ok (.iconst 1, 1) := by decide +kernel
theorem d179_1289 : decode (ai_b 179) 1289 = .ok (.ireturn, 1) := by decide +kernel
