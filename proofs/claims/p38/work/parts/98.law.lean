/-! the law -/
theorem It_L_law : zm_L_law.2.2.2.2.2 = zt_L_law := by
  unfold zm_L_law
  rfl
theorem I_L_law_18 : zin zm_L_law.2.2.2.2.2 18 = some (.iload_n 3, 1) := by rw [It_L_law]; rfl
theorem I_L_law_19 : zin zm_L_law.2.2.2.2.2 19 = some (.aload_n 0, 1) := by rw [It_L_law]; rfl
theorem I_L_law_20 : zin zm_L_law.2.2.2.2.2 20 = some (.arraylength, 1) := by rw [It_L_law]; rfl
theorem I_L_law_21 : zin zm_L_law.2.2.2.2.2 21 = some (.iconst 5, 1) := by rw [It_L_law]; rfl
theorem I_L_law_22 : zin zm_L_law.2.2.2.2.2 22 = some (.isub, 1) := by rw [It_L_law]; rfl
theorem I_L_law_23 : zin zm_L_law.2.2.2.2.2 23 = some (.if_icmp .gt 1170, 3) := by rw [It_L_law]; rfl
theorem I_L_law_26 : zin zm_L_law.2.2.2.2.2 26 = some (.aload_n 0, 1) := by rw [It_L_law]; rfl
theorem I_L_law_27 : zin zm_L_law.2.2.2.2.2 27 = some (.iload_n 3, 1) := by rw [It_L_law]; rfl
theorem I_L_law_28 : zin zm_L_law.2.2.2.2.2 28 = some (.iaload, 1) := by rw [It_L_law]; rfl
theorem I_L_law_29 : zin zm_L_law.2.2.2.2.2 29 = some (.bipush 63, 2) := by rw [It_L_law]; rfl
theorem I_L_law_31 : zin zm_L_law.2.2.2.2.2 31 = some (.iand, 1) := by rw [It_L_law]; rfl
theorem I_L_law_32 : zin zm_L_law.2.2.2.2.2 32 = some (.tableswitch 1155 0 36 #[164, 187, 210, 223, 236, 259, 292, 315, 358, 381, 404, 427, 450, 473, 496, 519, 532, 565, 598, 621, 644, 667, 680, 713, 756, 789, 812, 845, 858, 891, 934, 957, 980, 1023, 1066, 1119, 1132], 164) := by rw [It_L_law]; rfl
theorem I_L_law_196 : zin zm_L_law.2.2.2.2.2 196 = some (.aload_n 1, 1) := by rw [It_L_law]; rfl
theorem I_L_law_197 : zin zm_L_law.2.2.2.2.2 197 = some (.aload_n 0, 1) := by rw [It_L_law]; rfl
theorem I_L_law_198 : zin zm_L_law.2.2.2.2.2 198 = some (.iload_n 3, 1) := by rw [It_L_law]; rfl
theorem I_L_law_199 : zin zm_L_law.2.2.2.2.2 199 = some (.iconst 1, 1) := by rw [It_L_law]; rfl
theorem I_L_law_200 : zin zm_L_law.2.2.2.2.2 200 = some (.iadd, 1) := by rw [It_L_law]; rfl
theorem I_L_law_201 : zin zm_L_law.2.2.2.2.2 201 = some (.iaload, 1) := by rw [It_L_law]; rfl
theorem I_L_law_202 : zin zm_L_law.2.2.2.2.2 202 = some (.invokevirtual 13, 3) := by rw [It_L_law]; rfl
theorem I_L_law_205 : zin zm_L_law.2.2.2.2.2 205 = some (.pop, 1) := by rw [It_L_law]; rfl
theorem I_L_law_206 : zin zm_L_law.2.2.2.2.2 206 = some (.aload_n 2, 1) := by rw [It_L_law]; rfl
theorem I_L_law_207 : zin zm_L_law.2.2.2.2.2 207 = some (.aload_n 0, 1) := by rw [It_L_law]; rfl
theorem I_L_law_208 : zin zm_L_law.2.2.2.2.2 208 = some (.iload_n 3, 1) := by rw [It_L_law]; rfl
theorem I_L_law_209 : zin zm_L_law.2.2.2.2.2 209 = some (.iconst 1, 1) := by rw [It_L_law]; rfl
theorem I_L_law_210 : zin zm_L_law.2.2.2.2.2 210 = some (.iadd, 1) := by rw [It_L_law]; rfl
theorem I_L_law_211 : zin zm_L_law.2.2.2.2.2 211 = some (.iaload, 1) := by rw [It_L_law]; rfl
theorem I_L_law_212 : zin zm_L_law.2.2.2.2.2 212 = some (.invokevirtual 17, 3) := by rw [It_L_law]; rfl
theorem I_L_law_215 : zin zm_L_law.2.2.2.2.2 215 = some (.pop, 1) := by rw [It_L_law]; rfl
theorem I_L_law_216 : zin zm_L_law.2.2.2.2.2 216 = some (.goto 971, 3) := by rw [It_L_law]; rfl
theorem I_L_law_219 : zin zm_L_law.2.2.2.2.2 219 = some (.aload_n 1, 1) := by rw [It_L_law]; rfl
theorem I_L_law_220 : zin zm_L_law.2.2.2.2.2 220 = some (.aload_n 0, 1) := by rw [It_L_law]; rfl
theorem I_L_law_221 : zin zm_L_law.2.2.2.2.2 221 = some (.iload_n 3, 1) := by rw [It_L_law]; rfl
theorem I_L_law_222 : zin zm_L_law.2.2.2.2.2 222 = some (.iconst 1, 1) := by rw [It_L_law]; rfl
theorem I_L_law_223 : zin zm_L_law.2.2.2.2.2 223 = some (.iadd, 1) := by rw [It_L_law]; rfl
theorem I_L_law_224 : zin zm_L_law.2.2.2.2.2 224 = some (.iaload, 1) := by rw [It_L_law]; rfl
theorem I_L_law_225 : zin zm_L_law.2.2.2.2.2 225 = some (.invokevirtual 18, 3) := by rw [It_L_law]; rfl
theorem I_L_law_228 : zin zm_L_law.2.2.2.2.2 228 = some (.pop, 1) := by rw [It_L_law]; rfl
theorem I_L_law_229 : zin zm_L_law.2.2.2.2.2 229 = some (.aload_n 2, 1) := by rw [It_L_law]; rfl
theorem I_L_law_230 : zin zm_L_law.2.2.2.2.2 230 = some (.aload_n 0, 1) := by rw [It_L_law]; rfl
theorem I_L_law_231 : zin zm_L_law.2.2.2.2.2 231 = some (.iload_n 3, 1) := by rw [It_L_law]; rfl
theorem I_L_law_232 : zin zm_L_law.2.2.2.2.2 232 = some (.iconst 1, 1) := by rw [It_L_law]; rfl
theorem I_L_law_233 : zin zm_L_law.2.2.2.2.2 233 = some (.iadd, 1) := by rw [It_L_law]; rfl
theorem I_L_law_234 : zin zm_L_law.2.2.2.2.2 234 = some (.iaload, 1) := by rw [It_L_law]; rfl
theorem I_L_law_235 : zin zm_L_law.2.2.2.2.2 235 = some (.invokevirtual 21, 3) := by rw [It_L_law]; rfl
theorem I_L_law_238 : zin zm_L_law.2.2.2.2.2 238 = some (.pop, 1) := by rw [It_L_law]; rfl
theorem I_L_law_239 : zin zm_L_law.2.2.2.2.2 239 = some (.goto 948, 3) := by rw [It_L_law]; rfl
theorem I_L_law_242 : zin zm_L_law.2.2.2.2.2 242 = some (.aload_n 1, 1) := by rw [It_L_law]; rfl
theorem I_L_law_243 : zin zm_L_law.2.2.2.2.2 243 = some (.invokevirtual 22, 3) := by rw [It_L_law]; rfl
theorem I_L_law_246 : zin zm_L_law.2.2.2.2.2 246 = some (.pop, 1) := by rw [It_L_law]; rfl
theorem I_L_law_247 : zin zm_L_law.2.2.2.2.2 247 = some (.aload_n 2, 1) := by rw [It_L_law]; rfl
theorem I_L_law_248 : zin zm_L_law.2.2.2.2.2 248 = some (.invokevirtual 26, 3) := by rw [It_L_law]; rfl
theorem I_L_law_251 : zin zm_L_law.2.2.2.2.2 251 = some (.pop, 1) := by rw [It_L_law]; rfl
theorem I_L_law_252 : zin zm_L_law.2.2.2.2.2 252 = some (.goto 935, 3) := by rw [It_L_law]; rfl
theorem I_L_law_255 : zin zm_L_law.2.2.2.2.2 255 = some (.aload_n 1, 1) := by rw [It_L_law]; rfl
theorem I_L_law_256 : zin zm_L_law.2.2.2.2.2 256 = some (.invokevirtual 27, 3) := by rw [It_L_law]; rfl
theorem I_L_law_259 : zin zm_L_law.2.2.2.2.2 259 = some (.pop, 1) := by rw [It_L_law]; rfl
theorem I_L_law_260 : zin zm_L_law.2.2.2.2.2 260 = some (.aload_n 2, 1) := by rw [It_L_law]; rfl
theorem I_L_law_261 : zin zm_L_law.2.2.2.2.2 261 = some (.invokevirtual 30, 3) := by rw [It_L_law]; rfl
theorem I_L_law_264 : zin zm_L_law.2.2.2.2.2 264 = some (.pop, 1) := by rw [It_L_law]; rfl
theorem I_L_law_265 : zin zm_L_law.2.2.2.2.2 265 = some (.goto 922, 3) := by rw [It_L_law]; rfl
theorem I_L_law_268 : zin zm_L_law.2.2.2.2.2 268 = some (.aload_n 1, 1) := by rw [It_L_law]; rfl
theorem I_L_law_269 : zin zm_L_law.2.2.2.2.2 269 = some (.aload_n 0, 1) := by rw [It_L_law]; rfl
theorem I_L_law_270 : zin zm_L_law.2.2.2.2.2 270 = some (.iload_n 3, 1) := by rw [It_L_law]; rfl
theorem I_L_law_271 : zin zm_L_law.2.2.2.2.2 271 = some (.iconst 1, 1) := by rw [It_L_law]; rfl
theorem I_L_law_272 : zin zm_L_law.2.2.2.2.2 272 = some (.iadd, 1) := by rw [It_L_law]; rfl
theorem I_L_law_273 : zin zm_L_law.2.2.2.2.2 273 = some (.iaload, 1) := by rw [It_L_law]; rfl
theorem I_L_law_274 : zin zm_L_law.2.2.2.2.2 274 = some (.invokevirtual 31, 3) := by rw [It_L_law]; rfl
theorem I_L_law_277 : zin zm_L_law.2.2.2.2.2 277 = some (.pop, 1) := by rw [It_L_law]; rfl
theorem I_L_law_278 : zin zm_L_law.2.2.2.2.2 278 = some (.aload_n 2, 1) := by rw [It_L_law]; rfl
theorem I_L_law_279 : zin zm_L_law.2.2.2.2.2 279 = some (.aload_n 0, 1) := by rw [It_L_law]; rfl
theorem I_L_law_280 : zin zm_L_law.2.2.2.2.2 280 = some (.iload_n 3, 1) := by rw [It_L_law]; rfl
theorem I_L_law_281 : zin zm_L_law.2.2.2.2.2 281 = some (.iconst 1, 1) := by rw [It_L_law]; rfl
theorem I_L_law_282 : zin zm_L_law.2.2.2.2.2 282 = some (.iadd, 1) := by rw [It_L_law]; rfl
theorem I_L_law_283 : zin zm_L_law.2.2.2.2.2 283 = some (.iaload, 1) := by rw [It_L_law]; rfl
theorem I_L_law_284 : zin zm_L_law.2.2.2.2.2 284 = some (.invokevirtual 34, 3) := by rw [It_L_law]; rfl
theorem I_L_law_287 : zin zm_L_law.2.2.2.2.2 287 = some (.pop, 1) := by rw [It_L_law]; rfl
theorem I_L_law_288 : zin zm_L_law.2.2.2.2.2 288 = some (.goto 899, 3) := by rw [It_L_law]; rfl
theorem I_L_law_291 : zin zm_L_law.2.2.2.2.2 291 = some (.aload_n 1, 1) := by rw [It_L_law]; rfl
theorem I_L_law_292 : zin zm_L_law.2.2.2.2.2 292 = some (.aload_n 0, 1) := by rw [It_L_law]; rfl
theorem I_L_law_293 : zin zm_L_law.2.2.2.2.2 293 = some (.iload_n 3, 1) := by rw [It_L_law]; rfl
theorem I_L_law_294 : zin zm_L_law.2.2.2.2.2 294 = some (.iconst 1, 1) := by rw [It_L_law]; rfl
theorem I_L_law_295 : zin zm_L_law.2.2.2.2.2 295 = some (.iadd, 1) := by rw [It_L_law]; rfl
theorem I_L_law_296 : zin zm_L_law.2.2.2.2.2 296 = some (.iaload, 1) := by rw [It_L_law]; rfl
theorem I_L_law_297 : zin zm_L_law.2.2.2.2.2 297 = some (.aload_n 0, 1) := by rw [It_L_law]; rfl
theorem I_L_law_298 : zin zm_L_law.2.2.2.2.2 298 = some (.iload_n 3, 1) := by rw [It_L_law]; rfl
theorem I_L_law_299 : zin zm_L_law.2.2.2.2.2 299 = some (.iconst 2, 1) := by rw [It_L_law]; rfl
theorem I_L_law_300 : zin zm_L_law.2.2.2.2.2 300 = some (.iadd, 1) := by rw [It_L_law]; rfl
theorem I_L_law_301 : zin zm_L_law.2.2.2.2.2 301 = some (.iaload, 1) := by rw [It_L_law]; rfl
theorem I_L_law_302 : zin zm_L_law.2.2.2.2.2 302 = some (.invokevirtual 35, 3) := by rw [It_L_law]; rfl
theorem I_L_law_305 : zin zm_L_law.2.2.2.2.2 305 = some (.pop, 1) := by rw [It_L_law]; rfl
theorem I_L_law_306 : zin zm_L_law.2.2.2.2.2 306 = some (.aload_n 2, 1) := by rw [It_L_law]; rfl
theorem I_L_law_307 : zin zm_L_law.2.2.2.2.2 307 = some (.aload_n 0, 1) := by rw [It_L_law]; rfl
theorem I_L_law_308 : zin zm_L_law.2.2.2.2.2 308 = some (.iload_n 3, 1) := by rw [It_L_law]; rfl
theorem I_L_law_309 : zin zm_L_law.2.2.2.2.2 309 = some (.iconst 1, 1) := by rw [It_L_law]; rfl
theorem I_L_law_310 : zin zm_L_law.2.2.2.2.2 310 = some (.iadd, 1) := by rw [It_L_law]; rfl
theorem I_L_law_311 : zin zm_L_law.2.2.2.2.2 311 = some (.iaload, 1) := by rw [It_L_law]; rfl
theorem I_L_law_312 : zin zm_L_law.2.2.2.2.2 312 = some (.aload_n 0, 1) := by rw [It_L_law]; rfl
theorem I_L_law_313 : zin zm_L_law.2.2.2.2.2 313 = some (.iload_n 3, 1) := by rw [It_L_law]; rfl
theorem I_L_law_314 : zin zm_L_law.2.2.2.2.2 314 = some (.iconst 2, 1) := by rw [It_L_law]; rfl
theorem I_L_law_315 : zin zm_L_law.2.2.2.2.2 315 = some (.iadd, 1) := by rw [It_L_law]; rfl
theorem I_L_law_316 : zin zm_L_law.2.2.2.2.2 316 = some (.iaload, 1) := by rw [It_L_law]; rfl
theorem I_L_law_317 : zin zm_L_law.2.2.2.2.2 317 = some (.invokevirtual 39, 3) := by rw [It_L_law]; rfl
theorem I_L_law_320 : zin zm_L_law.2.2.2.2.2 320 = some (.pop, 1) := by rw [It_L_law]; rfl
theorem I_L_law_321 : zin zm_L_law.2.2.2.2.2 321 = some (.goto 866, 3) := by rw [It_L_law]; rfl
theorem I_L_law_324 : zin zm_L_law.2.2.2.2.2 324 = some (.aload_n 1, 1) := by rw [It_L_law]; rfl
theorem I_L_law_325 : zin zm_L_law.2.2.2.2.2 325 = some (.aload_n 0, 1) := by rw [It_L_law]; rfl
theorem I_L_law_326 : zin zm_L_law.2.2.2.2.2 326 = some (.iload_n 3, 1) := by rw [It_L_law]; rfl
theorem I_L_law_327 : zin zm_L_law.2.2.2.2.2 327 = some (.iconst 1, 1) := by rw [It_L_law]; rfl
theorem I_L_law_328 : zin zm_L_law.2.2.2.2.2 328 = some (.iadd, 1) := by rw [It_L_law]; rfl
theorem I_L_law_329 : zin zm_L_law.2.2.2.2.2 329 = some (.iaload, 1) := by rw [It_L_law]; rfl
theorem I_L_law_330 : zin zm_L_law.2.2.2.2.2 330 = some (.invokevirtual 40, 3) := by rw [It_L_law]; rfl
theorem I_L_law_333 : zin zm_L_law.2.2.2.2.2 333 = some (.pop, 1) := by rw [It_L_law]; rfl
theorem I_L_law_334 : zin zm_L_law.2.2.2.2.2 334 = some (.aload_n 2, 1) := by rw [It_L_law]; rfl
theorem I_L_law_335 : zin zm_L_law.2.2.2.2.2 335 = some (.aload_n 0, 1) := by rw [It_L_law]; rfl
theorem I_L_law_336 : zin zm_L_law.2.2.2.2.2 336 = some (.iload_n 3, 1) := by rw [It_L_law]; rfl
theorem I_L_law_337 : zin zm_L_law.2.2.2.2.2 337 = some (.iconst 1, 1) := by rw [It_L_law]; rfl
theorem I_L_law_338 : zin zm_L_law.2.2.2.2.2 338 = some (.iadd, 1) := by rw [It_L_law]; rfl
theorem I_L_law_339 : zin zm_L_law.2.2.2.2.2 339 = some (.iaload, 1) := by rw [It_L_law]; rfl
theorem I_L_law_340 : zin zm_L_law.2.2.2.2.2 340 = some (.invokevirtual 43, 3) := by rw [It_L_law]; rfl
theorem I_L_law_343 : zin zm_L_law.2.2.2.2.2 343 = some (.pop, 1) := by rw [It_L_law]; rfl
theorem I_L_law_344 : zin zm_L_law.2.2.2.2.2 344 = some (.goto 843, 3) := by rw [It_L_law]; rfl
theorem I_L_law_347 : zin zm_L_law.2.2.2.2.2 347 = some (.aload_n 1, 1) := by rw [It_L_law]; rfl
theorem I_L_law_348 : zin zm_L_law.2.2.2.2.2 348 = some (.aload_n 0, 1) := by rw [It_L_law]; rfl
theorem I_L_law_349 : zin zm_L_law.2.2.2.2.2 349 = some (.iload_n 3, 1) := by rw [It_L_law]; rfl
theorem I_L_law_350 : zin zm_L_law.2.2.2.2.2 350 = some (.iconst 1, 1) := by rw [It_L_law]; rfl
theorem I_L_law_351 : zin zm_L_law.2.2.2.2.2 351 = some (.iadd, 1) := by rw [It_L_law]; rfl
theorem I_L_law_352 : zin zm_L_law.2.2.2.2.2 352 = some (.iaload, 1) := by rw [It_L_law]; rfl
theorem I_L_law_353 : zin zm_L_law.2.2.2.2.2 353 = some (.aload_n 0, 1) := by rw [It_L_law]; rfl
theorem I_L_law_354 : zin zm_L_law.2.2.2.2.2 354 = some (.iload_n 3, 1) := by rw [It_L_law]; rfl
theorem I_L_law_355 : zin zm_L_law.2.2.2.2.2 355 = some (.iconst 2, 1) := by rw [It_L_law]; rfl
theorem I_L_law_356 : zin zm_L_law.2.2.2.2.2 356 = some (.iadd, 1) := by rw [It_L_law]; rfl
theorem I_L_law_357 : zin zm_L_law.2.2.2.2.2 357 = some (.iaload, 1) := by rw [It_L_law]; rfl
theorem I_L_law_358 : zin zm_L_law.2.2.2.2.2 358 = some (.aload_n 0, 1) := by rw [It_L_law]; rfl
theorem I_L_law_359 : zin zm_L_law.2.2.2.2.2 359 = some (.iload_n 3, 1) := by rw [It_L_law]; rfl
theorem I_L_law_360 : zin zm_L_law.2.2.2.2.2 360 = some (.iconst 3, 1) := by rw [It_L_law]; rfl
theorem I_L_law_361 : zin zm_L_law.2.2.2.2.2 361 = some (.iadd, 1) := by rw [It_L_law]; rfl
theorem I_L_law_362 : zin zm_L_law.2.2.2.2.2 362 = some (.iaload, 1) := by rw [It_L_law]; rfl
theorem I_L_law_363 : zin zm_L_law.2.2.2.2.2 363 = some (.invokevirtual 44, 3) := by rw [It_L_law]; rfl
theorem I_L_law_366 : zin zm_L_law.2.2.2.2.2 366 = some (.pop, 1) := by rw [It_L_law]; rfl
theorem I_L_law_367 : zin zm_L_law.2.2.2.2.2 367 = some (.aload_n 2, 1) := by rw [It_L_law]; rfl
theorem I_L_law_368 : zin zm_L_law.2.2.2.2.2 368 = some (.aload_n 0, 1) := by rw [It_L_law]; rfl
theorem I_L_law_369 : zin zm_L_law.2.2.2.2.2 369 = some (.iload_n 3, 1) := by rw [It_L_law]; rfl
theorem I_L_law_370 : zin zm_L_law.2.2.2.2.2 370 = some (.iconst 1, 1) := by rw [It_L_law]; rfl
theorem I_L_law_371 : zin zm_L_law.2.2.2.2.2 371 = some (.iadd, 1) := by rw [It_L_law]; rfl
theorem I_L_law_372 : zin zm_L_law.2.2.2.2.2 372 = some (.iaload, 1) := by rw [It_L_law]; rfl
theorem I_L_law_373 : zin zm_L_law.2.2.2.2.2 373 = some (.aload_n 0, 1) := by rw [It_L_law]; rfl
theorem I_L_law_374 : zin zm_L_law.2.2.2.2.2 374 = some (.iload_n 3, 1) := by rw [It_L_law]; rfl
theorem I_L_law_375 : zin zm_L_law.2.2.2.2.2 375 = some (.iconst 2, 1) := by rw [It_L_law]; rfl
theorem I_L_law_376 : zin zm_L_law.2.2.2.2.2 376 = some (.iadd, 1) := by rw [It_L_law]; rfl
theorem I_L_law_377 : zin zm_L_law.2.2.2.2.2 377 = some (.iaload, 1) := by rw [It_L_law]; rfl
theorem I_L_law_378 : zin zm_L_law.2.2.2.2.2 378 = some (.aload_n 0, 1) := by rw [It_L_law]; rfl
theorem I_L_law_379 : zin zm_L_law.2.2.2.2.2 379 = some (.iload_n 3, 1) := by rw [It_L_law]; rfl
theorem I_L_law_380 : zin zm_L_law.2.2.2.2.2 380 = some (.iconst 3, 1) := by rw [It_L_law]; rfl
theorem I_L_law_381 : zin zm_L_law.2.2.2.2.2 381 = some (.iadd, 1) := by rw [It_L_law]; rfl
theorem I_L_law_382 : zin zm_L_law.2.2.2.2.2 382 = some (.iaload, 1) := by rw [It_L_law]; rfl
theorem I_L_law_383 : zin zm_L_law.2.2.2.2.2 383 = some (.invokevirtual 48, 3) := by rw [It_L_law]; rfl
theorem I_L_law_386 : zin zm_L_law.2.2.2.2.2 386 = some (.pop, 1) := by rw [It_L_law]; rfl
theorem I_L_law_387 : zin zm_L_law.2.2.2.2.2 387 = some (.goto 800, 3) := by rw [It_L_law]; rfl
theorem I_L_law_390 : zin zm_L_law.2.2.2.2.2 390 = some (.aload_n 1, 1) := by rw [It_L_law]; rfl
theorem I_L_law_391 : zin zm_L_law.2.2.2.2.2 391 = some (.aload_n 0, 1) := by rw [It_L_law]; rfl
theorem I_L_law_392 : zin zm_L_law.2.2.2.2.2 392 = some (.iload_n 3, 1) := by rw [It_L_law]; rfl
theorem I_L_law_393 : zin zm_L_law.2.2.2.2.2 393 = some (.iconst 1, 1) := by rw [It_L_law]; rfl
theorem I_L_law_394 : zin zm_L_law.2.2.2.2.2 394 = some (.iadd, 1) := by rw [It_L_law]; rfl
theorem I_L_law_395 : zin zm_L_law.2.2.2.2.2 395 = some (.iaload, 1) := by rw [It_L_law]; rfl
theorem I_L_law_396 : zin zm_L_law.2.2.2.2.2 396 = some (.invokevirtual 49, 3) := by rw [It_L_law]; rfl
theorem I_L_law_399 : zin zm_L_law.2.2.2.2.2 399 = some (.pop, 1) := by rw [It_L_law]; rfl
theorem I_L_law_400 : zin zm_L_law.2.2.2.2.2 400 = some (.aload_n 2, 1) := by rw [It_L_law]; rfl
theorem I_L_law_401 : zin zm_L_law.2.2.2.2.2 401 = some (.aload_n 0, 1) := by rw [It_L_law]; rfl
theorem I_L_law_402 : zin zm_L_law.2.2.2.2.2 402 = some (.iload_n 3, 1) := by rw [It_L_law]; rfl
theorem I_L_law_403 : zin zm_L_law.2.2.2.2.2 403 = some (.iconst 1, 1) := by rw [It_L_law]; rfl
theorem I_L_law_404 : zin zm_L_law.2.2.2.2.2 404 = some (.iadd, 1) := by rw [It_L_law]; rfl
theorem I_L_law_405 : zin zm_L_law.2.2.2.2.2 405 = some (.iaload, 1) := by rw [It_L_law]; rfl
theorem I_L_law_406 : zin zm_L_law.2.2.2.2.2 406 = some (.invokevirtual 52, 3) := by rw [It_L_law]; rfl
theorem I_L_law_409 : zin zm_L_law.2.2.2.2.2 409 = some (.pop, 1) := by rw [It_L_law]; rfl
theorem I_L_law_410 : zin zm_L_law.2.2.2.2.2 410 = some (.goto 777, 3) := by rw [It_L_law]; rfl
theorem I_L_law_413 : zin zm_L_law.2.2.2.2.2 413 = some (.aload_n 1, 1) := by rw [It_L_law]; rfl
theorem I_L_law_414 : zin zm_L_law.2.2.2.2.2 414 = some (.aload_n 0, 1) := by rw [It_L_law]; rfl
theorem I_L_law_415 : zin zm_L_law.2.2.2.2.2 415 = some (.iload_n 3, 1) := by rw [It_L_law]; rfl
theorem I_L_law_416 : zin zm_L_law.2.2.2.2.2 416 = some (.iconst 1, 1) := by rw [It_L_law]; rfl
theorem I_L_law_417 : zin zm_L_law.2.2.2.2.2 417 = some (.iadd, 1) := by rw [It_L_law]; rfl
theorem I_L_law_418 : zin zm_L_law.2.2.2.2.2 418 = some (.iaload, 1) := by rw [It_L_law]; rfl
theorem I_L_law_419 : zin zm_L_law.2.2.2.2.2 419 = some (.invokevirtual 53, 3) := by rw [It_L_law]; rfl
theorem I_L_law_422 : zin zm_L_law.2.2.2.2.2 422 = some (.pop, 1) := by rw [It_L_law]; rfl
theorem I_L_law_423 : zin zm_L_law.2.2.2.2.2 423 = some (.aload_n 2, 1) := by rw [It_L_law]; rfl
theorem I_L_law_424 : zin zm_L_law.2.2.2.2.2 424 = some (.aload_n 0, 1) := by rw [It_L_law]; rfl
theorem I_L_law_425 : zin zm_L_law.2.2.2.2.2 425 = some (.iload_n 3, 1) := by rw [It_L_law]; rfl
theorem I_L_law_426 : zin zm_L_law.2.2.2.2.2 426 = some (.iconst 1, 1) := by rw [It_L_law]; rfl
theorem I_L_law_427 : zin zm_L_law.2.2.2.2.2 427 = some (.iadd, 1) := by rw [It_L_law]; rfl
theorem I_L_law_428 : zin zm_L_law.2.2.2.2.2 428 = some (.iaload, 1) := by rw [It_L_law]; rfl
theorem I_L_law_429 : zin zm_L_law.2.2.2.2.2 429 = some (.invokevirtual 56, 3) := by rw [It_L_law]; rfl
theorem I_L_law_432 : zin zm_L_law.2.2.2.2.2 432 = some (.pop, 1) := by rw [It_L_law]; rfl
theorem I_L_law_433 : zin zm_L_law.2.2.2.2.2 433 = some (.goto 754, 3) := by rw [It_L_law]; rfl
theorem I_L_law_436 : zin zm_L_law.2.2.2.2.2 436 = some (.aload_n 1, 1) := by rw [It_L_law]; rfl
theorem I_L_law_437 : zin zm_L_law.2.2.2.2.2 437 = some (.aload_n 0, 1) := by rw [It_L_law]; rfl
theorem I_L_law_438 : zin zm_L_law.2.2.2.2.2 438 = some (.iload_n 3, 1) := by rw [It_L_law]; rfl
theorem I_L_law_439 : zin zm_L_law.2.2.2.2.2 439 = some (.iconst 1, 1) := by rw [It_L_law]; rfl
theorem I_L_law_440 : zin zm_L_law.2.2.2.2.2 440 = some (.iadd, 1) := by rw [It_L_law]; rfl
theorem I_L_law_441 : zin zm_L_law.2.2.2.2.2 441 = some (.iaload, 1) := by rw [It_L_law]; rfl
theorem I_L_law_442 : zin zm_L_law.2.2.2.2.2 442 = some (.invokevirtual 57, 3) := by rw [It_L_law]; rfl
theorem I_L_law_445 : zin zm_L_law.2.2.2.2.2 445 = some (.pop, 1) := by rw [It_L_law]; rfl
theorem I_L_law_446 : zin zm_L_law.2.2.2.2.2 446 = some (.aload_n 2, 1) := by rw [It_L_law]; rfl
theorem I_L_law_447 : zin zm_L_law.2.2.2.2.2 447 = some (.aload_n 0, 1) := by rw [It_L_law]; rfl
theorem I_L_law_448 : zin zm_L_law.2.2.2.2.2 448 = some (.iload_n 3, 1) := by rw [It_L_law]; rfl
theorem I_L_law_449 : zin zm_L_law.2.2.2.2.2 449 = some (.iconst 1, 1) := by rw [It_L_law]; rfl
theorem I_L_law_450 : zin zm_L_law.2.2.2.2.2 450 = some (.iadd, 1) := by rw [It_L_law]; rfl
theorem I_L_law_451 : zin zm_L_law.2.2.2.2.2 451 = some (.iaload, 1) := by rw [It_L_law]; rfl
theorem I_L_law_452 : zin zm_L_law.2.2.2.2.2 452 = some (.invokevirtual 60, 3) := by rw [It_L_law]; rfl
theorem I_L_law_455 : zin zm_L_law.2.2.2.2.2 455 = some (.pop, 1) := by rw [It_L_law]; rfl
theorem I_L_law_456 : zin zm_L_law.2.2.2.2.2 456 = some (.goto 731, 3) := by rw [It_L_law]; rfl
theorem I_L_law_459 : zin zm_L_law.2.2.2.2.2 459 = some (.aload_n 1, 1) := by rw [It_L_law]; rfl
theorem I_L_law_460 : zin zm_L_law.2.2.2.2.2 460 = some (.aload_n 0, 1) := by rw [It_L_law]; rfl
theorem I_L_law_461 : zin zm_L_law.2.2.2.2.2 461 = some (.iload_n 3, 1) := by rw [It_L_law]; rfl
theorem I_L_law_462 : zin zm_L_law.2.2.2.2.2 462 = some (.iconst 1, 1) := by rw [It_L_law]; rfl
theorem I_L_law_463 : zin zm_L_law.2.2.2.2.2 463 = some (.iadd, 1) := by rw [It_L_law]; rfl
theorem I_L_law_464 : zin zm_L_law.2.2.2.2.2 464 = some (.iaload, 1) := by rw [It_L_law]; rfl
theorem I_L_law_465 : zin zm_L_law.2.2.2.2.2 465 = some (.invokevirtual 61, 3) := by rw [It_L_law]; rfl
theorem I_L_law_468 : zin zm_L_law.2.2.2.2.2 468 = some (.pop, 1) := by rw [It_L_law]; rfl
theorem I_L_law_469 : zin zm_L_law.2.2.2.2.2 469 = some (.aload_n 2, 1) := by rw [It_L_law]; rfl
theorem I_L_law_470 : zin zm_L_law.2.2.2.2.2 470 = some (.aload_n 0, 1) := by rw [It_L_law]; rfl
theorem I_L_law_471 : zin zm_L_law.2.2.2.2.2 471 = some (.iload_n 3, 1) := by rw [It_L_law]; rfl
theorem I_L_law_472 : zin zm_L_law.2.2.2.2.2 472 = some (.iconst 1, 1) := by rw [It_L_law]; rfl
theorem I_L_law_473 : zin zm_L_law.2.2.2.2.2 473 = some (.iadd, 1) := by rw [It_L_law]; rfl
theorem I_L_law_474 : zin zm_L_law.2.2.2.2.2 474 = some (.iaload, 1) := by rw [It_L_law]; rfl
theorem I_L_law_475 : zin zm_L_law.2.2.2.2.2 475 = some (.invokevirtual 64, 3) := by rw [It_L_law]; rfl
theorem I_L_law_478 : zin zm_L_law.2.2.2.2.2 478 = some (.pop, 1) := by rw [It_L_law]; rfl
theorem I_L_law_479 : zin zm_L_law.2.2.2.2.2 479 = some (.goto 708, 3) := by rw [It_L_law]; rfl
theorem I_L_law_482 : zin zm_L_law.2.2.2.2.2 482 = some (.aload_n 1, 1) := by rw [It_L_law]; rfl
theorem I_L_law_483 : zin zm_L_law.2.2.2.2.2 483 = some (.aload_n 0, 1) := by rw [It_L_law]; rfl
theorem I_L_law_484 : zin zm_L_law.2.2.2.2.2 484 = some (.iload_n 3, 1) := by rw [It_L_law]; rfl
theorem I_L_law_485 : zin zm_L_law.2.2.2.2.2 485 = some (.iconst 1, 1) := by rw [It_L_law]; rfl
theorem I_L_law_486 : zin zm_L_law.2.2.2.2.2 486 = some (.iadd, 1) := by rw [It_L_law]; rfl
theorem I_L_law_487 : zin zm_L_law.2.2.2.2.2 487 = some (.iaload, 1) := by rw [It_L_law]; rfl
theorem I_L_law_488 : zin zm_L_law.2.2.2.2.2 488 = some (.invokevirtual 65, 3) := by rw [It_L_law]; rfl
theorem I_L_law_491 : zin zm_L_law.2.2.2.2.2 491 = some (.pop, 1) := by rw [It_L_law]; rfl
theorem I_L_law_492 : zin zm_L_law.2.2.2.2.2 492 = some (.aload_n 2, 1) := by rw [It_L_law]; rfl
theorem I_L_law_493 : zin zm_L_law.2.2.2.2.2 493 = some (.aload_n 0, 1) := by rw [It_L_law]; rfl
theorem I_L_law_494 : zin zm_L_law.2.2.2.2.2 494 = some (.iload_n 3, 1) := by rw [It_L_law]; rfl
theorem I_L_law_495 : zin zm_L_law.2.2.2.2.2 495 = some (.iconst 1, 1) := by rw [It_L_law]; rfl
theorem I_L_law_496 : zin zm_L_law.2.2.2.2.2 496 = some (.iadd, 1) := by rw [It_L_law]; rfl
theorem I_L_law_497 : zin zm_L_law.2.2.2.2.2 497 = some (.iaload, 1) := by rw [It_L_law]; rfl
theorem I_L_law_498 : zin zm_L_law.2.2.2.2.2 498 = some (.invokevirtual 68, 3) := by rw [It_L_law]; rfl
theorem I_L_law_501 : zin zm_L_law.2.2.2.2.2 501 = some (.pop, 1) := by rw [It_L_law]; rfl
theorem I_L_law_502 : zin zm_L_law.2.2.2.2.2 502 = some (.goto 685, 3) := by rw [It_L_law]; rfl
theorem I_L_law_505 : zin zm_L_law.2.2.2.2.2 505 = some (.aload_n 1, 1) := by rw [It_L_law]; rfl
theorem I_L_law_506 : zin zm_L_law.2.2.2.2.2 506 = some (.aload_n 0, 1) := by rw [It_L_law]; rfl
theorem I_L_law_507 : zin zm_L_law.2.2.2.2.2 507 = some (.iload_n 3, 1) := by rw [It_L_law]; rfl
theorem I_L_law_508 : zin zm_L_law.2.2.2.2.2 508 = some (.iconst 1, 1) := by rw [It_L_law]; rfl
theorem I_L_law_509 : zin zm_L_law.2.2.2.2.2 509 = some (.iadd, 1) := by rw [It_L_law]; rfl
theorem I_L_law_510 : zin zm_L_law.2.2.2.2.2 510 = some (.iaload, 1) := by rw [It_L_law]; rfl
theorem I_L_law_511 : zin zm_L_law.2.2.2.2.2 511 = some (.invokevirtual 69, 3) := by rw [It_L_law]; rfl
theorem I_L_law_514 : zin zm_L_law.2.2.2.2.2 514 = some (.pop, 1) := by rw [It_L_law]; rfl
theorem I_L_law_515 : zin zm_L_law.2.2.2.2.2 515 = some (.aload_n 2, 1) := by rw [It_L_law]; rfl
theorem I_L_law_516 : zin zm_L_law.2.2.2.2.2 516 = some (.aload_n 0, 1) := by rw [It_L_law]; rfl
theorem I_L_law_517 : zin zm_L_law.2.2.2.2.2 517 = some (.iload_n 3, 1) := by rw [It_L_law]; rfl
theorem I_L_law_518 : zin zm_L_law.2.2.2.2.2 518 = some (.iconst 1, 1) := by rw [It_L_law]; rfl
theorem I_L_law_519 : zin zm_L_law.2.2.2.2.2 519 = some (.iadd, 1) := by rw [It_L_law]; rfl
theorem I_L_law_520 : zin zm_L_law.2.2.2.2.2 520 = some (.iaload, 1) := by rw [It_L_law]; rfl
theorem I_L_law_521 : zin zm_L_law.2.2.2.2.2 521 = some (.invokevirtual 72, 3) := by rw [It_L_law]; rfl
theorem I_L_law_524 : zin zm_L_law.2.2.2.2.2 524 = some (.pop, 1) := by rw [It_L_law]; rfl
theorem I_L_law_525 : zin zm_L_law.2.2.2.2.2 525 = some (.goto 662, 3) := by rw [It_L_law]; rfl
theorem I_L_law_528 : zin zm_L_law.2.2.2.2.2 528 = some (.aload_n 1, 1) := by rw [It_L_law]; rfl
theorem I_L_law_529 : zin zm_L_law.2.2.2.2.2 529 = some (.aload_n 0, 1) := by rw [It_L_law]; rfl
theorem I_L_law_530 : zin zm_L_law.2.2.2.2.2 530 = some (.iload_n 3, 1) := by rw [It_L_law]; rfl
theorem I_L_law_531 : zin zm_L_law.2.2.2.2.2 531 = some (.iconst 1, 1) := by rw [It_L_law]; rfl
theorem I_L_law_532 : zin zm_L_law.2.2.2.2.2 532 = some (.iadd, 1) := by rw [It_L_law]; rfl
theorem I_L_law_533 : zin zm_L_law.2.2.2.2.2 533 = some (.iaload, 1) := by rw [It_L_law]; rfl
theorem I_L_law_534 : zin zm_L_law.2.2.2.2.2 534 = some (.invokevirtual 73, 3) := by rw [It_L_law]; rfl
theorem I_L_law_537 : zin zm_L_law.2.2.2.2.2 537 = some (.pop, 1) := by rw [It_L_law]; rfl
theorem I_L_law_538 : zin zm_L_law.2.2.2.2.2 538 = some (.aload_n 2, 1) := by rw [It_L_law]; rfl
theorem I_L_law_539 : zin zm_L_law.2.2.2.2.2 539 = some (.aload_n 0, 1) := by rw [It_L_law]; rfl
theorem I_L_law_540 : zin zm_L_law.2.2.2.2.2 540 = some (.iload_n 3, 1) := by rw [It_L_law]; rfl
theorem I_L_law_541 : zin zm_L_law.2.2.2.2.2 541 = some (.iconst 1, 1) := by rw [It_L_law]; rfl
theorem I_L_law_542 : zin zm_L_law.2.2.2.2.2 542 = some (.iadd, 1) := by rw [It_L_law]; rfl
theorem I_L_law_543 : zin zm_L_law.2.2.2.2.2 543 = some (.iaload, 1) := by rw [It_L_law]; rfl
theorem I_L_law_544 : zin zm_L_law.2.2.2.2.2 544 = some (.invokevirtual 76, 3) := by rw [It_L_law]; rfl
theorem I_L_law_547 : zin zm_L_law.2.2.2.2.2 547 = some (.pop, 1) := by rw [It_L_law]; rfl
theorem I_L_law_548 : zin zm_L_law.2.2.2.2.2 548 = some (.goto 639, 3) := by rw [It_L_law]; rfl
theorem I_L_law_551 : zin zm_L_law.2.2.2.2.2 551 = some (.aload_n 1, 1) := by rw [It_L_law]; rfl
theorem I_L_law_552 : zin zm_L_law.2.2.2.2.2 552 = some (.invokevirtual 77, 3) := by rw [It_L_law]; rfl
theorem I_L_law_555 : zin zm_L_law.2.2.2.2.2 555 = some (.pop, 1) := by rw [It_L_law]; rfl
theorem I_L_law_556 : zin zm_L_law.2.2.2.2.2 556 = some (.aload_n 2, 1) := by rw [It_L_law]; rfl
theorem I_L_law_557 : zin zm_L_law.2.2.2.2.2 557 = some (.invokevirtual 80, 3) := by rw [It_L_law]; rfl
theorem I_L_law_560 : zin zm_L_law.2.2.2.2.2 560 = some (.pop, 1) := by rw [It_L_law]; rfl
theorem I_L_law_561 : zin zm_L_law.2.2.2.2.2 561 = some (.goto 626, 3) := by rw [It_L_law]; rfl
theorem I_L_law_564 : zin zm_L_law.2.2.2.2.2 564 = some (.aload_n 1, 1) := by rw [It_L_law]; rfl
theorem I_L_law_565 : zin zm_L_law.2.2.2.2.2 565 = some (.aload_n 0, 1) := by rw [It_L_law]; rfl
theorem I_L_law_566 : zin zm_L_law.2.2.2.2.2 566 = some (.iload_n 3, 1) := by rw [It_L_law]; rfl
theorem I_L_law_567 : zin zm_L_law.2.2.2.2.2 567 = some (.iconst 1, 1) := by rw [It_L_law]; rfl
theorem I_L_law_568 : zin zm_L_law.2.2.2.2.2 568 = some (.iadd, 1) := by rw [It_L_law]; rfl
theorem I_L_law_569 : zin zm_L_law.2.2.2.2.2 569 = some (.iaload, 1) := by rw [It_L_law]; rfl
theorem I_L_law_570 : zin zm_L_law.2.2.2.2.2 570 = some (.aload_n 0, 1) := by rw [It_L_law]; rfl
theorem I_L_law_571 : zin zm_L_law.2.2.2.2.2 571 = some (.iload_n 3, 1) := by rw [It_L_law]; rfl
theorem I_L_law_572 : zin zm_L_law.2.2.2.2.2 572 = some (.iconst 2, 1) := by rw [It_L_law]; rfl
theorem I_L_law_573 : zin zm_L_law.2.2.2.2.2 573 = some (.iadd, 1) := by rw [It_L_law]; rfl
theorem I_L_law_574 : zin zm_L_law.2.2.2.2.2 574 = some (.iaload, 1) := by rw [It_L_law]; rfl
theorem I_L_law_575 : zin zm_L_law.2.2.2.2.2 575 = some (.invokevirtual 81, 3) := by rw [It_L_law]; rfl
theorem I_L_law_578 : zin zm_L_law.2.2.2.2.2 578 = some (.pop, 1) := by rw [It_L_law]; rfl
theorem I_L_law_579 : zin zm_L_law.2.2.2.2.2 579 = some (.aload_n 2, 1) := by rw [It_L_law]; rfl
theorem I_L_law_580 : zin zm_L_law.2.2.2.2.2 580 = some (.aload_n 0, 1) := by rw [It_L_law]; rfl
theorem I_L_law_581 : zin zm_L_law.2.2.2.2.2 581 = some (.iload_n 3, 1) := by rw [It_L_law]; rfl
theorem I_L_law_582 : zin zm_L_law.2.2.2.2.2 582 = some (.iconst 1, 1) := by rw [It_L_law]; rfl
theorem I_L_law_583 : zin zm_L_law.2.2.2.2.2 583 = some (.iadd, 1) := by rw [It_L_law]; rfl
theorem I_L_law_584 : zin zm_L_law.2.2.2.2.2 584 = some (.iaload, 1) := by rw [It_L_law]; rfl
theorem I_L_law_585 : zin zm_L_law.2.2.2.2.2 585 = some (.aload_n 0, 1) := by rw [It_L_law]; rfl
theorem I_L_law_586 : zin zm_L_law.2.2.2.2.2 586 = some (.iload_n 3, 1) := by rw [It_L_law]; rfl
theorem I_L_law_587 : zin zm_L_law.2.2.2.2.2 587 = some (.iconst 2, 1) := by rw [It_L_law]; rfl
theorem I_L_law_588 : zin zm_L_law.2.2.2.2.2 588 = some (.iadd, 1) := by rw [It_L_law]; rfl
theorem I_L_law_589 : zin zm_L_law.2.2.2.2.2 589 = some (.iaload, 1) := by rw [It_L_law]; rfl
theorem I_L_law_590 : zin zm_L_law.2.2.2.2.2 590 = some (.invokevirtual 84, 3) := by rw [It_L_law]; rfl
theorem I_L_law_593 : zin zm_L_law.2.2.2.2.2 593 = some (.pop, 1) := by rw [It_L_law]; rfl
theorem I_L_law_594 : zin zm_L_law.2.2.2.2.2 594 = some (.goto 593, 3) := by rw [It_L_law]; rfl
theorem I_L_law_597 : zin zm_L_law.2.2.2.2.2 597 = some (.aload_n 1, 1) := by rw [It_L_law]; rfl
theorem I_L_law_598 : zin zm_L_law.2.2.2.2.2 598 = some (.aload_n 0, 1) := by rw [It_L_law]; rfl
theorem I_L_law_599 : zin zm_L_law.2.2.2.2.2 599 = some (.iload_n 3, 1) := by rw [It_L_law]; rfl
theorem I_L_law_600 : zin zm_L_law.2.2.2.2.2 600 = some (.iconst 1, 1) := by rw [It_L_law]; rfl
theorem I_L_law_601 : zin zm_L_law.2.2.2.2.2 601 = some (.iadd, 1) := by rw [It_L_law]; rfl
theorem I_L_law_602 : zin zm_L_law.2.2.2.2.2 602 = some (.iaload, 1) := by rw [It_L_law]; rfl
theorem I_L_law_603 : zin zm_L_law.2.2.2.2.2 603 = some (.aload_n 0, 1) := by rw [It_L_law]; rfl
theorem I_L_law_604 : zin zm_L_law.2.2.2.2.2 604 = some (.iload_n 3, 1) := by rw [It_L_law]; rfl
theorem I_L_law_605 : zin zm_L_law.2.2.2.2.2 605 = some (.iconst 2, 1) := by rw [It_L_law]; rfl
theorem I_L_law_606 : zin zm_L_law.2.2.2.2.2 606 = some (.iadd, 1) := by rw [It_L_law]; rfl
theorem I_L_law_607 : zin zm_L_law.2.2.2.2.2 607 = some (.iaload, 1) := by rw [It_L_law]; rfl
theorem I_L_law_608 : zin zm_L_law.2.2.2.2.2 608 = some (.invokevirtual 85, 3) := by rw [It_L_law]; rfl
theorem I_L_law_611 : zin zm_L_law.2.2.2.2.2 611 = some (.pop, 1) := by rw [It_L_law]; rfl
theorem I_L_law_612 : zin zm_L_law.2.2.2.2.2 612 = some (.aload_n 2, 1) := by rw [It_L_law]; rfl
theorem I_L_law_613 : zin zm_L_law.2.2.2.2.2 613 = some (.aload_n 0, 1) := by rw [It_L_law]; rfl
theorem I_L_law_614 : zin zm_L_law.2.2.2.2.2 614 = some (.iload_n 3, 1) := by rw [It_L_law]; rfl
theorem I_L_law_615 : zin zm_L_law.2.2.2.2.2 615 = some (.iconst 1, 1) := by rw [It_L_law]; rfl
theorem I_L_law_616 : zin zm_L_law.2.2.2.2.2 616 = some (.iadd, 1) := by rw [It_L_law]; rfl
theorem I_L_law_617 : zin zm_L_law.2.2.2.2.2 617 = some (.iaload, 1) := by rw [It_L_law]; rfl
theorem I_L_law_618 : zin zm_L_law.2.2.2.2.2 618 = some (.aload_n 0, 1) := by rw [It_L_law]; rfl
theorem I_L_law_619 : zin zm_L_law.2.2.2.2.2 619 = some (.iload_n 3, 1) := by rw [It_L_law]; rfl
theorem I_L_law_620 : zin zm_L_law.2.2.2.2.2 620 = some (.iconst 2, 1) := by rw [It_L_law]; rfl
theorem I_L_law_621 : zin zm_L_law.2.2.2.2.2 621 = some (.iadd, 1) := by rw [It_L_law]; rfl
theorem I_L_law_622 : zin zm_L_law.2.2.2.2.2 622 = some (.iaload, 1) := by rw [It_L_law]; rfl
theorem I_L_law_623 : zin zm_L_law.2.2.2.2.2 623 = some (.invokevirtual 88, 3) := by rw [It_L_law]; rfl
theorem I_L_law_626 : zin zm_L_law.2.2.2.2.2 626 = some (.pop, 1) := by rw [It_L_law]; rfl
theorem I_L_law_627 : zin zm_L_law.2.2.2.2.2 627 = some (.goto 560, 3) := by rw [It_L_law]; rfl
theorem I_L_law_630 : zin zm_L_law.2.2.2.2.2 630 = some (.aload_n 1, 1) := by rw [It_L_law]; rfl
theorem I_L_law_631 : zin zm_L_law.2.2.2.2.2 631 = some (.aload_n 0, 1) := by rw [It_L_law]; rfl
theorem I_L_law_632 : zin zm_L_law.2.2.2.2.2 632 = some (.iload_n 3, 1) := by rw [It_L_law]; rfl
theorem I_L_law_633 : zin zm_L_law.2.2.2.2.2 633 = some (.iconst 1, 1) := by rw [It_L_law]; rfl
theorem I_L_law_634 : zin zm_L_law.2.2.2.2.2 634 = some (.iadd, 1) := by rw [It_L_law]; rfl
theorem I_L_law_635 : zin zm_L_law.2.2.2.2.2 635 = some (.iaload, 1) := by rw [It_L_law]; rfl
theorem I_L_law_636 : zin zm_L_law.2.2.2.2.2 636 = some (.invokevirtual 89, 3) := by rw [It_L_law]; rfl
theorem I_L_law_639 : zin zm_L_law.2.2.2.2.2 639 = some (.pop, 1) := by rw [It_L_law]; rfl
theorem I_L_law_640 : zin zm_L_law.2.2.2.2.2 640 = some (.aload_n 2, 1) := by rw [It_L_law]; rfl
theorem I_L_law_641 : zin zm_L_law.2.2.2.2.2 641 = some (.aload_n 0, 1) := by rw [It_L_law]; rfl
theorem I_L_law_642 : zin zm_L_law.2.2.2.2.2 642 = some (.iload_n 3, 1) := by rw [It_L_law]; rfl
theorem I_L_law_643 : zin zm_L_law.2.2.2.2.2 643 = some (.iconst 1, 1) := by rw [It_L_law]; rfl
theorem I_L_law_644 : zin zm_L_law.2.2.2.2.2 644 = some (.iadd, 1) := by rw [It_L_law]; rfl
theorem I_L_law_645 : zin zm_L_law.2.2.2.2.2 645 = some (.iaload, 1) := by rw [It_L_law]; rfl
theorem I_L_law_646 : zin zm_L_law.2.2.2.2.2 646 = some (.invokevirtual 92, 3) := by rw [It_L_law]; rfl
theorem I_L_law_649 : zin zm_L_law.2.2.2.2.2 649 = some (.pop, 1) := by rw [It_L_law]; rfl
theorem I_L_law_650 : zin zm_L_law.2.2.2.2.2 650 = some (.goto 537, 3) := by rw [It_L_law]; rfl
theorem I_L_law_653 : zin zm_L_law.2.2.2.2.2 653 = some (.aload_n 1, 1) := by rw [It_L_law]; rfl
theorem I_L_law_654 : zin zm_L_law.2.2.2.2.2 654 = some (.aload_n 0, 1) := by rw [It_L_law]; rfl
theorem I_L_law_655 : zin zm_L_law.2.2.2.2.2 655 = some (.iload_n 3, 1) := by rw [It_L_law]; rfl
theorem I_L_law_656 : zin zm_L_law.2.2.2.2.2 656 = some (.iconst 1, 1) := by rw [It_L_law]; rfl
theorem I_L_law_657 : zin zm_L_law.2.2.2.2.2 657 = some (.iadd, 1) := by rw [It_L_law]; rfl
theorem I_L_law_658 : zin zm_L_law.2.2.2.2.2 658 = some (.iaload, 1) := by rw [It_L_law]; rfl
theorem I_L_law_659 : zin zm_L_law.2.2.2.2.2 659 = some (.invokevirtual 93, 3) := by rw [It_L_law]; rfl
theorem I_L_law_662 : zin zm_L_law.2.2.2.2.2 662 = some (.pop, 1) := by rw [It_L_law]; rfl
theorem I_L_law_663 : zin zm_L_law.2.2.2.2.2 663 = some (.aload_n 2, 1) := by rw [It_L_law]; rfl
theorem I_L_law_664 : zin zm_L_law.2.2.2.2.2 664 = some (.aload_n 0, 1) := by rw [It_L_law]; rfl
theorem I_L_law_665 : zin zm_L_law.2.2.2.2.2 665 = some (.iload_n 3, 1) := by rw [It_L_law]; rfl
theorem I_L_law_666 : zin zm_L_law.2.2.2.2.2 666 = some (.iconst 1, 1) := by rw [It_L_law]; rfl
theorem I_L_law_667 : zin zm_L_law.2.2.2.2.2 667 = some (.iadd, 1) := by rw [It_L_law]; rfl
theorem I_L_law_668 : zin zm_L_law.2.2.2.2.2 668 = some (.iaload, 1) := by rw [It_L_law]; rfl
theorem I_L_law_669 : zin zm_L_law.2.2.2.2.2 669 = some (.invokevirtual 96, 3) := by rw [It_L_law]; rfl
theorem I_L_law_672 : zin zm_L_law.2.2.2.2.2 672 = some (.pop, 1) := by rw [It_L_law]; rfl
theorem I_L_law_673 : zin zm_L_law.2.2.2.2.2 673 = some (.goto 514, 3) := by rw [It_L_law]; rfl
theorem I_L_law_676 : zin zm_L_law.2.2.2.2.2 676 = some (.aload_n 1, 1) := by rw [It_L_law]; rfl
theorem I_L_law_677 : zin zm_L_law.2.2.2.2.2 677 = some (.aload_n 0, 1) := by rw [It_L_law]; rfl
theorem I_L_law_678 : zin zm_L_law.2.2.2.2.2 678 = some (.iload_n 3, 1) := by rw [It_L_law]; rfl
theorem I_L_law_679 : zin zm_L_law.2.2.2.2.2 679 = some (.iconst 1, 1) := by rw [It_L_law]; rfl
theorem I_L_law_680 : zin zm_L_law.2.2.2.2.2 680 = some (.iadd, 1) := by rw [It_L_law]; rfl
theorem I_L_law_681 : zin zm_L_law.2.2.2.2.2 681 = some (.iaload, 1) := by rw [It_L_law]; rfl
theorem I_L_law_682 : zin zm_L_law.2.2.2.2.2 682 = some (.invokevirtual 97, 3) := by rw [It_L_law]; rfl
theorem I_L_law_685 : zin zm_L_law.2.2.2.2.2 685 = some (.pop, 1) := by rw [It_L_law]; rfl
theorem I_L_law_686 : zin zm_L_law.2.2.2.2.2 686 = some (.aload_n 2, 1) := by rw [It_L_law]; rfl
theorem I_L_law_687 : zin zm_L_law.2.2.2.2.2 687 = some (.aload_n 0, 1) := by rw [It_L_law]; rfl
theorem I_L_law_688 : zin zm_L_law.2.2.2.2.2 688 = some (.iload_n 3, 1) := by rw [It_L_law]; rfl
theorem I_L_law_689 : zin zm_L_law.2.2.2.2.2 689 = some (.iconst 1, 1) := by rw [It_L_law]; rfl
theorem I_L_law_690 : zin zm_L_law.2.2.2.2.2 690 = some (.iadd, 1) := by rw [It_L_law]; rfl
theorem I_L_law_691 : zin zm_L_law.2.2.2.2.2 691 = some (.iaload, 1) := by rw [It_L_law]; rfl
theorem I_L_law_692 : zin zm_L_law.2.2.2.2.2 692 = some (.invokevirtual 100, 3) := by rw [It_L_law]; rfl
theorem I_L_law_695 : zin zm_L_law.2.2.2.2.2 695 = some (.pop, 1) := by rw [It_L_law]; rfl
theorem I_L_law_696 : zin zm_L_law.2.2.2.2.2 696 = some (.goto 491, 3) := by rw [It_L_law]; rfl
theorem I_L_law_699 : zin zm_L_law.2.2.2.2.2 699 = some (.aload_n 1, 1) := by rw [It_L_law]; rfl
theorem I_L_law_700 : zin zm_L_law.2.2.2.2.2 700 = some (.invokevirtual 101, 3) := by rw [It_L_law]; rfl
theorem I_L_law_703 : zin zm_L_law.2.2.2.2.2 703 = some (.pop, 1) := by rw [It_L_law]; rfl
theorem I_L_law_704 : zin zm_L_law.2.2.2.2.2 704 = some (.aload_n 2, 1) := by rw [It_L_law]; rfl
theorem I_L_law_705 : zin zm_L_law.2.2.2.2.2 705 = some (.invokevirtual 104, 3) := by rw [It_L_law]; rfl
theorem I_L_law_708 : zin zm_L_law.2.2.2.2.2 708 = some (.pop, 1) := by rw [It_L_law]; rfl
theorem I_L_law_709 : zin zm_L_law.2.2.2.2.2 709 = some (.goto 478, 3) := by rw [It_L_law]; rfl
theorem I_L_law_712 : zin zm_L_law.2.2.2.2.2 712 = some (.aload_n 1, 1) := by rw [It_L_law]; rfl
theorem I_L_law_713 : zin zm_L_law.2.2.2.2.2 713 = some (.aload_n 0, 1) := by rw [It_L_law]; rfl
theorem I_L_law_714 : zin zm_L_law.2.2.2.2.2 714 = some (.iload_n 3, 1) := by rw [It_L_law]; rfl
theorem I_L_law_715 : zin zm_L_law.2.2.2.2.2 715 = some (.iconst 1, 1) := by rw [It_L_law]; rfl
theorem I_L_law_716 : zin zm_L_law.2.2.2.2.2 716 = some (.iadd, 1) := by rw [It_L_law]; rfl
theorem I_L_law_717 : zin zm_L_law.2.2.2.2.2 717 = some (.iaload, 1) := by rw [It_L_law]; rfl
theorem I_L_law_718 : zin zm_L_law.2.2.2.2.2 718 = some (.aload_n 0, 1) := by rw [It_L_law]; rfl
theorem I_L_law_719 : zin zm_L_law.2.2.2.2.2 719 = some (.iload_n 3, 1) := by rw [It_L_law]; rfl
theorem I_L_law_720 : zin zm_L_law.2.2.2.2.2 720 = some (.iconst 2, 1) := by rw [It_L_law]; rfl
theorem I_L_law_721 : zin zm_L_law.2.2.2.2.2 721 = some (.iadd, 1) := by rw [It_L_law]; rfl
theorem I_L_law_722 : zin zm_L_law.2.2.2.2.2 722 = some (.iaload, 1) := by rw [It_L_law]; rfl
theorem I_L_law_723 : zin zm_L_law.2.2.2.2.2 723 = some (.invokevirtual 105, 3) := by rw [It_L_law]; rfl
theorem I_L_law_726 : zin zm_L_law.2.2.2.2.2 726 = some (.pop2, 1) := by rw [It_L_law]; rfl
theorem I_L_law_727 : zin zm_L_law.2.2.2.2.2 727 = some (.aload_n 2, 1) := by rw [It_L_law]; rfl
theorem I_L_law_728 : zin zm_L_law.2.2.2.2.2 728 = some (.aload_n 0, 1) := by rw [It_L_law]; rfl
theorem I_L_law_729 : zin zm_L_law.2.2.2.2.2 729 = some (.iload_n 3, 1) := by rw [It_L_law]; rfl
theorem I_L_law_730 : zin zm_L_law.2.2.2.2.2 730 = some (.iconst 1, 1) := by rw [It_L_law]; rfl
theorem I_L_law_731 : zin zm_L_law.2.2.2.2.2 731 = some (.iadd, 1) := by rw [It_L_law]; rfl
theorem I_L_law_732 : zin zm_L_law.2.2.2.2.2 732 = some (.iaload, 1) := by rw [It_L_law]; rfl
theorem I_L_law_733 : zin zm_L_law.2.2.2.2.2 733 = some (.aload_n 0, 1) := by rw [It_L_law]; rfl
theorem I_L_law_734 : zin zm_L_law.2.2.2.2.2 734 = some (.iload_n 3, 1) := by rw [It_L_law]; rfl
theorem I_L_law_735 : zin zm_L_law.2.2.2.2.2 735 = some (.iconst 2, 1) := by rw [It_L_law]; rfl
theorem I_L_law_736 : zin zm_L_law.2.2.2.2.2 736 = some (.iadd, 1) := by rw [It_L_law]; rfl
theorem I_L_law_737 : zin zm_L_law.2.2.2.2.2 737 = some (.iaload, 1) := by rw [It_L_law]; rfl
theorem I_L_law_738 : zin zm_L_law.2.2.2.2.2 738 = some (.invokevirtual 109, 3) := by rw [It_L_law]; rfl
theorem I_L_law_741 : zin zm_L_law.2.2.2.2.2 741 = some (.pop2, 1) := by rw [It_L_law]; rfl
theorem I_L_law_742 : zin zm_L_law.2.2.2.2.2 742 = some (.goto 445, 3) := by rw [It_L_law]; rfl
theorem I_L_law_745 : zin zm_L_law.2.2.2.2.2 745 = some (.aload_n 1, 1) := by rw [It_L_law]; rfl
theorem I_L_law_746 : zin zm_L_law.2.2.2.2.2 746 = some (.aload_n 0, 1) := by rw [It_L_law]; rfl
theorem I_L_law_747 : zin zm_L_law.2.2.2.2.2 747 = some (.iload_n 3, 1) := by rw [It_L_law]; rfl
theorem I_L_law_748 : zin zm_L_law.2.2.2.2.2 748 = some (.iconst 1, 1) := by rw [It_L_law]; rfl
theorem I_L_law_749 : zin zm_L_law.2.2.2.2.2 749 = some (.iadd, 1) := by rw [It_L_law]; rfl
theorem I_L_law_750 : zin zm_L_law.2.2.2.2.2 750 = some (.iaload, 1) := by rw [It_L_law]; rfl
theorem I_L_law_751 : zin zm_L_law.2.2.2.2.2 751 = some (.aload_n 0, 1) := by rw [It_L_law]; rfl
theorem I_L_law_752 : zin zm_L_law.2.2.2.2.2 752 = some (.iload_n 3, 1) := by rw [It_L_law]; rfl
theorem I_L_law_753 : zin zm_L_law.2.2.2.2.2 753 = some (.iconst 2, 1) := by rw [It_L_law]; rfl
theorem I_L_law_754 : zin zm_L_law.2.2.2.2.2 754 = some (.iadd, 1) := by rw [It_L_law]; rfl
theorem I_L_law_755 : zin zm_L_law.2.2.2.2.2 755 = some (.iaload, 1) := by rw [It_L_law]; rfl
theorem I_L_law_756 : zin zm_L_law.2.2.2.2.2 756 = some (.aload_n 0, 1) := by rw [It_L_law]; rfl
theorem I_L_law_757 : zin zm_L_law.2.2.2.2.2 757 = some (.iload_n 3, 1) := by rw [It_L_law]; rfl
theorem I_L_law_758 : zin zm_L_law.2.2.2.2.2 758 = some (.iconst 3, 1) := by rw [It_L_law]; rfl
theorem I_L_law_759 : zin zm_L_law.2.2.2.2.2 759 = some (.iadd, 1) := by rw [It_L_law]; rfl
theorem I_L_law_760 : zin zm_L_law.2.2.2.2.2 760 = some (.iaload, 1) := by rw [It_L_law]; rfl
theorem I_L_law_761 : zin zm_L_law.2.2.2.2.2 761 = some (.invokevirtual 110, 3) := by rw [It_L_law]; rfl
theorem I_L_law_764 : zin zm_L_law.2.2.2.2.2 764 = some (.pop2, 1) := by rw [It_L_law]; rfl
theorem I_L_law_765 : zin zm_L_law.2.2.2.2.2 765 = some (.aload_n 2, 1) := by rw [It_L_law]; rfl
theorem I_L_law_766 : zin zm_L_law.2.2.2.2.2 766 = some (.aload_n 0, 1) := by rw [It_L_law]; rfl
theorem I_L_law_767 : zin zm_L_law.2.2.2.2.2 767 = some (.iload_n 3, 1) := by rw [It_L_law]; rfl
theorem I_L_law_768 : zin zm_L_law.2.2.2.2.2 768 = some (.iconst 1, 1) := by rw [It_L_law]; rfl
theorem I_L_law_769 : zin zm_L_law.2.2.2.2.2 769 = some (.iadd, 1) := by rw [It_L_law]; rfl
theorem I_L_law_770 : zin zm_L_law.2.2.2.2.2 770 = some (.iaload, 1) := by rw [It_L_law]; rfl
theorem I_L_law_771 : zin zm_L_law.2.2.2.2.2 771 = some (.aload_n 0, 1) := by rw [It_L_law]; rfl
theorem I_L_law_772 : zin zm_L_law.2.2.2.2.2 772 = some (.iload_n 3, 1) := by rw [It_L_law]; rfl
theorem I_L_law_773 : zin zm_L_law.2.2.2.2.2 773 = some (.iconst 2, 1) := by rw [It_L_law]; rfl
theorem I_L_law_774 : zin zm_L_law.2.2.2.2.2 774 = some (.iadd, 1) := by rw [It_L_law]; rfl
theorem I_L_law_775 : zin zm_L_law.2.2.2.2.2 775 = some (.iaload, 1) := by rw [It_L_law]; rfl
theorem I_L_law_776 : zin zm_L_law.2.2.2.2.2 776 = some (.aload_n 0, 1) := by rw [It_L_law]; rfl
theorem I_L_law_777 : zin zm_L_law.2.2.2.2.2 777 = some (.iload_n 3, 1) := by rw [It_L_law]; rfl
theorem I_L_law_778 : zin zm_L_law.2.2.2.2.2 778 = some (.iconst 3, 1) := by rw [It_L_law]; rfl
theorem I_L_law_779 : zin zm_L_law.2.2.2.2.2 779 = some (.iadd, 1) := by rw [It_L_law]; rfl
theorem I_L_law_780 : zin zm_L_law.2.2.2.2.2 780 = some (.iaload, 1) := by rw [It_L_law]; rfl
theorem I_L_law_781 : zin zm_L_law.2.2.2.2.2 781 = some (.invokevirtual 114, 3) := by rw [It_L_law]; rfl
theorem I_L_law_784 : zin zm_L_law.2.2.2.2.2 784 = some (.pop2, 1) := by rw [It_L_law]; rfl
theorem I_L_law_785 : zin zm_L_law.2.2.2.2.2 785 = some (.goto 402, 3) := by rw [It_L_law]; rfl
theorem I_L_law_788 : zin zm_L_law.2.2.2.2.2 788 = some (.aload_n 1, 1) := by rw [It_L_law]; rfl
theorem I_L_law_789 : zin zm_L_law.2.2.2.2.2 789 = some (.aload_n 0, 1) := by rw [It_L_law]; rfl
theorem I_L_law_790 : zin zm_L_law.2.2.2.2.2 790 = some (.iload_n 3, 1) := by rw [It_L_law]; rfl
theorem I_L_law_791 : zin zm_L_law.2.2.2.2.2 791 = some (.iconst 1, 1) := by rw [It_L_law]; rfl
theorem I_L_law_792 : zin zm_L_law.2.2.2.2.2 792 = some (.iadd, 1) := by rw [It_L_law]; rfl
theorem I_L_law_793 : zin zm_L_law.2.2.2.2.2 793 = some (.iaload, 1) := by rw [It_L_law]; rfl
theorem I_L_law_794 : zin zm_L_law.2.2.2.2.2 794 = some (.aload_n 0, 1) := by rw [It_L_law]; rfl
theorem I_L_law_795 : zin zm_L_law.2.2.2.2.2 795 = some (.iload_n 3, 1) := by rw [It_L_law]; rfl
theorem I_L_law_796 : zin zm_L_law.2.2.2.2.2 796 = some (.iconst 2, 1) := by rw [It_L_law]; rfl
theorem I_L_law_797 : zin zm_L_law.2.2.2.2.2 797 = some (.iadd, 1) := by rw [It_L_law]; rfl
theorem I_L_law_798 : zin zm_L_law.2.2.2.2.2 798 = some (.iaload, 1) := by rw [It_L_law]; rfl
theorem I_L_law_799 : zin zm_L_law.2.2.2.2.2 799 = some (.invokevirtual 115, 3) := by rw [It_L_law]; rfl
theorem I_L_law_802 : zin zm_L_law.2.2.2.2.2 802 = some (.pop, 1) := by rw [It_L_law]; rfl
theorem I_L_law_803 : zin zm_L_law.2.2.2.2.2 803 = some (.aload_n 2, 1) := by rw [It_L_law]; rfl
theorem I_L_law_804 : zin zm_L_law.2.2.2.2.2 804 = some (.aload_n 0, 1) := by rw [It_L_law]; rfl
theorem I_L_law_805 : zin zm_L_law.2.2.2.2.2 805 = some (.iload_n 3, 1) := by rw [It_L_law]; rfl
theorem I_L_law_806 : zin zm_L_law.2.2.2.2.2 806 = some (.iconst 1, 1) := by rw [It_L_law]; rfl
theorem I_L_law_807 : zin zm_L_law.2.2.2.2.2 807 = some (.iadd, 1) := by rw [It_L_law]; rfl
theorem I_L_law_808 : zin zm_L_law.2.2.2.2.2 808 = some (.iaload, 1) := by rw [It_L_law]; rfl
theorem I_L_law_809 : zin zm_L_law.2.2.2.2.2 809 = some (.aload_n 0, 1) := by rw [It_L_law]; rfl
theorem I_L_law_810 : zin zm_L_law.2.2.2.2.2 810 = some (.iload_n 3, 1) := by rw [It_L_law]; rfl
theorem I_L_law_811 : zin zm_L_law.2.2.2.2.2 811 = some (.iconst 2, 1) := by rw [It_L_law]; rfl
theorem I_L_law_812 : zin zm_L_law.2.2.2.2.2 812 = some (.iadd, 1) := by rw [It_L_law]; rfl
theorem I_L_law_813 : zin zm_L_law.2.2.2.2.2 813 = some (.iaload, 1) := by rw [It_L_law]; rfl
theorem I_L_law_814 : zin zm_L_law.2.2.2.2.2 814 = some (.invokevirtual 118, 3) := by rw [It_L_law]; rfl
theorem I_L_law_817 : zin zm_L_law.2.2.2.2.2 817 = some (.pop, 1) := by rw [It_L_law]; rfl
theorem I_L_law_818 : zin zm_L_law.2.2.2.2.2 818 = some (.goto 369, 3) := by rw [It_L_law]; rfl
theorem I_L_law_821 : zin zm_L_law.2.2.2.2.2 821 = some (.aload_n 1, 1) := by rw [It_L_law]; rfl
theorem I_L_law_822 : zin zm_L_law.2.2.2.2.2 822 = some (.aload_n 0, 1) := by rw [It_L_law]; rfl
theorem I_L_law_823 : zin zm_L_law.2.2.2.2.2 823 = some (.iload_n 3, 1) := by rw [It_L_law]; rfl
theorem I_L_law_824 : zin zm_L_law.2.2.2.2.2 824 = some (.iconst 1, 1) := by rw [It_L_law]; rfl
theorem I_L_law_825 : zin zm_L_law.2.2.2.2.2 825 = some (.iadd, 1) := by rw [It_L_law]; rfl
theorem I_L_law_826 : zin zm_L_law.2.2.2.2.2 826 = some (.iaload, 1) := by rw [It_L_law]; rfl
theorem I_L_law_827 : zin zm_L_law.2.2.2.2.2 827 = some (.invokevirtual 119, 3) := by rw [It_L_law]; rfl
theorem I_L_law_830 : zin zm_L_law.2.2.2.2.2 830 = some (.pop, 1) := by rw [It_L_law]; rfl
theorem I_L_law_831 : zin zm_L_law.2.2.2.2.2 831 = some (.aload_n 2, 1) := by rw [It_L_law]; rfl
theorem I_L_law_832 : zin zm_L_law.2.2.2.2.2 832 = some (.aload_n 0, 1) := by rw [It_L_law]; rfl
theorem I_L_law_833 : zin zm_L_law.2.2.2.2.2 833 = some (.iload_n 3, 1) := by rw [It_L_law]; rfl
theorem I_L_law_834 : zin zm_L_law.2.2.2.2.2 834 = some (.iconst 1, 1) := by rw [It_L_law]; rfl
theorem I_L_law_835 : zin zm_L_law.2.2.2.2.2 835 = some (.iadd, 1) := by rw [It_L_law]; rfl
theorem I_L_law_836 : zin zm_L_law.2.2.2.2.2 836 = some (.iaload, 1) := by rw [It_L_law]; rfl
theorem I_L_law_837 : zin zm_L_law.2.2.2.2.2 837 = some (.invokevirtual 122, 3) := by rw [It_L_law]; rfl
theorem I_L_law_840 : zin zm_L_law.2.2.2.2.2 840 = some (.pop, 1) := by rw [It_L_law]; rfl
theorem I_L_law_841 : zin zm_L_law.2.2.2.2.2 841 = some (.goto 346, 3) := by rw [It_L_law]; rfl
theorem I_L_law_844 : zin zm_L_law.2.2.2.2.2 844 = some (.aload_n 1, 1) := by rw [It_L_law]; rfl
theorem I_L_law_845 : zin zm_L_law.2.2.2.2.2 845 = some (.aload_n 0, 1) := by rw [It_L_law]; rfl
theorem I_L_law_846 : zin zm_L_law.2.2.2.2.2 846 = some (.iload_n 3, 1) := by rw [It_L_law]; rfl
theorem I_L_law_847 : zin zm_L_law.2.2.2.2.2 847 = some (.iconst 1, 1) := by rw [It_L_law]; rfl
theorem I_L_law_848 : zin zm_L_law.2.2.2.2.2 848 = some (.iadd, 1) := by rw [It_L_law]; rfl
theorem I_L_law_849 : zin zm_L_law.2.2.2.2.2 849 = some (.iaload, 1) := by rw [It_L_law]; rfl
theorem I_L_law_850 : zin zm_L_law.2.2.2.2.2 850 = some (.aload_n 0, 1) := by rw [It_L_law]; rfl
theorem I_L_law_851 : zin zm_L_law.2.2.2.2.2 851 = some (.iload_n 3, 1) := by rw [It_L_law]; rfl
theorem I_L_law_852 : zin zm_L_law.2.2.2.2.2 852 = some (.iconst 2, 1) := by rw [It_L_law]; rfl
theorem I_L_law_853 : zin zm_L_law.2.2.2.2.2 853 = some (.iadd, 1) := by rw [It_L_law]; rfl
theorem I_L_law_854 : zin zm_L_law.2.2.2.2.2 854 = some (.iaload, 1) := by rw [It_L_law]; rfl
theorem I_L_law_855 : zin zm_L_law.2.2.2.2.2 855 = some (.invokevirtual 123, 3) := by rw [It_L_law]; rfl
theorem I_L_law_858 : zin zm_L_law.2.2.2.2.2 858 = some (.pop, 1) := by rw [It_L_law]; rfl
theorem I_L_law_859 : zin zm_L_law.2.2.2.2.2 859 = some (.aload_n 2, 1) := by rw [It_L_law]; rfl
theorem I_L_law_860 : zin zm_L_law.2.2.2.2.2 860 = some (.aload_n 0, 1) := by rw [It_L_law]; rfl
theorem I_L_law_861 : zin zm_L_law.2.2.2.2.2 861 = some (.iload_n 3, 1) := by rw [It_L_law]; rfl
theorem I_L_law_862 : zin zm_L_law.2.2.2.2.2 862 = some (.iconst 1, 1) := by rw [It_L_law]; rfl
theorem I_L_law_863 : zin zm_L_law.2.2.2.2.2 863 = some (.iadd, 1) := by rw [It_L_law]; rfl
theorem I_L_law_864 : zin zm_L_law.2.2.2.2.2 864 = some (.iaload, 1) := by rw [It_L_law]; rfl
theorem I_L_law_865 : zin zm_L_law.2.2.2.2.2 865 = some (.aload_n 0, 1) := by rw [It_L_law]; rfl
theorem I_L_law_866 : zin zm_L_law.2.2.2.2.2 866 = some (.iload_n 3, 1) := by rw [It_L_law]; rfl
theorem I_L_law_867 : zin zm_L_law.2.2.2.2.2 867 = some (.iconst 2, 1) := by rw [It_L_law]; rfl
theorem I_L_law_868 : zin zm_L_law.2.2.2.2.2 868 = some (.iadd, 1) := by rw [It_L_law]; rfl
theorem I_L_law_869 : zin zm_L_law.2.2.2.2.2 869 = some (.iaload, 1) := by rw [It_L_law]; rfl
theorem I_L_law_870 : zin zm_L_law.2.2.2.2.2 870 = some (.invokevirtual 126, 3) := by rw [It_L_law]; rfl
theorem I_L_law_873 : zin zm_L_law.2.2.2.2.2 873 = some (.pop, 1) := by rw [It_L_law]; rfl
theorem I_L_law_874 : zin zm_L_law.2.2.2.2.2 874 = some (.goto 313, 3) := by rw [It_L_law]; rfl
theorem I_L_law_877 : zin zm_L_law.2.2.2.2.2 877 = some (.aload_n 1, 1) := by rw [It_L_law]; rfl
theorem I_L_law_878 : zin zm_L_law.2.2.2.2.2 878 = some (.invokevirtual 127, 3) := by rw [It_L_law]; rfl
theorem I_L_law_881 : zin zm_L_law.2.2.2.2.2 881 = some (.pop, 1) := by rw [It_L_law]; rfl
theorem I_L_law_882 : zin zm_L_law.2.2.2.2.2 882 = some (.aload_n 2, 1) := by rw [It_L_law]; rfl
theorem I_L_law_883 : zin zm_L_law.2.2.2.2.2 883 = some (.invokevirtual 130, 3) := by rw [It_L_law]; rfl
theorem I_L_law_886 : zin zm_L_law.2.2.2.2.2 886 = some (.pop, 1) := by rw [It_L_law]; rfl
theorem I_L_law_887 : zin zm_L_law.2.2.2.2.2 887 = some (.goto 300, 3) := by rw [It_L_law]; rfl
theorem I_L_law_890 : zin zm_L_law.2.2.2.2.2 890 = some (.aload_n 1, 1) := by rw [It_L_law]; rfl
theorem I_L_law_891 : zin zm_L_law.2.2.2.2.2 891 = some (.aload_n 0, 1) := by rw [It_L_law]; rfl
theorem I_L_law_892 : zin zm_L_law.2.2.2.2.2 892 = some (.iload_n 3, 1) := by rw [It_L_law]; rfl
theorem I_L_law_893 : zin zm_L_law.2.2.2.2.2 893 = some (.iconst 1, 1) := by rw [It_L_law]; rfl
theorem I_L_law_894 : zin zm_L_law.2.2.2.2.2 894 = some (.iadd, 1) := by rw [It_L_law]; rfl
theorem I_L_law_895 : zin zm_L_law.2.2.2.2.2 895 = some (.iaload, 1) := by rw [It_L_law]; rfl
theorem I_L_law_896 : zin zm_L_law.2.2.2.2.2 896 = some (.aload_n 0, 1) := by rw [It_L_law]; rfl
theorem I_L_law_897 : zin zm_L_law.2.2.2.2.2 897 = some (.iload_n 3, 1) := by rw [It_L_law]; rfl
theorem I_L_law_898 : zin zm_L_law.2.2.2.2.2 898 = some (.iconst 2, 1) := by rw [It_L_law]; rfl
theorem I_L_law_899 : zin zm_L_law.2.2.2.2.2 899 = some (.iadd, 1) := by rw [It_L_law]; rfl
theorem I_L_law_900 : zin zm_L_law.2.2.2.2.2 900 = some (.iaload, 1) := by rw [It_L_law]; rfl
theorem I_L_law_901 : zin zm_L_law.2.2.2.2.2 901 = some (.invokevirtual 131, 3) := by rw [It_L_law]; rfl
theorem I_L_law_904 : zin zm_L_law.2.2.2.2.2 904 = some (.pop, 1) := by rw [It_L_law]; rfl
theorem I_L_law_905 : zin zm_L_law.2.2.2.2.2 905 = some (.aload_n 2, 1) := by rw [It_L_law]; rfl
theorem I_L_law_906 : zin zm_L_law.2.2.2.2.2 906 = some (.aload_n 0, 1) := by rw [It_L_law]; rfl
theorem I_L_law_907 : zin zm_L_law.2.2.2.2.2 907 = some (.iload_n 3, 1) := by rw [It_L_law]; rfl
theorem I_L_law_908 : zin zm_L_law.2.2.2.2.2 908 = some (.iconst 1, 1) := by rw [It_L_law]; rfl
theorem I_L_law_909 : zin zm_L_law.2.2.2.2.2 909 = some (.iadd, 1) := by rw [It_L_law]; rfl
theorem I_L_law_910 : zin zm_L_law.2.2.2.2.2 910 = some (.iaload, 1) := by rw [It_L_law]; rfl
theorem I_L_law_911 : zin zm_L_law.2.2.2.2.2 911 = some (.aload_n 0, 1) := by rw [It_L_law]; rfl
theorem I_L_law_912 : zin zm_L_law.2.2.2.2.2 912 = some (.iload_n 3, 1) := by rw [It_L_law]; rfl
theorem I_L_law_913 : zin zm_L_law.2.2.2.2.2 913 = some (.iconst 2, 1) := by rw [It_L_law]; rfl
theorem I_L_law_914 : zin zm_L_law.2.2.2.2.2 914 = some (.iadd, 1) := by rw [It_L_law]; rfl
theorem I_L_law_915 : zin zm_L_law.2.2.2.2.2 915 = some (.iaload, 1) := by rw [It_L_law]; rfl
theorem I_L_law_916 : zin zm_L_law.2.2.2.2.2 916 = some (.invokevirtual 134, 3) := by rw [It_L_law]; rfl
theorem I_L_law_919 : zin zm_L_law.2.2.2.2.2 919 = some (.pop, 1) := by rw [It_L_law]; rfl
theorem I_L_law_920 : zin zm_L_law.2.2.2.2.2 920 = some (.goto 267, 3) := by rw [It_L_law]; rfl
theorem I_L_law_923 : zin zm_L_law.2.2.2.2.2 923 = some (.aload_n 1, 1) := by rw [It_L_law]; rfl
theorem I_L_law_924 : zin zm_L_law.2.2.2.2.2 924 = some (.aload_n 0, 1) := by rw [It_L_law]; rfl
theorem I_L_law_925 : zin zm_L_law.2.2.2.2.2 925 = some (.iload_n 3, 1) := by rw [It_L_law]; rfl
theorem I_L_law_926 : zin zm_L_law.2.2.2.2.2 926 = some (.iconst 1, 1) := by rw [It_L_law]; rfl
theorem I_L_law_927 : zin zm_L_law.2.2.2.2.2 927 = some (.iadd, 1) := by rw [It_L_law]; rfl
theorem I_L_law_928 : zin zm_L_law.2.2.2.2.2 928 = some (.iaload, 1) := by rw [It_L_law]; rfl
theorem I_L_law_929 : zin zm_L_law.2.2.2.2.2 929 = some (.aload_n 0, 1) := by rw [It_L_law]; rfl
theorem I_L_law_930 : zin zm_L_law.2.2.2.2.2 930 = some (.iload_n 3, 1) := by rw [It_L_law]; rfl
theorem I_L_law_931 : zin zm_L_law.2.2.2.2.2 931 = some (.iconst 2, 1) := by rw [It_L_law]; rfl
theorem I_L_law_932 : zin zm_L_law.2.2.2.2.2 932 = some (.iadd, 1) := by rw [It_L_law]; rfl
theorem I_L_law_933 : zin zm_L_law.2.2.2.2.2 933 = some (.iaload, 1) := by rw [It_L_law]; rfl
theorem I_L_law_934 : zin zm_L_law.2.2.2.2.2 934 = some (.aload_n 0, 1) := by rw [It_L_law]; rfl
theorem I_L_law_935 : zin zm_L_law.2.2.2.2.2 935 = some (.iload_n 3, 1) := by rw [It_L_law]; rfl
theorem I_L_law_936 : zin zm_L_law.2.2.2.2.2 936 = some (.iconst 3, 1) := by rw [It_L_law]; rfl
theorem I_L_law_937 : zin zm_L_law.2.2.2.2.2 937 = some (.iadd, 1) := by rw [It_L_law]; rfl
theorem I_L_law_938 : zin zm_L_law.2.2.2.2.2 938 = some (.iaload, 1) := by rw [It_L_law]; rfl
theorem I_L_law_939 : zin zm_L_law.2.2.2.2.2 939 = some (.invokevirtual 135, 3) := by rw [It_L_law]; rfl
theorem I_L_law_942 : zin zm_L_law.2.2.2.2.2 942 = some (.pop, 1) := by rw [It_L_law]; rfl
theorem I_L_law_943 : zin zm_L_law.2.2.2.2.2 943 = some (.aload_n 2, 1) := by rw [It_L_law]; rfl
theorem I_L_law_944 : zin zm_L_law.2.2.2.2.2 944 = some (.aload_n 0, 1) := by rw [It_L_law]; rfl
theorem I_L_law_945 : zin zm_L_law.2.2.2.2.2 945 = some (.iload_n 3, 1) := by rw [It_L_law]; rfl
theorem I_L_law_946 : zin zm_L_law.2.2.2.2.2 946 = some (.iconst 1, 1) := by rw [It_L_law]; rfl
theorem I_L_law_947 : zin zm_L_law.2.2.2.2.2 947 = some (.iadd, 1) := by rw [It_L_law]; rfl
theorem I_L_law_948 : zin zm_L_law.2.2.2.2.2 948 = some (.iaload, 1) := by rw [It_L_law]; rfl
theorem I_L_law_949 : zin zm_L_law.2.2.2.2.2 949 = some (.aload_n 0, 1) := by rw [It_L_law]; rfl
theorem I_L_law_950 : zin zm_L_law.2.2.2.2.2 950 = some (.iload_n 3, 1) := by rw [It_L_law]; rfl
theorem I_L_law_951 : zin zm_L_law.2.2.2.2.2 951 = some (.iconst 2, 1) := by rw [It_L_law]; rfl
theorem I_L_law_952 : zin zm_L_law.2.2.2.2.2 952 = some (.iadd, 1) := by rw [It_L_law]; rfl
theorem I_L_law_953 : zin zm_L_law.2.2.2.2.2 953 = some (.iaload, 1) := by rw [It_L_law]; rfl
theorem I_L_law_954 : zin zm_L_law.2.2.2.2.2 954 = some (.aload_n 0, 1) := by rw [It_L_law]; rfl
theorem I_L_law_955 : zin zm_L_law.2.2.2.2.2 955 = some (.iload_n 3, 1) := by rw [It_L_law]; rfl
theorem I_L_law_956 : zin zm_L_law.2.2.2.2.2 956 = some (.iconst 3, 1) := by rw [It_L_law]; rfl
theorem I_L_law_957 : zin zm_L_law.2.2.2.2.2 957 = some (.iadd, 1) := by rw [It_L_law]; rfl
theorem I_L_law_958 : zin zm_L_law.2.2.2.2.2 958 = some (.iaload, 1) := by rw [It_L_law]; rfl
theorem I_L_law_959 : zin zm_L_law.2.2.2.2.2 959 = some (.invokevirtual 138, 3) := by rw [It_L_law]; rfl
theorem I_L_law_962 : zin zm_L_law.2.2.2.2.2 962 = some (.pop, 1) := by rw [It_L_law]; rfl
theorem I_L_law_963 : zin zm_L_law.2.2.2.2.2 963 = some (.goto 224, 3) := by rw [It_L_law]; rfl
theorem I_L_law_966 : zin zm_L_law.2.2.2.2.2 966 = some (.aload_n 1, 1) := by rw [It_L_law]; rfl
theorem I_L_law_967 : zin zm_L_law.2.2.2.2.2 967 = some (.aload_n 0, 1) := by rw [It_L_law]; rfl
theorem I_L_law_968 : zin zm_L_law.2.2.2.2.2 968 = some (.iload_n 3, 1) := by rw [It_L_law]; rfl
theorem I_L_law_969 : zin zm_L_law.2.2.2.2.2 969 = some (.iconst 1, 1) := by rw [It_L_law]; rfl
theorem I_L_law_970 : zin zm_L_law.2.2.2.2.2 970 = some (.iadd, 1) := by rw [It_L_law]; rfl
theorem I_L_law_971 : zin zm_L_law.2.2.2.2.2 971 = some (.iaload, 1) := by rw [It_L_law]; rfl
theorem I_L_law_972 : zin zm_L_law.2.2.2.2.2 972 = some (.invokevirtual 139, 3) := by rw [It_L_law]; rfl
theorem I_L_law_975 : zin zm_L_law.2.2.2.2.2 975 = some (.pop, 1) := by rw [It_L_law]; rfl
theorem I_L_law_976 : zin zm_L_law.2.2.2.2.2 976 = some (.aload_n 2, 1) := by rw [It_L_law]; rfl
theorem I_L_law_977 : zin zm_L_law.2.2.2.2.2 977 = some (.aload_n 0, 1) := by rw [It_L_law]; rfl
theorem I_L_law_978 : zin zm_L_law.2.2.2.2.2 978 = some (.iload_n 3, 1) := by rw [It_L_law]; rfl
theorem I_L_law_979 : zin zm_L_law.2.2.2.2.2 979 = some (.iconst 1, 1) := by rw [It_L_law]; rfl
theorem I_L_law_980 : zin zm_L_law.2.2.2.2.2 980 = some (.iadd, 1) := by rw [It_L_law]; rfl
theorem I_L_law_981 : zin zm_L_law.2.2.2.2.2 981 = some (.iaload, 1) := by rw [It_L_law]; rfl
theorem I_L_law_982 : zin zm_L_law.2.2.2.2.2 982 = some (.invokevirtual 142, 3) := by rw [It_L_law]; rfl
theorem I_L_law_985 : zin zm_L_law.2.2.2.2.2 985 = some (.pop, 1) := by rw [It_L_law]; rfl
theorem I_L_law_986 : zin zm_L_law.2.2.2.2.2 986 = some (.goto 201, 3) := by rw [It_L_law]; rfl
theorem I_L_law_989 : zin zm_L_law.2.2.2.2.2 989 = some (.aload_n 1, 1) := by rw [It_L_law]; rfl
theorem I_L_law_990 : zin zm_L_law.2.2.2.2.2 990 = some (.aload_n 0, 1) := by rw [It_L_law]; rfl
theorem I_L_law_991 : zin zm_L_law.2.2.2.2.2 991 = some (.iload_n 3, 1) := by rw [It_L_law]; rfl
theorem I_L_law_992 : zin zm_L_law.2.2.2.2.2 992 = some (.iconst 1, 1) := by rw [It_L_law]; rfl
theorem I_L_law_993 : zin zm_L_law.2.2.2.2.2 993 = some (.iadd, 1) := by rw [It_L_law]; rfl
theorem I_L_law_994 : zin zm_L_law.2.2.2.2.2 994 = some (.iaload, 1) := by rw [It_L_law]; rfl
theorem I_L_law_995 : zin zm_L_law.2.2.2.2.2 995 = some (.invokevirtual 143, 3) := by rw [It_L_law]; rfl
theorem I_L_law_998 : zin zm_L_law.2.2.2.2.2 998 = some (.pop, 1) := by rw [It_L_law]; rfl
theorem I_L_law_999 : zin zm_L_law.2.2.2.2.2 999 = some (.aload_n 2, 1) := by rw [It_L_law]; rfl
theorem I_L_law_1000 : zin zm_L_law.2.2.2.2.2 1000 = some (.aload_n 0, 1) := by rw [It_L_law]; rfl
theorem I_L_law_1001 : zin zm_L_law.2.2.2.2.2 1001 = some (.iload_n 3, 1) := by rw [It_L_law]; rfl
theorem I_L_law_1002 : zin zm_L_law.2.2.2.2.2 1002 = some (.iconst 1, 1) := by rw [It_L_law]; rfl
theorem I_L_law_1003 : zin zm_L_law.2.2.2.2.2 1003 = some (.iadd, 1) := by rw [It_L_law]; rfl
theorem I_L_law_1004 : zin zm_L_law.2.2.2.2.2 1004 = some (.iaload, 1) := by rw [It_L_law]; rfl
theorem I_L_law_1005 : zin zm_L_law.2.2.2.2.2 1005 = some (.invokevirtual 146, 3) := by rw [It_L_law]; rfl
theorem I_L_law_1008 : zin zm_L_law.2.2.2.2.2 1008 = some (.pop, 1) := by rw [It_L_law]; rfl
theorem I_L_law_1009 : zin zm_L_law.2.2.2.2.2 1009 = some (.goto 178, 3) := by rw [It_L_law]; rfl
theorem I_L_law_1012 : zin zm_L_law.2.2.2.2.2 1012 = some (.aload_n 1, 1) := by rw [It_L_law]; rfl
theorem I_L_law_1013 : zin zm_L_law.2.2.2.2.2 1013 = some (.aload_n 0, 1) := by rw [It_L_law]; rfl
theorem I_L_law_1014 : zin zm_L_law.2.2.2.2.2 1014 = some (.iload_n 3, 1) := by rw [It_L_law]; rfl
theorem I_L_law_1015 : zin zm_L_law.2.2.2.2.2 1015 = some (.iconst 1, 1) := by rw [It_L_law]; rfl
theorem I_L_law_1016 : zin zm_L_law.2.2.2.2.2 1016 = some (.iadd, 1) := by rw [It_L_law]; rfl
theorem I_L_law_1017 : zin zm_L_law.2.2.2.2.2 1017 = some (.iaload, 1) := by rw [It_L_law]; rfl
theorem I_L_law_1018 : zin zm_L_law.2.2.2.2.2 1018 = some (.aload_n 0, 1) := by rw [It_L_law]; rfl
theorem I_L_law_1019 : zin zm_L_law.2.2.2.2.2 1019 = some (.iload_n 3, 1) := by rw [It_L_law]; rfl
theorem I_L_law_1020 : zin zm_L_law.2.2.2.2.2 1020 = some (.iconst 2, 1) := by rw [It_L_law]; rfl
theorem I_L_law_1021 : zin zm_L_law.2.2.2.2.2 1021 = some (.iadd, 1) := by rw [It_L_law]; rfl
theorem I_L_law_1022 : zin zm_L_law.2.2.2.2.2 1022 = some (.iaload, 1) := by rw [It_L_law]; rfl
theorem I_L_law_1023 : zin zm_L_law.2.2.2.2.2 1023 = some (.aload_n 0, 1) := by rw [It_L_law]; rfl
theorem I_L_law_1024 : zin zm_L_law.2.2.2.2.2 1024 = some (.iload_n 3, 1) := by rw [It_L_law]; rfl
theorem I_L_law_1025 : zin zm_L_law.2.2.2.2.2 1025 = some (.iconst 3, 1) := by rw [It_L_law]; rfl
theorem I_L_law_1026 : zin zm_L_law.2.2.2.2.2 1026 = some (.iadd, 1) := by rw [It_L_law]; rfl
theorem I_L_law_1027 : zin zm_L_law.2.2.2.2.2 1027 = some (.iaload, 1) := by rw [It_L_law]; rfl
theorem I_L_law_1028 : zin zm_L_law.2.2.2.2.2 1028 = some (.invokevirtual 147, 3) := by rw [It_L_law]; rfl
theorem I_L_law_1031 : zin zm_L_law.2.2.2.2.2 1031 = some (.pop, 1) := by rw [It_L_law]; rfl
theorem I_L_law_1032 : zin zm_L_law.2.2.2.2.2 1032 = some (.aload_n 2, 1) := by rw [It_L_law]; rfl
theorem I_L_law_1033 : zin zm_L_law.2.2.2.2.2 1033 = some (.aload_n 0, 1) := by rw [It_L_law]; rfl
theorem I_L_law_1034 : zin zm_L_law.2.2.2.2.2 1034 = some (.iload_n 3, 1) := by rw [It_L_law]; rfl
theorem I_L_law_1035 : zin zm_L_law.2.2.2.2.2 1035 = some (.iconst 1, 1) := by rw [It_L_law]; rfl
theorem I_L_law_1036 : zin zm_L_law.2.2.2.2.2 1036 = some (.iadd, 1) := by rw [It_L_law]; rfl
theorem I_L_law_1037 : zin zm_L_law.2.2.2.2.2 1037 = some (.iaload, 1) := by rw [It_L_law]; rfl
theorem I_L_law_1038 : zin zm_L_law.2.2.2.2.2 1038 = some (.aload_n 0, 1) := by rw [It_L_law]; rfl
theorem I_L_law_1039 : zin zm_L_law.2.2.2.2.2 1039 = some (.iload_n 3, 1) := by rw [It_L_law]; rfl
theorem I_L_law_1040 : zin zm_L_law.2.2.2.2.2 1040 = some (.iconst 2, 1) := by rw [It_L_law]; rfl
theorem I_L_law_1041 : zin zm_L_law.2.2.2.2.2 1041 = some (.iadd, 1) := by rw [It_L_law]; rfl
theorem I_L_law_1042 : zin zm_L_law.2.2.2.2.2 1042 = some (.iaload, 1) := by rw [It_L_law]; rfl
theorem I_L_law_1043 : zin zm_L_law.2.2.2.2.2 1043 = some (.aload_n 0, 1) := by rw [It_L_law]; rfl
theorem I_L_law_1044 : zin zm_L_law.2.2.2.2.2 1044 = some (.iload_n 3, 1) := by rw [It_L_law]; rfl
theorem I_L_law_1045 : zin zm_L_law.2.2.2.2.2 1045 = some (.iconst 3, 1) := by rw [It_L_law]; rfl
theorem I_L_law_1046 : zin zm_L_law.2.2.2.2.2 1046 = some (.iadd, 1) := by rw [It_L_law]; rfl
theorem I_L_law_1047 : zin zm_L_law.2.2.2.2.2 1047 = some (.iaload, 1) := by rw [It_L_law]; rfl
theorem I_L_law_1048 : zin zm_L_law.2.2.2.2.2 1048 = some (.invokevirtual 150, 3) := by rw [It_L_law]; rfl
theorem I_L_law_1051 : zin zm_L_law.2.2.2.2.2 1051 = some (.pop, 1) := by rw [It_L_law]; rfl
theorem I_L_law_1052 : zin zm_L_law.2.2.2.2.2 1052 = some (.goto 135, 3) := by rw [It_L_law]; rfl
theorem I_L_law_1055 : zin zm_L_law.2.2.2.2.2 1055 = some (.aload_n 1, 1) := by rw [It_L_law]; rfl
theorem I_L_law_1056 : zin zm_L_law.2.2.2.2.2 1056 = some (.aload_n 0, 1) := by rw [It_L_law]; rfl
theorem I_L_law_1057 : zin zm_L_law.2.2.2.2.2 1057 = some (.iload_n 3, 1) := by rw [It_L_law]; rfl
theorem I_L_law_1058 : zin zm_L_law.2.2.2.2.2 1058 = some (.iconst 1, 1) := by rw [It_L_law]; rfl
theorem I_L_law_1059 : zin zm_L_law.2.2.2.2.2 1059 = some (.iadd, 1) := by rw [It_L_law]; rfl
theorem I_L_law_1060 : zin zm_L_law.2.2.2.2.2 1060 = some (.iaload, 1) := by rw [It_L_law]; rfl
theorem I_L_law_1061 : zin zm_L_law.2.2.2.2.2 1061 = some (.aload_n 0, 1) := by rw [It_L_law]; rfl
theorem I_L_law_1062 : zin zm_L_law.2.2.2.2.2 1062 = some (.iload_n 3, 1) := by rw [It_L_law]; rfl
theorem I_L_law_1063 : zin zm_L_law.2.2.2.2.2 1063 = some (.iconst 2, 1) := by rw [It_L_law]; rfl
theorem I_L_law_1064 : zin zm_L_law.2.2.2.2.2 1064 = some (.iadd, 1) := by rw [It_L_law]; rfl
theorem I_L_law_1065 : zin zm_L_law.2.2.2.2.2 1065 = some (.iaload, 1) := by rw [It_L_law]; rfl
theorem I_L_law_1066 : zin zm_L_law.2.2.2.2.2 1066 = some (.aload_n 0, 1) := by rw [It_L_law]; rfl
theorem I_L_law_1067 : zin zm_L_law.2.2.2.2.2 1067 = some (.iload_n 3, 1) := by rw [It_L_law]; rfl
theorem I_L_law_1068 : zin zm_L_law.2.2.2.2.2 1068 = some (.iconst 3, 1) := by rw [It_L_law]; rfl
theorem I_L_law_1069 : zin zm_L_law.2.2.2.2.2 1069 = some (.iadd, 1) := by rw [It_L_law]; rfl
theorem I_L_law_1070 : zin zm_L_law.2.2.2.2.2 1070 = some (.iaload, 1) := by rw [It_L_law]; rfl
theorem I_L_law_1071 : zin zm_L_law.2.2.2.2.2 1071 = some (.invokevirtual 151, 3) := by rw [It_L_law]; rfl
theorem I_L_law_1074 : zin zm_L_law.2.2.2.2.2 1074 = some (.pop, 1) := by rw [It_L_law]; rfl
theorem I_L_law_1075 : zin zm_L_law.2.2.2.2.2 1075 = some (.aload_n 2, 1) := by rw [It_L_law]; rfl
theorem I_L_law_1076 : zin zm_L_law.2.2.2.2.2 1076 = some (.aload_n 0, 1) := by rw [It_L_law]; rfl
theorem I_L_law_1077 : zin zm_L_law.2.2.2.2.2 1077 = some (.iload_n 3, 1) := by rw [It_L_law]; rfl
theorem I_L_law_1078 : zin zm_L_law.2.2.2.2.2 1078 = some (.iconst 1, 1) := by rw [It_L_law]; rfl
theorem I_L_law_1079 : zin zm_L_law.2.2.2.2.2 1079 = some (.iadd, 1) := by rw [It_L_law]; rfl
theorem I_L_law_1080 : zin zm_L_law.2.2.2.2.2 1080 = some (.iaload, 1) := by rw [It_L_law]; rfl
theorem I_L_law_1081 : zin zm_L_law.2.2.2.2.2 1081 = some (.aload_n 0, 1) := by rw [It_L_law]; rfl
theorem I_L_law_1082 : zin zm_L_law.2.2.2.2.2 1082 = some (.iload_n 3, 1) := by rw [It_L_law]; rfl
theorem I_L_law_1083 : zin zm_L_law.2.2.2.2.2 1083 = some (.iconst 2, 1) := by rw [It_L_law]; rfl
theorem I_L_law_1084 : zin zm_L_law.2.2.2.2.2 1084 = some (.iadd, 1) := by rw [It_L_law]; rfl
theorem I_L_law_1085 : zin zm_L_law.2.2.2.2.2 1085 = some (.iaload, 1) := by rw [It_L_law]; rfl
theorem I_L_law_1086 : zin zm_L_law.2.2.2.2.2 1086 = some (.aload_n 0, 1) := by rw [It_L_law]; rfl
theorem I_L_law_1087 : zin zm_L_law.2.2.2.2.2 1087 = some (.iload_n 3, 1) := by rw [It_L_law]; rfl
theorem I_L_law_1088 : zin zm_L_law.2.2.2.2.2 1088 = some (.iconst 3, 1) := by rw [It_L_law]; rfl
theorem I_L_law_1089 : zin zm_L_law.2.2.2.2.2 1089 = some (.iadd, 1) := by rw [It_L_law]; rfl
theorem I_L_law_1090 : zin zm_L_law.2.2.2.2.2 1090 = some (.iaload, 1) := by rw [It_L_law]; rfl
theorem I_L_law_1091 : zin zm_L_law.2.2.2.2.2 1091 = some (.invokevirtual 154, 3) := by rw [It_L_law]; rfl
theorem I_L_law_1094 : zin zm_L_law.2.2.2.2.2 1094 = some (.pop, 1) := by rw [It_L_law]; rfl
theorem I_L_law_1095 : zin zm_L_law.2.2.2.2.2 1095 = some (.goto 92, 3) := by rw [It_L_law]; rfl
theorem I_L_law_1098 : zin zm_L_law.2.2.2.2.2 1098 = some (.aload_n 1, 1) := by rw [It_L_law]; rfl
theorem I_L_law_1099 : zin zm_L_law.2.2.2.2.2 1099 = some (.aload_n 0, 1) := by rw [It_L_law]; rfl
theorem I_L_law_1100 : zin zm_L_law.2.2.2.2.2 1100 = some (.iload_n 3, 1) := by rw [It_L_law]; rfl
theorem I_L_law_1101 : zin zm_L_law.2.2.2.2.2 1101 = some (.iconst 1, 1) := by rw [It_L_law]; rfl
theorem I_L_law_1102 : zin zm_L_law.2.2.2.2.2 1102 = some (.iadd, 1) := by rw [It_L_law]; rfl
theorem I_L_law_1103 : zin zm_L_law.2.2.2.2.2 1103 = some (.iaload, 1) := by rw [It_L_law]; rfl
theorem I_L_law_1104 : zin zm_L_law.2.2.2.2.2 1104 = some (.aload_n 0, 1) := by rw [It_L_law]; rfl
theorem I_L_law_1105 : zin zm_L_law.2.2.2.2.2 1105 = some (.iload_n 3, 1) := by rw [It_L_law]; rfl
theorem I_L_law_1106 : zin zm_L_law.2.2.2.2.2 1106 = some (.iconst 2, 1) := by rw [It_L_law]; rfl
theorem I_L_law_1107 : zin zm_L_law.2.2.2.2.2 1107 = some (.iadd, 1) := by rw [It_L_law]; rfl
theorem I_L_law_1108 : zin zm_L_law.2.2.2.2.2 1108 = some (.iaload, 1) := by rw [It_L_law]; rfl
theorem I_L_law_1109 : zin zm_L_law.2.2.2.2.2 1109 = some (.aload_n 0, 1) := by rw [It_L_law]; rfl
theorem I_L_law_1110 : zin zm_L_law.2.2.2.2.2 1110 = some (.iload_n 3, 1) := by rw [It_L_law]; rfl
theorem I_L_law_1111 : zin zm_L_law.2.2.2.2.2 1111 = some (.iconst 3, 1) := by rw [It_L_law]; rfl
theorem I_L_law_1112 : zin zm_L_law.2.2.2.2.2 1112 = some (.iadd, 1) := by rw [It_L_law]; rfl
theorem I_L_law_1113 : zin zm_L_law.2.2.2.2.2 1113 = some (.iaload, 1) := by rw [It_L_law]; rfl
theorem I_L_law_1114 : zin zm_L_law.2.2.2.2.2 1114 = some (.aload_n 0, 1) := by rw [It_L_law]; rfl
theorem I_L_law_1115 : zin zm_L_law.2.2.2.2.2 1115 = some (.iload_n 3, 1) := by rw [It_L_law]; rfl
theorem I_L_law_1116 : zin zm_L_law.2.2.2.2.2 1116 = some (.iconst 4, 1) := by rw [It_L_law]; rfl
theorem I_L_law_1117 : zin zm_L_law.2.2.2.2.2 1117 = some (.iadd, 1) := by rw [It_L_law]; rfl
theorem I_L_law_1118 : zin zm_L_law.2.2.2.2.2 1118 = some (.iaload, 1) := by rw [It_L_law]; rfl
theorem I_L_law_1119 : zin zm_L_law.2.2.2.2.2 1119 = some (.invokevirtual 155, 3) := by rw [It_L_law]; rfl
theorem I_L_law_1122 : zin zm_L_law.2.2.2.2.2 1122 = some (.pop, 1) := by rw [It_L_law]; rfl
theorem I_L_law_1123 : zin zm_L_law.2.2.2.2.2 1123 = some (.aload_n 2, 1) := by rw [It_L_law]; rfl
theorem I_L_law_1124 : zin zm_L_law.2.2.2.2.2 1124 = some (.aload_n 0, 1) := by rw [It_L_law]; rfl
theorem I_L_law_1125 : zin zm_L_law.2.2.2.2.2 1125 = some (.iload_n 3, 1) := by rw [It_L_law]; rfl
theorem I_L_law_1126 : zin zm_L_law.2.2.2.2.2 1126 = some (.iconst 1, 1) := by rw [It_L_law]; rfl
theorem I_L_law_1127 : zin zm_L_law.2.2.2.2.2 1127 = some (.iadd, 1) := by rw [It_L_law]; rfl
theorem I_L_law_1128 : zin zm_L_law.2.2.2.2.2 1128 = some (.iaload, 1) := by rw [It_L_law]; rfl
theorem I_L_law_1129 : zin zm_L_law.2.2.2.2.2 1129 = some (.aload_n 0, 1) := by rw [It_L_law]; rfl
theorem I_L_law_1130 : zin zm_L_law.2.2.2.2.2 1130 = some (.iload_n 3, 1) := by rw [It_L_law]; rfl
theorem I_L_law_1131 : zin zm_L_law.2.2.2.2.2 1131 = some (.iconst 2, 1) := by rw [It_L_law]; rfl
theorem I_L_law_1132 : zin zm_L_law.2.2.2.2.2 1132 = some (.iadd, 1) := by rw [It_L_law]; rfl
theorem I_L_law_1133 : zin zm_L_law.2.2.2.2.2 1133 = some (.iaload, 1) := by rw [It_L_law]; rfl
theorem I_L_law_1134 : zin zm_L_law.2.2.2.2.2 1134 = some (.aload_n 0, 1) := by rw [It_L_law]; rfl
theorem I_L_law_1135 : zin zm_L_law.2.2.2.2.2 1135 = some (.iload_n 3, 1) := by rw [It_L_law]; rfl
theorem I_L_law_1136 : zin zm_L_law.2.2.2.2.2 1136 = some (.iconst 3, 1) := by rw [It_L_law]; rfl
theorem I_L_law_1137 : zin zm_L_law.2.2.2.2.2 1137 = some (.iadd, 1) := by rw [It_L_law]; rfl
theorem I_L_law_1138 : zin zm_L_law.2.2.2.2.2 1138 = some (.iaload, 1) := by rw [It_L_law]; rfl
theorem I_L_law_1139 : zin zm_L_law.2.2.2.2.2 1139 = some (.aload_n 0, 1) := by rw [It_L_law]; rfl
theorem I_L_law_1140 : zin zm_L_law.2.2.2.2.2 1140 = some (.iload_n 3, 1) := by rw [It_L_law]; rfl
theorem I_L_law_1141 : zin zm_L_law.2.2.2.2.2 1141 = some (.iconst 4, 1) := by rw [It_L_law]; rfl
theorem I_L_law_1142 : zin zm_L_law.2.2.2.2.2 1142 = some (.iadd, 1) := by rw [It_L_law]; rfl
theorem I_L_law_1143 : zin zm_L_law.2.2.2.2.2 1143 = some (.iaload, 1) := by rw [It_L_law]; rfl
theorem I_L_law_1144 : zin zm_L_law.2.2.2.2.2 1144 = some (.invokevirtual 159, 3) := by rw [It_L_law]; rfl
theorem I_L_law_1147 : zin zm_L_law.2.2.2.2.2 1147 = some (.pop, 1) := by rw [It_L_law]; rfl
theorem I_L_law_1148 : zin zm_L_law.2.2.2.2.2 1148 = some (.goto 39, 3) := by rw [It_L_law]; rfl
theorem I_L_law_1151 : zin zm_L_law.2.2.2.2.2 1151 = some (.aload_n 1, 1) := by rw [It_L_law]; rfl
theorem I_L_law_1152 : zin zm_L_law.2.2.2.2.2 1152 = some (.invokevirtual 160, 3) := by rw [It_L_law]; rfl
theorem I_L_law_1155 : zin zm_L_law.2.2.2.2.2 1155 = some (.pop, 1) := by rw [It_L_law]; rfl
theorem I_L_law_1156 : zin zm_L_law.2.2.2.2.2 1156 = some (.aload_n 2, 1) := by rw [It_L_law]; rfl
theorem I_L_law_1157 : zin zm_L_law.2.2.2.2.2 1157 = some (.invokevirtual 163, 3) := by rw [It_L_law]; rfl
theorem I_L_law_1160 : zin zm_L_law.2.2.2.2.2 1160 = some (.pop, 1) := by rw [It_L_law]; rfl
theorem I_L_law_1161 : zin zm_L_law.2.2.2.2.2 1161 = some (.goto 26, 3) := by rw [It_L_law]; rfl
theorem I_L_law_1164 : zin zm_L_law.2.2.2.2.2 1164 = some (.aload_n 1, 1) := by rw [It_L_law]; rfl
theorem I_L_law_1165 : zin zm_L_law.2.2.2.2.2 1165 = some (.aload_n 0, 1) := by rw [It_L_law]; rfl
theorem I_L_law_1166 : zin zm_L_law.2.2.2.2.2 1166 = some (.iload_n 3, 1) := by rw [It_L_law]; rfl
theorem I_L_law_1167 : zin zm_L_law.2.2.2.2.2 1167 = some (.iconst 1, 1) := by rw [It_L_law]; rfl
theorem I_L_law_1168 : zin zm_L_law.2.2.2.2.2 1168 = some (.iadd, 1) := by rw [It_L_law]; rfl
theorem I_L_law_1169 : zin zm_L_law.2.2.2.2.2 1169 = some (.iaload, 1) := by rw [It_L_law]; rfl
theorem I_L_law_1170 : zin zm_L_law.2.2.2.2.2 1170 = some (.invokevirtual 164, 3) := by rw [It_L_law]; rfl
theorem I_L_law_1173 : zin zm_L_law.2.2.2.2.2 1173 = some (.aload_n 2, 1) := by rw [It_L_law]; rfl
theorem I_L_law_1174 : zin zm_L_law.2.2.2.2.2 1174 = some (.aload_n 0, 1) := by rw [It_L_law]; rfl
theorem I_L_law_1175 : zin zm_L_law.2.2.2.2.2 1175 = some (.iload_n 3, 1) := by rw [It_L_law]; rfl
theorem I_L_law_1176 : zin zm_L_law.2.2.2.2.2 1176 = some (.iconst 1, 1) := by rw [It_L_law]; rfl
theorem I_L_law_1177 : zin zm_L_law.2.2.2.2.2 1177 = some (.iadd, 1) := by rw [It_L_law]; rfl
theorem I_L_law_1178 : zin zm_L_law.2.2.2.2.2 1178 = some (.iaload, 1) := by rw [It_L_law]; rfl
theorem I_L_law_1179 : zin zm_L_law.2.2.2.2.2 1179 = some (.invokevirtual 167, 3) := by rw [It_L_law]; rfl
theorem I_L_law_1182 : zin zm_L_law.2.2.2.2.2 1182 = some (.if_icmp .eq 5, 3) := by rw [It_L_law]; rfl
theorem I_L_law_1185 : zin zm_L_law.2.2.2.2.2 1185 = some (.iconst 0, 1) := by rw [It_L_law]; rfl
theorem I_L_law_1186 : zin zm_L_law.2.2.2.2.2 1186 = some (.ireturn, 1) := by rw [It_L_law]; rfl
theorem I_L_law_1187 : zin zm_L_law.2.2.2.2.2 1187 = some (.iinc 3 5, 3) := by rw [It_L_law]; rfl
theorem I_L_law_1190 : zin zm_L_law.2.2.2.2.2 1190 = some (.goto (-1172), 3) := by rw [It_L_law]; rfl
theorem I_L_law_1193 : zin zm_L_law.2.2.2.2.2 1193 = some (.iconst 1, 1) := by rw [It_L_law]; rfl
theorem I_L_law_1194 : zin zm_L_law.2.2.2.2.2 1194 = some (.ireturn, 1) := by rw [It_L_law]; rfl
theorem K_9_13 : zlk zmls 9 13 = some (0, 65, 1, 327) := rfl
theorem K_9_17 : zlk zmls 9 17 = some (0, 115, 1, 935) := rfl
theorem K_9_18 : zlk zmls 9 18 = some (0, 66, 1, 331) := rfl
theorem K_9_21 : zlk zmls 9 21 = some (0, 116, 1, 943) := rfl
theorem K_9_22 : zlk zmls 9 22 = some (0, 67, 0, 335) := rfl
theorem K_9_26 : zlk zmls 9 26 = some (0, 125, 0, 947) := rfl
theorem K_9_27 : zlk zmls 9 27 = some (0, 68, 0, 479) := rfl
theorem K_9_30 : zlk zmls 9 30 = some (0, 126, 0, 988) := rfl
theorem K_9_31 : zlk zmls 9 31 = some (0, 69, 1, 483) := rfl
theorem K_9_34 : zlk zmls 9 34 = some (0, 133, 1, 992) := rfl
theorem K_9_35 : zlk zmls 9 35 = some (0, 70, 2, 511) := rfl
theorem K_9_39 : zlk zmls 9 39 = some (0, 134, 2, 1012) := rfl
theorem K_9_40 : zlk zmls 9 40 = some (0, 71, 1, 524) := rfl
theorem K_9_43 : zlk zmls 9 43 = some (0, 135, 1, 1020) := rfl
theorem K_9_44 : zlk zmls 9 44 = some (0, 72, 3, 528) := rfl
theorem K_9_48 : zlk zmls 9 48 = some (0, 137, 3, 1024) := rfl
theorem K_9_49 : zlk zmls 9 49 = some (0, 74, 1, 536) := rfl
theorem K_9_52 : zlk zmls 9 52 = some (0, 138, 1, 1035) := rfl
theorem K_9_53 : zlk zmls 9 53 = some (0, 75, 1, 540) := rfl
theorem K_9_56 : zlk zmls 9 56 = some (0, 140, 1, 1040) := rfl
theorem K_9_57 : zlk zmls 9 57 = some (0, 76, 1, 548) := rfl
theorem K_9_60 : zlk zmls 9 60 = some (0, 141, 1, 1048) := rfl
theorem K_9_61 : zlk zmls 9 61 = some (0, 77, 1, 552) := rfl
theorem K_9_64 : zlk zmls 9 64 = some (0, 145, 1, 1052) := rfl
theorem K_9_65 : zlk zmls 9 65 = some (0, 78, 1, 575) := rfl
theorem K_9_68 : zlk zmls 9 68 = some (0, 146, 1, 1064) := rfl
theorem K_9_69 : zlk zmls 9 69 = some (0, 79, 1, 590) := rfl
theorem K_9_72 : zlk zmls 9 72 = some (0, 150, 1, 1072) := rfl
theorem K_9_73 : zlk zmls 9 73 = some (0, 80, 1, 616) := rfl
theorem K_9_76 : zlk zmls 9 76 = some (0, 151, 1, 1092) := rfl
theorem K_9_77 : zlk zmls 9 77 = some (0, 81, 0, 620) := rfl
theorem K_9_80 : zlk zmls 9 80 = some (0, 152, 0, 1096) := rfl
theorem K_9_81 : zlk zmls 9 81 = some (0, 83, 2, 624) := rfl
theorem K_9_84 : zlk zmls 9 84 = some (0, 156, 2, 1100) := rfl
theorem K_9_85 : zlk zmls 9 85 = some (0, 84, 2, 657) := rfl
theorem K_9_88 : zlk zmls 9 88 = some (0, 158, 2, 1115) := rfl
theorem K_9_89 : zlk zmls 9 89 = some (0, 86, 1, 670) := rfl
theorem K_9_92 : zlk zmls 9 92 = some (0, 159, 1, 1124) := rfl
theorem K_9_93 : zlk zmls 9 93 = some (0, 87, 1, 675) := rfl
theorem K_9_96 : zlk zmls 9 96 = some (0, 160, 1, 1128) := rfl
theorem K_9_97 : zlk zmls 9 97 = some (0, 89, 1, 684) := rfl
theorem K_9_100 : zlk zmls 9 100 = some (0, 161, 1, 1132) := rfl
theorem K_9_101 : zlk zmls 9 101 = some (0, 90, 0, 693) := rfl
theorem K_9_104 : zlk zmls 9 104 = some (0, 162, 0, 1136) := rfl
theorem K_9_105 : zlk zmls 9 105 = some (0, 92, 2, 701) := rfl
theorem K_9_109 : zlk zmls 9 109 = some (0, 165, 2, 1140) := rfl
theorem K_9_110 : zlk zmls 9 110 = some (0, 93, 3, 725) := rfl
theorem K_9_114 : zlk zmls 9 114 = some (0, 166, 3, 1152) := rfl
theorem K_9_115 : zlk zmls 9 115 = some (0, 99, 2, 729) := rfl
theorem K_9_118 : zlk zmls 9 118 = some (0, 167, 2, 1156) := rfl
theorem K_9_119 : zlk zmls 9 119 = some (0, 100, 1, 737) := rfl
theorem K_9_122 : zlk zmls 9 122 = some (0, 168, 1, 1161) := rfl
theorem K_9_123 : zlk zmls 9 123 = some (0, 101, 2, 741) := rfl
theorem K_9_126 : zlk zmls 9 126 = some (0, 171, 2, 1165) := rfl
theorem K_9_127 : zlk zmls 9 127 = some (0, 102, 0, 749) := rfl
theorem K_9_130 : zlk zmls 9 130 = some (0, 172, 0, 1177) := rfl
theorem K_9_131 : zlk zmls 9 131 = some (0, 103, 2, 753) := rfl
theorem K_9_134 : zlk zmls 9 134 = some (0, 173, 2, 1181) := rfl
theorem K_9_135 : zlk zmls 9 135 = some (0, 105, 3, 775) := rfl
theorem K_9_138 : zlk zmls 9 138 = some (0, 174, 3, 1185) := rfl
theorem K_9_139 : zlk zmls 9 139 = some (0, 106, 1, 780) := rfl
theorem K_9_142 : zlk zmls 9 142 = some (0, 175, 1, 1191) := rfl
theorem K_9_143 : zlk zmls 9 143 = some (0, 107, 1, 784) := rfl
theorem K_9_146 : zlk zmls 9 146 = some (0, 176, 1, 1195) := rfl
theorem K_9_147 : zlk zmls 9 147 = some (0, 108, 3, 788) := rfl
theorem K_9_150 : zlk zmls 9 150 = some (0, 177, 3, 1199) := rfl
theorem K_9_151 : zlk zmls 9 151 = some (0, 109, 3, 797) := rfl
theorem K_9_154 : zlk zmls 9 154 = some (0, 178, 3, 1203) := rfl
theorem K_9_155 : zlk zmls 9 155 = some (0, 110, 4, 809) := rfl
theorem K_9_159 : zlk zmls 9 159 = some (0, 179, 4, 1207) := rfl
theorem K_9_160 : zlk zmls 9 160 = some (0, 111, 0, 818) := rfl
theorem K_9_163 : zlk zmls 9 163 = some (0, 180, 0, 1212) := rfl
theorem K_9_164 : zlk zmls 9 164 = some (0, 112, 1, 822) := rfl
theorem K_9_167 : zlk zmls 9 167 = some (0, 181, 1, 1216) := rfl
section
variable {ys : List Int32} {d : Nat} {mi : zMi} {pc q : Nat} {L sk : List Value} {m : zM} {r : Option Value} {h' : zHp}
theorem i_scl (H : zE (some ys) d mi pc L (.retAddr 0 :: sk) m r h') (hi : zin mi.2.2.2.2.2 pc = some (.arraylength, 1)) (hq : pc + 1 = q) : zE (some ys) d mi q L (.int (Int32.ofNat ys.length) :: sk) m r h' := by
  subst hq
  refine i_p H hi (fun lo => ?_)
  simp [zst, zg]
theorem i_sca {x : Int32} (H : zE (some ys) d mi pc L (.int x :: .retAddr 0 :: sk) m r h') (hi : zin mi.2.2.2.2.2 pc = some (.iaload, 1)) (hq : pc + 1 = q) : zE (some ys) d mi q L (.int (ys.getD x.toNatClampNeg 0) :: sk) m r h' := by
  obtain ⟨lo, h1, h2⟩ := H
  obtain ⟨y, hy⟩ := zEv_is h2
  rw [zstep_of hi] at hy
  refine ⟨lo, h1, zEv_i1 h2 ((zstep_of hi).trans ?_)⟩
  subst hq
  simp only [zst, zg, zpi, if_true, Option.bind_some, Option.bind_eq_some_iff] at hy ⊢
  obtain ⟨u, hu, v, hv, _⟩ := hy
  exact ⟨u, hu, v, hv, by rw [List.getD_eq_getElem?_getD, hv]; rfl⟩
theorem i_cvr0 {i id : Nat} {e : Nat} {a0 : Value} {mi1 : zMi} (H : zE (some ys) d mi pc L (a0 :: sk) m r h') (hi : zin mi.2.2.2.2.2 pc = some (.invokevirtual i, 3)) (hf : zlk zmls mi.2.2.2.2.1 i = some (0, id, 0, e)) (hm : zms[id]? = some mi1) (hq : pc + 3 = q) : ∃ r1 h1, zEv none (d - 1) mi1 (0, lv_args 0 [a0], [], zhp m) r1 h1 ∧ (∀ v m1, r1 = some v → h1 = zhp m1 → zE (some ys) d mi q L (v :: sk) m1 r h') := by
  obtain ⟨lo, h1, h2⟩ := H
  obtain ⟨y, hy⟩ := zEv_is h2
  have hy0 := hy
  rw [zstep_of hi] at hy
  simp only [zst, zg, if_true, Option.bind_some, hf, Option.bind_eq_some_iff] at hy
  obtain ⟨u, hu, hw⟩ := hy
  cases hw
  subst hq
  obtain ⟨r1, g1, x1, x2⟩ := zEv_ic h2 hy0 hm
  refine ⟨r1, g1, x1, fun v m1 hr hg => ?_⟩
  subst hr; subst hg
  exact ⟨lo, h1, x2⟩
theorem i_cvr1 {i id : Nat} {e : Nat} {a0 a1 : Value} {mi1 : zMi} (H : zE (some ys) d mi pc L (a1 :: a0 :: sk) m r h') (hi : zin mi.2.2.2.2.2 pc = some (.invokevirtual i, 3)) (hf : zlk zmls mi.2.2.2.2.1 i = some (0, id, 1, e)) (hm : zms[id]? = some mi1) (hq : pc + 3 = q) : ∃ r1 h1, zEv none (d - 1) mi1 (0, lv_args 0 [a0, a1], [], zhp m) r1 h1 ∧ (∀ v m1, r1 = some v → h1 = zhp m1 → zE (some ys) d mi q L (v :: sk) m1 r h') := by
  obtain ⟨lo, h1, h2⟩ := H
  obtain ⟨y, hy⟩ := zEv_is h2
  have hy0 := hy
  rw [zstep_of hi] at hy
  simp only [zst, zg, if_true, Option.bind_some, hf, Option.bind_eq_some_iff] at hy
  obtain ⟨u, hu, hw⟩ := hy
  cases hw
  subst hq
  obtain ⟨r1, g1, x1, x2⟩ := zEv_ic h2 hy0 hm
  refine ⟨r1, g1, x1, fun v m1 hr hg => ?_⟩
  subst hr; subst hg
  exact ⟨lo, h1, x2⟩
theorem i_cvr2 {i id : Nat} {e : Nat} {a0 a1 a2 : Value} {mi1 : zMi} (H : zE (some ys) d mi pc L (a2 :: a1 :: a0 :: sk) m r h') (hi : zin mi.2.2.2.2.2 pc = some (.invokevirtual i, 3)) (hf : zlk zmls mi.2.2.2.2.1 i = some (0, id, 2, e)) (hm : zms[id]? = some mi1) (hq : pc + 3 = q) : ∃ r1 h1, zEv none (d - 1) mi1 (0, lv_args 0 [a0, a1, a2], [], zhp m) r1 h1 ∧ (∀ v m1, r1 = some v → h1 = zhp m1 → zE (some ys) d mi q L (v :: sk) m1 r h') := by
  obtain ⟨lo, h1, h2⟩ := H
  obtain ⟨y, hy⟩ := zEv_is h2
  have hy0 := hy
  rw [zstep_of hi] at hy
  simp only [zst, zg, if_true, Option.bind_some, hf, Option.bind_eq_some_iff] at hy
  obtain ⟨u, hu, hw⟩ := hy
  cases hw
  subst hq
  obtain ⟨r1, g1, x1, x2⟩ := zEv_ic h2 hy0 hm
  refine ⟨r1, g1, x1, fun v m1 hr hg => ?_⟩
  subst hr; subst hg
  exact ⟨lo, h1, x2⟩
theorem i_cvr3 {i id : Nat} {e : Nat} {a0 a1 a2 a3 : Value} {mi1 : zMi} (H : zE (some ys) d mi pc L (a3 :: a2 :: a1 :: a0 :: sk) m r h') (hi : zin mi.2.2.2.2.2 pc = some (.invokevirtual i, 3)) (hf : zlk zmls mi.2.2.2.2.1 i = some (0, id, 3, e)) (hm : zms[id]? = some mi1) (hq : pc + 3 = q) : ∃ r1 h1, zEv none (d - 1) mi1 (0, lv_args 0 [a0, a1, a2, a3], [], zhp m) r1 h1 ∧ (∀ v m1, r1 = some v → h1 = zhp m1 → zE (some ys) d mi q L (v :: sk) m1 r h') := by
  obtain ⟨lo, h1, h2⟩ := H
  obtain ⟨y, hy⟩ := zEv_is h2
  have hy0 := hy
  rw [zstep_of hi] at hy
  simp only [zst, zg, if_true, Option.bind_some, hf, Option.bind_eq_some_iff] at hy
  obtain ⟨u, hu, hw⟩ := hy
  cases hw
  subst hq
  obtain ⟨r1, g1, x1, x2⟩ := zEv_ic h2 hy0 hm
  refine ⟨r1, g1, x1, fun v m1 hr hg => ?_⟩
  subst hr; subst hg
  exact ⟨lo, h1, x2⟩
theorem i_cvr4 {i id : Nat} {e : Nat} {a0 a1 a2 a3 a4 : Value} {mi1 : zMi} (H : zE (some ys) d mi pc L (a4 :: a3 :: a2 :: a1 :: a0 :: sk) m r h') (hi : zin mi.2.2.2.2.2 pc = some (.invokevirtual i, 3)) (hf : zlk zmls mi.2.2.2.2.1 i = some (0, id, 4, e)) (hm : zms[id]? = some mi1) (hq : pc + 3 = q) : ∃ r1 h1, zEv none (d - 1) mi1 (0, lv_args 0 [a0, a1, a2, a3, a4], [], zhp m) r1 h1 ∧ (∀ v m1, r1 = some v → h1 = zhp m1 → zE (some ys) d mi q L (v :: sk) m1 r h') := by
  obtain ⟨lo, h1, h2⟩ := H
  obtain ⟨y, hy⟩ := zEv_is h2
  have hy0 := hy
  rw [zstep_of hi] at hy
  simp only [zst, zg, if_true, Option.bind_some, hf, Option.bind_eq_some_iff] at hy
  obtain ⟨u, hu, hw⟩ := hy
  cases hw
  subst hq
  obtain ⟨r1, g1, x1, x2⟩ := zEv_ic h2 hy0 hm
  refine ⟨r1, g1, x1, fun v m1 hr hg => ?_⟩
  subst hr; subst hg
  exact ⟨lo, h1, x2⟩
end
theorem zofn_5 {i : Nat} : Int32.ofNat i + Int32.ofInt 5 = Int32.ofNat (i + 5) := by
  rw [Int32.ofNat_add]
  rfl
theorem law_lt : ∀ k, k < 5 → (Int32.ofNat k - 5).toInt < 0 := by decide
theorem law_c {len i : Nat} (hl : len ≤ 2560) (hi : i ≤ 3000) (h : ¬ (Int32.ofNat len - 5) < Int32.ofNat i) : i + 5 ≤ len := by
  rcases Nat.lt_or_ge len 5 with w | w
  · have := law_lt len w
    rw [Int32.lt_iff_toInt_lt, zofn_t (by omega)] at h
    omega
  · rw [show (5 : Int32) = Int32.ofNat 5 from rfl, ← zofn_sub w, zofn_lt (by omega) (by omega)] at h
    omega
set_option maxRecDepth 100000 in
set_option maxHeartbeats 4000000 in
theorem law_l {ys : List Int32} (hL : ys.length ≤ 2560) : ∀ (j i : Nat) (m : zM) (r : Option Value) (h' : zHp), ys.length - i ≤ j → i ≤ 2565 → zTy m → RF m → zE (some ys) 20 zm_L_law 18 [.retAddr 0, .ref 0, .ref 71, .int (Int32.ofNat i)] [] m r h' → r = some (.int 1) := by
  intro j
  induction j with
  | zero =>
    intro i m r h' hj hi ht hR H
    replace H := i_iln (q := 19) H I_L_law_18 rfl rfl
    replace H := i_xln (q := 20) H I_L_law_19 rfl rfl
    replace H := i_scl (q := 21) H I_L_law_20 rfl
    replace H := i_icst (x := 5) (q := 22) H I_L_law_21 (by decide) rfl
    replace H := i_isub (q := 23) H I_L_law_22 rfl
    have W := i_ic_gt (t := 1193) (q := 26) H I_L_law_23 (by decide) rfl
    clear H
    rcases W with ⟨c_23, H⟩ | ⟨c_23, H⟩
    · skip
      replace H := i_icst (x := 1) (q := 1194) H I_L_law_1193 (by decide) rfl
      obtain ⟨hr, hh⟩ := i_ir H I_L_law_1194
      exact hr
    · skip
      have hi5 := law_c hL (by omega) c_23
      omega
  | succ j ih =>
    intro i m r h' hj hi ht hR H
    replace H := i_iln (q := 19) H I_L_law_18 rfl rfl
    replace H := i_xln (q := 20) H I_L_law_19 rfl rfl
    replace H := i_scl (q := 21) H I_L_law_20 rfl
    replace H := i_icst (x := 5) (q := 22) H I_L_law_21 (by decide) rfl
    replace H := i_isub (q := 23) H I_L_law_22 rfl
    have W := i_ic_gt (t := 1193) (q := 26) H I_L_law_23 (by decide) rfl
    clear H
    rcases W with ⟨c_23, H⟩ | ⟨c_23, H⟩
    · skip
      replace H := i_icst (x := 1) (q := 1194) H I_L_law_1193 (by decide) rfl
      obtain ⟨hr, hh⟩ := i_ir H I_L_law_1194
      exact hr
    · have hi5 := law_c hL (by omega) c_23
      replace H := i_xln (q := 27) H I_L_law_26 rfl rfl
      replace H := i_iln (q := 28) H I_L_law_27 rfl rfl
      replace H := i_sca (q := 29) H I_L_law_28 rfl
      replace H := i_bip (x := 63) (q := 31) H I_L_law_29 (by decide) rfl
      replace H := i_iand (q := 32) H I_L_law_31 rfl
      have W := i_ts1 0 (q := 196) H I_L_law_32 (by decide) rfl (by decide)
      clear H
      rcases W with ⟨w_32_0, H⟩ | ⟨w_32_0, H⟩
      · skip
        replace H := i_aln (q := 197) H I_L_law_196 rfl rfl
        replace H := i_xln (q := 198) H I_L_law_197 rfl rfl
        replace H := i_iln (q := 199) H I_L_law_198 rfl rfl
        replace H := i_icst (x := 1) (q := 200) H I_L_law_199 (by decide) rfl
        replace H := i_iadd (q := 201) H I_L_law_200 rfl
        replace H := i_sca (q := 202) H I_L_law_201 rfl
        have W := i_cvr1 (q := 205) H I_L_law_202 K_9_13 Zm_65 rfl
        clear H
        obtain ⟨r1, h1, Hc, K1⟩ := W
        obtain ⟨M_202, v_202, e1, e2, T_202, P_202⟩ := pf_feed ht hR Hc
        have H := K1 _ _ e1 e2
        clear e1 e2 Hc K1
        replace H := i_pop (q := 206) H I_L_law_205 rfl rfl
        replace H := i_aln (q := 207) H I_L_law_206 rfl rfl
        replace H := i_xln (q := 208) H I_L_law_207 rfl rfl
        replace H := i_iln (q := 209) H I_L_law_208 rfl rfl
        replace H := i_icst (x := 1) (q := 210) H I_L_law_209 (by decide) rfl
        replace H := i_iadd (q := 211) H I_L_law_210 rfl
        replace H := i_sca (q := 212) H I_L_law_211 rfl
        have W := i_cvr1 (q := 215) H I_L_law_212 K_9_17 Zm_115 rfl
        clear H
        obtain ⟨r1, h1, Hc, K1⟩ := W
        obtain ⟨M_212, v_212, e1, e2, T_212, R_212⟩ := P_202 _ _ Hc
        have H := K1 _ _ e1 e2
        clear e1 e2 Hc K1
        replace H := i_pop (q := 216) H I_L_law_215 rfl rfl
        replace H := i_goto (q := 1187) H I_L_law_216 (by decide)
        replace H := i_inc (q := 1190) H I_L_law_1187 rfl rfl rfl
        replace H := i_goto (q := 18) H I_L_law_1190 (by decide)
        replace H : zE (some ys) 20 zm_L_law 18 [.retAddr 0, .ref 0, .ref 71, .int (Int32.ofNat (i + 5))] [] M_212 r h' := by
          rw [zofn_5] at H
          exact H
        exact ih (i + 5) _ r h' (by omega) (by omega) T_212 R_212 H
      · skip
        have W := i_ts1 1 (q := 219) H I_L_law_32 (by decide) rfl (by decide)
        clear H
        rcases W with ⟨w_32_1, H⟩ | ⟨w_32_1, H⟩
        · skip
          replace H := i_aln (q := 220) H I_L_law_219 rfl rfl
          replace H := i_xln (q := 221) H I_L_law_220 rfl rfl
          replace H := i_iln (q := 222) H I_L_law_221 rfl rfl
          replace H := i_icst (x := 1) (q := 223) H I_L_law_222 (by decide) rfl
          replace H := i_iadd (q := 224) H I_L_law_223 rfl
          replace H := i_sca (q := 225) H I_L_law_224 rfl
          have W := i_cvr1 (q := 228) H I_L_law_225 K_9_18 Zm_66 rfl
          clear H
          obtain ⟨r1, h1, Hc, K1⟩ := W
          obtain ⟨M_225, v_225, e1, e2, T_225, P_225⟩ := pf_end ht hR Hc
          have H := K1 _ _ e1 e2
          clear e1 e2 Hc K1
          replace H := i_pop (q := 229) H I_L_law_228 rfl rfl
          replace H := i_aln (q := 230) H I_L_law_229 rfl rfl
          replace H := i_xln (q := 231) H I_L_law_230 rfl rfl
          replace H := i_iln (q := 232) H I_L_law_231 rfl rfl
          replace H := i_icst (x := 1) (q := 233) H I_L_law_232 (by decide) rfl
          replace H := i_iadd (q := 234) H I_L_law_233 rfl
          replace H := i_sca (q := 235) H I_L_law_234 rfl
          have W := i_cvr1 (q := 238) H I_L_law_235 K_9_21 Zm_116 rfl
          clear H
          obtain ⟨r1, h1, Hc, K1⟩ := W
          obtain ⟨M_235, v_235, e1, e2, T_235, R_235⟩ := P_225 _ _ Hc
          have H := K1 _ _ e1 e2
          clear e1 e2 Hc K1
          replace H := i_pop (q := 239) H I_L_law_238 rfl rfl
          replace H := i_goto (q := 1187) H I_L_law_239 (by decide)
          replace H := i_inc (q := 1190) H I_L_law_1187 rfl rfl rfl
          replace H := i_goto (q := 18) H I_L_law_1190 (by decide)
          replace H : zE (some ys) 20 zm_L_law 18 [.retAddr 0, .ref 0, .ref 71, .int (Int32.ofNat (i + 5))] [] M_235 r h' := by
            rw [zofn_5] at H
            exact H
          exact ih (i + 5) _ r h' (by omega) (by omega) T_235 R_235 H
        · skip
          have W := i_ts1 2 (q := 242) H I_L_law_32 (by decide) rfl (by decide)
          clear H
          rcases W with ⟨w_32_2, H⟩ | ⟨w_32_2, H⟩
          · skip
            replace H := i_aln (q := 243) H I_L_law_242 rfl rfl
            have W := i_cvr0 (q := 246) H I_L_law_243 K_9_22 Zm_67 rfl
            clear H
            obtain ⟨r1, h1, Hc, K1⟩ := W
            obtain ⟨M_243, v_243, e1, e2, T_243, P_243⟩ := pf_text ht hR Hc
            have H := K1 _ _ e1 e2
            clear e1 e2 Hc K1
            replace H := i_pop (q := 247) H I_L_law_246 rfl rfl
            replace H := i_aln (q := 248) H I_L_law_247 rfl rfl
            have W := i_cvr0 (q := 251) H I_L_law_248 K_9_26 Zm_125 rfl
            clear H
            obtain ⟨r1, h1, Hc, K1⟩ := W
            obtain ⟨M_248, v_248, e1, e2, T_248, R_248⟩ := P_243 _ _ Hc
            have H := K1 _ _ e1 e2
            clear e1 e2 Hc K1
            replace H := i_pop (q := 252) H I_L_law_251 rfl rfl
            replace H := i_goto (q := 1187) H I_L_law_252 (by decide)
            replace H := i_inc (q := 1190) H I_L_law_1187 rfl rfl rfl
            replace H := i_goto (q := 18) H I_L_law_1190 (by decide)
            replace H : zE (some ys) 20 zm_L_law 18 [.retAddr 0, .ref 0, .ref 71, .int (Int32.ofNat (i + 5))] [] M_248 r h' := by
              rw [zofn_5] at H
              exact H
            exact ih (i + 5) _ r h' (by omega) (by omega) T_248 R_248.1 H
          · skip
            have W := i_ts1 3 (q := 255) H I_L_law_32 (by decide) rfl (by decide)
            clear H
            rcases W with ⟨w_32_3, H⟩ | ⟨w_32_3, H⟩
            · skip
              replace H := i_aln (q := 256) H I_L_law_255 rfl rfl
              have W := i_cvr0 (q := 259) H I_L_law_256 K_9_27 Zm_68 rfl
              clear H
              obtain ⟨r1, h1, Hc, K1⟩ := W
              obtain ⟨M_256, v_256, e1, e2, T_256, P_256⟩ := pf_fault ht hR Hc
              have H := K1 _ _ e1 e2
              clear e1 e2 Hc K1
              replace H := i_pop (q := 260) H I_L_law_259 rfl rfl
              replace H := i_aln (q := 261) H I_L_law_260 rfl rfl
              have W := i_cvr0 (q := 264) H I_L_law_261 K_9_30 Zm_126 rfl
              clear H
              obtain ⟨r1, h1, Hc, K1⟩ := W
              obtain ⟨M_261, v_261, e1, e2, T_261, R_261⟩ := P_256 _ _ Hc
              have H := K1 _ _ e1 e2
              clear e1 e2 Hc K1
              replace H := i_pop (q := 265) H I_L_law_264 rfl rfl
              replace H := i_goto (q := 1187) H I_L_law_265 (by decide)
              replace H := i_inc (q := 1190) H I_L_law_1187 rfl rfl rfl
              replace H := i_goto (q := 18) H I_L_law_1190 (by decide)
              replace H : zE (some ys) 20 zm_L_law 18 [.retAddr 0, .ref 0, .ref 71, .int (Int32.ofNat (i + 5))] [] M_261 r h' := by
                rw [zofn_5] at H
                exact H
              exact ih (i + 5) _ r h' (by omega) (by omega) T_261 R_261 H
            · skip
              have W := i_ts1 4 (q := 268) H I_L_law_32 (by decide) rfl (by decide)
              clear H
              rcases W with ⟨w_32_4, H⟩ | ⟨w_32_4, H⟩
              · skip
                replace H := i_aln (q := 269) H I_L_law_268 rfl rfl
                replace H := i_xln (q := 270) H I_L_law_269 rfl rfl
                replace H := i_iln (q := 271) H I_L_law_270 rfl rfl
                replace H := i_icst (x := 1) (q := 272) H I_L_law_271 (by decide) rfl
                replace H := i_iadd (q := 273) H I_L_law_272 rfl
                replace H := i_sca (q := 274) H I_L_law_273 rfl
                have W := i_cvr1 (q := 277) H I_L_law_274 K_9_31 Zm_69 rfl
                clear H
                obtain ⟨r1, h1, Hc, K1⟩ := W
                obtain ⟨M_274, v_274, e1, e2, T_274, P_274⟩ := pf_rule ht hR Hc
                have H := K1 _ _ e1 e2
                clear e1 e2 Hc K1
                replace H := i_pop (q := 278) H I_L_law_277 rfl rfl
                replace H := i_aln (q := 279) H I_L_law_278 rfl rfl
                replace H := i_xln (q := 280) H I_L_law_279 rfl rfl
                replace H := i_iln (q := 281) H I_L_law_280 rfl rfl
                replace H := i_icst (x := 1) (q := 282) H I_L_law_281 (by decide) rfl
                replace H := i_iadd (q := 283) H I_L_law_282 rfl
                replace H := i_sca (q := 284) H I_L_law_283 rfl
                have W := i_cvr1 (q := 287) H I_L_law_284 K_9_34 Zm_133 rfl
                clear H
                obtain ⟨r1, h1, Hc, K1⟩ := W
                obtain ⟨M_284, v_284, e1, e2, T_284, R_284⟩ := P_274 _ _ Hc
                have H := K1 _ _ e1 e2
                clear e1 e2 Hc K1
                replace H := i_pop (q := 288) H I_L_law_287 rfl rfl
                replace H := i_goto (q := 1187) H I_L_law_288 (by decide)
                replace H := i_inc (q := 1190) H I_L_law_1187 rfl rfl rfl
                replace H := i_goto (q := 18) H I_L_law_1190 (by decide)
                replace H : zE (some ys) 20 zm_L_law 18 [.retAddr 0, .ref 0, .ref 71, .int (Int32.ofNat (i + 5))] [] M_284 r h' := by
                  rw [zofn_5] at H
                  exact H
                exact ih (i + 5) _ r h' (by omega) (by omega) T_284 R_284.1 H
              · skip
                have W := i_ts1 5 (q := 291) H I_L_law_32 (by decide) rfl (by decide)
                clear H
                rcases W with ⟨w_32_5, H⟩ | ⟨w_32_5, H⟩
                · skip
                  replace H := i_aln (q := 292) H I_L_law_291 rfl rfl
                  replace H := i_xln (q := 293) H I_L_law_292 rfl rfl
                  replace H := i_iln (q := 294) H I_L_law_293 rfl rfl
                  replace H := i_icst (x := 1) (q := 295) H I_L_law_294 (by decide) rfl
                  replace H := i_iadd (q := 296) H I_L_law_295 rfl
                  replace H := i_sca (q := 297) H I_L_law_296 rfl
                  replace H := i_xln (q := 298) H I_L_law_297 rfl rfl
                  replace H := i_iln (q := 299) H I_L_law_298 rfl rfl
                  replace H := i_icst (x := 2) (q := 300) H I_L_law_299 (by decide) rfl
                  replace H := i_iadd (q := 301) H I_L_law_300 rfl
                  replace H := i_sca (q := 302) H I_L_law_301 rfl
                  have W := i_cvr2 (q := 305) H I_L_law_302 K_9_35 Zm_70 rfl
                  clear H
                  obtain ⟨r1, h1, Hc, K1⟩ := W
                  obtain ⟨M_302, v_302, e1, e2, T_302, P_302⟩ := pf_one ht hR Hc
                  have H := K1 _ _ e1 e2
                  clear e1 e2 Hc K1
                  replace H := i_pop (q := 306) H I_L_law_305 rfl rfl
                  replace H := i_aln (q := 307) H I_L_law_306 rfl rfl
                  replace H := i_xln (q := 308) H I_L_law_307 rfl rfl
                  replace H := i_iln (q := 309) H I_L_law_308 rfl rfl
                  replace H := i_icst (x := 1) (q := 310) H I_L_law_309 (by decide) rfl
                  replace H := i_iadd (q := 311) H I_L_law_310 rfl
                  replace H := i_sca (q := 312) H I_L_law_311 rfl
                  replace H := i_xln (q := 313) H I_L_law_312 rfl rfl
                  replace H := i_iln (q := 314) H I_L_law_313 rfl rfl
                  replace H := i_icst (x := 2) (q := 315) H I_L_law_314 (by decide) rfl
                  replace H := i_iadd (q := 316) H I_L_law_315 rfl
                  replace H := i_sca (q := 317) H I_L_law_316 rfl
                  have W := i_cvr2 (q := 320) H I_L_law_317 K_9_39 Zm_134 rfl
                  clear H
                  obtain ⟨r1, h1, Hc, K1⟩ := W
                  obtain ⟨M_317, v_317, e1, e2, T_317, R_317⟩ := P_302 _ _ Hc
                  have H := K1 _ _ e1 e2
                  clear e1 e2 Hc K1
                  replace H := i_pop (q := 321) H I_L_law_320 rfl rfl
                  replace H := i_goto (q := 1187) H I_L_law_321 (by decide)
                  replace H := i_inc (q := 1190) H I_L_law_1187 rfl rfl rfl
                  replace H := i_goto (q := 18) H I_L_law_1190 (by decide)
                  replace H : zE (some ys) 20 zm_L_law 18 [.retAddr 0, .ref 0, .ref 71, .int (Int32.ofNat (i + 5))] [] M_317 r h' := by
                    rw [zofn_5] at H
                    exact H
                  exact ih (i + 5) _ r h' (by omega) (by omega) T_317 R_317.1 H
                · skip
                  have W := i_ts1 6 (q := 324) H I_L_law_32 (by decide) rfl (by decide)
                  clear H
                  rcases W with ⟨w_32_6, H⟩ | ⟨w_32_6, H⟩
                  · skip
                    replace H := i_aln (q := 325) H I_L_law_324 rfl rfl
                    replace H := i_xln (q := 326) H I_L_law_325 rfl rfl
                    replace H := i_iln (q := 327) H I_L_law_326 rfl rfl
                    replace H := i_icst (x := 1) (q := 328) H I_L_law_327 (by decide) rfl
                    replace H := i_iadd (q := 329) H I_L_law_328 rfl
                    replace H := i_sca (q := 330) H I_L_law_329 rfl
                    have W := i_cvr1 (q := 333) H I_L_law_330 K_9_40 Zm_71 rfl
                    clear H
                    obtain ⟨r1, h1, Hc, K1⟩ := W
                    obtain ⟨M_330, v_330, e1, e2, T_330, P_330⟩ := pf_act ht hR Hc
                    have H := K1 _ _ e1 e2
                    clear e1 e2 Hc K1
                    replace H := i_pop (q := 334) H I_L_law_333 rfl rfl
                    replace H := i_aln (q := 335) H I_L_law_334 rfl rfl
                    replace H := i_xln (q := 336) H I_L_law_335 rfl rfl
                    replace H := i_iln (q := 337) H I_L_law_336 rfl rfl
                    replace H := i_icst (x := 1) (q := 338) H I_L_law_337 (by decide) rfl
                    replace H := i_iadd (q := 339) H I_L_law_338 rfl
                    replace H := i_sca (q := 340) H I_L_law_339 rfl
                    have W := i_cvr1 (q := 343) H I_L_law_340 K_9_43 Zm_135 rfl
                    clear H
                    obtain ⟨r1, h1, Hc, K1⟩ := W
                    obtain ⟨M_340, v_340, e1, e2, T_340, R_340⟩ := P_330 _ _ Hc
                    have H := K1 _ _ e1 e2
                    clear e1 e2 Hc K1
                    replace H := i_pop (q := 344) H I_L_law_343 rfl rfl
                    replace H := i_goto (q := 1187) H I_L_law_344 (by decide)
                    replace H := i_inc (q := 1190) H I_L_law_1187 rfl rfl rfl
                    replace H := i_goto (q := 18) H I_L_law_1190 (by decide)
                    replace H : zE (some ys) 20 zm_L_law 18 [.retAddr 0, .ref 0, .ref 71, .int (Int32.ofNat (i + 5))] [] M_340 r h' := by
                      rw [zofn_5] at H
                      exact H
                    exact ih (i + 5) _ r h' (by omega) (by omega) T_340 R_340.1 H
                  · skip
                    have W := i_ts1 7 (q := 347) H I_L_law_32 (by decide) rfl (by decide)
                    clear H
                    rcases W with ⟨w_32_7, H⟩ | ⟨w_32_7, H⟩
                    · skip
                      replace H := i_aln (q := 348) H I_L_law_347 rfl rfl
                      replace H := i_xln (q := 349) H I_L_law_348 rfl rfl
                      replace H := i_iln (q := 350) H I_L_law_349 rfl rfl
                      replace H := i_icst (x := 1) (q := 351) H I_L_law_350 (by decide) rfl
                      replace H := i_iadd (q := 352) H I_L_law_351 rfl
                      replace H := i_sca (q := 353) H I_L_law_352 rfl
                      replace H := i_xln (q := 354) H I_L_law_353 rfl rfl
                      replace H := i_iln (q := 355) H I_L_law_354 rfl rfl
                      replace H := i_icst (x := 2) (q := 356) H I_L_law_355 (by decide) rfl
                      replace H := i_iadd (q := 357) H I_L_law_356 rfl
                      replace H := i_sca (q := 358) H I_L_law_357 rfl
                      replace H := i_xln (q := 359) H I_L_law_358 rfl rfl
                      replace H := i_iln (q := 360) H I_L_law_359 rfl rfl
                      replace H := i_icst (x := 3) (q := 361) H I_L_law_360 (by decide) rfl
                      replace H := i_iadd (q := 362) H I_L_law_361 rfl
                      replace H := i_sca (q := 363) H I_L_law_362 rfl
                      have W := i_cvr3 (q := 366) H I_L_law_363 K_9_44 Zm_72 rfl
                      clear H
                      obtain ⟨r1, h1, Hc, K1⟩ := W
                      obtain ⟨M_363, v_363, e1, e2, T_363, P_363⟩ := pf_alter ht hR Hc
                      have H := K1 _ _ e1 e2
                      clear e1 e2 Hc K1
                      replace H := i_pop (q := 367) H I_L_law_366 rfl rfl
                      replace H := i_aln (q := 368) H I_L_law_367 rfl rfl
                      replace H := i_xln (q := 369) H I_L_law_368 rfl rfl
                      replace H := i_iln (q := 370) H I_L_law_369 rfl rfl
                      replace H := i_icst (x := 1) (q := 371) H I_L_law_370 (by decide) rfl
                      replace H := i_iadd (q := 372) H I_L_law_371 rfl
                      replace H := i_sca (q := 373) H I_L_law_372 rfl
                      replace H := i_xln (q := 374) H I_L_law_373 rfl rfl
                      replace H := i_iln (q := 375) H I_L_law_374 rfl rfl
                      replace H := i_icst (x := 2) (q := 376) H I_L_law_375 (by decide) rfl
                      replace H := i_iadd (q := 377) H I_L_law_376 rfl
                      replace H := i_sca (q := 378) H I_L_law_377 rfl
                      replace H := i_xln (q := 379) H I_L_law_378 rfl rfl
                      replace H := i_iln (q := 380) H I_L_law_379 rfl rfl
                      replace H := i_icst (x := 3) (q := 381) H I_L_law_380 (by decide) rfl
                      replace H := i_iadd (q := 382) H I_L_law_381 rfl
                      replace H := i_sca (q := 383) H I_L_law_382 rfl
                      have W := i_cvr3 (q := 386) H I_L_law_383 K_9_48 Zm_137 rfl
                      clear H
                      obtain ⟨r1, h1, Hc, K1⟩ := W
                      obtain ⟨M_383, v_383, e1, e2, T_383, R_383⟩ := P_363 _ _ Hc
                      have H := K1 _ _ e1 e2
                      clear e1 e2 Hc K1
                      replace H := i_pop (q := 387) H I_L_law_386 rfl rfl
                      replace H := i_goto (q := 1187) H I_L_law_387 (by decide)
                      replace H := i_inc (q := 1190) H I_L_law_1187 rfl rfl rfl
                      replace H := i_goto (q := 18) H I_L_law_1190 (by decide)
                      replace H : zE (some ys) 20 zm_L_law 18 [.retAddr 0, .ref 0, .ref 71, .int (Int32.ofNat (i + 5))] [] M_383 r h' := by
                        rw [zofn_5] at H
                        exact H
                      exact ih (i + 5) _ r h' (by omega) (by omega) T_383 R_383.1 H
                    · skip
                      have W := i_ts1 8 (q := 390) H I_L_law_32 (by decide) rfl (by decide)
                      clear H
                      rcases W with ⟨w_32_8, H⟩ | ⟨w_32_8, H⟩
                      · skip
                        replace H := i_aln (q := 391) H I_L_law_390 rfl rfl
                        replace H := i_xln (q := 392) H I_L_law_391 rfl rfl
                        replace H := i_iln (q := 393) H I_L_law_392 rfl rfl
                        replace H := i_icst (x := 1) (q := 394) H I_L_law_393 (by decide) rfl
                        replace H := i_iadd (q := 395) H I_L_law_394 rfl
                        replace H := i_sca (q := 396) H I_L_law_395 rfl
                        have W := i_cvr1 (q := 399) H I_L_law_396 K_9_49 Zm_74 rfl
                        clear H
                        obtain ⟨r1, h1, Hc, K1⟩ := W
                        obtain ⟨M_396, v_396, e1, e2, T_396, P_396⟩ := pf_slack ht hR Hc
                        have H := K1 _ _ e1 e2
                        clear e1 e2 Hc K1
                        replace H := i_pop (q := 400) H I_L_law_399 rfl rfl
                        replace H := i_aln (q := 401) H I_L_law_400 rfl rfl
                        replace H := i_xln (q := 402) H I_L_law_401 rfl rfl
                        replace H := i_iln (q := 403) H I_L_law_402 rfl rfl
                        replace H := i_icst (x := 1) (q := 404) H I_L_law_403 (by decide) rfl
                        replace H := i_iadd (q := 405) H I_L_law_404 rfl
                        replace H := i_sca (q := 406) H I_L_law_405 rfl
                        have W := i_cvr1 (q := 409) H I_L_law_406 K_9_52 Zm_138 rfl
                        clear H
                        obtain ⟨r1, h1, Hc, K1⟩ := W
                        obtain ⟨M_406, v_406, e1, e2, T_406, R_406⟩ := P_396 _ _ Hc
                        have H := K1 _ _ e1 e2
                        clear e1 e2 Hc K1
                        replace H := i_pop (q := 410) H I_L_law_409 rfl rfl
                        replace H := i_goto (q := 1187) H I_L_law_410 (by decide)
                        replace H := i_inc (q := 1190) H I_L_law_1187 rfl rfl rfl
                        replace H := i_goto (q := 18) H I_L_law_1190 (by decide)
                        replace H : zE (some ys) 20 zm_L_law 18 [.retAddr 0, .ref 0, .ref 71, .int (Int32.ofNat (i + 5))] [] M_406 r h' := by
                          rw [zofn_5] at H
                          exact H
                        exact ih (i + 5) _ r h' (by omega) (by omega) T_406 R_406.1 H
                      · skip
                        have W := i_ts1 9 (q := 413) H I_L_law_32 (by decide) rfl (by decide)
                        clear H
                        rcases W with ⟨w_32_9, H⟩ | ⟨w_32_9, H⟩
                        · skip
                          replace H := i_aln (q := 414) H I_L_law_413 rfl rfl
                          replace H := i_xln (q := 415) H I_L_law_414 rfl rfl
                          replace H := i_iln (q := 416) H I_L_law_415 rfl rfl
                          replace H := i_icst (x := 1) (q := 417) H I_L_law_416 (by decide) rfl
                          replace H := i_iadd (q := 418) H I_L_law_417 rfl
                          replace H := i_sca (q := 419) H I_L_law_418 rfl
                          have W := i_cvr1 (q := 422) H I_L_law_419 K_9_53 Zm_75 rfl
                          clear H
                          obtain ⟨r1, h1, Hc, K1⟩ := W
                          obtain ⟨M_419, v_419, e1, e2, T_419, P_419⟩ := pf_plan ht hR Hc
                          have H := K1 _ _ e1 e2
                          clear e1 e2 Hc K1
                          replace H := i_pop (q := 423) H I_L_law_422 rfl rfl
                          replace H := i_aln (q := 424) H I_L_law_423 rfl rfl
                          replace H := i_xln (q := 425) H I_L_law_424 rfl rfl
                          replace H := i_iln (q := 426) H I_L_law_425 rfl rfl
                          replace H := i_icst (x := 1) (q := 427) H I_L_law_426 (by decide) rfl
                          replace H := i_iadd (q := 428) H I_L_law_427 rfl
                          replace H := i_sca (q := 429) H I_L_law_428 rfl
                          have W := i_cvr1 (q := 432) H I_L_law_429 K_9_56 Zm_140 rfl
                          clear H
                          obtain ⟨r1, h1, Hc, K1⟩ := W
                          obtain ⟨M_429, v_429, e1, e2, T_429, R_429⟩ := P_419 _ _ Hc
                          have H := K1 _ _ e1 e2
                          clear e1 e2 Hc K1
                          replace H := i_pop (q := 433) H I_L_law_432 rfl rfl
                          replace H := i_goto (q := 1187) H I_L_law_433 (by decide)
                          replace H := i_inc (q := 1190) H I_L_law_1187 rfl rfl rfl
                          replace H := i_goto (q := 18) H I_L_law_1190 (by decide)
                          replace H : zE (some ys) 20 zm_L_law 18 [.retAddr 0, .ref 0, .ref 71, .int (Int32.ofNat (i + 5))] [] M_429 r h' := by
                            rw [zofn_5] at H
                            exact H
                          exact ih (i + 5) _ r h' (by omega) (by omega) T_429 R_429.1 H
                        · skip
                          have W := i_ts1 10 (q := 436) H I_L_law_32 (by decide) rfl (by decide)
                          clear H
                          rcases W with ⟨w_32_10, H⟩ | ⟨w_32_10, H⟩
                          · skip
                            replace H := i_aln (q := 437) H I_L_law_436 rfl rfl
                            replace H := i_xln (q := 438) H I_L_law_437 rfl rfl
                            replace H := i_iln (q := 439) H I_L_law_438 rfl rfl
                            replace H := i_icst (x := 1) (q := 440) H I_L_law_439 (by decide) rfl
                            replace H := i_iadd (q := 441) H I_L_law_440 rfl
                            replace H := i_sca (q := 442) H I_L_law_441 rfl
                            have W := i_cvr1 (q := 445) H I_L_law_442 K_9_57 Zm_76 rfl
                            clear H
                            obtain ⟨r1, h1, Hc, K1⟩ := W
                            obtain ⟨M_442, v_442, e1, e2, T_442, P_442⟩ := pf_cut ht hR Hc
                            have H := K1 _ _ e1 e2
                            clear e1 e2 Hc K1
                            replace H := i_pop (q := 446) H I_L_law_445 rfl rfl
                            replace H := i_aln (q := 447) H I_L_law_446 rfl rfl
                            replace H := i_xln (q := 448) H I_L_law_447 rfl rfl
                            replace H := i_iln (q := 449) H I_L_law_448 rfl rfl
                            replace H := i_icst (x := 1) (q := 450) H I_L_law_449 (by decide) rfl
                            replace H := i_iadd (q := 451) H I_L_law_450 rfl
                            replace H := i_sca (q := 452) H I_L_law_451 rfl
                            have W := i_cvr1 (q := 455) H I_L_law_452 K_9_60 Zm_141 rfl
                            clear H
                            obtain ⟨r1, h1, Hc, K1⟩ := W
                            obtain ⟨M_452, v_452, e1, e2, T_452, R_452⟩ := P_442 _ _ Hc
                            have H := K1 _ _ e1 e2
                            clear e1 e2 Hc K1
                            replace H := i_pop (q := 456) H I_L_law_455 rfl rfl
                            replace H := i_goto (q := 1187) H I_L_law_456 (by decide)
                            replace H := i_inc (q := 1190) H I_L_law_1187 rfl rfl rfl
                            replace H := i_goto (q := 18) H I_L_law_1190 (by decide)
                            replace H : zE (some ys) 20 zm_L_law 18 [.retAddr 0, .ref 0, .ref 71, .int (Int32.ofNat (i + 5))] [] M_452 r h' := by
                              rw [zofn_5] at H
                              exact H
                            exact ih (i + 5) _ r h' (by omega) (by omega) T_452 R_452.1 H
                          · skip
                            have W := i_ts1 11 (q := 459) H I_L_law_32 (by decide) rfl (by decide)
                            clear H
                            rcases W with ⟨w_32_11, H⟩ | ⟨w_32_11, H⟩
                            · skip
                              replace H := i_aln (q := 460) H I_L_law_459 rfl rfl
                              replace H := i_xln (q := 461) H I_L_law_460 rfl rfl
                              replace H := i_iln (q := 462) H I_L_law_461 rfl rfl
                              replace H := i_icst (x := 1) (q := 463) H I_L_law_462 (by decide) rfl
                              replace H := i_iadd (q := 464) H I_L_law_463 rfl
                              replace H := i_sca (q := 465) H I_L_law_464 rfl
                              have W := i_cvr1 (q := 468) H I_L_law_465 K_9_61 Zm_77 rfl
                              clear H
                              obtain ⟨r1, h1, Hc, K1⟩ := W
                              obtain ⟨M_465, v_465, e1, e2, T_465, P_465⟩ := pf_turn ht hR Hc
                              have H := K1 _ _ e1 e2
                              clear e1 e2 Hc K1
                              replace H := i_pop (q := 469) H I_L_law_468 rfl rfl
                              replace H := i_aln (q := 470) H I_L_law_469 rfl rfl
                              replace H := i_xln (q := 471) H I_L_law_470 rfl rfl
                              replace H := i_iln (q := 472) H I_L_law_471 rfl rfl
                              replace H := i_icst (x := 1) (q := 473) H I_L_law_472 (by decide) rfl
                              replace H := i_iadd (q := 474) H I_L_law_473 rfl
                              replace H := i_sca (q := 475) H I_L_law_474 rfl
                              have W := i_cvr1 (q := 478) H I_L_law_475 K_9_64 Zm_145 rfl
                              clear H
                              obtain ⟨r1, h1, Hc, K1⟩ := W
                              obtain ⟨M_475, v_475, e1, e2, T_475, R_475⟩ := P_465 _ _ Hc
                              have H := K1 _ _ e1 e2
                              clear e1 e2 Hc K1
                              replace H := i_pop (q := 479) H I_L_law_478 rfl rfl
                              replace H := i_goto (q := 1187) H I_L_law_479 (by decide)
                              replace H := i_inc (q := 1190) H I_L_law_1187 rfl rfl rfl
                              replace H := i_goto (q := 18) H I_L_law_1190 (by decide)
                              replace H : zE (some ys) 20 zm_L_law 18 [.retAddr 0, .ref 0, .ref 71, .int (Int32.ofNat (i + 5))] [] M_475 r h' := by
                                rw [zofn_5] at H
                                exact H
                              exact ih (i + 5) _ r h' (by omega) (by omega) T_475 R_475.1 H
                            · skip
                              have W := i_ts1 12 (q := 482) H I_L_law_32 (by decide) rfl (by decide)
                              clear H
                              rcases W with ⟨w_32_12, H⟩ | ⟨w_32_12, H⟩
                              · skip
                                replace H := i_aln (q := 483) H I_L_law_482 rfl rfl
                                replace H := i_xln (q := 484) H I_L_law_483 rfl rfl
                                replace H := i_iln (q := 485) H I_L_law_484 rfl rfl
                                replace H := i_icst (x := 1) (q := 486) H I_L_law_485 (by decide) rfl
                                replace H := i_iadd (q := 487) H I_L_law_486 rfl
                                replace H := i_sca (q := 488) H I_L_law_487 rfl
                                have W := i_cvr1 (q := 491) H I_L_law_488 K_9_65 Zm_78 rfl
                                clear H
                                obtain ⟨r1, h1, Hc, K1⟩ := W
                                obtain ⟨M_488, v_488, e1, e2, T_488, P_488⟩ := pf_rest ht hR Hc
                                have H := K1 _ _ e1 e2
                                clear e1 e2 Hc K1
                                replace H := i_pop (q := 492) H I_L_law_491 rfl rfl
                                replace H := i_aln (q := 493) H I_L_law_492 rfl rfl
                                replace H := i_xln (q := 494) H I_L_law_493 rfl rfl
                                replace H := i_iln (q := 495) H I_L_law_494 rfl rfl
                                replace H := i_icst (x := 1) (q := 496) H I_L_law_495 (by decide) rfl
                                replace H := i_iadd (q := 497) H I_L_law_496 rfl
                                replace H := i_sca (q := 498) H I_L_law_497 rfl
                                have W := i_cvr1 (q := 501) H I_L_law_498 K_9_68 Zm_146 rfl
                                clear H
                                obtain ⟨r1, h1, Hc, K1⟩ := W
                                obtain ⟨M_498, v_498, e1, e2, T_498, R_498⟩ := P_488 _ _ Hc
                                have H := K1 _ _ e1 e2
                                clear e1 e2 Hc K1
                                replace H := i_pop (q := 502) H I_L_law_501 rfl rfl
                                replace H := i_goto (q := 1187) H I_L_law_502 (by decide)
                                replace H := i_inc (q := 1190) H I_L_law_1187 rfl rfl rfl
                                replace H := i_goto (q := 18) H I_L_law_1190 (by decide)
                                replace H : zE (some ys) 20 zm_L_law 18 [.retAddr 0, .ref 0, .ref 71, .int (Int32.ofNat (i + 5))] [] M_498 r h' := by
                                  rw [zofn_5] at H
                                  exact H
                                exact ih (i + 5) _ r h' (by omega) (by omega) T_498 R_498.1 H
                              · skip
                                have W := i_ts1 13 (q := 505) H I_L_law_32 (by decide) rfl (by decide)
                                clear H
                                rcases W with ⟨w_32_13, H⟩ | ⟨w_32_13, H⟩
                                · skip
                                  replace H := i_aln (q := 506) H I_L_law_505 rfl rfl
                                  replace H := i_xln (q := 507) H I_L_law_506 rfl rfl
                                  replace H := i_iln (q := 508) H I_L_law_507 rfl rfl
                                  replace H := i_icst (x := 1) (q := 509) H I_L_law_508 (by decide) rfl
                                  replace H := i_iadd (q := 510) H I_L_law_509 rfl
                                  replace H := i_sca (q := 511) H I_L_law_510 rfl
                                  have W := i_cvr1 (q := 514) H I_L_law_511 K_9_69 Zm_79 rfl
                                  clear H
                                  obtain ⟨r1, h1, Hc, K1⟩ := W
                                  obtain ⟨M_511, v_511, e1, e2, T_511, P_511⟩ := pf_runs ht hR Hc
                                  have H := K1 _ _ e1 e2
                                  clear e1 e2 Hc K1
                                  replace H := i_pop (q := 515) H I_L_law_514 rfl rfl
                                  replace H := i_aln (q := 516) H I_L_law_515 rfl rfl
                                  replace H := i_xln (q := 517) H I_L_law_516 rfl rfl
                                  replace H := i_iln (q := 518) H I_L_law_517 rfl rfl
                                  replace H := i_icst (x := 1) (q := 519) H I_L_law_518 (by decide) rfl
                                  replace H := i_iadd (q := 520) H I_L_law_519 rfl
                                  replace H := i_sca (q := 521) H I_L_law_520 rfl
                                  have W := i_cvr1 (q := 524) H I_L_law_521 K_9_72 Zm_150 rfl
                                  clear H
                                  obtain ⟨r1, h1, Hc, K1⟩ := W
                                  obtain ⟨M_521, v_521, e1, e2, T_521, R_521⟩ := P_511 _ _ Hc
                                  have H := K1 _ _ e1 e2
                                  clear e1 e2 Hc K1
                                  replace H := i_pop (q := 525) H I_L_law_524 rfl rfl
                                  replace H := i_goto (q := 1187) H I_L_law_525 (by decide)
                                  replace H := i_inc (q := 1190) H I_L_law_1187 rfl rfl rfl
                                  replace H := i_goto (q := 18) H I_L_law_1190 (by decide)
                                  replace H : zE (some ys) 20 zm_L_law 18 [.retAddr 0, .ref 0, .ref 71, .int (Int32.ofNat (i + 5))] [] M_521 r h' := by
                                    rw [zofn_5] at H
                                    exact H
                                  exact ih (i + 5) _ r h' (by omega) (by omega) T_521 R_521 H
                                · skip
                                  have W := i_ts1 14 (q := 528) H I_L_law_32 (by decide) rfl (by decide)
                                  clear H
                                  rcases W with ⟨w_32_14, H⟩ | ⟨w_32_14, H⟩
                                  · skip
                                    replace H := i_aln (q := 529) H I_L_law_528 rfl rfl
                                    replace H := i_xln (q := 530) H I_L_law_529 rfl rfl
                                    replace H := i_iln (q := 531) H I_L_law_530 rfl rfl
                                    replace H := i_icst (x := 1) (q := 532) H I_L_law_531 (by decide) rfl
                                    replace H := i_iadd (q := 533) H I_L_law_532 rfl
                                    replace H := i_sca (q := 534) H I_L_law_533 rfl
                                    have W := i_cvr1 (q := 537) H I_L_law_534 K_9_73 Zm_80 rfl
                                    clear H
                                    obtain ⟨r1, h1, Hc, K1⟩ := W
                                    obtain ⟨M_534, v_534, e1, e2, T_534, P_534⟩ := pf_ahead ht hR Hc
                                    have H := K1 _ _ e1 e2
                                    clear e1 e2 Hc K1
                                    replace H := i_pop (q := 538) H I_L_law_537 rfl rfl
                                    replace H := i_aln (q := 539) H I_L_law_538 rfl rfl
                                    replace H := i_xln (q := 540) H I_L_law_539 rfl rfl
                                    replace H := i_iln (q := 541) H I_L_law_540 rfl rfl
                                    replace H := i_icst (x := 1) (q := 542) H I_L_law_541 (by decide) rfl
                                    replace H := i_iadd (q := 543) H I_L_law_542 rfl
                                    replace H := i_sca (q := 544) H I_L_law_543 rfl
                                    have W := i_cvr1 (q := 547) H I_L_law_544 K_9_76 Zm_151 rfl
                                    clear H
                                    obtain ⟨r1, h1, Hc, K1⟩ := W
                                    obtain ⟨M_544, v_544, e1, e2, T_544, R_544⟩ := P_534 _ _ Hc
                                    have H := K1 _ _ e1 e2
                                    clear e1 e2 Hc K1
                                    replace H := i_pop (q := 548) H I_L_law_547 rfl rfl
                                    replace H := i_goto (q := 1187) H I_L_law_548 (by decide)
                                    replace H := i_inc (q := 1190) H I_L_law_1187 rfl rfl rfl
                                    replace H := i_goto (q := 18) H I_L_law_1190 (by decide)
                                    replace H : zE (some ys) 20 zm_L_law 18 [.retAddr 0, .ref 0, .ref 71, .int (Int32.ofNat (i + 5))] [] M_544 r h' := by
                                      rw [zofn_5] at H
                                      exact H
                                    exact ih (i + 5) _ r h' (by omega) (by omega) T_544 R_544 H
                                  · skip
                                    have W := i_ts1 15 (q := 551) H I_L_law_32 (by decide) rfl (by decide)
                                    clear H
                                    rcases W with ⟨w_32_15, H⟩ | ⟨w_32_15, H⟩
                                    · skip
                                      replace H := i_aln (q := 552) H I_L_law_551 rfl rfl
                                      have W := i_cvr0 (q := 555) H I_L_law_552 K_9_77 Zm_81 rfl
                                      clear H
                                      obtain ⟨r1, h1, Hc, K1⟩ := W
                                      obtain ⟨M_552, v_552, e1, e2, T_552, P_552⟩ := pf_round ht hR Hc
                                      have H := K1 _ _ e1 e2
                                      clear e1 e2 Hc K1
                                      replace H := i_pop (q := 556) H I_L_law_555 rfl rfl
                                      replace H := i_aln (q := 557) H I_L_law_556 rfl rfl
                                      have W := i_cvr0 (q := 560) H I_L_law_557 K_9_80 Zm_152 rfl
                                      clear H
                                      obtain ⟨r1, h1, Hc, K1⟩ := W
                                      obtain ⟨M_557, v_557, e1, e2, T_557, R_557⟩ := P_552 _ _ Hc
                                      have H := K1 _ _ e1 e2
                                      clear e1 e2 Hc K1
                                      replace H := i_pop (q := 561) H I_L_law_560 rfl rfl
                                      replace H := i_goto (q := 1187) H I_L_law_561 (by decide)
                                      replace H := i_inc (q := 1190) H I_L_law_1187 rfl rfl rfl
                                      replace H := i_goto (q := 18) H I_L_law_1190 (by decide)
                                      replace H : zE (some ys) 20 zm_L_law 18 [.retAddr 0, .ref 0, .ref 71, .int (Int32.ofNat (i + 5))] [] M_557 r h' := by
                                        rw [zofn_5] at H
                                        exact H
                                      exact ih (i + 5) _ r h' (by omega) (by omega) T_557 R_557 H
                                    · skip
                                      have W := i_ts1 16 (q := 564) H I_L_law_32 (by decide) rfl (by decide)
                                      clear H
                                      rcases W with ⟨w_32_16, H⟩ | ⟨w_32_16, H⟩
                                      · skip
                                        replace H := i_aln (q := 565) H I_L_law_564 rfl rfl
                                        replace H := i_xln (q := 566) H I_L_law_565 rfl rfl
                                        replace H := i_iln (q := 567) H I_L_law_566 rfl rfl
                                        replace H := i_icst (x := 1) (q := 568) H I_L_law_567 (by decide) rfl
                                        replace H := i_iadd (q := 569) H I_L_law_568 rfl
                                        replace H := i_sca (q := 570) H I_L_law_569 rfl
                                        replace H := i_xln (q := 571) H I_L_law_570 rfl rfl
                                        replace H := i_iln (q := 572) H I_L_law_571 rfl rfl
                                        replace H := i_icst (x := 2) (q := 573) H I_L_law_572 (by decide) rfl
                                        replace H := i_iadd (q := 574) H I_L_law_573 rfl
                                        replace H := i_sca (q := 575) H I_L_law_574 rfl
                                        have W := i_cvr2 (q := 578) H I_L_law_575 K_9_81 Zm_83 rfl
                                        clear H
                                        obtain ⟨r1, h1, Hc, K1⟩ := W
                                        obtain ⟨M_575, v_575, e1, e2, T_575, P_575⟩ := pf_order ht hR Hc
                                        have H := K1 _ _ e1 e2
                                        clear e1 e2 Hc K1
                                        replace H := i_pop (q := 579) H I_L_law_578 rfl rfl
                                        replace H := i_aln (q := 580) H I_L_law_579 rfl rfl
                                        replace H := i_xln (q := 581) H I_L_law_580 rfl rfl
                                        replace H := i_iln (q := 582) H I_L_law_581 rfl rfl
                                        replace H := i_icst (x := 1) (q := 583) H I_L_law_582 (by decide) rfl
                                        replace H := i_iadd (q := 584) H I_L_law_583 rfl
                                        replace H := i_sca (q := 585) H I_L_law_584 rfl
                                        replace H := i_xln (q := 586) H I_L_law_585 rfl rfl
                                        replace H := i_iln (q := 587) H I_L_law_586 rfl rfl
                                        replace H := i_icst (x := 2) (q := 588) H I_L_law_587 (by decide) rfl
                                        replace H := i_iadd (q := 589) H I_L_law_588 rfl
                                        replace H := i_sca (q := 590) H I_L_law_589 rfl
                                        have W := i_cvr2 (q := 593) H I_L_law_590 K_9_84 Zm_156 rfl
                                        clear H
                                        obtain ⟨r1, h1, Hc, K1⟩ := W
                                        obtain ⟨M_590, v_590, e1, e2, T_590, R_590⟩ := P_575 _ _ Hc
                                        have H := K1 _ _ e1 e2
                                        clear e1 e2 Hc K1
                                        replace H := i_pop (q := 594) H I_L_law_593 rfl rfl
                                        replace H := i_goto (q := 1187) H I_L_law_594 (by decide)
                                        replace H := i_inc (q := 1190) H I_L_law_1187 rfl rfl rfl
                                        replace H := i_goto (q := 18) H I_L_law_1190 (by decide)
                                        replace H : zE (some ys) 20 zm_L_law 18 [.retAddr 0, .ref 0, .ref 71, .int (Int32.ofNat (i + 5))] [] M_590 r h' := by
                                          rw [zofn_5] at H
                                          exact H
                                        exact ih (i + 5) _ r h' (by omega) (by omega) T_590 R_590 H
                                      · skip
                                        have W := i_ts1 17 (q := 597) H I_L_law_32 (by decide) rfl (by decide)
                                        clear H
                                        rcases W with ⟨w_32_17, H⟩ | ⟨w_32_17, H⟩
                                        · skip
                                          replace H := i_aln (q := 598) H I_L_law_597 rfl rfl
                                          replace H := i_xln (q := 599) H I_L_law_598 rfl rfl
                                          replace H := i_iln (q := 600) H I_L_law_599 rfl rfl
                                          replace H := i_icst (x := 1) (q := 601) H I_L_law_600 (by decide) rfl
                                          replace H := i_iadd (q := 602) H I_L_law_601 rfl
                                          replace H := i_sca (q := 603) H I_L_law_602 rfl
                                          replace H := i_xln (q := 604) H I_L_law_603 rfl rfl
                                          replace H := i_iln (q := 605) H I_L_law_604 rfl rfl
                                          replace H := i_icst (x := 2) (q := 606) H I_L_law_605 (by decide) rfl
                                          replace H := i_iadd (q := 607) H I_L_law_606 rfl
                                          replace H := i_sca (q := 608) H I_L_law_607 rfl
                                          have W := i_cvr2 (q := 611) H I_L_law_608 K_9_85 Zm_84 rfl
                                          clear H
                                          obtain ⟨r1, h1, Hc, K1⟩ := W
                                          obtain ⟨M_608, v_608, e1, e2, T_608, P_608⟩ := pf_await ht hR Hc
                                          have H := K1 _ _ e1 e2
                                          clear e1 e2 Hc K1
                                          replace H := i_pop (q := 612) H I_L_law_611 rfl rfl
                                          replace H := i_aln (q := 613) H I_L_law_612 rfl rfl
                                          replace H := i_xln (q := 614) H I_L_law_613 rfl rfl
                                          replace H := i_iln (q := 615) H I_L_law_614 rfl rfl
                                          replace H := i_icst (x := 1) (q := 616) H I_L_law_615 (by decide) rfl
                                          replace H := i_iadd (q := 617) H I_L_law_616 rfl
                                          replace H := i_sca (q := 618) H I_L_law_617 rfl
                                          replace H := i_xln (q := 619) H I_L_law_618 rfl rfl
                                          replace H := i_iln (q := 620) H I_L_law_619 rfl rfl
                                          replace H := i_icst (x := 2) (q := 621) H I_L_law_620 (by decide) rfl
                                          replace H := i_iadd (q := 622) H I_L_law_621 rfl
                                          replace H := i_sca (q := 623) H I_L_law_622 rfl
                                          have W := i_cvr2 (q := 626) H I_L_law_623 K_9_88 Zm_158 rfl
                                          clear H
                                          obtain ⟨r1, h1, Hc, K1⟩ := W
                                          obtain ⟨M_623, v_623, e1, e2, T_623, R_623⟩ := P_608 _ _ Hc
                                          have H := K1 _ _ e1 e2
                                          clear e1 e2 Hc K1
                                          replace H := i_pop (q := 627) H I_L_law_626 rfl rfl
                                          replace H := i_goto (q := 1187) H I_L_law_627 (by decide)
                                          replace H := i_inc (q := 1190) H I_L_law_1187 rfl rfl rfl
                                          replace H := i_goto (q := 18) H I_L_law_1190 (by decide)
                                          replace H : zE (some ys) 20 zm_L_law 18 [.retAddr 0, .ref 0, .ref 71, .int (Int32.ofNat (i + 5))] [] M_623 r h' := by
                                            rw [zofn_5] at H
                                            exact H
                                          exact ih (i + 5) _ r h' (by omega) (by omega) T_623 R_623 H
                                        · skip
                                          have W := i_ts1 18 (q := 630) H I_L_law_32 (by decide) rfl (by decide)
                                          clear H
                                          rcases W with ⟨w_32_18, H⟩ | ⟨w_32_18, H⟩
                                          · skip
                                            replace H := i_aln (q := 631) H I_L_law_630 rfl rfl
                                            replace H := i_xln (q := 632) H I_L_law_631 rfl rfl
                                            replace H := i_iln (q := 633) H I_L_law_632 rfl rfl
                                            replace H := i_icst (x := 1) (q := 634) H I_L_law_633 (by decide) rfl
                                            replace H := i_iadd (q := 635) H I_L_law_634 rfl
                                            replace H := i_sca (q := 636) H I_L_law_635 rfl
                                            have W := i_cvr1 (q := 639) H I_L_law_636 K_9_89 Zm_86 rfl
                                            clear H
                                            obtain ⟨r1, h1, Hc, K1⟩ := W
                                            obtain ⟨M_636, v_636, e1, e2, T_636, P_636⟩ := pf_hands ht hR Hc
                                            have H := K1 _ _ e1 e2
                                            clear e1 e2 Hc K1
                                            replace H := i_pop (q := 640) H I_L_law_639 rfl rfl
                                            replace H := i_aln (q := 641) H I_L_law_640 rfl rfl
                                            replace H := i_xln (q := 642) H I_L_law_641 rfl rfl
                                            replace H := i_iln (q := 643) H I_L_law_642 rfl rfl
                                            replace H := i_icst (x := 1) (q := 644) H I_L_law_643 (by decide) rfl
                                            replace H := i_iadd (q := 645) H I_L_law_644 rfl
                                            replace H := i_sca (q := 646) H I_L_law_645 rfl
                                            have W := i_cvr1 (q := 649) H I_L_law_646 K_9_92 Zm_159 rfl
                                            clear H
                                            obtain ⟨r1, h1, Hc, K1⟩ := W
                                            obtain ⟨M_646, v_646, e1, e2, T_646, R_646⟩ := P_636 _ _ Hc
                                            have H := K1 _ _ e1 e2
                                            clear e1 e2 Hc K1
                                            replace H := i_pop (q := 650) H I_L_law_649 rfl rfl
                                            replace H := i_goto (q := 1187) H I_L_law_650 (by decide)
                                            replace H := i_inc (q := 1190) H I_L_law_1187 rfl rfl rfl
                                            replace H := i_goto (q := 18) H I_L_law_1190 (by decide)
                                            replace H : zE (some ys) 20 zm_L_law 18 [.retAddr 0, .ref 0, .ref 71, .int (Int32.ofNat (i + 5))] [] M_646 r h' := by
                                              rw [zofn_5] at H
                                              exact H
                                            exact ih (i + 5) _ r h' (by omega) (by omega) T_646 R_646 H
                                          · skip
                                            have W := i_ts1 19 (q := 653) H I_L_law_32 (by decide) rfl (by decide)
                                            clear H
                                            rcases W with ⟨w_32_19, H⟩ | ⟨w_32_19, H⟩
                                            · skip
                                              replace H := i_aln (q := 654) H I_L_law_653 rfl rfl
                                              replace H := i_xln (q := 655) H I_L_law_654 rfl rfl
                                              replace H := i_iln (q := 656) H I_L_law_655 rfl rfl
                                              replace H := i_icst (x := 1) (q := 657) H I_L_law_656 (by decide) rfl
                                              replace H := i_iadd (q := 658) H I_L_law_657 rfl
                                              replace H := i_sca (q := 659) H I_L_law_658 rfl
                                              have W := i_cvr1 (q := 662) H I_L_law_659 K_9_93 Zm_87 rfl
                                              clear H
                                              obtain ⟨r1, h1, Hc, K1⟩ := W
                                              obtain ⟨M_659, v_659, e1, e2, T_659, P_659⟩ := pf_clean ht hR Hc
                                              have H := K1 _ _ e1 e2
                                              clear e1 e2 Hc K1
                                              replace H := i_pop (q := 663) H I_L_law_662 rfl rfl
                                              replace H := i_aln (q := 664) H I_L_law_663 rfl rfl
                                              replace H := i_xln (q := 665) H I_L_law_664 rfl rfl
                                              replace H := i_iln (q := 666) H I_L_law_665 rfl rfl
                                              replace H := i_icst (x := 1) (q := 667) H I_L_law_666 (by decide) rfl
                                              replace H := i_iadd (q := 668) H I_L_law_667 rfl
                                              replace H := i_sca (q := 669) H I_L_law_668 rfl
                                              have W := i_cvr1 (q := 672) H I_L_law_669 K_9_96 Zm_160 rfl
                                              clear H
                                              obtain ⟨r1, h1, Hc, K1⟩ := W
                                              obtain ⟨M_669, v_669, e1, e2, T_669, R_669⟩ := P_659 _ _ Hc
                                              have H := K1 _ _ e1 e2
                                              clear e1 e2 Hc K1
                                              replace H := i_pop (q := 673) H I_L_law_672 rfl rfl
                                              replace H := i_goto (q := 1187) H I_L_law_673 (by decide)
                                              replace H := i_inc (q := 1190) H I_L_law_1187 rfl rfl rfl
                                              replace H := i_goto (q := 18) H I_L_law_1190 (by decide)
                                              replace H : zE (some ys) 20 zm_L_law 18 [.retAddr 0, .ref 0, .ref 71, .int (Int32.ofNat (i + 5))] [] M_669 r h' := by
                                                rw [zofn_5] at H
                                                exact H
                                              exact ih (i + 5) _ r h' (by omega) (by omega) T_669 R_669 H
                                            · skip
                                              have W := i_ts1 20 (q := 676) H I_L_law_32 (by decide) rfl (by decide)
                                              clear H
                                              rcases W with ⟨w_32_20, H⟩ | ⟨w_32_20, H⟩
                                              · skip
                                                replace H := i_aln (q := 677) H I_L_law_676 rfl rfl
                                                replace H := i_xln (q := 678) H I_L_law_677 rfl rfl
                                                replace H := i_iln (q := 679) H I_L_law_678 rfl rfl
                                                replace H := i_icst (x := 1) (q := 680) H I_L_law_679 (by decide) rfl
                                                replace H := i_iadd (q := 681) H I_L_law_680 rfl
                                                replace H := i_sca (q := 682) H I_L_law_681 rfl
                                                have W := i_cvr1 (q := 685) H I_L_law_682 K_9_97 Zm_89 rfl
                                                clear H
                                                obtain ⟨r1, h1, Hc, K1⟩ := W
                                                obtain ⟨M_682, v_682, e1, e2, T_682, P_682⟩ := pf_trade ht hR Hc
                                                have H := K1 _ _ e1 e2
                                                clear e1 e2 Hc K1
                                                replace H := i_pop (q := 686) H I_L_law_685 rfl rfl
                                                replace H := i_aln (q := 687) H I_L_law_686 rfl rfl
                                                replace H := i_xln (q := 688) H I_L_law_687 rfl rfl
                                                replace H := i_iln (q := 689) H I_L_law_688 rfl rfl
                                                replace H := i_icst (x := 1) (q := 690) H I_L_law_689 (by decide) rfl
                                                replace H := i_iadd (q := 691) H I_L_law_690 rfl
                                                replace H := i_sca (q := 692) H I_L_law_691 rfl
                                                have W := i_cvr1 (q := 695) H I_L_law_692 K_9_100 Zm_161 rfl
                                                clear H
                                                obtain ⟨r1, h1, Hc, K1⟩ := W
                                                obtain ⟨M_692, v_692, e1, e2, T_692, R_692⟩ := P_682 _ _ Hc
                                                have H := K1 _ _ e1 e2
                                                clear e1 e2 Hc K1
                                                replace H := i_pop (q := 696) H I_L_law_695 rfl rfl
                                                replace H := i_goto (q := 1187) H I_L_law_696 (by decide)
                                                replace H := i_inc (q := 1190) H I_L_law_1187 rfl rfl rfl
                                                replace H := i_goto (q := 18) H I_L_law_1190 (by decide)
                                                replace H : zE (some ys) 20 zm_L_law 18 [.retAddr 0, .ref 0, .ref 71, .int (Int32.ofNat (i + 5))] [] M_692 r h' := by
                                                  rw [zofn_5] at H
                                                  exact H
                                                exact ih (i + 5) _ r h' (by omega) (by omega) T_692 R_692 H
                                              · skip
                                                have W := i_ts1 21 (q := 699) H I_L_law_32 (by decide) rfl (by decide)
                                                clear H
                                                rcases W with ⟨w_32_21, H⟩ | ⟨w_32_21, H⟩
                                                · skip
                                                  replace H := i_aln (q := 700) H I_L_law_699 rfl rfl
                                                  have W := i_cvr0 (q := 703) H I_L_law_700 K_9_101 Zm_90 rfl
                                                  clear H
                                                  obtain ⟨r1, h1, Hc, K1⟩ := W
                                                  obtain ⟨M_700, v_700, e1, e2, T_700, P_700⟩ := pf_loose ht hR Hc
                                                  have H := K1 _ _ e1 e2
                                                  clear e1 e2 Hc K1
                                                  replace H := i_pop (q := 704) H I_L_law_703 rfl rfl
                                                  replace H := i_aln (q := 705) H I_L_law_704 rfl rfl
                                                  have W := i_cvr0 (q := 708) H I_L_law_705 K_9_104 Zm_162 rfl
                                                  clear H
                                                  obtain ⟨r1, h1, Hc, K1⟩ := W
                                                  obtain ⟨M_705, v_705, e1, e2, T_705, R_705⟩ := P_700 _ _ Hc
                                                  have H := K1 _ _ e1 e2
                                                  clear e1 e2 Hc K1
                                                  replace H := i_pop (q := 709) H I_L_law_708 rfl rfl
                                                  replace H := i_goto (q := 1187) H I_L_law_709 (by decide)
                                                  replace H := i_inc (q := 1190) H I_L_law_1187 rfl rfl rfl
                                                  replace H := i_goto (q := 18) H I_L_law_1190 (by decide)
                                                  replace H : zE (some ys) 20 zm_L_law 18 [.retAddr 0, .ref 0, .ref 71, .int (Int32.ofNat (i + 5))] [] M_705 r h' := by
                                                    rw [zofn_5] at H
                                                    exact H
                                                  exact ih (i + 5) _ r h' (by omega) (by omega) T_705 R_705 H
                                                · skip
                                                  have W := i_ts1 22 (q := 712) H I_L_law_32 (by decide) rfl (by decide)
                                                  clear H
                                                  rcases W with ⟨w_32_22, H⟩ | ⟨w_32_22, H⟩
                                                  · skip
                                                    replace H := i_aln (q := 713) H I_L_law_712 rfl rfl
                                                    replace H := i_xln (q := 714) H I_L_law_713 rfl rfl
                                                    replace H := i_iln (q := 715) H I_L_law_714 rfl rfl
                                                    replace H := i_icst (x := 1) (q := 716) H I_L_law_715 (by decide) rfl
                                                    replace H := i_iadd (q := 717) H I_L_law_716 rfl
                                                    replace H := i_sca (q := 718) H I_L_law_717 rfl
                                                    replace H := i_xln (q := 719) H I_L_law_718 rfl rfl
                                                    replace H := i_iln (q := 720) H I_L_law_719 rfl rfl
                                                    replace H := i_icst (x := 2) (q := 721) H I_L_law_720 (by decide) rfl
                                                    replace H := i_iadd (q := 722) H I_L_law_721 rfl
                                                    replace H := i_sca (q := 723) H I_L_law_722 rfl
                                                    have W := i_cvr2 (q := 726) H I_L_law_723 K_9_105 Zm_92 rfl
                                                    clear H
                                                    obtain ⟨r1, h1, Hc, K1⟩ := W
                                                    obtain ⟨M_723, v_723, e1, e2, T_723, P_723⟩ := pf_mean ht hR Hc
                                                    have H := K1 _ _ e1 e2
                                                    clear e1 e2 Hc K1
                                                    replace H := i_pop2 (q := 727) H I_L_law_726 rfl
                                                    replace H := i_aln (q := 728) H I_L_law_727 rfl rfl
                                                    replace H := i_xln (q := 729) H I_L_law_728 rfl rfl
                                                    replace H := i_iln (q := 730) H I_L_law_729 rfl rfl
                                                    replace H := i_icst (x := 1) (q := 731) H I_L_law_730 (by decide) rfl
                                                    replace H := i_iadd (q := 732) H I_L_law_731 rfl
                                                    replace H := i_sca (q := 733) H I_L_law_732 rfl
                                                    replace H := i_xln (q := 734) H I_L_law_733 rfl rfl
                                                    replace H := i_iln (q := 735) H I_L_law_734 rfl rfl
                                                    replace H := i_icst (x := 2) (q := 736) H I_L_law_735 (by decide) rfl
                                                    replace H := i_iadd (q := 737) H I_L_law_736 rfl
                                                    replace H := i_sca (q := 738) H I_L_law_737 rfl
                                                    have W := i_cvr2 (q := 741) H I_L_law_738 K_9_109 Zm_165 rfl
                                                    clear H
                                                    obtain ⟨r1, h1, Hc, K1⟩ := W
                                                    obtain ⟨M_738, v_738, e1, e2, T_738, R_738⟩ := P_723 _ _ Hc
                                                    have H := K1 _ _ e1 e2
                                                    clear e1 e2 Hc K1
                                                    replace H := i_pop2 (q := 742) H I_L_law_741 rfl
                                                    replace H := i_goto (q := 1187) H I_L_law_742 (by decide)
                                                    replace H := i_inc (q := 1190) H I_L_law_1187 rfl rfl rfl
                                                    replace H := i_goto (q := 18) H I_L_law_1190 (by decide)
                                                    replace H : zE (some ys) 20 zm_L_law 18 [.retAddr 0, .ref 0, .ref 71, .int (Int32.ofNat (i + 5))] [] M_738 r h' := by
                                                      rw [zofn_5] at H
                                                      exact H
                                                    exact ih (i + 5) _ r h' (by omega) (by omega) T_738 R_738 H
                                                  · skip
                                                    have W := i_ts1 23 (q := 745) H I_L_law_32 (by decide) rfl (by decide)
                                                    clear H
                                                    rcases W with ⟨w_32_23, H⟩ | ⟨w_32_23, H⟩
                                                    · skip
                                                      replace H := i_aln (q := 746) H I_L_law_745 rfl rfl
                                                      replace H := i_xln (q := 747) H I_L_law_746 rfl rfl
                                                      replace H := i_iln (q := 748) H I_L_law_747 rfl rfl
                                                      replace H := i_icst (x := 1) (q := 749) H I_L_law_748 (by decide) rfl
                                                      replace H := i_iadd (q := 750) H I_L_law_749 rfl
                                                      replace H := i_sca (q := 751) H I_L_law_750 rfl
                                                      replace H := i_xln (q := 752) H I_L_law_751 rfl rfl
                                                      replace H := i_iln (q := 753) H I_L_law_752 rfl rfl
                                                      replace H := i_icst (x := 2) (q := 754) H I_L_law_753 (by decide) rfl
                                                      replace H := i_iadd (q := 755) H I_L_law_754 rfl
                                                      replace H := i_sca (q := 756) H I_L_law_755 rfl
                                                      replace H := i_xln (q := 757) H I_L_law_756 rfl rfl
                                                      replace H := i_iln (q := 758) H I_L_law_757 rfl rfl
                                                      replace H := i_icst (x := 3) (q := 759) H I_L_law_758 (by decide) rfl
                                                      replace H := i_iadd (q := 760) H I_L_law_759 rfl
                                                      replace H := i_sca (q := 761) H I_L_law_760 rfl
                                                      have W := i_cvr3 (q := 764) H I_L_law_761 K_9_110 Zm_93 rfl
                                                      clear H
                                                      obtain ⟨r1, h1, Hc, K1⟩ := W
                                                      obtain ⟨M_761, v_761, e1, e2, T_761, P_761⟩ := pf_luck ht hR Hc
                                                      have H := K1 _ _ e1 e2
                                                      clear e1 e2 Hc K1
                                                      replace H := i_pop2 (q := 765) H I_L_law_764 rfl
                                                      replace H := i_aln (q := 766) H I_L_law_765 rfl rfl
                                                      replace H := i_xln (q := 767) H I_L_law_766 rfl rfl
                                                      replace H := i_iln (q := 768) H I_L_law_767 rfl rfl
                                                      replace H := i_icst (x := 1) (q := 769) H I_L_law_768 (by decide) rfl
                                                      replace H := i_iadd (q := 770) H I_L_law_769 rfl
                                                      replace H := i_sca (q := 771) H I_L_law_770 rfl
                                                      replace H := i_xln (q := 772) H I_L_law_771 rfl rfl
                                                      replace H := i_iln (q := 773) H I_L_law_772 rfl rfl
                                                      replace H := i_icst (x := 2) (q := 774) H I_L_law_773 (by decide) rfl
                                                      replace H := i_iadd (q := 775) H I_L_law_774 rfl
                                                      replace H := i_sca (q := 776) H I_L_law_775 rfl
                                                      replace H := i_xln (q := 777) H I_L_law_776 rfl rfl
                                                      replace H := i_iln (q := 778) H I_L_law_777 rfl rfl
                                                      replace H := i_icst (x := 3) (q := 779) H I_L_law_778 (by decide) rfl
                                                      replace H := i_iadd (q := 780) H I_L_law_779 rfl
                                                      replace H := i_sca (q := 781) H I_L_law_780 rfl
                                                      have W := i_cvr3 (q := 784) H I_L_law_781 K_9_114 Zm_166 rfl
                                                      clear H
                                                      obtain ⟨r1, h1, Hc, K1⟩ := W
                                                      obtain ⟨M_781, v_781, e1, e2, T_781, R_781⟩ := P_761 _ _ Hc
                                                      have H := K1 _ _ e1 e2
                                                      clear e1 e2 Hc K1
                                                      replace H := i_pop2 (q := 785) H I_L_law_784 rfl
                                                      replace H := i_goto (q := 1187) H I_L_law_785 (by decide)
                                                      replace H := i_inc (q := 1190) H I_L_law_1187 rfl rfl rfl
                                                      replace H := i_goto (q := 18) H I_L_law_1190 (by decide)
                                                      replace H : zE (some ys) 20 zm_L_law 18 [.retAddr 0, .ref 0, .ref 71, .int (Int32.ofNat (i + 5))] [] M_781 r h' := by
                                                        rw [zofn_5] at H
                                                        exact H
                                                      exact ih (i + 5) _ r h' (by omega) (by omega) T_781 R_781 H
                                                    · skip
                                                      have W := i_ts1 24 (q := 788) H I_L_law_32 (by decide) rfl (by decide)
                                                      clear H
                                                      rcases W with ⟨w_32_24, H⟩ | ⟨w_32_24, H⟩
                                                      · skip
                                                        replace H := i_aln (q := 789) H I_L_law_788 rfl rfl
                                                        replace H := i_xln (q := 790) H I_L_law_789 rfl rfl
                                                        replace H := i_iln (q := 791) H I_L_law_790 rfl rfl
                                                        replace H := i_icst (x := 1) (q := 792) H I_L_law_791 (by decide) rfl
                                                        replace H := i_iadd (q := 793) H I_L_law_792 rfl
                                                        replace H := i_sca (q := 794) H I_L_law_793 rfl
                                                        replace H := i_xln (q := 795) H I_L_law_794 rfl rfl
                                                        replace H := i_iln (q := 796) H I_L_law_795 rfl rfl
                                                        replace H := i_icst (x := 2) (q := 797) H I_L_law_796 (by decide) rfl
                                                        replace H := i_iadd (q := 798) H I_L_law_797 rfl
                                                        replace H := i_sca (q := 799) H I_L_law_798 rfl
                                                        have W := i_cvr2 (q := 802) H I_L_law_799 K_9_115 Zm_99 rfl
                                                        clear H
                                                        obtain ⟨r1, h1, Hc, K1⟩ := W
                                                        obtain ⟨M_799, v_799, e1, e2, T_799, P_799⟩ := pf_see ht hR Hc
                                                        have H := K1 _ _ e1 e2
                                                        clear e1 e2 Hc K1
                                                        replace H := i_pop (q := 803) H I_L_law_802 rfl rfl
                                                        replace H := i_aln (q := 804) H I_L_law_803 rfl rfl
                                                        replace H := i_xln (q := 805) H I_L_law_804 rfl rfl
                                                        replace H := i_iln (q := 806) H I_L_law_805 rfl rfl
                                                        replace H := i_icst (x := 1) (q := 807) H I_L_law_806 (by decide) rfl
                                                        replace H := i_iadd (q := 808) H I_L_law_807 rfl
                                                        replace H := i_sca (q := 809) H I_L_law_808 rfl
                                                        replace H := i_xln (q := 810) H I_L_law_809 rfl rfl
                                                        replace H := i_iln (q := 811) H I_L_law_810 rfl rfl
                                                        replace H := i_icst (x := 2) (q := 812) H I_L_law_811 (by decide) rfl
                                                        replace H := i_iadd (q := 813) H I_L_law_812 rfl
                                                        replace H := i_sca (q := 814) H I_L_law_813 rfl
                                                        have W := i_cvr2 (q := 817) H I_L_law_814 K_9_118 Zm_167 rfl
                                                        clear H
                                                        obtain ⟨r1, h1, Hc, K1⟩ := W
                                                        obtain ⟨M_814, v_814, e1, e2, T_814, R_814⟩ := P_799 _ _ Hc
                                                        have H := K1 _ _ e1 e2
                                                        clear e1 e2 Hc K1
                                                        replace H := i_pop (q := 818) H I_L_law_817 rfl rfl
                                                        replace H := i_goto (q := 1187) H I_L_law_818 (by decide)
                                                        replace H := i_inc (q := 1190) H I_L_law_1187 rfl rfl rfl
                                                        replace H := i_goto (q := 18) H I_L_law_1190 (by decide)
                                                        replace H : zE (some ys) 20 zm_L_law 18 [.retAddr 0, .ref 0, .ref 71, .int (Int32.ofNat (i + 5))] [] M_814 r h' := by
                                                          rw [zofn_5] at H
                                                          exact H
                                                        exact ih (i + 5) _ r h' (by omega) (by omega) T_814 R_814.1 H
                                                      · skip
                                                        have W := i_ts1 25 (q := 821) H I_L_law_32 (by decide) rfl (by decide)
                                                        clear H
                                                        rcases W with ⟨w_32_25, H⟩ | ⟨w_32_25, H⟩
                                                        · skip
                                                          replace H := i_aln (q := 822) H I_L_law_821 rfl rfl
                                                          replace H := i_xln (q := 823) H I_L_law_822 rfl rfl
                                                          replace H := i_iln (q := 824) H I_L_law_823 rfl rfl
                                                          replace H := i_icst (x := 1) (q := 825) H I_L_law_824 (by decide) rfl
                                                          replace H := i_iadd (q := 826) H I_L_law_825 rfl
                                                          replace H := i_sca (q := 827) H I_L_law_826 rfl
                                                          have W := i_cvr1 (q := 830) H I_L_law_827 K_9_119 Zm_100 rfl
                                                          clear H
                                                          obtain ⟨r1, h1, Hc, K1⟩ := W
                                                          obtain ⟨M_827, v_827, e1, e2, T_827, P_827⟩ := pf_forget ht hR Hc
                                                          have H := K1 _ _ e1 e2
                                                          clear e1 e2 Hc K1
                                                          replace H := i_pop (q := 831) H I_L_law_830 rfl rfl
                                                          replace H := i_aln (q := 832) H I_L_law_831 rfl rfl
                                                          replace H := i_xln (q := 833) H I_L_law_832 rfl rfl
                                                          replace H := i_iln (q := 834) H I_L_law_833 rfl rfl
                                                          replace H := i_icst (x := 1) (q := 835) H I_L_law_834 (by decide) rfl
                                                          replace H := i_iadd (q := 836) H I_L_law_835 rfl
                                                          replace H := i_sca (q := 837) H I_L_law_836 rfl
                                                          have W := i_cvr1 (q := 840) H I_L_law_837 K_9_122 Zm_168 rfl
                                                          clear H
                                                          obtain ⟨r1, h1, Hc, K1⟩ := W
                                                          obtain ⟨M_837, v_837, e1, e2, T_837, R_837⟩ := P_827 _ _ Hc
                                                          have H := K1 _ _ e1 e2
                                                          clear e1 e2 Hc K1
                                                          replace H := i_pop (q := 841) H I_L_law_840 rfl rfl
                                                          replace H := i_goto (q := 1187) H I_L_law_841 (by decide)
                                                          replace H := i_inc (q := 1190) H I_L_law_1187 rfl rfl rfl
                                                          replace H := i_goto (q := 18) H I_L_law_1190 (by decide)
                                                          replace H : zE (some ys) 20 zm_L_law 18 [.retAddr 0, .ref 0, .ref 71, .int (Int32.ofNat (i + 5))] [] M_837 r h' := by
                                                            rw [zofn_5] at H
                                                            exact H
                                                          exact ih (i + 5) _ r h' (by omega) (by omega) T_837 R_837.1 H
                                                        · skip
                                                          have W := i_ts1 26 (q := 844) H I_L_law_32 (by decide) rfl (by decide)
                                                          clear H
                                                          rcases W with ⟨w_32_26, H⟩ | ⟨w_32_26, H⟩
                                                          · skip
                                                            replace H := i_aln (q := 845) H I_L_law_844 rfl rfl
                                                            replace H := i_xln (q := 846) H I_L_law_845 rfl rfl
                                                            replace H := i_iln (q := 847) H I_L_law_846 rfl rfl
                                                            replace H := i_icst (x := 1) (q := 848) H I_L_law_847 (by decide) rfl
                                                            replace H := i_iadd (q := 849) H I_L_law_848 rfl
                                                            replace H := i_sca (q := 850) H I_L_law_849 rfl
                                                            replace H := i_xln (q := 851) H I_L_law_850 rfl rfl
                                                            replace H := i_iln (q := 852) H I_L_law_851 rfl rfl
                                                            replace H := i_icst (x := 2) (q := 853) H I_L_law_852 (by decide) rfl
                                                            replace H := i_iadd (q := 854) H I_L_law_853 rfl
                                                            replace H := i_sca (q := 855) H I_L_law_854 rfl
                                                            have W := i_cvr2 (q := 858) H I_L_law_855 K_9_123 Zm_101 rfl
                                                            clear H
                                                            obtain ⟨r1, h1, Hc, K1⟩ := W
                                                            obtain ⟨M_855, v_855, e1, e2, T_855, P_855⟩ := pf_counts ht hR Hc
                                                            have H := K1 _ _ e1 e2
                                                            clear e1 e2 Hc K1
                                                            replace H := i_pop (q := 859) H I_L_law_858 rfl rfl
                                                            replace H := i_aln (q := 860) H I_L_law_859 rfl rfl
                                                            replace H := i_xln (q := 861) H I_L_law_860 rfl rfl
                                                            replace H := i_iln (q := 862) H I_L_law_861 rfl rfl
                                                            replace H := i_icst (x := 1) (q := 863) H I_L_law_862 (by decide) rfl
                                                            replace H := i_iadd (q := 864) H I_L_law_863 rfl
                                                            replace H := i_sca (q := 865) H I_L_law_864 rfl
                                                            replace H := i_xln (q := 866) H I_L_law_865 rfl rfl
                                                            replace H := i_iln (q := 867) H I_L_law_866 rfl rfl
                                                            replace H := i_icst (x := 2) (q := 868) H I_L_law_867 (by decide) rfl
                                                            replace H := i_iadd (q := 869) H I_L_law_868 rfl
                                                            replace H := i_sca (q := 870) H I_L_law_869 rfl
                                                            have W := i_cvr2 (q := 873) H I_L_law_870 K_9_126 Zm_171 rfl
                                                            clear H
                                                            obtain ⟨r1, h1, Hc, K1⟩ := W
                                                            obtain ⟨M_870, v_870, e1, e2, T_870, R_870⟩ := P_855 _ _ Hc
                                                            have H := K1 _ _ e1 e2
                                                            clear e1 e2 Hc K1
                                                            replace H := i_pop (q := 874) H I_L_law_873 rfl rfl
                                                            replace H := i_goto (q := 1187) H I_L_law_874 (by decide)
                                                            replace H := i_inc (q := 1190) H I_L_law_1187 rfl rfl rfl
                                                            replace H := i_goto (q := 18) H I_L_law_1190 (by decide)
                                                            replace H : zE (some ys) 20 zm_L_law 18 [.retAddr 0, .ref 0, .ref 71, .int (Int32.ofNat (i + 5))] [] M_870 r h' := by
                                                              rw [zofn_5] at H
                                                              exact H
                                                            exact ih (i + 5) _ r h' (by omega) (by omega) T_870 R_870 H
                                                          · skip
                                                            have W := i_ts1 27 (q := 877) H I_L_law_32 (by decide) rfl (by decide)
                                                            clear H
                                                            rcases W with ⟨w_32_27, H⟩ | ⟨w_32_27, H⟩
                                                            · skip
                                                              replace H := i_aln (q := 878) H I_L_law_877 rfl rfl
                                                              have W := i_cvr0 (q := 881) H I_L_law_878 K_9_127 Zm_102 rfl
                                                              clear H
                                                              obtain ⟨r1, h1, Hc, K1⟩ := W
                                                              obtain ⟨M_878, v_878, e1, e2, T_878, P_878⟩ := pf_slacks ht hR Hc
                                                              have H := K1 _ _ e1 e2
                                                              clear e1 e2 Hc K1
                                                              replace H := i_pop (q := 882) H I_L_law_881 rfl rfl
                                                              replace H := i_aln (q := 883) H I_L_law_882 rfl rfl
                                                              have W := i_cvr0 (q := 886) H I_L_law_883 K_9_130 Zm_172 rfl
                                                              clear H
                                                              obtain ⟨r1, h1, Hc, K1⟩ := W
                                                              obtain ⟨M_883, v_883, e1, e2, T_883, R_883⟩ := P_878 _ _ Hc
                                                              have H := K1 _ _ e1 e2
                                                              clear e1 e2 Hc K1
                                                              replace H := i_pop (q := 887) H I_L_law_886 rfl rfl
                                                              replace H := i_goto (q := 1187) H I_L_law_887 (by decide)
                                                              replace H := i_inc (q := 1190) H I_L_law_1187 rfl rfl rfl
                                                              replace H := i_goto (q := 18) H I_L_law_1190 (by decide)
                                                              replace H : zE (some ys) 20 zm_L_law 18 [.retAddr 0, .ref 0, .ref 71, .int (Int32.ofNat (i + 5))] [] M_883 r h' := by
                                                                rw [zofn_5] at H
                                                                exact H
                                                              exact ih (i + 5) _ r h' (by omega) (by omega) T_883 R_883 H
                                                            · skip
                                                              have W := i_ts1 28 (q := 890) H I_L_law_32 (by decide) rfl (by decide)
                                                              clear H
                                                              rcases W with ⟨w_32_28, H⟩ | ⟨w_32_28, H⟩
                                                              · skip
                                                                replace H := i_aln (q := 891) H I_L_law_890 rfl rfl
                                                                replace H := i_xln (q := 892) H I_L_law_891 rfl rfl
                                                                replace H := i_iln (q := 893) H I_L_law_892 rfl rfl
                                                                replace H := i_icst (x := 1) (q := 894) H I_L_law_893 (by decide) rfl
                                                                replace H := i_iadd (q := 895) H I_L_law_894 rfl
                                                                replace H := i_sca (q := 896) H I_L_law_895 rfl
                                                                replace H := i_xln (q := 897) H I_L_law_896 rfl rfl
                                                                replace H := i_iln (q := 898) H I_L_law_897 rfl rfl
                                                                replace H := i_icst (x := 2) (q := 899) H I_L_law_898 (by decide) rfl
                                                                replace H := i_iadd (q := 900) H I_L_law_899 rfl
                                                                replace H := i_sca (q := 901) H I_L_law_900 rfl
                                                                have W := i_cvr2 (q := 904) H I_L_law_901 K_9_131 Zm_103 rfl
                                                                clear H
                                                                obtain ⟨r1, h1, Hc, K1⟩ := W
                                                                obtain ⟨M_901, v_901, e1, e2, T_901, P_901⟩ := pf_look ht hR Hc
                                                                have H := K1 _ _ e1 e2
                                                                clear e1 e2 Hc K1
                                                                replace H := i_pop (q := 905) H I_L_law_904 rfl rfl
                                                                replace H := i_aln (q := 906) H I_L_law_905 rfl rfl
                                                                replace H := i_xln (q := 907) H I_L_law_906 rfl rfl
                                                                replace H := i_iln (q := 908) H I_L_law_907 rfl rfl
                                                                replace H := i_icst (x := 1) (q := 909) H I_L_law_908 (by decide) rfl
                                                                replace H := i_iadd (q := 910) H I_L_law_909 rfl
                                                                replace H := i_sca (q := 911) H I_L_law_910 rfl
                                                                replace H := i_xln (q := 912) H I_L_law_911 rfl rfl
                                                                replace H := i_iln (q := 913) H I_L_law_912 rfl rfl
                                                                replace H := i_icst (x := 2) (q := 914) H I_L_law_913 (by decide) rfl
                                                                replace H := i_iadd (q := 915) H I_L_law_914 rfl
                                                                replace H := i_sca (q := 916) H I_L_law_915 rfl
                                                                have W := i_cvr2 (q := 919) H I_L_law_916 K_9_134 Zm_173 rfl
                                                                clear H
                                                                obtain ⟨r1, h1, Hc, K1⟩ := W
                                                                obtain ⟨M_916, v_916, e1, e2, T_916, R_916⟩ := P_901 _ _ Hc
                                                                have H := K1 _ _ e1 e2
                                                                clear e1 e2 Hc K1
                                                                replace H := i_pop (q := 920) H I_L_law_919 rfl rfl
                                                                replace H := i_goto (q := 1187) H I_L_law_920 (by decide)
                                                                replace H := i_inc (q := 1190) H I_L_law_1187 rfl rfl rfl
                                                                replace H := i_goto (q := 18) H I_L_law_1190 (by decide)
                                                                replace H : zE (some ys) 20 zm_L_law 18 [.retAddr 0, .ref 0, .ref 71, .int (Int32.ofNat (i + 5))] [] M_916 r h' := by
                                                                  rw [zofn_5] at H
                                                                  exact H
                                                                exact ih (i + 5) _ r h' (by omega) (by omega) T_916 R_916 H
                                                              · skip
                                                                have W := i_ts1 29 (q := 923) H I_L_law_32 (by decide) rfl (by decide)
                                                                clear H
                                                                rcases W with ⟨w_32_29, H⟩ | ⟨w_32_29, H⟩
                                                                · skip
                                                                  replace H := i_aln (q := 924) H I_L_law_923 rfl rfl
                                                                  replace H := i_xln (q := 925) H I_L_law_924 rfl rfl
                                                                  replace H := i_iln (q := 926) H I_L_law_925 rfl rfl
                                                                  replace H := i_icst (x := 1) (q := 927) H I_L_law_926 (by decide) rfl
                                                                  replace H := i_iadd (q := 928) H I_L_law_927 rfl
                                                                  replace H := i_sca (q := 929) H I_L_law_928 rfl
                                                                  replace H := i_xln (q := 930) H I_L_law_929 rfl rfl
                                                                  replace H := i_iln (q := 931) H I_L_law_930 rfl rfl
                                                                  replace H := i_icst (x := 2) (q := 932) H I_L_law_931 (by decide) rfl
                                                                  replace H := i_iadd (q := 933) H I_L_law_932 rfl
                                                                  replace H := i_sca (q := 934) H I_L_law_933 rfl
                                                                  replace H := i_xln (q := 935) H I_L_law_934 rfl rfl
                                                                  replace H := i_iln (q := 936) H I_L_law_935 rfl rfl
                                                                  replace H := i_icst (x := 3) (q := 937) H I_L_law_936 (by decide) rfl
                                                                  replace H := i_iadd (q := 938) H I_L_law_937 rfl
                                                                  replace H := i_sca (q := 939) H I_L_law_938 rfl
                                                                  have W := i_cvr3 (q := 942) H I_L_law_939 K_9_135 Zm_105 rfl
                                                                  clear H
                                                                  obtain ⟨r1, h1, Hc, K1⟩ := W
                                                                  obtain ⟨M_939, v_939, e1, e2, T_939, P_939⟩ := pf_drift ht hR Hc
                                                                  have H := K1 _ _ e1 e2
                                                                  clear e1 e2 Hc K1
                                                                  replace H := i_pop (q := 943) H I_L_law_942 rfl rfl
                                                                  replace H := i_aln (q := 944) H I_L_law_943 rfl rfl
                                                                  replace H := i_xln (q := 945) H I_L_law_944 rfl rfl
                                                                  replace H := i_iln (q := 946) H I_L_law_945 rfl rfl
                                                                  replace H := i_icst (x := 1) (q := 947) H I_L_law_946 (by decide) rfl
                                                                  replace H := i_iadd (q := 948) H I_L_law_947 rfl
                                                                  replace H := i_sca (q := 949) H I_L_law_948 rfl
                                                                  replace H := i_xln (q := 950) H I_L_law_949 rfl rfl
                                                                  replace H := i_iln (q := 951) H I_L_law_950 rfl rfl
                                                                  replace H := i_icst (x := 2) (q := 952) H I_L_law_951 (by decide) rfl
                                                                  replace H := i_iadd (q := 953) H I_L_law_952 rfl
                                                                  replace H := i_sca (q := 954) H I_L_law_953 rfl
                                                                  replace H := i_xln (q := 955) H I_L_law_954 rfl rfl
                                                                  replace H := i_iln (q := 956) H I_L_law_955 rfl rfl
                                                                  replace H := i_icst (x := 3) (q := 957) H I_L_law_956 (by decide) rfl
                                                                  replace H := i_iadd (q := 958) H I_L_law_957 rfl
                                                                  replace H := i_sca (q := 959) H I_L_law_958 rfl
                                                                  have W := i_cvr3 (q := 962) H I_L_law_959 K_9_138 Zm_174 rfl
                                                                  clear H
                                                                  obtain ⟨r1, h1, Hc, K1⟩ := W
                                                                  obtain ⟨M_959, v_959, e1, e2, T_959, R_959⟩ := P_939 _ _ Hc
                                                                  have H := K1 _ _ e1 e2
                                                                  clear e1 e2 Hc K1
                                                                  replace H := i_pop (q := 963) H I_L_law_962 rfl rfl
                                                                  replace H := i_goto (q := 1187) H I_L_law_963 (by decide)
                                                                  replace H := i_inc (q := 1190) H I_L_law_1187 rfl rfl rfl
                                                                  replace H := i_goto (q := 18) H I_L_law_1190 (by decide)
                                                                  replace H : zE (some ys) 20 zm_L_law 18 [.retAddr 0, .ref 0, .ref 71, .int (Int32.ofNat (i + 5))] [] M_959 r h' := by
                                                                    rw [zofn_5] at H
                                                                    exact H
                                                                  exact ih (i + 5) _ r h' (by omega) (by omega) T_959 R_959 H
                                                                · skip
                                                                  have W := i_ts1 30 (q := 966) H I_L_law_32 (by decide) rfl (by decide)
                                                                  clear H
                                                                  rcases W with ⟨w_32_30, H⟩ | ⟨w_32_30, H⟩
                                                                  · skip
                                                                    replace H := i_aln (q := 967) H I_L_law_966 rfl rfl
                                                                    replace H := i_xln (q := 968) H I_L_law_967 rfl rfl
                                                                    replace H := i_iln (q := 969) H I_L_law_968 rfl rfl
                                                                    replace H := i_icst (x := 1) (q := 970) H I_L_law_969 (by decide) rfl
                                                                    replace H := i_iadd (q := 971) H I_L_law_970 rfl
                                                                    replace H := i_sca (q := 972) H I_L_law_971 rfl
                                                                    have W := i_cvr1 (q := 975) H I_L_law_972 K_9_139 Zm_106 rfl
                                                                    clear H
                                                                    obtain ⟨r1, h1, Hc, K1⟩ := W
                                                                    obtain ⟨M_972, v_972, e1, e2, T_972, P_972⟩ := pf_keep ht hR Hc
                                                                    have H := K1 _ _ e1 e2
                                                                    clear e1 e2 Hc K1
                                                                    replace H := i_pop (q := 976) H I_L_law_975 rfl rfl
                                                                    replace H := i_aln (q := 977) H I_L_law_976 rfl rfl
                                                                    replace H := i_xln (q := 978) H I_L_law_977 rfl rfl
                                                                    replace H := i_iln (q := 979) H I_L_law_978 rfl rfl
                                                                    replace H := i_icst (x := 1) (q := 980) H I_L_law_979 (by decide) rfl
                                                                    replace H := i_iadd (q := 981) H I_L_law_980 rfl
                                                                    replace H := i_sca (q := 982) H I_L_law_981 rfl
                                                                    have W := i_cvr1 (q := 985) H I_L_law_982 K_9_142 Zm_175 rfl
                                                                    clear H
                                                                    obtain ⟨r1, h1, Hc, K1⟩ := W
                                                                    obtain ⟨M_982, v_982, e1, e2, T_982, R_982⟩ := P_972 _ _ Hc
                                                                    have H := K1 _ _ e1 e2
                                                                    clear e1 e2 Hc K1
                                                                    replace H := i_pop (q := 986) H I_L_law_985 rfl rfl
                                                                    replace H := i_goto (q := 1187) H I_L_law_986 (by decide)
                                                                    replace H := i_inc (q := 1190) H I_L_law_1187 rfl rfl rfl
                                                                    replace H := i_goto (q := 18) H I_L_law_1190 (by decide)
                                                                    replace H : zE (some ys) 20 zm_L_law 18 [.retAddr 0, .ref 0, .ref 71, .int (Int32.ofNat (i + 5))] [] M_982 r h' := by
                                                                      rw [zofn_5] at H
                                                                      exact H
                                                                    exact ih (i + 5) _ r h' (by omega) (by omega) T_982 R_982.1 H
                                                                  · skip
                                                                    have W := i_ts1 31 (q := 989) H I_L_law_32 (by decide) rfl (by decide)
                                                                    clear H
                                                                    rcases W with ⟨w_32_31, H⟩ | ⟨w_32_31, H⟩
                                                                    · skip
                                                                      replace H := i_aln (q := 990) H I_L_law_989 rfl rfl
                                                                      replace H := i_xln (q := 991) H I_L_law_990 rfl rfl
                                                                      replace H := i_iln (q := 992) H I_L_law_991 rfl rfl
                                                                      replace H := i_icst (x := 1) (q := 993) H I_L_law_992 (by decide) rfl
                                                                      replace H := i_iadd (q := 994) H I_L_law_993 rfl
                                                                      replace H := i_sca (q := 995) H I_L_law_994 rfl
                                                                      have W := i_cvr1 (q := 998) H I_L_law_995 K_9_143 Zm_107 rfl
                                                                      clear H
                                                                      obtain ⟨r1, h1, Hc, K1⟩ := W
                                                                      obtain ⟨M_995, v_995, e1, e2, T_995, P_995⟩ := pf_back ht hR Hc
                                                                      have H := K1 _ _ e1 e2
                                                                      clear e1 e2 Hc K1
                                                                      replace H := i_pop (q := 999) H I_L_law_998 rfl rfl
                                                                      replace H := i_aln (q := 1000) H I_L_law_999 rfl rfl
                                                                      replace H := i_xln (q := 1001) H I_L_law_1000 rfl rfl
                                                                      replace H := i_iln (q := 1002) H I_L_law_1001 rfl rfl
                                                                      replace H := i_icst (x := 1) (q := 1003) H I_L_law_1002 (by decide) rfl
                                                                      replace H := i_iadd (q := 1004) H I_L_law_1003 rfl
                                                                      replace H := i_sca (q := 1005) H I_L_law_1004 rfl
                                                                      have W := i_cvr1 (q := 1008) H I_L_law_1005 K_9_146 Zm_176 rfl
                                                                      clear H
                                                                      obtain ⟨r1, h1, Hc, K1⟩ := W
                                                                      obtain ⟨M_1005, v_1005, e1, e2, T_1005, R_1005⟩ := P_995 _ _ Hc
                                                                      have H := K1 _ _ e1 e2
                                                                      clear e1 e2 Hc K1
                                                                      replace H := i_pop (q := 1009) H I_L_law_1008 rfl rfl
                                                                      replace H := i_goto (q := 1187) H I_L_law_1009 (by decide)
                                                                      replace H := i_inc (q := 1190) H I_L_law_1187 rfl rfl rfl
                                                                      replace H := i_goto (q := 18) H I_L_law_1190 (by decide)
                                                                      replace H : zE (some ys) 20 zm_L_law 18 [.retAddr 0, .ref 0, .ref 71, .int (Int32.ofNat (i + 5))] [] M_1005 r h' := by
                                                                        rw [zofn_5] at H
                                                                        exact H
                                                                      exact ih (i + 5) _ r h' (by omega) (by omega) T_1005 R_1005.1 H
                                                                    · skip
                                                                      have W := i_ts1 32 (q := 1012) H I_L_law_32 (by decide) rfl (by decide)
                                                                      clear H
                                                                      rcases W with ⟨w_32_32, H⟩ | ⟨w_32_32, H⟩
                                                                      · skip
                                                                        replace H := i_aln (q := 1013) H I_L_law_1012 rfl rfl
                                                                        replace H := i_xln (q := 1014) H I_L_law_1013 rfl rfl
                                                                        replace H := i_iln (q := 1015) H I_L_law_1014 rfl rfl
                                                                        replace H := i_icst (x := 1) (q := 1016) H I_L_law_1015 (by decide) rfl
                                                                        replace H := i_iadd (q := 1017) H I_L_law_1016 rfl
                                                                        replace H := i_sca (q := 1018) H I_L_law_1017 rfl
                                                                        replace H := i_xln (q := 1019) H I_L_law_1018 rfl rfl
                                                                        replace H := i_iln (q := 1020) H I_L_law_1019 rfl rfl
                                                                        replace H := i_icst (x := 2) (q := 1021) H I_L_law_1020 (by decide) rfl
                                                                        replace H := i_iadd (q := 1022) H I_L_law_1021 rfl
                                                                        replace H := i_sca (q := 1023) H I_L_law_1022 rfl
                                                                        replace H := i_xln (q := 1024) H I_L_law_1023 rfl rfl
                                                                        replace H := i_iln (q := 1025) H I_L_law_1024 rfl rfl
                                                                        replace H := i_icst (x := 3) (q := 1026) H I_L_law_1025 (by decide) rfl
                                                                        replace H := i_iadd (q := 1027) H I_L_law_1026 rfl
                                                                        replace H := i_sca (q := 1028) H I_L_law_1027 rfl
                                                                        have W := i_cvr3 (q := 1031) H I_L_law_1028 K_9_147 Zm_108 rfl
                                                                        clear H
                                                                        obtain ⟨r1, h1, Hc, K1⟩ := W
                                                                        obtain ⟨M_1028, v_1028, e1, e2, T_1028, P_1028⟩ := pf_sheet ht hR Hc
                                                                        have H := K1 _ _ e1 e2
                                                                        clear e1 e2 Hc K1
                                                                        replace H := i_pop (q := 1032) H I_L_law_1031 rfl rfl
                                                                        replace H := i_aln (q := 1033) H I_L_law_1032 rfl rfl
                                                                        replace H := i_xln (q := 1034) H I_L_law_1033 rfl rfl
                                                                        replace H := i_iln (q := 1035) H I_L_law_1034 rfl rfl
                                                                        replace H := i_icst (x := 1) (q := 1036) H I_L_law_1035 (by decide) rfl
                                                                        replace H := i_iadd (q := 1037) H I_L_law_1036 rfl
                                                                        replace H := i_sca (q := 1038) H I_L_law_1037 rfl
                                                                        replace H := i_xln (q := 1039) H I_L_law_1038 rfl rfl
                                                                        replace H := i_iln (q := 1040) H I_L_law_1039 rfl rfl
                                                                        replace H := i_icst (x := 2) (q := 1041) H I_L_law_1040 (by decide) rfl
                                                                        replace H := i_iadd (q := 1042) H I_L_law_1041 rfl
                                                                        replace H := i_sca (q := 1043) H I_L_law_1042 rfl
                                                                        replace H := i_xln (q := 1044) H I_L_law_1043 rfl rfl
                                                                        replace H := i_iln (q := 1045) H I_L_law_1044 rfl rfl
                                                                        replace H := i_icst (x := 3) (q := 1046) H I_L_law_1045 (by decide) rfl
                                                                        replace H := i_iadd (q := 1047) H I_L_law_1046 rfl
                                                                        replace H := i_sca (q := 1048) H I_L_law_1047 rfl
                                                                        have W := i_cvr3 (q := 1051) H I_L_law_1048 K_9_150 Zm_177 rfl
                                                                        clear H
                                                                        obtain ⟨r1, h1, Hc, K1⟩ := W
                                                                        obtain ⟨M_1048, v_1048, e1, e2, T_1048, R_1048⟩ := P_1028 _ _ Hc
                                                                        have H := K1 _ _ e1 e2
                                                                        clear e1 e2 Hc K1
                                                                        replace H := i_pop (q := 1052) H I_L_law_1051 rfl rfl
                                                                        replace H := i_goto (q := 1187) H I_L_law_1052 (by decide)
                                                                        replace H := i_inc (q := 1190) H I_L_law_1187 rfl rfl rfl
                                                                        replace H := i_goto (q := 18) H I_L_law_1190 (by decide)
                                                                        replace H : zE (some ys) 20 zm_L_law 18 [.retAddr 0, .ref 0, .ref 71, .int (Int32.ofNat (i + 5))] [] M_1048 r h' := by
                                                                          rw [zofn_5] at H
                                                                          exact H
                                                                        exact ih (i + 5) _ r h' (by omega) (by omega) T_1048 R_1048 H
                                                                      · skip
                                                                        have W := i_ts1 33 (q := 1055) H I_L_law_32 (by decide) rfl (by decide)
                                                                        clear H
                                                                        rcases W with ⟨w_32_33, H⟩ | ⟨w_32_33, H⟩
                                                                        · skip
                                                                          replace H := i_aln (q := 1056) H I_L_law_1055 rfl rfl
                                                                          replace H := i_xln (q := 1057) H I_L_law_1056 rfl rfl
                                                                          replace H := i_iln (q := 1058) H I_L_law_1057 rfl rfl
                                                                          replace H := i_icst (x := 1) (q := 1059) H I_L_law_1058 (by decide) rfl
                                                                          replace H := i_iadd (q := 1060) H I_L_law_1059 rfl
                                                                          replace H := i_sca (q := 1061) H I_L_law_1060 rfl
                                                                          replace H := i_xln (q := 1062) H I_L_law_1061 rfl rfl
                                                                          replace H := i_iln (q := 1063) H I_L_law_1062 rfl rfl
                                                                          replace H := i_icst (x := 2) (q := 1064) H I_L_law_1063 (by decide) rfl
                                                                          replace H := i_iadd (q := 1065) H I_L_law_1064 rfl
                                                                          replace H := i_sca (q := 1066) H I_L_law_1065 rfl
                                                                          replace H := i_xln (q := 1067) H I_L_law_1066 rfl rfl
                                                                          replace H := i_iln (q := 1068) H I_L_law_1067 rfl rfl
                                                                          replace H := i_icst (x := 3) (q := 1069) H I_L_law_1068 (by decide) rfl
                                                                          replace H := i_iadd (q := 1070) H I_L_law_1069 rfl
                                                                          replace H := i_sca (q := 1071) H I_L_law_1070 rfl
                                                                          have W := i_cvr3 (q := 1074) H I_L_law_1071 K_9_151 Zm_109 rfl
                                                                          clear H
                                                                          obtain ⟨r1, h1, Hc, K1⟩ := W
                                                                          obtain ⟨M_1071, v_1071, e1, e2, T_1071, P_1071⟩ := pf_lay ht hR Hc
                                                                          have H := K1 _ _ e1 e2
                                                                          clear e1 e2 Hc K1
                                                                          replace H := i_pop (q := 1075) H I_L_law_1074 rfl rfl
                                                                          replace H := i_aln (q := 1076) H I_L_law_1075 rfl rfl
                                                                          replace H := i_xln (q := 1077) H I_L_law_1076 rfl rfl
                                                                          replace H := i_iln (q := 1078) H I_L_law_1077 rfl rfl
                                                                          replace H := i_icst (x := 1) (q := 1079) H I_L_law_1078 (by decide) rfl
                                                                          replace H := i_iadd (q := 1080) H I_L_law_1079 rfl
                                                                          replace H := i_sca (q := 1081) H I_L_law_1080 rfl
                                                                          replace H := i_xln (q := 1082) H I_L_law_1081 rfl rfl
                                                                          replace H := i_iln (q := 1083) H I_L_law_1082 rfl rfl
                                                                          replace H := i_icst (x := 2) (q := 1084) H I_L_law_1083 (by decide) rfl
                                                                          replace H := i_iadd (q := 1085) H I_L_law_1084 rfl
                                                                          replace H := i_sca (q := 1086) H I_L_law_1085 rfl
                                                                          replace H := i_xln (q := 1087) H I_L_law_1086 rfl rfl
                                                                          replace H := i_iln (q := 1088) H I_L_law_1087 rfl rfl
                                                                          replace H := i_icst (x := 3) (q := 1089) H I_L_law_1088 (by decide) rfl
                                                                          replace H := i_iadd (q := 1090) H I_L_law_1089 rfl
                                                                          replace H := i_sca (q := 1091) H I_L_law_1090 rfl
                                                                          have W := i_cvr3 (q := 1094) H I_L_law_1091 K_9_154 Zm_178 rfl
                                                                          clear H
                                                                          obtain ⟨r1, h1, Hc, K1⟩ := W
                                                                          obtain ⟨M_1091, v_1091, e1, e2, T_1091, R_1091⟩ := P_1071 _ _ Hc
                                                                          have H := K1 _ _ e1 e2
                                                                          clear e1 e2 Hc K1
                                                                          replace H := i_pop (q := 1095) H I_L_law_1094 rfl rfl
                                                                          replace H := i_goto (q := 1187) H I_L_law_1095 (by decide)
                                                                          replace H := i_inc (q := 1190) H I_L_law_1187 rfl rfl rfl
                                                                          replace H := i_goto (q := 18) H I_L_law_1190 (by decide)
                                                                          replace H : zE (some ys) 20 zm_L_law 18 [.retAddr 0, .ref 0, .ref 71, .int (Int32.ofNat (i + 5))] [] M_1091 r h' := by
                                                                            rw [zofn_5] at H
                                                                            exact H
                                                                          exact ih (i + 5) _ r h' (by omega) (by omega) T_1091 R_1091 H
                                                                        · skip
                                                                          have W := i_ts1 34 (q := 1098) H I_L_law_32 (by decide) rfl (by decide)
                                                                          clear H
                                                                          rcases W with ⟨w_32_34, H⟩ | ⟨w_32_34, H⟩
                                                                          · skip
                                                                            replace H := i_aln (q := 1099) H I_L_law_1098 rfl rfl
                                                                            replace H := i_xln (q := 1100) H I_L_law_1099 rfl rfl
                                                                            replace H := i_iln (q := 1101) H I_L_law_1100 rfl rfl
                                                                            replace H := i_icst (x := 1) (q := 1102) H I_L_law_1101 (by decide) rfl
                                                                            replace H := i_iadd (q := 1103) H I_L_law_1102 rfl
                                                                            replace H := i_sca (q := 1104) H I_L_law_1103 rfl
                                                                            replace H := i_xln (q := 1105) H I_L_law_1104 rfl rfl
                                                                            replace H := i_iln (q := 1106) H I_L_law_1105 rfl rfl
                                                                            replace H := i_icst (x := 2) (q := 1107) H I_L_law_1106 (by decide) rfl
                                                                            replace H := i_iadd (q := 1108) H I_L_law_1107 rfl
                                                                            replace H := i_sca (q := 1109) H I_L_law_1108 rfl
                                                                            replace H := i_xln (q := 1110) H I_L_law_1109 rfl rfl
                                                                            replace H := i_iln (q := 1111) H I_L_law_1110 rfl rfl
                                                                            replace H := i_icst (x := 3) (q := 1112) H I_L_law_1111 (by decide) rfl
                                                                            replace H := i_iadd (q := 1113) H I_L_law_1112 rfl
                                                                            replace H := i_sca (q := 1114) H I_L_law_1113 rfl
                                                                            replace H := i_xln (q := 1115) H I_L_law_1114 rfl rfl
                                                                            replace H := i_iln (q := 1116) H I_L_law_1115 rfl rfl
                                                                            replace H := i_icst (x := 4) (q := 1117) H I_L_law_1116 (by decide) rfl
                                                                            replace H := i_iadd (q := 1118) H I_L_law_1117 rfl
                                                                            replace H := i_sca (q := 1119) H I_L_law_1118 rfl
                                                                            have W := i_cvr4 (q := 1122) H I_L_law_1119 K_9_155 Zm_110 rfl
                                                                            clear H
                                                                            obtain ⟨r1, h1, Hc, K1⟩ := W
                                                                            obtain ⟨M_1119, v_1119, e1, e2, T_1119, P_1119⟩ := pf_read ht hR Hc
                                                                            have H := K1 _ _ e1 e2
                                                                            clear e1 e2 Hc K1
                                                                            replace H := i_pop (q := 1123) H I_L_law_1122 rfl rfl
                                                                            replace H := i_aln (q := 1124) H I_L_law_1123 rfl rfl
                                                                            replace H := i_xln (q := 1125) H I_L_law_1124 rfl rfl
                                                                            replace H := i_iln (q := 1126) H I_L_law_1125 rfl rfl
                                                                            replace H := i_icst (x := 1) (q := 1127) H I_L_law_1126 (by decide) rfl
                                                                            replace H := i_iadd (q := 1128) H I_L_law_1127 rfl
                                                                            replace H := i_sca (q := 1129) H I_L_law_1128 rfl
                                                                            replace H := i_xln (q := 1130) H I_L_law_1129 rfl rfl
                                                                            replace H := i_iln (q := 1131) H I_L_law_1130 rfl rfl
                                                                            replace H := i_icst (x := 2) (q := 1132) H I_L_law_1131 (by decide) rfl
                                                                            replace H := i_iadd (q := 1133) H I_L_law_1132 rfl
                                                                            replace H := i_sca (q := 1134) H I_L_law_1133 rfl
                                                                            replace H := i_xln (q := 1135) H I_L_law_1134 rfl rfl
                                                                            replace H := i_iln (q := 1136) H I_L_law_1135 rfl rfl
                                                                            replace H := i_icst (x := 3) (q := 1137) H I_L_law_1136 (by decide) rfl
                                                                            replace H := i_iadd (q := 1138) H I_L_law_1137 rfl
                                                                            replace H := i_sca (q := 1139) H I_L_law_1138 rfl
                                                                            replace H := i_xln (q := 1140) H I_L_law_1139 rfl rfl
                                                                            replace H := i_iln (q := 1141) H I_L_law_1140 rfl rfl
                                                                            replace H := i_icst (x := 4) (q := 1142) H I_L_law_1141 (by decide) rfl
                                                                            replace H := i_iadd (q := 1143) H I_L_law_1142 rfl
                                                                            replace H := i_sca (q := 1144) H I_L_law_1143 rfl
                                                                            have W := i_cvr4 (q := 1147) H I_L_law_1144 K_9_159 Zm_179 rfl
                                                                            clear H
                                                                            obtain ⟨r1, h1, Hc, K1⟩ := W
                                                                            obtain ⟨M_1144, v_1144, e1, e2, T_1144, R_1144⟩ := P_1119 _ _ Hc
                                                                            have H := K1 _ _ e1 e2
                                                                            clear e1 e2 Hc K1
                                                                            replace H := i_pop (q := 1148) H I_L_law_1147 rfl rfl
                                                                            replace H := i_goto (q := 1187) H I_L_law_1148 (by decide)
                                                                            replace H := i_inc (q := 1190) H I_L_law_1187 rfl rfl rfl
                                                                            replace H := i_goto (q := 18) H I_L_law_1190 (by decide)
                                                                            replace H : zE (some ys) 20 zm_L_law 18 [.retAddr 0, .ref 0, .ref 71, .int (Int32.ofNat (i + 5))] [] M_1144 r h' := by
                                                                              rw [zofn_5] at H
                                                                              exact H
                                                                            exact ih (i + 5) _ r h' (by omega) (by omega) T_1144 R_1144.1 H
                                                                          · skip
                                                                            have W := i_ts1 35 (q := 1151) H I_L_law_32 (by decide) rfl (by decide)
                                                                            clear H
                                                                            rcases W with ⟨w_32_35, H⟩ | ⟨w_32_35, H⟩
                                                                            · skip
                                                                              replace H := i_aln (q := 1152) H I_L_law_1151 rfl rfl
                                                                              have W := i_cvr0 (q := 1155) H I_L_law_1152 K_9_160 Zm_111 rfl
                                                                              clear H
                                                                              obtain ⟨r1, h1, Hc, K1⟩ := W
                                                                              obtain ⟨M_1152, v_1152, e1, e2, T_1152, P_1152⟩ := pf_torn ht hR Hc
                                                                              have H := K1 _ _ e1 e2
                                                                              clear e1 e2 Hc K1
                                                                              replace H := i_pop (q := 1156) H I_L_law_1155 rfl rfl
                                                                              replace H := i_aln (q := 1157) H I_L_law_1156 rfl rfl
                                                                              have W := i_cvr0 (q := 1160) H I_L_law_1157 K_9_163 Zm_180 rfl
                                                                              clear H
                                                                              obtain ⟨r1, h1, Hc, K1⟩ := W
                                                                              obtain ⟨M_1157, v_1157, e1, e2, T_1157, R_1157⟩ := P_1152 _ _ Hc
                                                                              have H := K1 _ _ e1 e2
                                                                              clear e1 e2 Hc K1
                                                                              replace H := i_pop (q := 1161) H I_L_law_1160 rfl rfl
                                                                              replace H := i_goto (q := 1187) H I_L_law_1161 (by decide)
                                                                              replace H := i_inc (q := 1190) H I_L_law_1187 rfl rfl rfl
                                                                              replace H := i_goto (q := 18) H I_L_law_1190 (by decide)
                                                                              replace H : zE (some ys) 20 zm_L_law 18 [.retAddr 0, .ref 0, .ref 71, .int (Int32.ofNat (i + 5))] [] M_1157 r h' := by
                                                                                rw [zofn_5] at H
                                                                                exact H
                                                                              exact ih (i + 5) _ r h' (by omega) (by omega) T_1157 R_1157 H
                                                                            · skip
                                                                              have W := i_ts1 36 (q := 1164) H I_L_law_32 (by decide) rfl (by decide)
                                                                              clear H
                                                                              rcases W with ⟨w_32_36, H⟩ | ⟨w_32_36, H⟩
                                                                              · skip
                                                                                replace H := i_aln (q := 1165) H I_L_law_1164 rfl rfl
                                                                                replace H := i_xln (q := 1166) H I_L_law_1165 rfl rfl
                                                                                replace H := i_iln (q := 1167) H I_L_law_1166 rfl rfl
                                                                                replace H := i_icst (x := 1) (q := 1168) H I_L_law_1167 (by decide) rfl
                                                                                replace H := i_iadd (q := 1169) H I_L_law_1168 rfl
                                                                                replace H := i_sca (q := 1170) H I_L_law_1169 rfl
                                                                                have W := i_cvr1 (q := 1173) H I_L_law_1170 K_9_164 Zm_112 rfl
                                                                                clear H
                                                                                obtain ⟨r1, h1, Hc, K1⟩ := W
                                                                                obtain ⟨M_1170, v_1170, e1, e2, T_1170, P_1170⟩ := pd_count ht hR Hc
                                                                                have H := K1 _ _ e1 e2
                                                                                clear e1 e2 Hc K1
                                                                                replace H := i_aln (q := 1174) H I_L_law_1173 rfl rfl
                                                                                replace H := i_xln (q := 1175) H I_L_law_1174 rfl rfl
                                                                                replace H := i_iln (q := 1176) H I_L_law_1175 rfl rfl
                                                                                replace H := i_icst (x := 1) (q := 1177) H I_L_law_1176 (by decide) rfl
                                                                                replace H := i_iadd (q := 1178) H I_L_law_1177 rfl
                                                                                replace H := i_sca (q := 1179) H I_L_law_1178 rfl
                                                                                have W := i_cvr1 (q := 1182) H I_L_law_1179 K_9_167 Zm_181 rfl
                                                                                clear H
                                                                                obtain ⟨r1, h1, Hc, K1⟩ := W
                                                                                obtain ⟨M_1179, v_1179, e1, e2, T_1179, R_1179⟩ := P_1170 _ _ Hc
                                                                                have H := K1 _ _ e1 e2
                                                                                clear e1 e2 Hc K1
                                                                                have W := i_ic_eq (t := 1187) (q := 1185) H I_L_law_1182 (by decide) rfl
                                                                                clear H
                                                                                rcases W with ⟨c_1182, H⟩ | ⟨c_1182, H⟩
                                                                                · skip
                                                                                  replace H := i_inc (q := 1190) H I_L_law_1187 rfl rfl rfl
                                                                                  replace H := i_goto (q := 18) H I_L_law_1190 (by decide)
                                                                                  replace H : zE (some ys) 20 zm_L_law 18 [.retAddr 0, .ref 0, .ref 71, .int (Int32.ofNat (i + 5))] [] M_1179 r h' := by
                                                                                    rw [zofn_5] at H
                                                                                    exact H
                                                                                  exact ih (i + 5) _ r h' (by omega) (by omega) T_1179 R_1179.1 H
                                                                                · skip
                                                                                  replace H := i_icst (x := 0) (q := 1186) H I_L_law_1185 (by decide) rfl
                                                                                  obtain ⟨hr, hh⟩ := i_ir H I_L_law_1186
                                                                                  exact absurd R_1179.2 c_1182
                                                                              · skip
                                                                                replace H := i_tsd (q := 1187) H I_L_law_32 (by have q0 := zne w_32_0 (z := 0) (by decide); have q1 := zne w_32_1 (z := 1) (by decide); have q2 := zne w_32_2 (z := 2) (by decide); have q3 := zne w_32_3 (z := 3) (by decide); have q4 := zne w_32_4 (z := 4) (by decide); have q5 := zne w_32_5 (z := 5) (by decide); have q6 := zne w_32_6 (z := 6) (by decide); have q7 := zne w_32_7 (z := 7) (by decide); have q8 := zne w_32_8 (z := 8) (by decide); have q9 := zne w_32_9 (z := 9) (by decide); have q10 := zne w_32_10 (z := 10) (by decide); have q11 := zne w_32_11 (z := 11) (by decide); have q12 := zne w_32_12 (z := 12) (by decide); have q13 := zne w_32_13 (z := 13) (by decide); have q14 := zne w_32_14 (z := 14) (by decide); have q15 := zne w_32_15 (z := 15) (by decide); have q16 := zne w_32_16 (z := 16) (by decide); have q17 := zne w_32_17 (z := 17) (by decide); have q18 := zne w_32_18 (z := 18) (by decide); have q19 := zne w_32_19 (z := 19) (by decide); have q20 := zne w_32_20 (z := 20) (by decide); have q21 := zne w_32_21 (z := 21) (by decide); have q22 := zne w_32_22 (z := 22) (by decide); have q23 := zne w_32_23 (z := 23) (by decide); have q24 := zne w_32_24 (z := 24) (by decide); have q25 := zne w_32_25 (z := 25) (by decide); have q26 := zne w_32_26 (z := 26) (by decide); have q27 := zne w_32_27 (z := 27) (by decide); have q28 := zne w_32_28 (z := 28) (by decide); have q29 := zne w_32_29 (z := 29) (by decide); have q30 := zne w_32_30 (z := 30) (by decide); have q31 := zne w_32_31 (z := 31) (by decide); have q32 := zne w_32_32 (z := 32) (by decide); have q33 := zne w_32_33 (z := 33) (by decide); have q34 := zne w_32_34 (z := 34) (by decide); have q35 := zne w_32_35 (z := 35) (by decide); have q36 := zne w_32_36 (z := 36) (by decide); omega) (by decide)
                                                                                replace H := i_inc (q := 1190) H I_L_law_1187 rfl rfl rfl
                                                                                replace H := i_goto (q := 18) H I_L_law_1190 (by decide)
                                                                                replace H : zE (some ys) 20 zm_L_law 18 [.retAddr 0, .ref 0, .ref 71, .int (Int32.ofNat (i + 5))] [] m r h' := by
                                                                                  rw [zofn_5] at H
                                                                                  exact H
                                                                                exact ih (i + 5) _ r h' (by omega) (by omega) ht hR H
theorem z45_0 : ∀ k, k < 2 → (zmof zh0) 45 k = 0 := fun k hk => by
  rcases zk2 hk with rfl | rfl
  · decide +kernel
  · decide +kernel
theorem z82_0 : ∀ k, k < 2 → (zmof zh0) 82 k = 0 := fun k hk => by
  rcases zk2 hk with rfl | rfl
  · decide +kernel
  · decide +kernel
theorem rel_c : RC (zmof zh0) := ⟨⟨0, by decide +kernel, by decide +kernel, by omega, fun i hi => by omega⟩, ⟨by decide +kernel, by decide +kernel, by decide +kernel, by decide +kernel⟩, ⟨0, by omega, by decide +kernel, by decide +kernel⟩, fun k hk => (z45_0 k hk).trans (z82_0 k hk).symm, 0, by decide +kernel, ⟨⟨by decide +kernel, by omega, fun i hi => by omega, by decide +kernel, by decide +kernel, 0, by omega, by decide +kernel, by decide +kernel, fun i hi => by omega⟩, 0, by decide, by decide +kernel⟩, fun k hk hn => absurd (z45_0 k hk) hn⟩
theorem rel_h : HS (zmof zh0) := ⟨fun k hk => by
  match k, hk with
  | 0, _ => exact Or.inl ⟨by decide +kernel, by decide +kernel⟩
  | 1, _ => exact Or.inl ⟨by decide +kernel, by decide +kernel⟩
  | 2, _ => exact Or.inl ⟨by decide +kernel, by decide +kernel⟩
  | 3, _ => exact Or.inl ⟨by decide +kernel, by decide +kernel⟩, by decide +kernel⟩
theorem rel_0 : RF (zmof zh0) := ⟨rel_c, rel_h⟩

theorem law_runs (ys : List Int32) (hL : ys.length ≤ 2560) : ∃ n h', zex n (some ys) 20 zm_L_law (0, [(0, .retAddr 0)], [], []) = some (some (.int 1), h') ∧ h'.length ≤ 600000 ∧ zsz h' ≤ 7302250 := by
  obtain ⟨r, h', x1, x2, x3⟩ := law_term ys hL
  have e0 := zTy_of yfresh
  have ht : zTy (zmof zh0) := by unfold zTy; rw [← e0]; exact yfresh
  have x1' := x1
  rw [e0] at x1'
  have H : zE (some ys) 20 zm_L_law 18 [.retAddr 0, .ref 0, .ref 71, .int (Int32.ofNat 0)] [] (zmof zh0) r h' := ⟨zL0, fun k v hk hn => by
    match k, hk with
    | 0, hk => cases hk; rfl
    | 1, hk => cases hk; rfl
    | 2, hk => cases hk; rfl
    | 3, hk => cases hk; rfl
    | k + 4, hk => simp at hk, x1'⟩
  have e := law_l hL ys.length 0 _ r h' (by omega) (by omega) ht rel_0 H
  subst e
  obtain ⟨n, hn⟩ := zpre ys x1
  exact ⟨n, h', hn, by omega, by omega⟩
