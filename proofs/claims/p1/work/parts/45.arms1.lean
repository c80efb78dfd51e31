theorem dL_law_148 : decode cL_law 148 = .ok (.aload_n 1, 1) := by decide +kernel
theorem dL_law_149 : decode cL_law 149 = .ok (.aload_n 0, 1) := by decide +kernel
theorem dL_law_150 : decode cL_law 150 = .ok (.iload_n 3, 1) := by decide +kernel
theorem dL_law_151 : decode cL_law 151 = .ok (.iconst 1, 1) := by decide +kernel
theorem dL_law_152 : decode cL_law 152 = .ok (.iadd, 1) := by decide +kernel
theorem dL_law_153 : decode cL_law 153 = .ok (.iaload, 1) := by decide +kernel
theorem dL_law_154 : decode cL_law 154 = .ok (.aload_n 0, 1) := by decide +kernel
theorem dL_law_155 : decode cL_law 155 = .ok (.iload_n 3, 1) := by decide +kernel
theorem dL_law_156 : decode cL_law 156 = .ok (.iconst 2, 1) := by decide +kernel
theorem dL_law_157 : decode cL_law 157 = .ok (.iadd, 1) := by decide +kernel
theorem dL_law_158 : decode cL_law 158 = .ok (.iaload, 1) := by decide +kernel
theorem dL_law_159 : decode cL_law 159 = .ok (.aload_n 0, 1) := by decide +kernel
theorem dL_law_160 : decode cL_law 160 = .ok (.iload_n 3, 1) := by decide +kernel
theorem dL_law_161 : decode cL_law 161 = .ok (.iconst 3, 1) := by decide +kernel
theorem dL_law_162 : decode cL_law 162 = .ok (.iadd, 1) := by decide +kernel
theorem dL_law_163 : decode cL_law 163 = .ok (.iaload, 1) := by decide +kernel
theorem dL_law_164 : decode cL_law 164 = .ok (.aload_n 0, 1) := by decide +kernel
theorem dL_law_165 : decode cL_law 165 = .ok (.iload_n 3, 1) := by decide +kernel
theorem dL_law_166 : decode cL_law 166 = .ok (.iconst 4, 1) := by decide +kernel
theorem dL_law_167 : decode cL_law 167 = .ok (.iadd, 1) := by decide +kernel
theorem dL_law_168 : decode cL_law 168 = .ok (.iaload, 1) := by decide +kernel
theorem dL_law_169 : decode cL_law 169 = .ok (.aload_n 0, 1) := by decide +kernel
theorem dL_law_170 : decode cL_law 170 = .ok (.iload_n 3, 1) := by decide +kernel
theorem dL_law_171 : decode cL_law 171 = .ok (.iconst 5, 1) := by decide +kernel
theorem dL_law_172 : decode cL_law 172 = .ok (.iadd, 1) := by decide +kernel
theorem dL_law_173 : decode cL_law 173 = .ok (.iaload, 1) := by decide +kernel
theorem dL_law_174 : decode cL_law 174 = .ok (.invokevirtual 13, 3) := by decide +kernel
theorem dL_law_177 : decode cL_law 177 = .ok (.aload_n 2, 1) := by decide +kernel
theorem dL_law_178 : decode cL_law 178 = .ok (.aload_n 0, 1) := by decide +kernel
theorem dL_law_179 : decode cL_law 179 = .ok (.iload_n 3, 1) := by decide +kernel
theorem dL_law_180 : decode cL_law 180 = .ok (.iconst 1, 1) := by decide +kernel
theorem dL_law_181 : decode cL_law 181 = .ok (.iadd, 1) := by decide +kernel
theorem dL_law_182 : decode cL_law 182 = .ok (.iaload, 1) := by decide +kernel
theorem dL_law_183 : decode cL_law 183 = .ok (.aload_n 0, 1) := by decide +kernel
theorem dL_law_184 : decode cL_law 184 = .ok (.iload_n 3, 1) := by decide +kernel
theorem dL_law_185 : decode cL_law 185 = .ok (.iconst 2, 1) := by decide +kernel
theorem dL_law_186 : decode cL_law 186 = .ok (.iadd, 1) := by decide +kernel
theorem dL_law_187 : decode cL_law 187 = .ok (.iaload, 1) := by decide +kernel
theorem dL_law_188 : decode cL_law 188 = .ok (.aload_n 0, 1) := by decide +kernel
theorem dL_law_189 : decode cL_law 189 = .ok (.iload_n 3, 1) := by decide +kernel
theorem dL_law_190 : decode cL_law 190 = .ok (.iconst 3, 1) := by decide +kernel
theorem dL_law_191 : decode cL_law 191 = .ok (.iadd, 1) := by decide +kernel
theorem dL_law_192 : decode cL_law 192 = .ok (.iaload, 1) := by decide +kernel
theorem dL_law_193 : decode cL_law 193 = .ok (.aload_n 0, 1) := by decide +kernel
theorem dL_law_194 : decode cL_law 194 = .ok (.iload_n 3, 1) := by decide +kernel
theorem dL_law_195 : decode cL_law 195 = .ok (.iconst 4, 1) := by decide +kernel
theorem dL_law_196 : decode cL_law 196 = .ok (.iadd, 1) := by decide +kernel
theorem dL_law_197 : decode cL_law 197 = .ok (.iaload, 1) := by decide +kernel
theorem dL_law_198 : decode cL_law 198 = .ok (.aload_n 0, 1) := by decide +kernel
theorem dL_law_199 : decode cL_law 199 = .ok (.iload_n 3, 1) := by decide +kernel
theorem dL_law_200 : decode cL_law 200 = .ok (.iconst 5, 1) := by decide +kernel
theorem dL_law_201 : decode cL_law 201 = .ok (.iadd, 1) := by decide +kernel
theorem dL_law_202 : decode cL_law 202 = .ok (.iaload, 1) := by decide +kernel
theorem dL_law_203 : decode cL_law 203 = .ok (.invokevirtual 17, 3) := by decide +kernel
theorem dL_law_206 : decode cL_law 206 = .ok (.if_icmp .eq 637, 3) := by decide +kernel
theorem dL_law_211 : decode cL_law 211 = .ok (.aload_n 1, 1) := by decide +kernel
theorem dL_law_212 : decode cL_law 212 = .ok (.aload_n 0, 1) := by decide +kernel
theorem dL_law_213 : decode cL_law 213 = .ok (.iload_n 3, 1) := by decide +kernel
theorem dL_law_214 : decode cL_law 214 = .ok (.iconst 1, 1) := by decide +kernel
theorem dL_law_215 : decode cL_law 215 = .ok (.iadd, 1) := by decide +kernel
theorem dL_law_216 : decode cL_law 216 = .ok (.iaload, 1) := by decide +kernel
theorem dL_law_217 : decode cL_law 217 = .ok (.invokevirtual 18, 3) := by decide +kernel
theorem dL_law_220 : decode cL_law 220 = .ok (.aload_n 2, 1) := by decide +kernel
theorem dL_law_221 : decode cL_law 221 = .ok (.aload_n 0, 1) := by decide +kernel
theorem dL_law_222 : decode cL_law 222 = .ok (.iload_n 3, 1) := by decide +kernel
theorem dL_law_223 : decode cL_law 223 = .ok (.iconst 1, 1) := by decide +kernel
theorem dL_law_224 : decode cL_law 224 = .ok (.iadd, 1) := by decide +kernel
theorem dL_law_225 : decode cL_law 225 = .ok (.iaload, 1) := by decide +kernel
theorem dL_law_226 : decode cL_law 226 = .ok (.invokevirtual 22, 3) := by decide +kernel
theorem dL_law_229 : decode cL_law 229 = .ok (.if_icmp .eq 614, 3) := by decide +kernel
theorem dL_law_234 : decode cL_law 234 = .ok (.aload_n 1, 1) := by decide +kernel
theorem dL_law_235 : decode cL_law 235 = .ok (.aload_n 0, 1) := by decide +kernel
theorem dL_law_236 : decode cL_law 236 = .ok (.iload_n 3, 1) := by decide +kernel
theorem dL_law_237 : decode cL_law 237 = .ok (.iconst 1, 1) := by decide +kernel
theorem dL_law_238 : decode cL_law 238 = .ok (.iadd, 1) := by decide +kernel
theorem dL_law_239 : decode cL_law 239 = .ok (.iaload, 1) := by decide +kernel
theorem dL_law_240 : decode cL_law 240 = .ok (.invokevirtual 23, 3) := by decide +kernel
theorem dL_law_243 : decode cL_law 243 = .ok (.aload_n 2, 1) := by decide +kernel
theorem dL_law_244 : decode cL_law 244 = .ok (.aload_n 0, 1) := by decide +kernel
theorem dL_law_245 : decode cL_law 245 = .ok (.iload_n 3, 1) := by decide +kernel
theorem dL_law_246 : decode cL_law 246 = .ok (.iconst 1, 1) := by decide +kernel
theorem dL_law_247 : decode cL_law 247 = .ok (.iadd, 1) := by decide +kernel
theorem dL_law_248 : decode cL_law 248 = .ok (.iaload, 1) := by decide +kernel
theorem dL_law_249 : decode cL_law 249 = .ok (.invokevirtual 26, 3) := by decide +kernel
theorem dL_law_252 : decode cL_law 252 = .ok (.if_icmp .eq 591, 3) := by decide +kernel
theorem dL_law_257 : decode cL_law 257 = .ok (.aload_n 1, 1) := by decide +kernel
theorem dL_law_258 : decode cL_law 258 = .ok (.invokevirtual 27, 3) := by decide +kernel
theorem dL_law_261 : decode cL_law 261 = .ok (.aload_n 2, 1) := by decide +kernel
theorem dL_law_262 : decode cL_law 262 = .ok (.invokevirtual 31, 3) := by decide +kernel
theorem dL_law_265 : decode cL_law 265 = .ok (.if_icmp .eq 578, 3) := by decide +kernel
theorem dL_law_270 : decode cL_law 270 = .ok (.aload_n 1, 1) := by decide +kernel
theorem dL_law_271 : decode cL_law 271 = .ok (.aload_n 0, 1) := by decide +kernel
theorem dL_law_272 : decode cL_law 272 = .ok (.iload_n 3, 1) := by decide +kernel
theorem dL_law_273 : decode cL_law 273 = .ok (.iconst 1, 1) := by decide +kernel
theorem dL_law_274 : decode cL_law 274 = .ok (.iadd, 1) := by decide +kernel
theorem dL_law_275 : decode cL_law 275 = .ok (.iaload, 1) := by decide +kernel
theorem dL_law_276 : decode cL_law 276 = .ok (.invokevirtual 32, 3) := by decide +kernel
theorem dL_law_279 : decode cL_law 279 = .ok (.aload_n 2, 1) := by decide +kernel
theorem dL_law_280 : decode cL_law 280 = .ok (.aload_n 0, 1) := by decide +kernel
theorem dL_law_281 : decode cL_law 281 = .ok (.iload_n 3, 1) := by decide +kernel
theorem dL_law_282 : decode cL_law 282 = .ok (.iconst 1, 1) := by decide +kernel
theorem dL_law_283 : decode cL_law 283 = .ok (.iadd, 1) := by decide +kernel
theorem dL_law_284 : decode cL_law 284 = .ok (.iaload, 1) := by decide +kernel
theorem dL_law_285 : decode cL_law 285 = .ok (.invokevirtual 35, 3) := by decide +kernel
theorem dL_law_288 : decode cL_law 288 = .ok (.if_icmp .eq 555, 3) := by decide +kernel
theorem dL_law_293 : decode cL_law 293 = .ok (.aload_n 1, 1) := by decide +kernel
theorem dL_law_294 : decode cL_law 294 = .ok (.aload_n 0, 1) := by decide +kernel
theorem dL_law_295 : decode cL_law 295 = .ok (.iload_n 3, 1) := by decide +kernel
theorem dL_law_296 : decode cL_law 296 = .ok (.iconst 1, 1) := by decide +kernel
theorem dL_law_297 : decode cL_law 297 = .ok (.iadd, 1) := by decide +kernel
theorem dL_law_298 : decode cL_law 298 = .ok (.iaload, 1) := by decide +kernel
theorem dL_law_299 : decode cL_law 299 = .ok (.invokevirtual 36, 3) := by decide +kernel
theorem dL_law_302 : decode cL_law 302 = .ok (.aload_n 2, 1) := by decide +kernel
theorem dL_law_303 : decode cL_law 303 = .ok (.aload_n 0, 1) := by decide +kernel
theorem dL_law_304 : decode cL_law 304 = .ok (.iload_n 3, 1) := by decide +kernel
theorem dL_law_305 : decode cL_law 305 = .ok (.iconst 1, 1) := by decide +kernel
theorem dL_law_306 : decode cL_law 306 = .ok (.iadd, 1) := by decide +kernel
theorem dL_law_307 : decode cL_law 307 = .ok (.iaload, 1) := by decide +kernel
theorem dL_law_308 : decode cL_law 308 = .ok (.invokevirtual 39, 3) := by decide +kernel
theorem dL_law_311 : decode cL_law 311 = .ok (.if_icmp .eq 532, 3) := by decide +kernel
theorem dL_law_316 : decode cL_law 316 = .ok (.aload_n 1, 1) := by decide +kernel
theorem dL_law_317 : decode cL_law 317 = .ok (.aload_n 0, 1) := by decide +kernel
theorem dL_law_318 : decode cL_law 318 = .ok (.iload_n 3, 1) := by decide +kernel
theorem dL_law_319 : decode cL_law 319 = .ok (.iconst 1, 1) := by decide +kernel
theorem dL_law_320 : decode cL_law 320 = .ok (.iadd, 1) := by decide +kernel
theorem dL_law_321 : decode cL_law 321 = .ok (.iaload, 1) := by decide +kernel
theorem dL_law_322 : decode cL_law 322 = .ok (.i2l, 1) := by decide +kernel
theorem dL_law_323 : decode cL_law 323 = .ok (.bipush 32, 2) := by decide +kernel
theorem dL_law_325 : decode cL_law 325 = .ok (.lshl, 1) := by decide +kernel
theorem dL_law_326 : decode cL_law 326 = .ok (.aload_n 0, 1) := by decide +kernel
theorem dL_law_327 : decode cL_law 327 = .ok (.iload_n 3, 1) := by decide +kernel
theorem dL_law_328 : decode cL_law 328 = .ok (.iconst 2, 1) := by decide +kernel
theorem dL_law_329 : decode cL_law 329 = .ok (.iadd, 1) := by decide +kernel
theorem dL_law_330 : decode cL_law 330 = .ok (.iaload, 1) := by decide +kernel
theorem dL_law_331 : decode cL_law 331 = .ok (.i2l, 1) := by decide +kernel
theorem dL_law_332 : decode cL_law 332 = .ok (.ldc2_w 40, 3) := by decide +kernel
theorem dL_law_335 : decode cL_law 335 = .ok (.land, 1) := by decide +kernel
theorem dL_law_336 : decode cL_law 336 = .ok (.lor, 1) := by decide +kernel
theorem dL_law_337 : decode cL_law 337 = .ok (.invokevirtual 42, 3) := by decide +kernel
theorem dL_law_340 : decode cL_law 340 = .ok (.aload_n 2, 1) := by decide +kernel
theorem dL_law_341 : decode cL_law 341 = .ok (.aload_n 0, 1) := by decide +kernel
theorem dL_law_342 : decode cL_law 342 = .ok (.iload_n 3, 1) := by decide +kernel
theorem dL_law_343 : decode cL_law 343 = .ok (.iconst 1, 1) := by decide +kernel
theorem dL_law_344 : decode cL_law 344 = .ok (.iadd, 1) := by decide +kernel
theorem dL_law_345 : decode cL_law 345 = .ok (.iaload, 1) := by decide +kernel
theorem dL_law_346 : decode cL_law 346 = .ok (.i2l, 1) := by decide +kernel
theorem dL_law_347 : decode cL_law 347 = .ok (.bipush 32, 2) := by decide +kernel
theorem dL_law_349 : decode cL_law 349 = .ok (.lshl, 1) := by decide +kernel
theorem dL_law_350 : decode cL_law 350 = .ok (.aload_n 0, 1) := by decide +kernel
theorem dL_law_351 : decode cL_law 351 = .ok (.iload_n 3, 1) := by decide +kernel
theorem dL_law_352 : decode cL_law 352 = .ok (.iconst 2, 1) := by decide +kernel
theorem dL_law_353 : decode cL_law 353 = .ok (.iadd, 1) := by decide +kernel
theorem dL_law_354 : decode cL_law 354 = .ok (.iaload, 1) := by decide +kernel
theorem dL_law_355 : decode cL_law 355 = .ok (.i2l, 1) := by decide +kernel
theorem dL_law_356 : decode cL_law 356 = .ok (.ldc2_w 40, 3) := by decide +kernel
theorem dL_law_359 : decode cL_law 359 = .ok (.land, 1) := by decide +kernel
theorem dL_law_360 : decode cL_law 360 = .ok (.lor, 1) := by decide +kernel
theorem dL_law_361 : decode cL_law 361 = .ok (.invokevirtual 46, 3) := by decide +kernel
theorem dL_law_364 : decode cL_law 364 = .ok (.if_icmp .eq 479, 3) := by decide +kernel
theorem dL_law_369 : decode cL_law 369 = .ok (.aload_n 1, 1) := by decide +kernel
theorem dL_law_370 : decode cL_law 370 = .ok (.aload_n 0, 1) := by decide +kernel
theorem dL_law_371 : decode cL_law 371 = .ok (.iload_n 3, 1) := by decide +kernel
theorem dL_law_372 : decode cL_law 372 = .ok (.iconst 1, 1) := by decide +kernel
theorem dL_law_373 : decode cL_law 373 = .ok (.iadd, 1) := by decide +kernel
theorem dL_law_374 : decode cL_law 374 = .ok (.iaload, 1) := by decide +kernel
theorem dL_law_375 : decode cL_law 375 = .ok (.invokevirtual 47, 3) := by decide +kernel
theorem dL_law_378 : decode cL_law 378 = .ok (.aload_n 2, 1) := by decide +kernel
theorem dL_law_379 : decode cL_law 379 = .ok (.aload_n 0, 1) := by decide +kernel
theorem dL_law_380 : decode cL_law 380 = .ok (.iload_n 3, 1) := by decide +kernel
theorem dL_law_381 : decode cL_law 381 = .ok (.iconst 1, 1) := by decide +kernel
theorem dL_law_382 : decode cL_law 382 = .ok (.iadd, 1) := by decide +kernel
theorem dL_law_383 : decode cL_law 383 = .ok (.iaload, 1) := by decide +kernel
theorem dL_law_384 : decode cL_law 384 = .ok (.invokevirtual 50, 3) := by decide +kernel
theorem dL_law_387 : decode cL_law 387 = .ok (.if_icmp .eq 456, 3) := by decide +kernel
theorem dL_law_392 : decode cL_law 392 = .ok (.aload_n 1, 1) := by decide +kernel
theorem dL_law_393 : decode cL_law 393 = .ok (.aload_n 0, 1) := by decide +kernel
theorem dL_law_394 : decode cL_law 394 = .ok (.iload_n 3, 1) := by decide +kernel
theorem dL_law_395 : decode cL_law 395 = .ok (.iconst 1, 1) := by decide +kernel
theorem dL_law_396 : decode cL_law 396 = .ok (.iadd, 1) := by decide +kernel
theorem dL_law_397 : decode cL_law 397 = .ok (.iaload, 1) := by decide +kernel
theorem dL_law_398 : decode cL_law 398 = .ok (.invokevirtual 51, 3) := by decide +kernel
theorem dL_law_401 : decode cL_law 401 = .ok (.aload_n 2, 1) := by decide +kernel
theorem dL_law_402 : decode cL_law 402 = .ok (.aload_n 0, 1) := by decide +kernel
theorem dL_law_403 : decode cL_law 403 = .ok (.iload_n 3, 1) := by decide +kernel
theorem dL_law_404 : decode cL_law 404 = .ok (.iconst 1, 1) := by decide +kernel
theorem dL_law_405 : decode cL_law 405 = .ok (.iadd, 1) := by decide +kernel
theorem dL_law_406 : decode cL_law 406 = .ok (.iaload, 1) := by decide +kernel
theorem dL_law_407 : decode cL_law 407 = .ok (.invokevirtual 54, 3) := by decide +kernel
theorem dL_law_410 : decode cL_law 410 = .ok (.if_icmp .eq 433, 3) := by decide +kernel
set_option maxHeartbeats 8000000 in
set_option maxRecDepth 100000 in
/-- the law at case 0: feed -/
theorem arm_0 {p : Program} {l : Launch} {e : Env} {s : State} {m : MethodId} {below : List Frame} {meth : Method} {c : Code} {b : Nat} {xs : Nat → Int32} {A : Nat → Prop} {D : va_G} {x : Nat → ClassId} (C0 : LawC p s m meth c b 6 xs A D x) {n1 n2 n3 n4 n5 : Int32} (hn1 : xs (1 : Int32).toNatClampNeg = n1) (hn2 : xs (2 : Int32).toNatClampNeg = n2) (hn3 : xs (3 : Int32).toNatClampNeg = n3) (hn4 : xs (4 : Int32).toNatClampNeg = n4) (hn5 : xs (5 : Int32).toNatClampNeg = n5) (ph0 : Nat) (pf0 : Nat → Value) (pta : Nat) (pf1 : Nat → Value) (pb0 : Nat) (pg0 : Nat → Int32) (qh0 : Nat) (qf0 : Nat → Value) (qatape : Nat) (qgtape : Nat → Int32) (h0_0 : pf0 0 = .ref pta) (h1_0 : pf1 0 = .ref pb0) (h1_1 : pf1 1 = .int 0) (h3_195 : qf0 195 = .int 0) (h3_194 : qf0 194 = .ref qatape) {H : Heap} {locs : List Loc} {ls : Array Slot} (hP : va_P D vwCl [(ph0, .inr (11, zf 6 pf0)), (pta, .inr (6, zf 3 pf1)), (pb0, .inl (x 1, 4000, .inl pg0)), (qh0, .inr (12, zf 212 qf0)), (qatape, .inl (x 1, 4100, .inl qgtape))] H) (hD : va_D A [(ph0, .inr (11, zf 6 pf0)), (pta, .inr (6, zf 3 pf1)), (pb0, .inl (x 1, 4000, .inl pg0)), (qh0, .inr (12, zf 212 qf0)), (qatape, .inl (x 1, 4100, .inl qgtape))]) (hS : va_S A s.heap H locs) (hl : lv_has ls 4 [(3, .int 0), (2, .ref qh0), (1, .ref ph0), (0, .ref b)]) : W p l e room_1 s m #[Value.ref b] below meth c H locs 13405 3699129 (lw_Z below #[Value.ref b] s) (F0 m 148 ls []) := by
  obtain ⟨hx, hb, hr, hml, hown, hts, hX, hbl, hlocks, hZ, hA, hA2, hbA⟩ := id C0
  have hK := hZ.1
  refine lv_aload_n hx hb dL_law_148 rfl (lv_at hl 2 rfl) ?_
  refine lv_aload_n hx hb dL_law_149 rfl (lv_at hl 3 rfl) ?_
  refine lv_iload_n hx hb dL_law_150 rfl (lv_at hl 0 rfl) ?_
  refine lv_iconst (v := 1) hx hb dL_law_151 (by decide) ?_
  refine lv_iadd hx hb dL_law_152 ?_
  refine lv_topi (fun y_2 ex_1 => ?_)
  obtain rfl : y_2 = 1 := ex_1.trans (by decide)
  refine z_sld hx hb hX hbl hbA hS (z_in (by decide)) hn1 dL_law_153 ?_
  refine lv_aload_n hx hb dL_law_154 rfl (lv_at hl 3 rfl) ?_
  refine lv_iload_n hx hb dL_law_155 rfl (lv_at hl 0 rfl) ?_
  refine lv_iconst (v := 2) hx hb dL_law_156 (by decide) ?_
  refine lv_iadd hx hb dL_law_157 ?_
  refine lv_topi (fun y_4 ex_3 => ?_)
  obtain rfl : y_4 = 2 := ex_3.trans (by decide)
  refine z_sld hx hb hX hbl hbA hS (z_in (by decide)) hn2 dL_law_158 ?_
  refine lv_aload_n hx hb dL_law_159 rfl (lv_at hl 3 rfl) ?_
  refine lv_iload_n hx hb dL_law_160 rfl (lv_at hl 0 rfl) ?_
  refine lv_iconst (v := 3) hx hb dL_law_161 (by decide) ?_
  refine lv_iadd hx hb dL_law_162 ?_
  refine lv_topi (fun y_6 ex_5 => ?_)
  obtain rfl : y_6 = 3 := ex_5.trans (by decide)
  refine z_sld hx hb hX hbl hbA hS (z_in (by decide)) hn3 dL_law_163 ?_
  refine lv_aload_n hx hb dL_law_164 rfl (lv_at hl 3 rfl) ?_
  refine lv_iload_n hx hb dL_law_165 rfl (lv_at hl 0 rfl) ?_
  refine lv_iconst (v := 4) hx hb dL_law_166 (by decide) ?_
  refine lv_iadd hx hb dL_law_167 ?_
  refine lv_topi (fun y_8 ex_7 => ?_)
  obtain rfl : y_8 = 4 := ex_7.trans (by decide)
  refine z_sld hx hb hX hbl hbA hS (z_in (by decide)) hn4 dL_law_168 ?_
  refine lv_aload_n hx hb dL_law_169 rfl (lv_at hl 3 rfl) ?_
  refine lv_iload_n hx hb dL_law_170 rfl (lv_at hl 0 rfl) ?_
  refine lv_iconst (v := 5) hx hb dL_law_171 (by decide) ?_
  refine lv_iadd hx hb dL_law_172 ?_
  refine lv_topi (fun y_10 ex_9 => ?_)
  obtain rfl : y_10 = 5 := ex_9.trans (by decide)
  refine z_sld hx hb hX hbl hbA hS (z_in (by decide)) hn5 dL_law_173 ?_
  have hPc := hP.sub (ws' := [(ph0, .inr (11, zf 6 pf0)), (pta, .inr (6, zf 3 pf1)), (pb0, .inl (x 1, 4000, .inl pg0))]) [0, 1, 2] rfl
  have hDc := hD.sub (ws' := [(ph0, .inr (11, zf 6 pf0)), (pta, .inr (6, zf 3 pf1)), (pb0, .inl (x 1, 4000, .inl pg0))]) [0, 1, 2] (by decide) rfl
  have hFc := va_free (wc := [(ph0, .inr (11, zf 6 pf0)), (pta, .inr (6, zf 3 pf1)), (pb0, .inl (x 1, 4000, .inl pg0))]) hD hS hA [0, 1, 2] rfl
  refine va_calli (va_runV (As := [.int n1, .int n2, .int n3, .int n4, .int n5]) (rest := []) ⟨hx, hb, hml, hown, hts⟩ (c_feed l D x n1 n2 n3 n4 n5 ph0 pf0 pta pf1 pb0 pg0 H.size h0_0 h1_0 h1_1) ⟨callB_of 5 hts (zgood (zm_196 _) rfl) rfl rfl rfl (hts _ (zm_168 _)) (hts _ (zm_847 _)) ⟨by decide, by decide, by decide +kernel⟩ ⟨Nat.le_of_ble_eq_true rfl, Nat.le_of_ble_eq_true rfl⟩, hts _ (zm_197 _), hts _ (zm_198 _)⟩ ⟨fun a U g mk q => by obtain ⟨q0, q1, qP, qK, qD⟩ := q; exact ⟨q0, q1, qP, ZK.calling (u := U) zN_ok rfl qK, qD⟩, va_recv hK hPc (ci := 11) (q0 := 0) rfl rfl, fun U hU hW => ⟨rfl, by rw [hU], by rw [hU]; exact hPc, ZK.warm zN_ok hW hZ, hDc.weaken (fun _ _ _ _ => trivial)⟩⟩ rfl rfl hl.1 rfl (lv_room (Nat.le_of_ble_eq_true rfl)) dL_law_174 ⟨Nat.le_of_ble_eq_true rfl, Nat.le_of_ble_eq_true rfl⟩) hS (fun q _ h => hFc q h) hFc (fun r_11 u t H1 locs ht hvm hw_11 hB hz1 hk1 hSn => ?_)
  have hP1 : va_P D vwCl [] H1 := z_P0
  have hD1 : va_D (va_A [(ph0, .inr (11, zf 6 pf0)), (pta, .inr (6, zf 3 pf1)), (pb0, .inl (x 1, 4000, .inl pg0))] H.size) [] := z_D0
  try dsimp only at hw_11
  obtain ⟨hPn, hDn⟩ := va_join (wr := [(qh0, .inr (12, zf 212 qf0)), (qatape, .inl (x 1, 4100, .inl qgtape))]) (w1 := []) hP hD [0, 1, 2] [3, 4] rfl rfl (by decide) (by decide) hk1 hFc hP1 hD1
  clear hPc hDc hFc hP1 hD1 hk1 hz1
  generalize H1 = H at hPn hSn ⊢
  clear hP hD hS
  have hP : va_P D vwCl [(qh0, .inr (12, zf 212 qf0)), (qatape, .inl (x 1, 4100, .inl qgtape))] H := hPn
  have hD : va_D A [(qh0, .inr (12, zf 212 qf0)), (qatape, .inl (x 1, 4100, .inl qgtape))] := hDn
  have hS := hSn
  clear hPn hDn hSn
  refine W.widen (k := 13405) (n := 3699129) (Nat.le_of_ble_eq_true rfl) (Nat.le_of_ble_eq_true rfl) ?_
  obtain rfl : r_11 = 20 := hw_11
  refine lv_aload_n hx hb dL_law_177 rfl (lv_at hl 1 rfl) ?_
  refine lv_aload_n hx hb dL_law_178 rfl (lv_at hl 3 rfl) ?_
  refine lv_iload_n hx hb dL_law_179 rfl (lv_at hl 0 rfl) ?_
  refine lv_iconst (v := 1) hx hb dL_law_180 (by decide) ?_
  refine lv_iadd hx hb dL_law_181 ?_
  refine lv_topi (fun y_14 ex_13 => ?_)
  obtain rfl : y_14 = 1 := ex_13.trans (by decide)
  refine z_sld hx hb hX hbl hbA hS (z_in (by decide)) hn1 dL_law_182 ?_
  refine lv_aload_n hx hb dL_law_183 rfl (lv_at hl 3 rfl) ?_
  refine lv_iload_n hx hb dL_law_184 rfl (lv_at hl 0 rfl) ?_
  refine lv_iconst (v := 2) hx hb dL_law_185 (by decide) ?_
  refine lv_iadd hx hb dL_law_186 ?_
  refine lv_topi (fun y_16 ex_15 => ?_)
  obtain rfl : y_16 = 2 := ex_15.trans (by decide)
  refine z_sld hx hb hX hbl hbA hS (z_in (by decide)) hn2 dL_law_187 ?_
  refine lv_aload_n hx hb dL_law_188 rfl (lv_at hl 3 rfl) ?_
  refine lv_iload_n hx hb dL_law_189 rfl (lv_at hl 0 rfl) ?_
  refine lv_iconst (v := 3) hx hb dL_law_190 (by decide) ?_
  refine lv_iadd hx hb dL_law_191 ?_
  refine lv_topi (fun y_18 ex_17 => ?_)
  obtain rfl : y_18 = 3 := ex_17.trans (by decide)
  refine z_sld hx hb hX hbl hbA hS (z_in (by decide)) hn3 dL_law_192 ?_
  refine lv_aload_n hx hb dL_law_193 rfl (lv_at hl 3 rfl) ?_
  refine lv_iload_n hx hb dL_law_194 rfl (lv_at hl 0 rfl) ?_
  refine lv_iconst (v := 4) hx hb dL_law_195 (by decide) ?_
  refine lv_iadd hx hb dL_law_196 ?_
  refine lv_topi (fun y_20 ex_19 => ?_)
  obtain rfl : y_20 = 4 := ex_19.trans (by decide)
  refine z_sld hx hb hX hbl hbA hS (z_in (by decide)) hn4 dL_law_197 ?_
  refine lv_aload_n hx hb dL_law_198 rfl (lv_at hl 3 rfl) ?_
  refine lv_iload_n hx hb dL_law_199 rfl (lv_at hl 0 rfl) ?_
  refine lv_iconst (v := 5) hx hb dL_law_200 (by decide) ?_
  refine lv_iadd hx hb dL_law_201 ?_
  refine lv_topi (fun y_22 ex_21 => ?_)
  obtain rfl : y_22 = 5 := ex_21.trans (by decide)
  refine z_sld hx hb hX hbl hbA hS (z_in (by decide)) hn5 dL_law_202 ?_
  have hPc := hP.sub (ws' := [(qh0, .inr (12, zf 212 qf0)), (qatape, .inl (x 1, 4100, .inl qgtape))]) [0, 1] rfl
  have hDc := hD.sub (ws' := [(qh0, .inr (12, zf 212 qf0)), (qatape, .inl (x 1, 4100, .inl qgtape))]) [0, 1] (by decide) rfl
  have hFc := va_free (wc := [(qh0, .inr (12, zf 212 qf0)), (qatape, .inl (x 1, 4100, .inl qgtape))]) hD hS hA [0, 1] rfl
  refine va_calli (va_runV (As := [.int n1, .int n2, .int n3, .int n4, .int n5]) (rest := [.int 20]) ⟨hx, hb, hml, hown, hts⟩ (r_feed l D x n1 n2 n3 n4 n5 qh0 qf0 qatape qgtape H.size h3_195 h3_194) ⟨callB_of 5 hts (zgood (zm_627 _) rfl) rfl rfl rfl (hts _ (zm_459 _)) (hts _ (zm_848 _)) ⟨by decide, by decide, by decide +kernel⟩ ⟨Nat.le_of_ble_eq_true rfl, Nat.le_of_ble_eq_true rfl⟩, hts _ (zm_628 _), hts _ (zm_629 _)⟩ ⟨fun a U g mk q => by obtain ⟨q0, q1, qP, qK, qD⟩ := q; exact ⟨q0, q1, qP, ZK.calling (u := U) zN_ok rfl qK, qD⟩, va_recv hK hPc (ci := 12) (q0 := 0) rfl rfl, fun U hU hW => ⟨rfl, by rw [hU], by rw [hU]; exact hPc, ZK.warm zN_ok hW hZ, hDc.weaken (fun _ _ _ _ => trivial)⟩⟩ rfl rfl hl.1 rfl (lv_room (Nat.le_of_ble_eq_true rfl)) dL_law_203 ⟨Nat.le_of_ble_eq_true rfl, Nat.le_of_ble_eq_true rfl⟩) hS (fun q _ h => hFc q h) hFc (fun r_23 u t H1 locs ht hvm hw_23 hB hz1 hk1 hSn => ?_)
  have hP1 : va_P D vwCl [] H1 := z_P0
  have hD1 : va_D (va_A [(qh0, .inr (12, zf 212 qf0)), (qatape, .inl (x 1, 4100, .inl qgtape))] H.size) [] := z_D0
  try dsimp only at hw_23
  obtain ⟨hPn, hDn⟩ := va_join (wr := []) (w1 := []) hP hD [0, 1] [] rfl rfl (by decide) (by decide) hk1 hFc hP1 hD1
  clear hPc hDc hFc hP1 hD1 hk1 hz1
  generalize H1 = H at hPn hSn ⊢
  clear hP hD hS
  have hP : va_P D vwCl [] H := hPn
  have hD : va_D A [] := hDn
  have hS := hSn
  clear hPn hDn hSn
  refine W.widen (k := 13405) (n := 3699129) (Nat.le_of_ble_eq_true rfl) (Nat.le_of_ble_eq_true rfl) ?_
  obtain rfl : r_23 = 20 := hw_23
  refine lv_icmp_eq (tgt := 843) hx hb dL_law_206 (by decide) (fun _ => ?_) (fun c9 => absurd (by decide) c9)
  exact law_tail C0 hS hl

set_option maxHeartbeats 8000000 in
set_option maxRecDepth 100000 in
/-- the law at case 1: end -/
theorem arm_1 {p : Program} {l : Launch} {e : Env} {s : State} {m : MethodId} {below : List Frame} {meth : Method} {c : Code} {b : Nat} {xs : Nat → Int32} {A : Nat → Prop} {D : va_G} {x : Nat → ClassId} (C0 : LawC p s m meth c b 6 xs A D x) {n1 n2 n3 n4 n5 : Int32} (hn1 : xs (1 : Int32).toNatClampNeg = n1) (hn2 : xs (2 : Int32).toNatClampNeg = n2) (hn3 : xs (3 : Int32).toNatClampNeg = n3) (hn4 : xs (4 : Int32).toNatClampNeg = n4) (hn5 : xs (5 : Int32).toNatClampNeg = n5) (ph0 : Nat) (pf0 : Nat → Value) (pta : Nat) (pft : Nat → Value) (qh0 : Nat) (qf0 : Nat → Value) (pb0 : Nat) (h0_0 : pf0 0 = .ref pta) (h1_0 : pft 0 = .ref pb0) (h1_1 : pft 1 = .int 0) (h2_195 : qf0 195 = .int 0) {H : Heap} {locs : List Loc} {ls : Array Slot} (hP : va_P D vwCl [(ph0, .inr (11, zf 6 pf0)), (pta, .inr (6, zf 3 pft)), (qh0, .inr (12, zf 212 qf0))] H) (hD : va_D A [(ph0, .inr (11, zf 6 pf0)), (pta, .inr (6, zf 3 pft)), (qh0, .inr (12, zf 212 qf0))]) (hS : va_S A s.heap H locs) (hl : lv_has ls 4 [(3, .int 0), (2, .ref qh0), (1, .ref ph0), (0, .ref b)]) : W p l e room_1 s m #[Value.ref b] below meth c H locs 13405 3699129 (lw_Z below #[Value.ref b] s) (F0 m 211 ls []) := by
  obtain ⟨hx, hb, hr, hml, hown, hts, hX, hbl, hlocks, hZ, hA, hA2, hbA⟩ := id C0
  have hK := hZ.1
  refine lv_aload_n hx hb dL_law_211 rfl (lv_at hl 2 rfl) ?_
  refine lv_aload_n hx hb dL_law_212 rfl (lv_at hl 3 rfl) ?_
  refine lv_iload_n hx hb dL_law_213 rfl (lv_at hl 0 rfl) ?_
  refine lv_iconst (v := 1) hx hb dL_law_214 (by decide) ?_
  refine lv_iadd hx hb dL_law_215 ?_
  refine lv_topi (fun y_2 ex_1 => ?_)
  obtain rfl : y_2 = 1 := ex_1.trans (by decide)
  refine z_sld hx hb hX hbl hbA hS (z_in (by decide)) hn1 dL_law_216 ?_
  have hPc := hP.sub (ws' := [(ph0, .inr (11, zf 6 pf0)), (pta, .inr (6, zf 3 pft))]) [0, 1] rfl
  have hDc := hD.sub (ws' := [(ph0, .inr (11, zf 6 pf0)), (pta, .inr (6, zf 3 pft))]) [0, 1] (by decide) rfl
  have hFc := va_free (wc := [(ph0, .inr (11, zf 6 pf0)), (pta, .inr (6, zf 3 pft))]) hD hS hA [0, 1] rfl
  refine va_calli (va_runV (As := [.int n1]) (rest := []) ⟨hx, hb, hml, hown, hts⟩ (c_end l D x n1 ph0 pf0 pta pft pb0 H.size h0_0 h1_0 h1_1) ⟨callB_of 1 hts (zgood (zm_203 _) rfl) rfl rfl rfl (hts _ (zm_168 _)) (hts _ (zm_849 _)) ⟨by decide, by decide, by decide +kernel⟩ ⟨Nat.le_of_ble_eq_true rfl, Nat.le_of_ble_eq_true rfl⟩, hts _ (zm_204 _), hts _ (zm_205 _)⟩ ⟨fun a U g mk q => by obtain ⟨q0, q1, qP, qK, qD⟩ := q; exact ⟨q0, q1, qP, ZK.calling (u := U) zN_ok rfl qK, qD⟩, va_recv hK hPc (ci := 11) (q0 := 0) rfl rfl, fun U hU hW => ⟨rfl, by rw [hU], by rw [hU]; exact hPc, ZK.warm zN_ok hW hZ, hDc.weaken (fun _ _ _ _ => trivial)⟩⟩ rfl rfl hl.1 rfl (lv_room (Nat.le_of_ble_eq_true rfl)) dL_law_217 ⟨Nat.le_of_ble_eq_true rfl, Nat.le_of_ble_eq_true rfl⟩) hS (fun q _ h => hFc q h) hFc (fun r_3 u t H1 locs ht hvm hw_3 hB hz1 hk1 hSn => ?_)
  have hP1 : va_P D vwCl [] H1 := z_P0
  have hD1 : va_D (va_A [(ph0, .inr (11, zf 6 pf0)), (pta, .inr (6, zf 3 pft))] H.size) [] := z_D0
  try dsimp only at hw_3
  obtain ⟨hPn, hDn⟩ := va_join (wr := [(qh0, .inr (12, zf 212 qf0))]) (w1 := []) hP hD [0, 1] [2] rfl rfl (by decide) (by decide) hk1 hFc hP1 hD1
  clear hPc hDc hFc hP1 hD1 hk1 hz1
  generalize H1 = H at hPn hSn ⊢
  clear hP hD hS
  have hP : va_P D vwCl [(qh0, .inr (12, zf 212 qf0))] H := hPn
  have hD : va_D A [(qh0, .inr (12, zf 212 qf0))] := hDn
  have hS := hSn
  clear hPn hDn hSn
  refine W.widen (k := 13405) (n := 3699129) (Nat.le_of_ble_eq_true rfl) (Nat.le_of_ble_eq_true rfl) ?_
  obtain rfl : r_3 = (zEnd n1) := hw_3
  refine lv_aload_n hx hb dL_law_220 rfl (lv_at hl 1 rfl) ?_
  refine lv_aload_n hx hb dL_law_221 rfl (lv_at hl 3 rfl) ?_
  refine lv_iload_n hx hb dL_law_222 rfl (lv_at hl 0 rfl) ?_
  refine lv_iconst (v := 1) hx hb dL_law_223 (by decide) ?_
  refine lv_iadd hx hb dL_law_224 ?_
  refine lv_topi (fun y_6 ex_5 => ?_)
  obtain rfl : y_6 = 1 := ex_5.trans (by decide)
  refine z_sld hx hb hX hbl hbA hS (z_in (by decide)) hn1 dL_law_225 ?_
  have hPc := hP.sub (ws' := [(qh0, .inr (12, zf 212 qf0))]) [0] rfl
  have hDc := hD.sub (ws' := [(qh0, .inr (12, zf 212 qf0))]) [0] (by decide) rfl
  have hFc := va_free (wc := [(qh0, .inr (12, zf 212 qf0))]) hD hS hA [0] rfl
  refine va_calli (va_runV (As := [.int n1]) (rest := [.int (zEnd n1)]) ⟨hx, hb, hml, hown, hts⟩ (r_end l D x n1 qh0 qf0 H.size h2_195) ⟨callB_of 1 hts (zgood (zm_631 _) rfl) rfl rfl rfl (hts _ (zm_459 _)) (hts _ (zm_850 _)) ⟨by decide, by decide, by decide +kernel⟩ ⟨Nat.le_of_ble_eq_true rfl, Nat.le_of_ble_eq_true rfl⟩, hts _ (zm_632 _), hts _ (zm_633 _)⟩ ⟨fun a U g mk q => by obtain ⟨q0, q1, qP, qK, qD⟩ := q; exact ⟨q0, q1, qP, ZK.calling (u := U) zN_ok rfl qK, qD⟩, va_recv hK hPc (ci := 12) (q0 := 0) rfl rfl, fun U hU hW => ⟨rfl, by rw [hU], by rw [hU]; exact hPc, ZK.warm zN_ok hW hZ, hDc.weaken (fun _ _ _ _ => trivial)⟩⟩ rfl rfl hl.1 rfl (lv_room (Nat.le_of_ble_eq_true rfl)) dL_law_226 ⟨Nat.le_of_ble_eq_true rfl, Nat.le_of_ble_eq_true rfl⟩) hS (fun q _ h => hFc q h) hFc (fun r_7 u t H1 locs ht hvm hw_7 hB hz1 hk1 hSn => ?_)
  have hP1 : va_P D vwCl [] H1 := z_P0
  have hD1 : va_D (va_A [(qh0, .inr (12, zf 212 qf0))] H.size) [] := z_D0
  try dsimp only at hw_7
  obtain ⟨hPn, hDn⟩ := va_join (wr := []) (w1 := []) hP hD [0] [] rfl rfl (by decide) (by decide) hk1 hFc hP1 hD1
  clear hPc hDc hFc hP1 hD1 hk1 hz1
  generalize H1 = H at hPn hSn ⊢
  clear hP hD hS
  have hP : va_P D vwCl [] H := hPn
  have hD : va_D A [] := hDn
  have hS := hSn
  clear hPn hDn hSn
  refine W.widen (k := 13405) (n := 3699129) (Nat.le_of_ble_eq_true rfl) (Nat.le_of_ble_eq_true rfl) ?_
  obtain rfl : r_7 = (zEnd n1) := hw_7
  refine lv_icmp_eq (tgt := 843) hx hb dL_law_229 (by decide) (fun _ => ?_) (fun c9 => absurd (rfl) c9)
  exact law_tail C0 hS hl

set_option maxHeartbeats 8000000 in
set_option maxRecDepth 100000 in
/-- the law at case 2: save -/
theorem arm_2 {p : Program} {l : Launch} {e : Env} {s : State} {m : MethodId} {below : List Frame} {meth : Method} {c : Code} {b : Nat} {xs : Nat → Int32} {A : Nat → Prop} {D : va_G} {x : Nat → ClassId} (C0 : LawC p s m meth c b 6 xs A D x) {n1 n2 n3 n4 n5 : Int32} (hn1 : xs (1 : Int32).toNatClampNeg = n1) (hn2 : xs (2 : Int32).toNatClampNeg = n2) (hn3 : xs (3 : Int32).toNatClampNeg = n3) (hn4 : xs (4 : Int32).toNatClampNeg = n4) (hn5 : xs (5 : Int32).toNatClampNeg = n5) (ph0 : Nat) (pf0 : Nat → Value) (pho : Nat) (pfh : Nat → Value) (pta : Nat) (pft : Nat → Value) (qh0 : Nat) (qf0 : Nat → Value) (pb0 : Nat) (h0_2 : pf0 2 = .ref pho) (h0_0 : pf0 0 = .ref pta) (h1_12 : pfh 12 = .int 0) (h2_0 : pft 0 = .ref pb0) (h2_1 : pft 1 = .int 0) (h3_195 : qf0 195 = .int 0) (h3_196 : qf0 196 = .int 0) {H : Heap} {locs : List Loc} {ls : Array Slot} (hP : va_P D vwCl [(ph0, .inr (11, zf 6 pf0)), (pho, .inr (0, zf 18 pfh)), (pta, .inr (6, zf 3 pft)), (qh0, .inr (12, zf 212 qf0))] H) (hD : va_D A [(ph0, .inr (11, zf 6 pf0)), (pho, .inr (0, zf 18 pfh)), (pta, .inr (6, zf 3 pft)), (qh0, .inr (12, zf 212 qf0))]) (hS : va_S A s.heap H locs) (hl : lv_has ls 4 [(3, .int 0), (2, .ref qh0), (1, .ref ph0), (0, .ref b)]) : W p l e room_1 s m #[Value.ref b] below meth c H locs 13405 3699129 (lw_Z below #[Value.ref b] s) (F0 m 234 ls []) := by
  obtain ⟨hx, hb, hr, hml, hown, hts, hX, hbl, hlocks, hZ, hA, hA2, hbA⟩ := id C0
  have hK := hZ.1
  refine lv_aload_n hx hb dL_law_234 rfl (lv_at hl 2 rfl) ?_
  refine lv_aload_n hx hb dL_law_235 rfl (lv_at hl 3 rfl) ?_
  refine lv_iload_n hx hb dL_law_236 rfl (lv_at hl 0 rfl) ?_
  refine lv_iconst (v := 1) hx hb dL_law_237 (by decide) ?_
  refine lv_iadd hx hb dL_law_238 ?_
  refine lv_topi (fun y_2 ex_1 => ?_)
  obtain rfl : y_2 = 1 := ex_1.trans (by decide)
  refine z_sld hx hb hX hbl hbA hS (z_in (by decide)) hn1 dL_law_239 ?_
  have hPc := hP.sub (ws' := [(ph0, .inr (11, zf 6 pf0)), (pho, .inr (0, zf 18 pfh)), (pta, .inr (6, zf 3 pft))]) [0, 1, 2] rfl
  have hDc := hD.sub (ws' := [(ph0, .inr (11, zf 6 pf0)), (pho, .inr (0, zf 18 pfh)), (pta, .inr (6, zf 3 pft))]) [0, 1, 2] (by decide) rfl
  have hFc := va_free (wc := [(ph0, .inr (11, zf 6 pf0)), (pho, .inr (0, zf 18 pfh)), (pta, .inr (6, zf 3 pft))]) hD hS hA [0, 1, 2] rfl
  refine va_calli (va_runV (As := [.int n1]) (rest := []) ⟨hx, hb, hml, hown, hts⟩ (c_save l D x n1 ph0 pf0 pho pfh pta pft pb0 H.size h0_2 h0_0 h1_12 h2_0 h2_1) ⟨callB_of 1 hts (zgood (zm_206 _) rfl) rfl rfl rfl (hts _ (zm_168 _)) (hts _ (zm_851 _)) ⟨by decide, by decide, by decide +kernel⟩ ⟨Nat.le_of_ble_eq_true rfl, Nat.le_of_ble_eq_true rfl⟩, hts _ (zm_207 _), hts _ (zm_208 _)⟩ ⟨fun a U g mk q => by obtain ⟨q0, q1, qP, qK, qD⟩ := q; exact ⟨q0, q1, qP, ZK.calling (u := U) zN_ok rfl qK, qD⟩, va_recv hK hPc (ci := 11) (q0 := 0) rfl rfl, fun U hU hW => ⟨rfl, by rw [hU], by rw [hU]; exact hPc, ZK.warm zN_ok hW hZ, hDc.weaken (fun _ _ _ _ => trivial)⟩⟩ rfl rfl hl.1 rfl (lv_room (Nat.le_of_ble_eq_true rfl)) dL_law_240 ⟨Nat.le_of_ble_eq_true rfl, Nat.le_of_ble_eq_true rfl⟩) hS (fun q _ h => hFc q h) hFc (fun r_3 u t H1 locs ht hvm hw_3 hB hz1 hk1 hSn => ?_)
  have hP1 : va_P D vwCl [] H1 := z_P0
  have hD1 : va_D (va_A [(ph0, .inr (11, zf 6 pf0)), (pho, .inr (0, zf 18 pfh)), (pta, .inr (6, zf 3 pft))] H.size) [] := z_D0
  try dsimp only at hw_3
  obtain ⟨hPn, hDn⟩ := va_join (wr := [(qh0, .inr (12, zf 212 qf0))]) (w1 := []) hP hD [0, 1, 2] [3] rfl rfl (by decide) (by decide) hk1 hFc hP1 hD1
  clear hPc hDc hFc hP1 hD1 hk1 hz1
  generalize H1 = H at hPn hSn ⊢
  clear hP hD hS
  have hP : va_P D vwCl [(qh0, .inr (12, zf 212 qf0))] H := hPn
  have hD : va_D A [(qh0, .inr (12, zf 212 qf0))] := hDn
  have hS := hSn
  clear hPn hDn hSn
  refine W.widen (k := 13405) (n := 3699129) (Nat.le_of_ble_eq_true rfl) (Nat.le_of_ble_eq_true rfl) ?_
  obtain rfl : r_3 = (-1) := hw_3
  refine lv_aload_n hx hb dL_law_243 rfl (lv_at hl 1 rfl) ?_
  refine lv_aload_n hx hb dL_law_244 rfl (lv_at hl 3 rfl) ?_
  refine lv_iload_n hx hb dL_law_245 rfl (lv_at hl 0 rfl) ?_
  refine lv_iconst (v := 1) hx hb dL_law_246 (by decide) ?_
  refine lv_iadd hx hb dL_law_247 ?_
  refine lv_topi (fun y_6 ex_5 => ?_)
  obtain rfl : y_6 = 1 := ex_5.trans (by decide)
  refine z_sld hx hb hX hbl hbA hS (z_in (by decide)) hn1 dL_law_248 ?_
  have hPc := hP.sub (ws' := [(qh0, .inr (12, zf 212 qf0))]) [0] rfl
  have hDc := hD.sub (ws' := [(qh0, .inr (12, zf 212 qf0))]) [0] (by decide) rfl
  have hFc := va_free (wc := [(qh0, .inr (12, zf 212 qf0))]) hD hS hA [0] rfl
  refine va_calli (va_runV (As := [.int n1]) (rest := [.int (-1)]) ⟨hx, hb, hml, hown, hts⟩ (r_save l D x n1 qh0 qf0 H.size h3_195 h3_196) ⟨callB_of 1 hts (zgood (zm_634 _) rfl) rfl rfl rfl (hts _ (zm_459 _)) (hts _ (zm_852 _)) ⟨by decide, by decide, by decide +kernel⟩ ⟨Nat.le_of_ble_eq_true rfl, Nat.le_of_ble_eq_true rfl⟩, hts _ (zm_635 _), hts _ (zm_636 _)⟩ ⟨fun a U g mk q => by obtain ⟨q0, q1, qP, qK, qD⟩ := q; exact ⟨q0, q1, qP, ZK.calling (u := U) zN_ok rfl qK, qD⟩, va_recv hK hPc (ci := 12) (q0 := 0) rfl rfl, fun U hU hW => ⟨rfl, by rw [hU], by rw [hU]; exact hPc, ZK.warm zN_ok hW hZ, hDc.weaken (fun _ _ _ _ => trivial)⟩⟩ rfl rfl hl.1 rfl (lv_room (Nat.le_of_ble_eq_true rfl)) dL_law_249 ⟨Nat.le_of_ble_eq_true rfl, Nat.le_of_ble_eq_true rfl⟩) hS (fun q _ h => hFc q h) hFc (fun r_7 u t H1 locs ht hvm hw_7 hB hz1 hk1 hSn => ?_)
  have hP1 : va_P D vwCl [] H1 := z_P0
  have hD1 : va_D (va_A [(qh0, .inr (12, zf 212 qf0))] H.size) [] := z_D0
  try dsimp only at hw_7
  obtain ⟨hPn, hDn⟩ := va_join (wr := []) (w1 := []) hP hD [0] [] rfl rfl (by decide) (by decide) hk1 hFc hP1 hD1
  clear hPc hDc hFc hP1 hD1 hk1 hz1
  generalize H1 = H at hPn hSn ⊢
  clear hP hD hS
  have hP : va_P D vwCl [] H := hPn
  have hD : va_D A [] := hDn
  have hS := hSn
  clear hPn hDn hSn
  refine W.widen (k := 13405) (n := 3699129) (Nat.le_of_ble_eq_true rfl) (Nat.le_of_ble_eq_true rfl) ?_
  obtain rfl : r_7 = (-1) := hw_7
  refine lv_icmp_eq (tgt := 843) hx hb dL_law_252 (by decide) (fun _ => ?_) (fun c9 => absurd (by decide) c9)
  exact law_tail C0 hS hl

set_option maxHeartbeats 8000000 in
set_option maxRecDepth 100000 in
/-- the law at case 3: process -/
theorem arm_3 {p : Program} {l : Launch} {e : Env} {s : State} {m : MethodId} {below : List Frame} {meth : Method} {c : Code} {b : Nat} {xs : Nat → Int32} {A : Nat → Prop} {D : va_G} {x : Nat → ClassId} (C0 : LawC p s m meth c b 6 xs A D x) {n1 n2 n3 n4 n5 : Int32} (hn1 : xs (1 : Int32).toNatClampNeg = n1) (hn2 : xs (2 : Int32).toNatClampNeg = n2) (hn3 : xs (3 : Int32).toNatClampNeg = n3) (hn4 : xs (4 : Int32).toNatClampNeg = n4) (hn5 : xs (5 : Int32).toNatClampNeg = n5) (ph0 : Nat) (pf0 : Nat → Value) (pho : Nat) (pfh : Nat → Value) (pta : Nat) (pf8 : Nat → Value) (ptb0 : Nat) (pg8 : Nat → Int32) (pva : Nat) (pfv : Nat → Value) (pvb : Nat) (pgv : Nat → Int32) (psp : Nat) (pfs : Nat → Value) (psb : Nat) (pjb : Nat → Int32) (pscd : Nat) (pjc : Nat → Int32) (pss1 : Nat) (pj1 : Nat → Int32) (pss2 : Nat) (pj2 : Nat → Int32) (pss3 : Nat) (pj3 : Nat → Int32) (pss4 : Nat) (pj4 : Nat → Int64) (pss5 : Nat) (pj5 : Nat → Int32) (pma : Nat) (pfm : Nat → Value) (ppr : Nat) (pgp : Nat → Option Nat) (pwk : Nat) (pgw : Nat → Option Nat) (pp0 : Nat) (pfp : Nat → Value) (pco : Nat) (pf4 : Nat → Value) (pou : Nat) (pf5 : Nat → Value) (pw0 : Nat) (pfw : Nat → Value) (pna : Nat) (pf1 : Nat → Value) (psc : Nat) (pf2 : Nat → Value) (plg : Nat) (pf3 : Nat → Value) (plv : Nat) (pgl : Nat → Option Nat) (pl0 : Nat) (pf6 : Nat → Value) (ptr : Nat) (pf7 : Nat → Value) (pow : Nat) (pft : Nat → Value) (pb : Nat) (pgb : Nat → Int32) (pcd : Nat) (pgc : Nat → Int32) (ps1 : Nat) (pg1 : Nat → Int32) (ps2 : Nat) (pg2 : Nat → Int32) (ps3 : Nat) (pg3 : Nat → Int32) (ps4 : Nat) (pg4 : Nat → Int64) (ps5 : Nat) (pg5 : Nat → Int32) (qh0 : Nat) (qf0 : Nat → Value) (qaslotOf : Nat) (qgslotOf : Nat → Int32) (qanumberAt : Nat) (qgnumberAt : Nat → Int32) (qabyError : Nat) (qgbyError : Nat → Int32) (qatest : Nat) (qgtest : Nat → Int32) (qaoutX : Nat) (qgoutX : Nat → Int32) (qaoutY : Nat) (qgoutY : Nat → Int32) (qabegun : Nat) (qgbegun : Nat → Int32) (qaoutCount : Nat) (qgoutCount : Nat → Int32) (qaecodeN : Nat) (qgecodeN : Nat → Int32) (qapc : Nat) (qgpc : Nat → Int32) (qaatRound : Nat) (qgatRound : Nat → Int32) (qawaits : Nat) (qgwaits : Nat → Int32) (qatoldCount : Nat) (qgtoldCount : Nat → Int32) (qasegTop : Nat) (qgsegTop : Nat → Int32) (qalevels : Nat) (qglevels : Nat → Int32) (qafors : Nat) (qgfors : Nat → Int32) (qatexts : Nat) (qgtexts : Nat → Int32) (qahandTop : Nat) (qghandTop : Nat → Int32) (qanodeTop : Nat) (qgnodeTop : Nat → Int32) (qaboundCount : Nat) (qgboundCount : Nat → Int32) (qahiddenCount : Nat) (qghiddenCount : Nat → Int32) (qanakedLength : Nat) (qgnakedLength : Nat → Int32) (qatLevel : Nat) (qgtLevel : Nat → Int32) (qatRestarts : Nat) (qgtRestarts : Nat → Int32) (qacopyCount : Nat) (qgcopyCount : Nat → Int32) (qarecordCount : Nat) (qgrecordCount : Nat → Int32) (qakeptCount : Nat) (qgkeptCount : Nat → Int32) (qastream : Nat) (qgstream : Nat → Int64) (qalKind : Nat) (qglKind : Nat → Int32) (qalRoutine : Nat) (qglRoutine : Nat → Int32) (qalLine : Nat) (qglLine : Nat → Int32) (qalDots : Nat) (qglDots : Nat → Int32) (qalRet : Nat) (qglRet : Nat → Int32) (qalSeg : Nat) (qglSeg : Nat → Int32) (qalKeep : Nat) (qglKeep : Nat → Int32) (qalHand : Nat) (qglHand : Nat → Int32) (qalNode : Nat) (qglNode : Nat → Int32) (qalFor : Nat) (qglFor : Nat → Int32) (qalText : Nat) (qglText : Nat → Int32) (qalHidden : Nat) (qglHidden : Nat → Int32) (qalTest : Nat) (qglTest : Nat → Int32) (qalSerial : Nat) (qglSerial : Nat → Int32) (qalTrapped : Nat) (qglTrapped : Nat → Int32) (qalInTrap : Nat) (qglInTrap : Nat → Int32) (qalEtrapN : Nat) (qglEtrapN : Nat → Int32) (qatape : Nat) (qgtape : Nat → Int32) (qalStop : Nat) (qglStop : Nat → Int32) (qalOwnN : Nat) (qglOwnN : Nat → Int32) (qacode : Nat) (qgcode : Nat → Int32) (h0_2 : pf0 2 = .ref pho) (h0_3 : pf0 3 = .ref pma) (h0_0 : pf0 0 = .ref pta) (h0_5 : pf0 5 = .ref pva) (h1_12 : pfh 12 = .int 0) (h1_3 : pfh 3 = .ref psp) (h2_0 : pf8 0 = .ref ptb0) (h2_1 : pf8 1 = .int 0) (h4_0 : pfv 0 = .ref pvb) (h4_1 : pfv 1 = .int 0) (h6_0 : pfs 0 = .ref psb) (h6_2 : pfs 2 = .ref pscd) (h6_5 : pfs 5 = .ref pss1) (h6_6 : pfs 6 = .ref pss2) (h6_7 : pfs 7 = .ref pss3) (h6_8 : pfs 8 = .ref pss4) (h6_9 : pfs 9 = .ref pss5) (h14_4 : pfm 4 = .int 0) (h14_3 : pfm 3 = .ref ppr) (h14_5 : pfm 5 = .ref pwk) (h15_0 : pgp 0 = some pp0) (h16_0 : pgw 0 = some pw0) (h17_12 : pfp 12 = .ref pco) (h17_13 : pfp 13 = .ref pou) (h20_17 : pfw 17 = .ref pna) (h20_18 : pfw 18 = .ref psc) (h20_4 : pfw 4 = .ref plv) (h20_13 : pfw 13 = .null) (h20_14 : pfw 14 = .int 0) (h22_12 : pf2 12 = .ref plg) (h24_0 : pgl 0 = some pl0) (h25_12 : pf6 12 = .ref ptr) (h25_14 : pf6 14 = .ref pow) (h27_0 : pft 0 = .ref pb) (h27_2 : pft 2 = .ref pcd) (h27_5 : pft 5 = .ref ps1) (h27_6 : pft 6 = .ref ps2) (h27_7 : pft 7 = .ref ps3) (h27_8 : pft 8 = .ref ps4) (h27_9 : pft 9 = .ref ps5) (h35_196 : qf0 196 = .int 0) (h35_195 : qf0 195 = .int 0) (h35_104 : qf0 104 = .int 0) (h35_146 : qf0 146 = .int 0) (h35_105 : qf0 105 = .ref qaslotOf) (h35_106 : qf0 106 = .ref qanumberAt) (h35_107 : qf0 107 = .ref qabyError) (h35_108 : qf0 108 = .ref qatest) (h35_109 : qf0 109 = .ref qaoutX) (h35_110 : qf0 110 = .ref qaoutY) (h35_111 : qf0 111 = .ref qabegun) (h35_112 : qf0 112 = .ref qaoutCount) (h35_114 : qf0 114 = .ref qaecodeN) (h35_116 : qf0 116 = .ref qapc) (h35_117 : qf0 117 = .ref qaatRound) (h35_118 : qf0 118 = .ref qawaits) (h35_122 : qf0 122 = .ref qatoldCount) (h35_125 : qf0 125 = .ref qasegTop) (h35_126 : qf0 126 = .ref qalevels) (h35_147 : qf0 147 = .ref qafors) (h35_158 : qf0 158 = .ref qatexts) (h35_46 : qf0 46 = .ref qahandTop) (h35_49 : qf0 49 = .ref qanodeTop) (h35_57 : qf0 57 = .ref qaboundCount) (h35_60 : qf0 60 = .ref qahiddenCount) (h35_64 : qf0 64 = .ref qanakedLength) (h35_66 : qf0 66 = .ref qatLevel) (h35_67 : qf0 67 = .ref qatRestarts) (h35_75 : qf0 75 = .ref qacopyCount) (h35_78 : qf0 78 = .ref qarecordCount) (h35_80 : qf0 80 = .ref qakeptCount) (h35_103 : qf0 103 = .ref qastream) (h35_127 : qf0 127 = .ref qalKind) (h35_128 : qf0 128 = .ref qalRoutine) (h35_129 : qf0 129 = .ref qalLine) (h35_130 : qf0 130 = .ref qalDots) (h35_132 : qf0 132 = .ref qalRet) (h35_133 : qf0 133 = .ref qalSeg) (h35_134 : qf0 134 = .ref qalKeep) (h35_135 : qf0 135 = .ref qalHand) (h35_136 : qf0 136 = .ref qalNode) (h35_137 : qf0 137 = .ref qalFor) (h35_138 : qf0 138 = .ref qalText) (h35_139 : qf0 139 = .ref qalHidden) (h35_140 : qf0 140 = .ref qalTest) (h35_141 : qf0 141 = .ref qalSerial) (h35_142 : qf0 142 = .ref qalTrapped) (h35_143 : qf0 143 = .ref qalInTrap) (h35_144 : qf0 144 = .ref qalEtrapN) (h35_194 : qf0 194 = .ref qatape) (h35_131 : qf0 131 = .ref qalStop) (h35_202 : qf0 202 = .ref qalOwnN) (h35_21 : qf0 21 = .ref qacode) (h37_0 : qgnumberAt 0 = -1) {H : Heap} {locs : List Loc} {ls : Array Slot} (hP : va_P D vwCl [(ph0, .inr (11, zf 6 pf0)), (pho, .inr (0, zf 18 pfh)), (pta, .inr (6, zf 3 pf8)), (ptb0, .inl (x 1, 4000, .inl pg8)), (pva, .inr (6, zf 3 pfv)), (pvb, .inl (x 1, 250, .inl pgv)), (psp, .inr (8, zf 18 pfs)), (psb, .inl (x 1, 3000, .inl pjb)), (pscd, .inl (x 0, 6216, .inl pjc)), (pss1, .inl (x 0, 100, .inl pj1)), (pss2, .inl (x 0, 100, .inl pj2)), (pss3, .inl (x 0, 100, .inl pj3)), (pss4, .inl (x 2, 100, .inr (.inl pj4))), (pss5, .inl (x 0, 100, .inl pj5)), (pma, .inr (2, zf 19 pfm)), (ppr, .inl (x 9, 24, .inr (.inr (.inr (.inr pgp))))), (pwk, .inl (x 10, 6, .inr (.inr (.inr (.inr pgw))))), (pp0, .inr (5, zf 14 pfp)), (pco, .inr (6, zf 3 pf4)), (pou, .inr (6, zf 3 pf5)), (pw0, .inr (10, zf 20 pfw)), (pna, .inr (3, zf 9 pf1)), (psc, .inr (7, zf 20 pf2)), (plg, .inr (6, zf 3 pf3)), (plv, .inl (x 7, 30, .inr (.inr (.inr (.inr pgl))))), (pl0, .inr (1, zf 16 pf6)), (ptr, .inr (6, zf 3 pf7)), (pow, .inr (8, zf 18 pft)), (pb, .inl (x 1, 250, .inl pgb)), (pcd, .inl (x 0, 518, .inl pgc)), (ps1, .inl (x 0, 1, .inl pg1)), (ps2, .inl (x 0, 1, .inl pg2)), (ps3, .inl (x 0, 1, .inl pg3)), (ps4, .inl (x 2, 1, .inr (.inl pg4))), (ps5, .inl (x 0, 1, .inl pg5)), (qh0, .inr (12, zf 212 qf0)), (qaslotOf, .inl (x 0, 25, .inl qgslotOf)), (qanumberAt, .inl (x 0, 8, .inl qgnumberAt)), (qabyError, .inl (x 3, 25, .inl qgbyError)), (qatest, .inl (x 0, 25, .inl qgtest)), (qaoutX, .inl (x 0, 25, .inl qgoutX)), (qaoutY, .inl (x 0, 25, .inl qgoutY)), (qabegun, .inl (x 0, 25, .inl qgbegun)), (qaoutCount, .inl (x 0, 25, .inl qgoutCount)), (qaecodeN, .inl (x 0, 25, .inl qgecodeN)), (qapc, .inl (x 0, 8, .inl qgpc)), (qaatRound, .inl (x 3, 8, .inl qgatRound)), (qawaits, .inl (x 0, 8, .inl qgwaits)), (qatoldCount, .inl (x 0, 8, .inl qgtoldCount)), (qasegTop, .inl (x 0, 8, .inl qgsegTop)), (qalevels, .inl (x 0, 8, .inl qglevels)), (qafors, .inl (x 0, 8, .inl qgfors)), (qatexts, .inl (x 0, 8, .inl qgtexts)), (qahandTop, .inl (x 0, 8, .inl qghandTop)), (qanodeTop, .inl (x 0, 8, .inl qgnodeTop)), (qaboundCount, .inl (x 0, 8, .inl qgboundCount)), (qahiddenCount, .inl (x 0, 8, .inl qghiddenCount)), (qanakedLength, .inl (x 0, 8, .inl qgnakedLength)), (qatLevel, .inl (x 0, 8, .inl qgtLevel)), (qatRestarts, .inl (x 0, 8, .inl qgtRestarts)), (qacopyCount, .inl (x 0, 8, .inl qgcopyCount)), (qarecordCount, .inl (x 0, 8, .inl qgrecordCount)), (qakeptCount, .inl (x 0, 8, .inl qgkeptCount)), (qastream, .inl (x 2, 8, .inr (.inl qgstream))), (qalKind, .inl (x 0, 186, .inl qglKind)), (qalRoutine, .inl (x 0, 186, .inl qglRoutine)), (qalLine, .inl (x 0, 186, .inl qglLine)), (qalDots, .inl (x 0, 186, .inl qglDots)), (qalRet, .inl (x 0, 186, .inl qglRet)), (qalSeg, .inl (x 0, 186, .inl qglSeg)), (qalKeep, .inl (x 0, 186, .inl qglKeep)), (qalHand, .inl (x 0, 186, .inl qglHand)), (qalNode, .inl (x 0, 186, .inl qglNode)), (qalFor, .inl (x 0, 186, .inl qglFor)), (qalText, .inl (x 0, 186, .inl qglText)), (qalHidden, .inl (x 0, 186, .inl qglHidden)), (qalTest, .inl (x 0, 186, .inl qglTest)), (qalSerial, .inl (x 0, 186, .inl qglSerial)), (qalTrapped, .inl (x 3, 186, .inl qglTrapped)), (qalInTrap, .inl (x 3, 186, .inl qglInTrap)), (qalEtrapN, .inl (x 0, 186, .inl qglEtrapN)), (qatape, .inl (x 1, 4100, .inl qgtape)), (qalStop, .inl (x 0, 186, .inl qglStop)), (qalOwnN, .inl (x 0, 186, .inl qglOwnN)), (qacode, .inl (x 0, 840000, .inl qgcode))] H) (hD : va_D A [(ph0, .inr (11, zf 6 pf0)), (pho, .inr (0, zf 18 pfh)), (pta, .inr (6, zf 3 pf8)), (ptb0, .inl (x 1, 4000, .inl pg8)), (pva, .inr (6, zf 3 pfv)), (pvb, .inl (x 1, 250, .inl pgv)), (psp, .inr (8, zf 18 pfs)), (psb, .inl (x 1, 3000, .inl pjb)), (pscd, .inl (x 0, 6216, .inl pjc)), (pss1, .inl (x 0, 100, .inl pj1)), (pss2, .inl (x 0, 100, .inl pj2)), (pss3, .inl (x 0, 100, .inl pj3)), (pss4, .inl (x 2, 100, .inr (.inl pj4))), (pss5, .inl (x 0, 100, .inl pj5)), (pma, .inr (2, zf 19 pfm)), (ppr, .inl (x 9, 24, .inr (.inr (.inr (.inr pgp))))), (pwk, .inl (x 10, 6, .inr (.inr (.inr (.inr pgw))))), (pp0, .inr (5, zf 14 pfp)), (pco, .inr (6, zf 3 pf4)), (pou, .inr (6, zf 3 pf5)), (pw0, .inr (10, zf 20 pfw)), (pna, .inr (3, zf 9 pf1)), (psc, .inr (7, zf 20 pf2)), (plg, .inr (6, zf 3 pf3)), (plv, .inl (x 7, 30, .inr (.inr (.inr (.inr pgl))))), (pl0, .inr (1, zf 16 pf6)), (ptr, .inr (6, zf 3 pf7)), (pow, .inr (8, zf 18 pft)), (pb, .inl (x 1, 250, .inl pgb)), (pcd, .inl (x 0, 518, .inl pgc)), (ps1, .inl (x 0, 1, .inl pg1)), (ps2, .inl (x 0, 1, .inl pg2)), (ps3, .inl (x 0, 1, .inl pg3)), (ps4, .inl (x 2, 1, .inr (.inl pg4))), (ps5, .inl (x 0, 1, .inl pg5)), (qh0, .inr (12, zf 212 qf0)), (qaslotOf, .inl (x 0, 25, .inl qgslotOf)), (qanumberAt, .inl (x 0, 8, .inl qgnumberAt)), (qabyError, .inl (x 3, 25, .inl qgbyError)), (qatest, .inl (x 0, 25, .inl qgtest)), (qaoutX, .inl (x 0, 25, .inl qgoutX)), (qaoutY, .inl (x 0, 25, .inl qgoutY)), (qabegun, .inl (x 0, 25, .inl qgbegun)), (qaoutCount, .inl (x 0, 25, .inl qgoutCount)), (qaecodeN, .inl (x 0, 25, .inl qgecodeN)), (qapc, .inl (x 0, 8, .inl qgpc)), (qaatRound, .inl (x 3, 8, .inl qgatRound)), (qawaits, .inl (x 0, 8, .inl qgwaits)), (qatoldCount, .inl (x 0, 8, .inl qgtoldCount)), (qasegTop, .inl (x 0, 8, .inl qgsegTop)), (qalevels, .inl (x 0, 8, .inl qglevels)), (qafors, .inl (x 0, 8, .inl qgfors)), (qatexts, .inl (x 0, 8, .inl qgtexts)), (qahandTop, .inl (x 0, 8, .inl qghandTop)), (qanodeTop, .inl (x 0, 8, .inl qgnodeTop)), (qaboundCount, .inl (x 0, 8, .inl qgboundCount)), (qahiddenCount, .inl (x 0, 8, .inl qghiddenCount)), (qanakedLength, .inl (x 0, 8, .inl qgnakedLength)), (qatLevel, .inl (x 0, 8, .inl qgtLevel)), (qatRestarts, .inl (x 0, 8, .inl qgtRestarts)), (qacopyCount, .inl (x 0, 8, .inl qgcopyCount)), (qarecordCount, .inl (x 0, 8, .inl qgrecordCount)), (qakeptCount, .inl (x 0, 8, .inl qgkeptCount)), (qastream, .inl (x 2, 8, .inr (.inl qgstream))), (qalKind, .inl (x 0, 186, .inl qglKind)), (qalRoutine, .inl (x 0, 186, .inl qglRoutine)), (qalLine, .inl (x 0, 186, .inl qglLine)), (qalDots, .inl (x 0, 186, .inl qglDots)), (qalRet, .inl (x 0, 186, .inl qglRet)), (qalSeg, .inl (x 0, 186, .inl qglSeg)), (qalKeep, .inl (x 0, 186, .inl qglKeep)), (qalHand, .inl (x 0, 186, .inl qglHand)), (qalNode, .inl (x 0, 186, .inl qglNode)), (qalFor, .inl (x 0, 186, .inl qglFor)), (qalText, .inl (x 0, 186, .inl qglText)), (qalHidden, .inl (x 0, 186, .inl qglHidden)), (qalTest, .inl (x 0, 186, .inl qglTest)), (qalSerial, .inl (x 0, 186, .inl qglSerial)), (qalTrapped, .inl (x 3, 186, .inl qglTrapped)), (qalInTrap, .inl (x 3, 186, .inl qglInTrap)), (qalEtrapN, .inl (x 0, 186, .inl qglEtrapN)), (qatape, .inl (x 1, 4100, .inl qgtape)), (qalStop, .inl (x 0, 186, .inl qglStop)), (qalOwnN, .inl (x 0, 186, .inl qglOwnN)), (qacode, .inl (x 0, 840000, .inl qgcode))]) (hS : va_S A s.heap H locs) (hl : lv_has ls 4 [(3, .int 0), (2, .ref qh0), (1, .ref ph0), (0, .ref b)]) : W p l e room_1 s m #[Value.ref b] below meth c H locs 13405 3699129 (lw_Z below #[Value.ref b] s) (F0 m 257 ls []) := by
  obtain ⟨hx, hb, hr, hml, hown, hts, hX, hbl, hlocks, hZ, hA, hA2, hbA⟩ := id C0
  have hK := hZ.1
  refine lv_aload_n hx hb dL_law_257 rfl (lv_at hl 2 rfl) ?_
  have hPc := hP.sub (ws' := [(ph0, .inr (11, zf 6 pf0)), (pho, .inr (0, zf 18 pfh)), (pta, .inr (6, zf 3 pf8)), (ptb0, .inl (x 1, 4000, .inl pg8)), (pva, .inr (6, zf 3 pfv)), (pvb, .inl (x 1, 250, .inl pgv)), (psp, .inr (8, zf 18 pfs)), (psb, .inl (x 1, 3000, .inl pjb)), (pscd, .inl (x 0, 6216, .inl pjc)), (pss1, .inl (x 0, 100, .inl pj1)), (pss2, .inl (x 0, 100, .inl pj2)), (pss3, .inl (x 0, 100, .inl pj3)), (pss4, .inl (x 2, 100, .inr (.inl pj4))), (pss5, .inl (x 0, 100, .inl pj5)), (pma, .inr (2, zf 19 pfm)), (ppr, .inl (x 9, 24, .inr (.inr (.inr (.inr pgp))))), (pwk, .inl (x 10, 6, .inr (.inr (.inr (.inr pgw))))), (pp0, .inr (5, zf 14 pfp)), (pco, .inr (6, zf 3 pf4)), (pou, .inr (6, zf 3 pf5)), (pw0, .inr (10, zf 20 pfw)), (pna, .inr (3, zf 9 pf1)), (psc, .inr (7, zf 20 pf2)), (plg, .inr (6, zf 3 pf3)), (plv, .inl (x 7, 30, .inr (.inr (.inr (.inr pgl))))), (pl0, .inr (1, zf 16 pf6)), (ptr, .inr (6, zf 3 pf7)), (pow, .inr (8, zf 18 pft)), (pb, .inl (x 1, 250, .inl pgb)), (pcd, .inl (x 0, 518, .inl pgc)), (ps1, .inl (x 0, 1, .inl pg1)), (ps2, .inl (x 0, 1, .inl pg2)), (ps3, .inl (x 0, 1, .inl pg3)), (ps4, .inl (x 2, 1, .inr (.inl pg4))), (ps5, .inl (x 0, 1, .inl pg5))]) [0, 1, 2, 3, 4, 5, 6, 7, 8, 9, 10, 11, 12, 13, 14, 15, 16, 17, 18, 19, 20, 21, 22, 23, 24, 25, 26, 27, 28, 29, 30, 31, 32, 33, 34] rfl
  have hDc := hD.sub (ws' := [(ph0, .inr (11, zf 6 pf0)), (pho, .inr (0, zf 18 pfh)), (pta, .inr (6, zf 3 pf8)), (ptb0, .inl (x 1, 4000, .inl pg8)), (pva, .inr (6, zf 3 pfv)), (pvb, .inl (x 1, 250, .inl pgv)), (psp, .inr (8, zf 18 pfs)), (psb, .inl (x 1, 3000, .inl pjb)), (pscd, .inl (x 0, 6216, .inl pjc)), (pss1, .inl (x 0, 100, .inl pj1)), (pss2, .inl (x 0, 100, .inl pj2)), (pss3, .inl (x 0, 100, .inl pj3)), (pss4, .inl (x 2, 100, .inr (.inl pj4))), (pss5, .inl (x 0, 100, .inl pj5)), (pma, .inr (2, zf 19 pfm)), (ppr, .inl (x 9, 24, .inr (.inr (.inr (.inr pgp))))), (pwk, .inl (x 10, 6, .inr (.inr (.inr (.inr pgw))))), (pp0, .inr (5, zf 14 pfp)), (pco, .inr (6, zf 3 pf4)), (pou, .inr (6, zf 3 pf5)), (pw0, .inr (10, zf 20 pfw)), (pna, .inr (3, zf 9 pf1)), (psc, .inr (7, zf 20 pf2)), (plg, .inr (6, zf 3 pf3)), (plv, .inl (x 7, 30, .inr (.inr (.inr (.inr pgl))))), (pl0, .inr (1, zf 16 pf6)), (ptr, .inr (6, zf 3 pf7)), (pow, .inr (8, zf 18 pft)), (pb, .inl (x 1, 250, .inl pgb)), (pcd, .inl (x 0, 518, .inl pgc)), (ps1, .inl (x 0, 1, .inl pg1)), (ps2, .inl (x 0, 1, .inl pg2)), (ps3, .inl (x 0, 1, .inl pg3)), (ps4, .inl (x 2, 1, .inr (.inl pg4))), (ps5, .inl (x 0, 1, .inl pg5))]) [0, 1, 2, 3, 4, 5, 6, 7, 8, 9, 10, 11, 12, 13, 14, 15, 16, 17, 18, 19, 20, 21, 22, 23, 24, 25, 26, 27, 28, 29, 30, 31, 32, 33, 34] (by decide) rfl
  have hFc := va_free (wc := [(ph0, .inr (11, zf 6 pf0)), (pho, .inr (0, zf 18 pfh)), (pta, .inr (6, zf 3 pf8)), (ptb0, .inl (x 1, 4000, .inl pg8)), (pva, .inr (6, zf 3 pfv)), (pvb, .inl (x 1, 250, .inl pgv)), (psp, .inr (8, zf 18 pfs)), (psb, .inl (x 1, 3000, .inl pjb)), (pscd, .inl (x 0, 6216, .inl pjc)), (pss1, .inl (x 0, 100, .inl pj1)), (pss2, .inl (x 0, 100, .inl pj2)), (pss3, .inl (x 0, 100, .inl pj3)), (pss4, .inl (x 2, 100, .inr (.inl pj4))), (pss5, .inl (x 0, 100, .inl pj5)), (pma, .inr (2, zf 19 pfm)), (ppr, .inl (x 9, 24, .inr (.inr (.inr (.inr pgp))))), (pwk, .inl (x 10, 6, .inr (.inr (.inr (.inr pgw))))), (pp0, .inr (5, zf 14 pfp)), (pco, .inr (6, zf 3 pf4)), (pou, .inr (6, zf 3 pf5)), (pw0, .inr (10, zf 20 pfw)), (pna, .inr (3, zf 9 pf1)), (psc, .inr (7, zf 20 pf2)), (plg, .inr (6, zf 3 pf3)), (plv, .inl (x 7, 30, .inr (.inr (.inr (.inr pgl))))), (pl0, .inr (1, zf 16 pf6)), (ptr, .inr (6, zf 3 pf7)), (pow, .inr (8, zf 18 pft)), (pb, .inl (x 1, 250, .inl pgb)), (pcd, .inl (x 0, 518, .inl pgc)), (ps1, .inl (x 0, 1, .inl pg1)), (ps2, .inl (x 0, 1, .inl pg2)), (ps3, .inl (x 0, 1, .inl pg3)), (ps4, .inl (x 2, 1, .inr (.inl pg4))), (ps5, .inl (x 0, 1, .inl pg5))]) hD hS hA [0, 1, 2, 3, 4, 5, 6, 7, 8, 9, 10, 11, 12, 13, 14, 15, 16, 17, 18, 19, 20, 21, 22, 23, 24, 25, 26, 27, 28, 29, 30, 31, 32, 33, 34] rfl
  refine va_calli (va_runV (As := []) (rest := []) ⟨hx, hb, hml, hown, hts⟩ (c_process l D x ph0 pf0 pho pfh pta pf8 ptb0 pg8 pva pfv pvb pgv psp pfs psb pjb pscd pjc pss1 pj1 pss2 pj2 pss3 pj3 pss4 pj4 pss5 pj5 pma pfm ppr pgp pwk pgw pp0 pfp pco pf4 pou pf5 pw0 pfw pna pf1 psc pf2 plg pf3 plv pgl pl0 pf6 ptr pf7 pow pft pb pgb pcd pgc ps1 pg1 ps2 pg2 ps3 pg3 ps4 pg4 ps5 pg5 H.size h0_2 h0_3 h0_0 h0_5 h1_12 h1_3 h2_0 h2_1 h4_0 h4_1 h6_0 h6_2 h6_5 h6_6 h6_7 h6_8 h6_9 h14_4 h14_3 h14_5 h15_0 h16_0 h17_12 h17_13 h20_17 h20_18 h20_4 h20_13 h20_14 h22_12 h24_0 h25_12 h25_14 h27_0 h27_2 h27_5 h27_6 h27_7 h27_8 h27_9) ⟨callB_of 0 hts (zgood (zm_213 _) rfl) rfl rfl rfl (hts _ (zm_168 _)) (hts _ (zm_853 _)) ⟨by decide, by decide, by decide +kernel⟩ ⟨Nat.le_of_ble_eq_true rfl, Nat.le_of_ble_eq_true rfl⟩, hts _ (zm_214 _), hts _ (zm_215 _)⟩ ⟨fun a U g mk q => by obtain ⟨q0, q1, qP, qK, qD⟩ := q; exact ⟨q0, q1, qP, ZK.calling (u := U) zN_ok rfl qK, qD⟩, va_recv hK hPc (ci := 11) (q0 := 0) rfl rfl, fun U hU hW => ⟨rfl, by rw [hU], by rw [hU]; exact hPc, ZK.warm zN_ok hW hZ, hDc.weaken (fun _ _ _ _ => trivial)⟩⟩ rfl rfl hl.1 rfl (lv_room (Nat.le_of_ble_eq_true rfl)) dL_law_258 ⟨Nat.le_of_ble_eq_true rfl, Nat.le_of_ble_eq_true rfl⟩) hS (fun q _ h => hFc q h) hFc (fun r_1 u t H1 locs ht hvm hw_1 hB hz1 hk1 hSn => ?_)
  have hP1 : va_P D vwCl [] H1 := z_P0
  have hD1 : va_D (va_A [(ph0, .inr (11, zf 6 pf0)), (pho, .inr (0, zf 18 pfh)), (pta, .inr (6, zf 3 pf8)), (ptb0, .inl (x 1, 4000, .inl pg8)), (pva, .inr (6, zf 3 pfv)), (pvb, .inl (x 1, 250, .inl pgv)), (psp, .inr (8, zf 18 pfs)), (psb, .inl (x 1, 3000, .inl pjb)), (pscd, .inl (x 0, 6216, .inl pjc)), (pss1, .inl (x 0, 100, .inl pj1)), (pss2, .inl (x 0, 100, .inl pj2)), (pss3, .inl (x 0, 100, .inl pj3)), (pss4, .inl (x 2, 100, .inr (.inl pj4))), (pss5, .inl (x 0, 100, .inl pj5)), (pma, .inr (2, zf 19 pfm)), (ppr, .inl (x 9, 24, .inr (.inr (.inr (.inr pgp))))), (pwk, .inl (x 10, 6, .inr (.inr (.inr (.inr pgw))))), (pp0, .inr (5, zf 14 pfp)), (pco, .inr (6, zf 3 pf4)), (pou, .inr (6, zf 3 pf5)), (pw0, .inr (10, zf 20 pfw)), (pna, .inr (3, zf 9 pf1)), (psc, .inr (7, zf 20 pf2)), (plg, .inr (6, zf 3 pf3)), (plv, .inl (x 7, 30, .inr (.inr (.inr (.inr pgl))))), (pl0, .inr (1, zf 16 pf6)), (ptr, .inr (6, zf 3 pf7)), (pow, .inr (8, zf 18 pft)), (pb, .inl (x 1, 250, .inl pgb)), (pcd, .inl (x 0, 518, .inl pgc)), (ps1, .inl (x 0, 1, .inl pg1)), (ps2, .inl (x 0, 1, .inl pg2)), (ps3, .inl (x 0, 1, .inl pg3)), (ps4, .inl (x 2, 1, .inr (.inl pg4))), (ps5, .inl (x 0, 1, .inl pg5))] H.size) [] := z_D0
  try dsimp only at hw_1
  obtain ⟨hPn, hDn⟩ := va_join (wr := [(qh0, .inr (12, zf 212 qf0)), (qaslotOf, .inl (x 0, 25, .inl qgslotOf)), (qanumberAt, .inl (x 0, 8, .inl qgnumberAt)), (qabyError, .inl (x 3, 25, .inl qgbyError)), (qatest, .inl (x 0, 25, .inl qgtest)), (qaoutX, .inl (x 0, 25, .inl qgoutX)), (qaoutY, .inl (x 0, 25, .inl qgoutY)), (qabegun, .inl (x 0, 25, .inl qgbegun)), (qaoutCount, .inl (x 0, 25, .inl qgoutCount)), (qaecodeN, .inl (x 0, 25, .inl qgecodeN)), (qapc, .inl (x 0, 8, .inl qgpc)), (qaatRound, .inl (x 3, 8, .inl qgatRound)), (qawaits, .inl (x 0, 8, .inl qgwaits)), (qatoldCount, .inl (x 0, 8, .inl qgtoldCount)), (qasegTop, .inl (x 0, 8, .inl qgsegTop)), (qalevels, .inl (x 0, 8, .inl qglevels)), (qafors, .inl (x 0, 8, .inl qgfors)), (qatexts, .inl (x 0, 8, .inl qgtexts)), (qahandTop, .inl (x 0, 8, .inl qghandTop)), (qanodeTop, .inl (x 0, 8, .inl qgnodeTop)), (qaboundCount, .inl (x 0, 8, .inl qgboundCount)), (qahiddenCount, .inl (x 0, 8, .inl qghiddenCount)), (qanakedLength, .inl (x 0, 8, .inl qgnakedLength)), (qatLevel, .inl (x 0, 8, .inl qgtLevel)), (qatRestarts, .inl (x 0, 8, .inl qgtRestarts)), (qacopyCount, .inl (x 0, 8, .inl qgcopyCount)), (qarecordCount, .inl (x 0, 8, .inl qgrecordCount)), (qakeptCount, .inl (x 0, 8, .inl qgkeptCount)), (qastream, .inl (x 2, 8, .inr (.inl qgstream))), (qalKind, .inl (x 0, 186, .inl qglKind)), (qalRoutine, .inl (x 0, 186, .inl qglRoutine)), (qalLine, .inl (x 0, 186, .inl qglLine)), (qalDots, .inl (x 0, 186, .inl qglDots)), (qalRet, .inl (x 0, 186, .inl qglRet)), (qalSeg, .inl (x 0, 186, .inl qglSeg)), (qalKeep, .inl (x 0, 186, .inl qglKeep)), (qalHand, .inl (x 0, 186, .inl qglHand)), (qalNode, .inl (x 0, 186, .inl qglNode)), (qalFor, .inl (x 0, 186, .inl qglFor)), (qalText, .inl (x 0, 186, .inl qglText)), (qalHidden, .inl (x 0, 186, .inl qglHidden)), (qalTest, .inl (x 0, 186, .inl qglTest)), (qalSerial, .inl (x 0, 186, .inl qglSerial)), (qalTrapped, .inl (x 3, 186, .inl qglTrapped)), (qalInTrap, .inl (x 3, 186, .inl qglInTrap)), (qalEtrapN, .inl (x 0, 186, .inl qglEtrapN)), (qatape, .inl (x 1, 4100, .inl qgtape)), (qalStop, .inl (x 0, 186, .inl qglStop)), (qalOwnN, .inl (x 0, 186, .inl qglOwnN)), (qacode, .inl (x 0, 840000, .inl qgcode))]) (w1 := []) hP hD [0, 1, 2, 3, 4, 5, 6, 7, 8, 9, 10, 11, 12, 13, 14, 15, 16, 17, 18, 19, 20, 21, 22, 23, 24, 25, 26, 27, 28, 29, 30, 31, 32, 33, 34] [35, 36, 37, 38, 39, 40, 41, 42, 43, 44, 45, 46, 47, 48, 49, 50, 51, 52, 53, 54, 55, 56, 57, 58, 59, 60, 61, 62, 63, 64, 65, 66, 67, 68, 69, 70, 71, 72, 73, 74, 75, 76, 77, 78, 79, 80, 81, 82, 83, 84] rfl rfl (by decide) (by decide) hk1 hFc hP1 hD1
  clear hPc hDc hFc hP1 hD1 hk1 hz1
  generalize H1 = H at hPn hSn ⊢
  clear hP hD hS
  have hP : va_P D vwCl [(qh0, .inr (12, zf 212 qf0)), (qaslotOf, .inl (x 0, 25, .inl qgslotOf)), (qanumberAt, .inl (x 0, 8, .inl qgnumberAt)), (qabyError, .inl (x 3, 25, .inl qgbyError)), (qatest, .inl (x 0, 25, .inl qgtest)), (qaoutX, .inl (x 0, 25, .inl qgoutX)), (qaoutY, .inl (x 0, 25, .inl qgoutY)), (qabegun, .inl (x 0, 25, .inl qgbegun)), (qaoutCount, .inl (x 0, 25, .inl qgoutCount)), (qaecodeN, .inl (x 0, 25, .inl qgecodeN)), (qapc, .inl (x 0, 8, .inl qgpc)), (qaatRound, .inl (x 3, 8, .inl qgatRound)), (qawaits, .inl (x 0, 8, .inl qgwaits)), (qatoldCount, .inl (x 0, 8, .inl qgtoldCount)), (qasegTop, .inl (x 0, 8, .inl qgsegTop)), (qalevels, .inl (x 0, 8, .inl qglevels)), (qafors, .inl (x 0, 8, .inl qgfors)), (qatexts, .inl (x 0, 8, .inl qgtexts)), (qahandTop, .inl (x 0, 8, .inl qghandTop)), (qanodeTop, .inl (x 0, 8, .inl qgnodeTop)), (qaboundCount, .inl (x 0, 8, .inl qgboundCount)), (qahiddenCount, .inl (x 0, 8, .inl qghiddenCount)), (qanakedLength, .inl (x 0, 8, .inl qgnakedLength)), (qatLevel, .inl (x 0, 8, .inl qgtLevel)), (qatRestarts, .inl (x 0, 8, .inl qgtRestarts)), (qacopyCount, .inl (x 0, 8, .inl qgcopyCount)), (qarecordCount, .inl (x 0, 8, .inl qgrecordCount)), (qakeptCount, .inl (x 0, 8, .inl qgkeptCount)), (qastream, .inl (x 2, 8, .inr (.inl qgstream))), (qalKind, .inl (x 0, 186, .inl qglKind)), (qalRoutine, .inl (x 0, 186, .inl qglRoutine)), (qalLine, .inl (x 0, 186, .inl qglLine)), (qalDots, .inl (x 0, 186, .inl qglDots)), (qalRet, .inl (x 0, 186, .inl qglRet)), (qalSeg, .inl (x 0, 186, .inl qglSeg)), (qalKeep, .inl (x 0, 186, .inl qglKeep)), (qalHand, .inl (x 0, 186, .inl qglHand)), (qalNode, .inl (x 0, 186, .inl qglNode)), (qalFor, .inl (x 0, 186, .inl qglFor)), (qalText, .inl (x 0, 186, .inl qglText)), (qalHidden, .inl (x 0, 186, .inl qglHidden)), (qalTest, .inl (x 0, 186, .inl qglTest)), (qalSerial, .inl (x 0, 186, .inl qglSerial)), (qalTrapped, .inl (x 3, 186, .inl qglTrapped)), (qalInTrap, .inl (x 3, 186, .inl qglInTrap)), (qalEtrapN, .inl (x 0, 186, .inl qglEtrapN)), (qatape, .inl (x 1, 4100, .inl qgtape)), (qalStop, .inl (x 0, 186, .inl qglStop)), (qalOwnN, .inl (x 0, 186, .inl qglOwnN)), (qacode, .inl (x 0, 840000, .inl qgcode))] H := hPn
  have hD : va_D A [(qh0, .inr (12, zf 212 qf0)), (qaslotOf, .inl (x 0, 25, .inl qgslotOf)), (qanumberAt, .inl (x 0, 8, .inl qgnumberAt)), (qabyError, .inl (x 3, 25, .inl qgbyError)), (qatest, .inl (x 0, 25, .inl qgtest)), (qaoutX, .inl (x 0, 25, .inl qgoutX)), (qaoutY, .inl (x 0, 25, .inl qgoutY)), (qabegun, .inl (x 0, 25, .inl qgbegun)), (qaoutCount, .inl (x 0, 25, .inl qgoutCount)), (qaecodeN, .inl (x 0, 25, .inl qgecodeN)), (qapc, .inl (x 0, 8, .inl qgpc)), (qaatRound, .inl (x 3, 8, .inl qgatRound)), (qawaits, .inl (x 0, 8, .inl qgwaits)), (qatoldCount, .inl (x 0, 8, .inl qgtoldCount)), (qasegTop, .inl (x 0, 8, .inl qgsegTop)), (qalevels, .inl (x 0, 8, .inl qglevels)), (qafors, .inl (x 0, 8, .inl qgfors)), (qatexts, .inl (x 0, 8, .inl qgtexts)), (qahandTop, .inl (x 0, 8, .inl qghandTop)), (qanodeTop, .inl (x 0, 8, .inl qgnodeTop)), (qaboundCount, .inl (x 0, 8, .inl qgboundCount)), (qahiddenCount, .inl (x 0, 8, .inl qghiddenCount)), (qanakedLength, .inl (x 0, 8, .inl qgnakedLength)), (qatLevel, .inl (x 0, 8, .inl qgtLevel)), (qatRestarts, .inl (x 0, 8, .inl qgtRestarts)), (qacopyCount, .inl (x 0, 8, .inl qgcopyCount)), (qarecordCount, .inl (x 0, 8, .inl qgrecordCount)), (qakeptCount, .inl (x 0, 8, .inl qgkeptCount)), (qastream, .inl (x 2, 8, .inr (.inl qgstream))), (qalKind, .inl (x 0, 186, .inl qglKind)), (qalRoutine, .inl (x 0, 186, .inl qglRoutine)), (qalLine, .inl (x 0, 186, .inl qglLine)), (qalDots, .inl (x 0, 186, .inl qglDots)), (qalRet, .inl (x 0, 186, .inl qglRet)), (qalSeg, .inl (x 0, 186, .inl qglSeg)), (qalKeep, .inl (x 0, 186, .inl qglKeep)), (qalHand, .inl (x 0, 186, .inl qglHand)), (qalNode, .inl (x 0, 186, .inl qglNode)), (qalFor, .inl (x 0, 186, .inl qglFor)), (qalText, .inl (x 0, 186, .inl qglText)), (qalHidden, .inl (x 0, 186, .inl qglHidden)), (qalTest, .inl (x 0, 186, .inl qglTest)), (qalSerial, .inl (x 0, 186, .inl qglSerial)), (qalTrapped, .inl (x 3, 186, .inl qglTrapped)), (qalInTrap, .inl (x 3, 186, .inl qglInTrap)), (qalEtrapN, .inl (x 0, 186, .inl qglEtrapN)), (qatape, .inl (x 1, 4100, .inl qgtape)), (qalStop, .inl (x 0, 186, .inl qglStop)), (qalOwnN, .inl (x 0, 186, .inl qglOwnN)), (qacode, .inl (x 0, 840000, .inl qgcode))] := hDn
  have hS := hSn
  clear hPn hDn hSn
  refine W.widen (k := 13405) (n := 3699129) (Nat.le_of_ble_eq_true rfl) (Nat.le_of_ble_eq_true rfl) ?_
  obtain rfl : r_1 = 0 := hw_1
  refine lv_aload_n hx hb dL_law_261 rfl (lv_at hl 1 rfl) ?_
  have hPc := hP.sub (ws' := [(qh0, .inr (12, zf 212 qf0)), (qaslotOf, .inl (x 0, 25, .inl qgslotOf)), (qanumberAt, .inl (x 0, 8, .inl qgnumberAt)), (qabyError, .inl (x 3, 25, .inl qgbyError)), (qatest, .inl (x 0, 25, .inl qgtest)), (qaoutX, .inl (x 0, 25, .inl qgoutX)), (qaoutY, .inl (x 0, 25, .inl qgoutY)), (qabegun, .inl (x 0, 25, .inl qgbegun)), (qaoutCount, .inl (x 0, 25, .inl qgoutCount)), (qaecodeN, .inl (x 0, 25, .inl qgecodeN)), (qapc, .inl (x 0, 8, .inl qgpc)), (qaatRound, .inl (x 3, 8, .inl qgatRound)), (qawaits, .inl (x 0, 8, .inl qgwaits)), (qatoldCount, .inl (x 0, 8, .inl qgtoldCount)), (qasegTop, .inl (x 0, 8, .inl qgsegTop)), (qalevels, .inl (x 0, 8, .inl qglevels)), (qafors, .inl (x 0, 8, .inl qgfors)), (qatexts, .inl (x 0, 8, .inl qgtexts)), (qahandTop, .inl (x 0, 8, .inl qghandTop)), (qanodeTop, .inl (x 0, 8, .inl qgnodeTop)), (qaboundCount, .inl (x 0, 8, .inl qgboundCount)), (qahiddenCount, .inl (x 0, 8, .inl qghiddenCount)), (qanakedLength, .inl (x 0, 8, .inl qgnakedLength)), (qatLevel, .inl (x 0, 8, .inl qgtLevel)), (qatRestarts, .inl (x 0, 8, .inl qgtRestarts)), (qacopyCount, .inl (x 0, 8, .inl qgcopyCount)), (qarecordCount, .inl (x 0, 8, .inl qgrecordCount)), (qakeptCount, .inl (x 0, 8, .inl qgkeptCount)), (qastream, .inl (x 2, 8, .inr (.inl qgstream))), (qalKind, .inl (x 0, 186, .inl qglKind)), (qalRoutine, .inl (x 0, 186, .inl qglRoutine)), (qalLine, .inl (x 0, 186, .inl qglLine)), (qalDots, .inl (x 0, 186, .inl qglDots)), (qalRet, .inl (x 0, 186, .inl qglRet)), (qalSeg, .inl (x 0, 186, .inl qglSeg)), (qalKeep, .inl (x 0, 186, .inl qglKeep)), (qalHand, .inl (x 0, 186, .inl qglHand)), (qalNode, .inl (x 0, 186, .inl qglNode)), (qalFor, .inl (x 0, 186, .inl qglFor)), (qalText, .inl (x 0, 186, .inl qglText)), (qalHidden, .inl (x 0, 186, .inl qglHidden)), (qalTest, .inl (x 0, 186, .inl qglTest)), (qalSerial, .inl (x 0, 186, .inl qglSerial)), (qalTrapped, .inl (x 3, 186, .inl qglTrapped)), (qalInTrap, .inl (x 3, 186, .inl qglInTrap)), (qalEtrapN, .inl (x 0, 186, .inl qglEtrapN)), (qatape, .inl (x 1, 4100, .inl qgtape)), (qalStop, .inl (x 0, 186, .inl qglStop)), (qalOwnN, .inl (x 0, 186, .inl qglOwnN)), (qacode, .inl (x 0, 840000, .inl qgcode))]) [0, 1, 2, 3, 4, 5, 6, 7, 8, 9, 10, 11, 12, 13, 14, 15, 16, 17, 18, 19, 20, 21, 22, 23, 24, 25, 26, 27, 28, 29, 30, 31, 32, 33, 34, 35, 36, 37, 38, 39, 40, 41, 42, 43, 44, 45, 46, 47, 48, 49] rfl
  have hDc := hD.sub (ws' := [(qh0, .inr (12, zf 212 qf0)), (qaslotOf, .inl (x 0, 25, .inl qgslotOf)), (qanumberAt, .inl (x 0, 8, .inl qgnumberAt)), (qabyError, .inl (x 3, 25, .inl qgbyError)), (qatest, .inl (x 0, 25, .inl qgtest)), (qaoutX, .inl (x 0, 25, .inl qgoutX)), (qaoutY, .inl (x 0, 25, .inl qgoutY)), (qabegun, .inl (x 0, 25, .inl qgbegun)), (qaoutCount, .inl (x 0, 25, .inl qgoutCount)), (qaecodeN, .inl (x 0, 25, .inl qgecodeN)), (qapc, .inl (x 0, 8, .inl qgpc)), (qaatRound, .inl (x 3, 8, .inl qgatRound)), (qawaits, .inl (x 0, 8, .inl qgwaits)), (qatoldCount, .inl (x 0, 8, .inl qgtoldCount)), (qasegTop, .inl (x 0, 8, .inl qgsegTop)), (qalevels, .inl (x 0, 8, .inl qglevels)), (qafors, .inl (x 0, 8, .inl qgfors)), (qatexts, .inl (x 0, 8, .inl qgtexts)), (qahandTop, .inl (x 0, 8, .inl qghandTop)), (qanodeTop, .inl (x 0, 8, .inl qgnodeTop)), (qaboundCount, .inl (x 0, 8, .inl qgboundCount)), (qahiddenCount, .inl (x 0, 8, .inl qghiddenCount)), (qanakedLength, .inl (x 0, 8, .inl qgnakedLength)), (qatLevel, .inl (x 0, 8, .inl qgtLevel)), (qatRestarts, .inl (x 0, 8, .inl qgtRestarts)), (qacopyCount, .inl (x 0, 8, .inl qgcopyCount)), (qarecordCount, .inl (x 0, 8, .inl qgrecordCount)), (qakeptCount, .inl (x 0, 8, .inl qgkeptCount)), (qastream, .inl (x 2, 8, .inr (.inl qgstream))), (qalKind, .inl (x 0, 186, .inl qglKind)), (qalRoutine, .inl (x 0, 186, .inl qglRoutine)), (qalLine, .inl (x 0, 186, .inl qglLine)), (qalDots, .inl (x 0, 186, .inl qglDots)), (qalRet, .inl (x 0, 186, .inl qglRet)), (qalSeg, .inl (x 0, 186, .inl qglSeg)), (qalKeep, .inl (x 0, 186, .inl qglKeep)), (qalHand, .inl (x 0, 186, .inl qglHand)), (qalNode, .inl (x 0, 186, .inl qglNode)), (qalFor, .inl (x 0, 186, .inl qglFor)), (qalText, .inl (x 0, 186, .inl qglText)), (qalHidden, .inl (x 0, 186, .inl qglHidden)), (qalTest, .inl (x 0, 186, .inl qglTest)), (qalSerial, .inl (x 0, 186, .inl qglSerial)), (qalTrapped, .inl (x 3, 186, .inl qglTrapped)), (qalInTrap, .inl (x 3, 186, .inl qglInTrap)), (qalEtrapN, .inl (x 0, 186, .inl qglEtrapN)), (qatape, .inl (x 1, 4100, .inl qgtape)), (qalStop, .inl (x 0, 186, .inl qglStop)), (qalOwnN, .inl (x 0, 186, .inl qglOwnN)), (qacode, .inl (x 0, 840000, .inl qgcode))]) [0, 1, 2, 3, 4, 5, 6, 7, 8, 9, 10, 11, 12, 13, 14, 15, 16, 17, 18, 19, 20, 21, 22, 23, 24, 25, 26, 27, 28, 29, 30, 31, 32, 33, 34, 35, 36, 37, 38, 39, 40, 41, 42, 43, 44, 45, 46, 47, 48, 49] (by decide) rfl
  have hFc := va_free (wc := [(qh0, .inr (12, zf 212 qf0)), (qaslotOf, .inl (x 0, 25, .inl qgslotOf)), (qanumberAt, .inl (x 0, 8, .inl qgnumberAt)), (qabyError, .inl (x 3, 25, .inl qgbyError)), (qatest, .inl (x 0, 25, .inl qgtest)), (qaoutX, .inl (x 0, 25, .inl qgoutX)), (qaoutY, .inl (x 0, 25, .inl qgoutY)), (qabegun, .inl (x 0, 25, .inl qgbegun)), (qaoutCount, .inl (x 0, 25, .inl qgoutCount)), (qaecodeN, .inl (x 0, 25, .inl qgecodeN)), (qapc, .inl (x 0, 8, .inl qgpc)), (qaatRound, .inl (x 3, 8, .inl qgatRound)), (qawaits, .inl (x 0, 8, .inl qgwaits)), (qatoldCount, .inl (x 0, 8, .inl qgtoldCount)), (qasegTop, .inl (x 0, 8, .inl qgsegTop)), (qalevels, .inl (x 0, 8, .inl qglevels)), (qafors, .inl (x 0, 8, .inl qgfors)), (qatexts, .inl (x 0, 8, .inl qgtexts)), (qahandTop, .inl (x 0, 8, .inl qghandTop)), (qanodeTop, .inl (x 0, 8, .inl qgnodeTop)), (qaboundCount, .inl (x 0, 8, .inl qgboundCount)), (qahiddenCount, .inl (x 0, 8, .inl qghiddenCount)), (qanakedLength, .inl (x 0, 8, .inl qgnakedLength)), (qatLevel, .inl (x 0, 8, .inl qgtLevel)), (qatRestarts, .inl (x 0, 8, .inl qgtRestarts)), (qacopyCount, .inl (x 0, 8, .inl qgcopyCount)), (qarecordCount, .inl (x 0, 8, .inl qgrecordCount)), (qakeptCount, .inl (x 0, 8, .inl qgkeptCount)), (qastream, .inl (x 2, 8, .inr (.inl qgstream))), (qalKind, .inl (x 0, 186, .inl qglKind)), (qalRoutine, .inl (x 0, 186, .inl qglRoutine)), (qalLine, .inl (x 0, 186, .inl qglLine)), (qalDots, .inl (x 0, 186, .inl qglDots)), (qalRet, .inl (x 0, 186, .inl qglRet)), (qalSeg, .inl (x 0, 186, .inl qglSeg)), (qalKeep, .inl (x 0, 186, .inl qglKeep)), (qalHand, .inl (x 0, 186, .inl qglHand)), (qalNode, .inl (x 0, 186, .inl qglNode)), (qalFor, .inl (x 0, 186, .inl qglFor)), (qalText, .inl (x 0, 186, .inl qglText)), (qalHidden, .inl (x 0, 186, .inl qglHidden)), (qalTest, .inl (x 0, 186, .inl qglTest)), (qalSerial, .inl (x 0, 186, .inl qglSerial)), (qalTrapped, .inl (x 3, 186, .inl qglTrapped)), (qalInTrap, .inl (x 3, 186, .inl qglInTrap)), (qalEtrapN, .inl (x 0, 186, .inl qglEtrapN)), (qatape, .inl (x 1, 4100, .inl qgtape)), (qalStop, .inl (x 0, 186, .inl qglStop)), (qalOwnN, .inl (x 0, 186, .inl qglOwnN)), (qacode, .inl (x 0, 840000, .inl qgcode))]) hD hS hA [0, 1, 2, 3, 4, 5, 6, 7, 8, 9, 10, 11, 12, 13, 14, 15, 16, 17, 18, 19, 20, 21, 22, 23, 24, 25, 26, 27, 28, 29, 30, 31, 32, 33, 34, 35, 36, 37, 38, 39, 40, 41, 42, 43, 44, 45, 46, 47, 48, 49] rfl
  refine va_calli (va_runV (As := []) (rest := [.int 0]) ⟨hx, hb, hml, hown, hts⟩ (r_process l D x qh0 qf0 qaslotOf qgslotOf qanumberAt qgnumberAt qabyError qgbyError qatest qgtest qaoutX qgoutX qaoutY qgoutY qabegun qgbegun qaoutCount qgoutCount qaecodeN qgecodeN qapc qgpc qaatRound qgatRound qawaits qgwaits qatoldCount qgtoldCount qasegTop qgsegTop qalevels qglevels qafors qgfors qatexts qgtexts qahandTop qghandTop qanodeTop qgnodeTop qaboundCount qgboundCount qahiddenCount qghiddenCount qanakedLength qgnakedLength qatLevel qgtLevel qatRestarts qgtRestarts qacopyCount qgcopyCount qarecordCount qgrecordCount qakeptCount qgkeptCount qastream qgstream qalKind qglKind qalRoutine qglRoutine qalLine qglLine qalDots qglDots qalRet qglRet qalSeg qglSeg qalKeep qglKeep qalHand qglHand qalNode qglNode qalFor qglFor qalText qglText qalHidden qglHidden qalTest qglTest qalSerial qglSerial qalTrapped qglTrapped qalInTrap qglInTrap qalEtrapN qglEtrapN qatape qgtape qalStop qglStop qalOwnN qglOwnN qacode qgcode H.size h35_196 h35_195 h35_104 h35_146 h35_105 h35_106 h35_107 h35_108 h35_109 h35_110 h35_111 h35_112 h35_114 h35_116 h35_117 h35_118 h35_122 h35_125 h35_126 h35_147 h35_158 h35_46 h35_49 h35_57 h35_60 h35_64 h35_66 h35_67 h35_75 h35_78 h35_80 h35_103 h35_127 h35_128 h35_129 h35_130 h35_132 h35_133 h35_134 h35_135 h35_136 h35_137 h35_138 h35_139 h35_140 h35_141 h35_142 h35_143 h35_144 h35_194 h35_131 h35_202 h35_21 h37_0) ⟨callB_of 0 hts (zgood (zm_651 _) rfl) rfl rfl rfl (hts _ (zm_459 _)) (hts _ (zm_854 _)) ⟨by decide, by decide, by decide +kernel⟩ ⟨Nat.le_of_ble_eq_true rfl, Nat.le_of_ble_eq_true rfl⟩, hts _ (zm_652 _), hts _ (zm_653 _)⟩ ⟨fun a U g mk q => by obtain ⟨q0, q1, qP, qK, qD⟩ := q; exact ⟨q0, q1, qP, ZK.calling (u := U) zN_ok rfl qK, qD⟩, va_recv hK hPc (ci := 12) (q0 := 0) rfl rfl, fun U hU hW => ⟨rfl, by rw [hU], by rw [hU]; exact hPc, ZK.warm zN_ok hW hZ, hDc.weaken (fun _ _ _ _ => trivial)⟩⟩ rfl rfl hl.1 rfl (lv_room (Nat.le_of_ble_eq_true rfl)) dL_law_262 ⟨Nat.le_of_ble_eq_true rfl, Nat.le_of_ble_eq_true rfl⟩) hS (fun q _ h => hFc q h) hFc (fun r_3 u t H1 locs ht hvm hw_3 hB hz1 hk1 hSn => ?_)
  have hP1 : va_P D vwCl [] H1 := z_P0
  have hD1 : va_D (va_A [(qh0, .inr (12, zf 212 qf0)), (qaslotOf, .inl (x 0, 25, .inl qgslotOf)), (qanumberAt, .inl (x 0, 8, .inl qgnumberAt)), (qabyError, .inl (x 3, 25, .inl qgbyError)), (qatest, .inl (x 0, 25, .inl qgtest)), (qaoutX, .inl (x 0, 25, .inl qgoutX)), (qaoutY, .inl (x 0, 25, .inl qgoutY)), (qabegun, .inl (x 0, 25, .inl qgbegun)), (qaoutCount, .inl (x 0, 25, .inl qgoutCount)), (qaecodeN, .inl (x 0, 25, .inl qgecodeN)), (qapc, .inl (x 0, 8, .inl qgpc)), (qaatRound, .inl (x 3, 8, .inl qgatRound)), (qawaits, .inl (x 0, 8, .inl qgwaits)), (qatoldCount, .inl (x 0, 8, .inl qgtoldCount)), (qasegTop, .inl (x 0, 8, .inl qgsegTop)), (qalevels, .inl (x 0, 8, .inl qglevels)), (qafors, .inl (x 0, 8, .inl qgfors)), (qatexts, .inl (x 0, 8, .inl qgtexts)), (qahandTop, .inl (x 0, 8, .inl qghandTop)), (qanodeTop, .inl (x 0, 8, .inl qgnodeTop)), (qaboundCount, .inl (x 0, 8, .inl qgboundCount)), (qahiddenCount, .inl (x 0, 8, .inl qghiddenCount)), (qanakedLength, .inl (x 0, 8, .inl qgnakedLength)), (qatLevel, .inl (x 0, 8, .inl qgtLevel)), (qatRestarts, .inl (x 0, 8, .inl qgtRestarts)), (qacopyCount, .inl (x 0, 8, .inl qgcopyCount)), (qarecordCount, .inl (x 0, 8, .inl qgrecordCount)), (qakeptCount, .inl (x 0, 8, .inl qgkeptCount)), (qastream, .inl (x 2, 8, .inr (.inl qgstream))), (qalKind, .inl (x 0, 186, .inl qglKind)), (qalRoutine, .inl (x 0, 186, .inl qglRoutine)), (qalLine, .inl (x 0, 186, .inl qglLine)), (qalDots, .inl (x 0, 186, .inl qglDots)), (qalRet, .inl (x 0, 186, .inl qglRet)), (qalSeg, .inl (x 0, 186, .inl qglSeg)), (qalKeep, .inl (x 0, 186, .inl qglKeep)), (qalHand, .inl (x 0, 186, .inl qglHand)), (qalNode, .inl (x 0, 186, .inl qglNode)), (qalFor, .inl (x 0, 186, .inl qglFor)), (qalText, .inl (x 0, 186, .inl qglText)), (qalHidden, .inl (x 0, 186, .inl qglHidden)), (qalTest, .inl (x 0, 186, .inl qglTest)), (qalSerial, .inl (x 0, 186, .inl qglSerial)), (qalTrapped, .inl (x 3, 186, .inl qglTrapped)), (qalInTrap, .inl (x 3, 186, .inl qglInTrap)), (qalEtrapN, .inl (x 0, 186, .inl qglEtrapN)), (qatape, .inl (x 1, 4100, .inl qgtape)), (qalStop, .inl (x 0, 186, .inl qglStop)), (qalOwnN, .inl (x 0, 186, .inl qglOwnN)), (qacode, .inl (x 0, 840000, .inl qgcode))] H.size) [] := z_D0
  try dsimp only at hw_3
  obtain ⟨hPn, hDn⟩ := va_join (wr := []) (w1 := []) hP hD [0, 1, 2, 3, 4, 5, 6, 7, 8, 9, 10, 11, 12, 13, 14, 15, 16, 17, 18, 19, 20, 21, 22, 23, 24, 25, 26, 27, 28, 29, 30, 31, 32, 33, 34, 35, 36, 37, 38, 39, 40, 41, 42, 43, 44, 45, 46, 47, 48, 49] [] rfl rfl (by decide) (by decide) hk1 hFc hP1 hD1
  clear hPc hDc hFc hP1 hD1 hk1 hz1
  generalize H1 = H at hPn hSn ⊢
  clear hP hD hS
  have hP : va_P D vwCl [] H := hPn
  have hD : va_D A [] := hDn
  have hS := hSn
  clear hPn hDn hSn
  refine W.widen (k := 13405) (n := 3699129) (Nat.le_of_ble_eq_true rfl) (Nat.le_of_ble_eq_true rfl) ?_
  obtain rfl : r_3 = 0 := hw_3
  refine lv_icmp_eq (tgt := 843) hx hb dL_law_265 (by decide) (fun _ => ?_) (fun c9 => absurd (by decide) c9)
  exact law_tail C0 hS hl

set_option maxHeartbeats 8000000 in
set_option maxRecDepth 100000 in
/-- the law at case 4: tell -/
theorem arm_4 {p : Program} {l : Launch} {e : Env} {s : State} {m : MethodId} {below : List Frame} {meth : Method} {c : Code} {b : Nat} {xs : Nat → Int32} {A : Nat → Prop} {D : va_G} {x : Nat → ClassId} (C0 : LawC p s m meth c b 6 xs A D x) {n1 n2 n3 n4 n5 : Int32} (hn1 : xs (1 : Int32).toNatClampNeg = n1) (hn2 : xs (2 : Int32).toNatClampNeg = n2) (hn3 : xs (3 : Int32).toNatClampNeg = n3) (hn4 : xs (4 : Int32).toNatClampNeg = n4) (hn5 : xs (5 : Int32).toNatClampNeg = n5) (ph0 : Nat) (pf0 : Nat → Value) (pho : Nat) (pfh : Nat → Value) (pma : Nat) (pfm : Nat → Value) (pta : Nat) (pft : Nat → Value) (qh0 : Nat) (qf0 : Nat → Value) (pb0 : Nat) (h0_2 : pf0 2 = .ref pho) (h0_3 : pf0 3 = .ref pma) (h0_0 : pf0 0 = .ref pta) (h1_12 : pfh 12 = .int 0) (h2_4 : pfm 4 = .int 0) (h3_0 : pft 0 = .ref pb0) (h3_1 : pft 1 = .int 0) (h4_104 : qf0 104 = .int 0) (h4_195 : qf0 195 = .int 0) (h4_196 : qf0 196 = .int 0) {H : Heap} {locs : List Loc} {ls : Array Slot} (hP : va_P D vwCl [(ph0, .inr (11, zf 6 pf0)), (pho, .inr (0, zf 18 pfh)), (pma, .inr (2, zf 19 pfm)), (pta, .inr (6, zf 3 pft)), (qh0, .inr (12, zf 212 qf0))] H) (hD : va_D A [(ph0, .inr (11, zf 6 pf0)), (pho, .inr (0, zf 18 pfh)), (pma, .inr (2, zf 19 pfm)), (pta, .inr (6, zf 3 pft)), (qh0, .inr (12, zf 212 qf0))]) (hS : va_S A s.heap H locs) (hl : lv_has ls 4 [(3, .int 0), (2, .ref qh0), (1, .ref ph0), (0, .ref b)]) : W p l e room_1 s m #[Value.ref b] below meth c H locs 13405 3699129 (lw_Z below #[Value.ref b] s) (F0 m 270 ls []) := by
  obtain ⟨hx, hb, hr, hml, hown, hts, hX, hbl, hlocks, hZ, hA, hA2, hbA⟩ := id C0
  have hK := hZ.1
  refine lv_aload_n hx hb dL_law_270 rfl (lv_at hl 2 rfl) ?_
  refine lv_aload_n hx hb dL_law_271 rfl (lv_at hl 3 rfl) ?_
  refine lv_iload_n hx hb dL_law_272 rfl (lv_at hl 0 rfl) ?_
  refine lv_iconst (v := 1) hx hb dL_law_273 (by decide) ?_
  refine lv_iadd hx hb dL_law_274 ?_
  refine lv_topi (fun y_2 ex_1 => ?_)
  obtain rfl : y_2 = 1 := ex_1.trans (by decide)
  refine z_sld hx hb hX hbl hbA hS (z_in (by decide)) hn1 dL_law_275 ?_
  have hPc := hP.sub (ws' := [(ph0, .inr (11, zf 6 pf0)), (pho, .inr (0, zf 18 pfh)), (pma, .inr (2, zf 19 pfm)), (pta, .inr (6, zf 3 pft))]) [0, 1, 2, 3] rfl
  have hDc := hD.sub (ws' := [(ph0, .inr (11, zf 6 pf0)), (pho, .inr (0, zf 18 pfh)), (pma, .inr (2, zf 19 pfm)), (pta, .inr (6, zf 3 pft))]) [0, 1, 2, 3] (by decide) rfl
  have hFc := va_free (wc := [(ph0, .inr (11, zf 6 pf0)), (pho, .inr (0, zf 18 pfh)), (pma, .inr (2, zf 19 pfm)), (pta, .inr (6, zf 3 pft))]) hD hS hA [0, 1, 2, 3] rfl
  refine va_calli (va_runV (As := [.int n1]) (rest := []) ⟨hx, hb, hml, hown, hts⟩ (c_tell l D x n1 ph0 pf0 pho pfh pma pfm pta pft pb0 H.size h0_2 h0_3 h0_0 h1_12 h2_4 h3_0 h3_1) ⟨callB_of 1 hts (zgood (zm_216 _) rfl) rfl rfl rfl (hts _ (zm_168 _)) (hts _ (zm_855 _)) ⟨by decide, by decide, by decide +kernel⟩ ⟨Nat.le_of_ble_eq_true rfl, Nat.le_of_ble_eq_true rfl⟩, hts _ (zm_217 _), hts _ (zm_218 _)⟩ ⟨fun a U g mk q => by obtain ⟨q0, q1, qP, qK, qD⟩ := q; exact ⟨q0, q1, qP, ZK.calling (u := U) zN_ok rfl qK, qD⟩, va_recv hK hPc (ci := 11) (q0 := 0) rfl rfl, fun U hU hW => ⟨rfl, by rw [hU], by rw [hU]; exact hPc, ZK.warm zN_ok hW hZ, hDc.weaken (fun _ _ _ _ => trivial)⟩⟩ rfl rfl hl.1 rfl (lv_room (Nat.le_of_ble_eq_true rfl)) dL_law_276 ⟨Nat.le_of_ble_eq_true rfl, Nat.le_of_ble_eq_true rfl⟩) hS (fun q _ h => hFc q h) hFc (fun r_3 u t H1 locs ht hvm hw_3 hB hz1 hk1 hSn => ?_)
  have hP1 : va_P D vwCl [] H1 := z_P0
  have hD1 : va_D (va_A [(ph0, .inr (11, zf 6 pf0)), (pho, .inr (0, zf 18 pfh)), (pma, .inr (2, zf 19 pfm)), (pta, .inr (6, zf 3 pft))] H.size) [] := z_D0
  try dsimp only at hw_3
  obtain ⟨hPn, hDn⟩ := va_join (wr := [(qh0, .inr (12, zf 212 qf0))]) (w1 := []) hP hD [0, 1, 2, 3] [4] rfl rfl (by decide) (by decide) hk1 hFc hP1 hD1
  clear hPc hDc hFc hP1 hD1 hk1 hz1
  generalize H1 = H at hPn hSn ⊢
  clear hP hD hS
  have hP : va_P D vwCl [(qh0, .inr (12, zf 212 qf0))] H := hPn
  have hD : va_D A [(qh0, .inr (12, zf 212 qf0))] := hDn
  have hS := hSn
  clear hPn hDn hSn
  refine W.widen (k := 13405) (n := 3699129) (Nat.le_of_ble_eq_true rfl) (Nat.le_of_ble_eq_true rfl) ?_
  obtain rfl : r_3 = (-1) := hw_3
  refine lv_aload_n hx hb dL_law_279 rfl (lv_at hl 1 rfl) ?_
  refine lv_aload_n hx hb dL_law_280 rfl (lv_at hl 3 rfl) ?_
  refine lv_iload_n hx hb dL_law_281 rfl (lv_at hl 0 rfl) ?_
  refine lv_iconst (v := 1) hx hb dL_law_282 (by decide) ?_
  refine lv_iadd hx hb dL_law_283 ?_
  refine lv_topi (fun y_6 ex_5 => ?_)
  obtain rfl : y_6 = 1 := ex_5.trans (by decide)
  refine z_sld hx hb hX hbl hbA hS (z_in (by decide)) hn1 dL_law_284 ?_
  have hPc := hP.sub (ws' := [(qh0, .inr (12, zf 212 qf0))]) [0] rfl
  have hDc := hD.sub (ws' := [(qh0, .inr (12, zf 212 qf0))]) [0] (by decide) rfl
  have hFc := va_free (wc := [(qh0, .inr (12, zf 212 qf0))]) hD hS hA [0] rfl
  refine va_calli (va_runV (As := [.int n1]) (rest := [.int (-1)]) ⟨hx, hb, hml, hown, hts⟩ (r_tell l D x n1 qh0 qf0 H.size h4_104 h4_195 h4_196) ⟨callB_of 1 hts (zgood (zm_668 _) rfl) rfl rfl rfl (hts _ (zm_459 _)) (hts _ (zm_856 _)) ⟨by decide, by decide, by decide +kernel⟩ ⟨Nat.le_of_ble_eq_true rfl, Nat.le_of_ble_eq_true rfl⟩, hts _ (zm_669 _), hts _ (zm_670 _)⟩ ⟨fun a U g mk q => by obtain ⟨q0, q1, qP, qK, qD⟩ := q; exact ⟨q0, q1, qP, ZK.calling (u := U) zN_ok rfl qK, qD⟩, va_recv hK hPc (ci := 12) (q0 := 0) rfl rfl, fun U hU hW => ⟨rfl, by rw [hU], by rw [hU]; exact hPc, ZK.warm zN_ok hW hZ, hDc.weaken (fun _ _ _ _ => trivial)⟩⟩ rfl rfl hl.1 rfl (lv_room (Nat.le_of_ble_eq_true rfl)) dL_law_285 ⟨Nat.le_of_ble_eq_true rfl, Nat.le_of_ble_eq_true rfl⟩) hS (fun q _ h => hFc q h) hFc (fun r_7 u t H1 locs ht hvm hw_7 hB hz1 hk1 hSn => ?_)
  have hP1 : va_P D vwCl [] H1 := z_P0
  have hD1 : va_D (va_A [(qh0, .inr (12, zf 212 qf0))] H.size) [] := z_D0
  try dsimp only at hw_7
  obtain ⟨hPn, hDn⟩ := va_join (wr := []) (w1 := []) hP hD [0] [] rfl rfl (by decide) (by decide) hk1 hFc hP1 hD1
  clear hPc hDc hFc hP1 hD1 hk1 hz1
  generalize H1 = H at hPn hSn ⊢
  clear hP hD hS
  have hP : va_P D vwCl [] H := hPn
  have hD : va_D A [] := hDn
  have hS := hSn
  clear hPn hDn hSn
  refine W.widen (k := 13405) (n := 3699129) (Nat.le_of_ble_eq_true rfl) (Nat.le_of_ble_eq_true rfl) ?_
  obtain rfl : r_7 = (-1) := hw_7
  refine lv_icmp_eq (tgt := 843) hx hb dL_law_288 (by decide) (fun _ => ?_) (fun c9 => absurd (by decide) c9)
  exact law_tail C0 hS hl

set_option maxHeartbeats 8000000 in
set_option maxRecDepth 100000 in
/-- the law at case 5: time -/
theorem arm_5 {p : Program} {l : Launch} {e : Env} {s : State} {m : MethodId} {below : List Frame} {meth : Method} {c : Code} {b : Nat} {xs : Nat → Int32} {A : Nat → Prop} {D : va_G} {x : Nat → ClassId} (C0 : LawC p s m meth c b 6 xs A D x) {n1 n2 n3 n4 n5 : Int32} (hn1 : xs (1 : Int32).toNatClampNeg = n1) (hn2 : xs (2 : Int32).toNatClampNeg = n2) (hn3 : xs (3 : Int32).toNatClampNeg = n3) (hn4 : xs (4 : Int32).toNatClampNeg = n4) (hn5 : xs (5 : Int32).toNatClampNeg = n5) (ph0 : Nat) (pf0 : Nat → Value) (pho : Nat) (pfh : Nat → Value) (qh0 : Nat) (qf0 : Nat → Value) (h0_2 : pf0 2 = .ref pho) (h1_12 : pfh 12 = .int 0) (h1_15 : pfh 15 = .int 0) (h2_169 : qf0 169 = .int 0) (h2_196 : qf0 196 = .int 0) {H : Heap} {locs : List Loc} {ls : Array Slot} (hP : va_P D vwCl [(ph0, .inr (11, zf 6 pf0)), (pho, .inr (0, zf 18 pfh)), (qh0, .inr (12, zf 212 qf0))] H) (hD : va_D A [(ph0, .inr (11, zf 6 pf0)), (pho, .inr (0, zf 18 pfh)), (qh0, .inr (12, zf 212 qf0))]) (hS : va_S A s.heap H locs) (hl : lv_has ls 4 [(3, .int 0), (2, .ref qh0), (1, .ref ph0), (0, .ref b)]) : W p l e room_1 s m #[Value.ref b] below meth c H locs 13405 3699129 (lw_Z below #[Value.ref b] s) (F0 m 293 ls []) := by
  obtain ⟨hx, hb, hr, hml, hown, hts, hX, hbl, hlocks, hZ, hA, hA2, hbA⟩ := id C0
  have hK := hZ.1
  refine lv_aload_n hx hb dL_law_293 rfl (lv_at hl 2 rfl) ?_
  refine lv_aload_n hx hb dL_law_294 rfl (lv_at hl 3 rfl) ?_
  refine lv_iload_n hx hb dL_law_295 rfl (lv_at hl 0 rfl) ?_
  refine lv_iconst (v := 1) hx hb dL_law_296 (by decide) ?_
  refine lv_iadd hx hb dL_law_297 ?_
  refine lv_topi (fun y_2 ex_1 => ?_)
  obtain rfl : y_2 = 1 := ex_1.trans (by decide)
  refine z_sld hx hb hX hbl hbA hS (z_in (by decide)) hn1 dL_law_298 ?_
  have hPc := hP.sub (ws' := [(ph0, .inr (11, zf 6 pf0)), (pho, .inr (0, zf 18 pfh))]) [0, 1] rfl
  have hDc := hD.sub (ws' := [(ph0, .inr (11, zf 6 pf0)), (pho, .inr (0, zf 18 pfh))]) [0, 1] (by decide) rfl
  have hFc := va_free (wc := [(ph0, .inr (11, zf 6 pf0)), (pho, .inr (0, zf 18 pfh))]) hD hS hA [0, 1] rfl
  refine va_calli (va_runV (As := [.int n1]) (rest := []) ⟨hx, hb, hml, hown, hts⟩ (c_time l D x n1 ph0 pf0 pho pfh H.size h0_2 h1_12 h1_15) ⟨callB_of 1 hts (zgood (zm_219 _) rfl) rfl rfl rfl (hts _ (zm_168 _)) (hts _ (zm_857 _)) ⟨by decide, by decide, by decide +kernel⟩ ⟨Nat.le_of_ble_eq_true rfl, Nat.le_of_ble_eq_true rfl⟩, hts _ (zm_220 _), hts _ (zm_221 _)⟩ ⟨fun a U g mk q => by obtain ⟨q0, q1, qP, qK, qD⟩ := q; exact ⟨q0, q1, qP, ZK.calling (u := U) zN_ok rfl qK, qD⟩, va_recv hK hPc (ci := 11) (q0 := 0) rfl rfl, fun U hU hW => ⟨rfl, by rw [hU], by rw [hU]; exact hPc, ZK.warm zN_ok hW hZ, hDc.weaken (fun _ _ _ _ => trivial)⟩⟩ rfl rfl hl.1 rfl (lv_room (Nat.le_of_ble_eq_true rfl)) dL_law_299 ⟨Nat.le_of_ble_eq_true rfl, Nat.le_of_ble_eq_true rfl⟩) hS (fun q _ h => hFc q h) hFc (fun r_3 u t H1 locs ht hvm hw_3 hB hz1 hk1 hSn => ?_)
  have hP1 : va_P D vwCl [] H1 := z_P0
  have hD1 : va_D (va_A [(ph0, .inr (11, zf 6 pf0)), (pho, .inr (0, zf 18 pfh))] H.size) [] := z_D0
  try dsimp only at hw_3
  obtain ⟨hPn, hDn⟩ := va_join (wr := [(qh0, .inr (12, zf 212 qf0))]) (w1 := []) hP hD [0, 1] [2] rfl rfl (by decide) (by decide) hk1 hFc hP1 hD1
  clear hPc hDc hFc hP1 hD1 hk1 hz1
  generalize H1 = H at hPn hSn ⊢
  clear hP hD hS
  have hP : va_P D vwCl [(qh0, .inr (12, zf 212 qf0))] H := hPn
  have hD : va_D A [(qh0, .inr (12, zf 212 qf0))] := hDn
  have hS := hSn
  clear hPn hDn hSn
  refine W.widen (k := 13405) (n := 3699129) (Nat.le_of_ble_eq_true rfl) (Nat.le_of_ble_eq_true rfl) ?_
  obtain rfl : r_3 = (zTime n1) := hw_3
  refine lv_aload_n hx hb dL_law_302 rfl (lv_at hl 1 rfl) ?_
  refine lv_aload_n hx hb dL_law_303 rfl (lv_at hl 3 rfl) ?_
  refine lv_iload_n hx hb dL_law_304 rfl (lv_at hl 0 rfl) ?_
  refine lv_iconst (v := 1) hx hb dL_law_305 (by decide) ?_
  refine lv_iadd hx hb dL_law_306 ?_
  refine lv_topi (fun y_6 ex_5 => ?_)
  obtain rfl : y_6 = 1 := ex_5.trans (by decide)
  refine z_sld hx hb hX hbl hbA hS (z_in (by decide)) hn1 dL_law_307 ?_
  have hPc := hP.sub (ws' := [(qh0, .inr (12, zf 212 qf0))]) [0] rfl
  have hDc := hD.sub (ws' := [(qh0, .inr (12, zf 212 qf0))]) [0] (by decide) rfl
  have hFc := va_free (wc := [(qh0, .inr (12, zf 212 qf0))]) hD hS hA [0] rfl
  refine va_calli (va_runV (As := [.int n1]) (rest := [.int (zTime n1)]) ⟨hx, hb, hml, hown, hts⟩ (r_time l D x n1 qh0 qf0 H.size h2_169 h2_196) ⟨callB_of 1 hts (zgood (zm_672 _) rfl) rfl rfl rfl (hts _ (zm_459 _)) (hts _ (zm_858 _)) ⟨by decide, by decide, by decide +kernel⟩ ⟨Nat.le_of_ble_eq_true rfl, Nat.le_of_ble_eq_true rfl⟩, hts _ (zm_673 _), hts _ (zm_674 _)⟩ ⟨fun a U g mk q => by obtain ⟨q0, q1, qP, qK, qD⟩ := q; exact ⟨q0, q1, qP, ZK.calling (u := U) zN_ok rfl qK, qD⟩, va_recv hK hPc (ci := 12) (q0 := 0) rfl rfl, fun U hU hW => ⟨rfl, by rw [hU], by rw [hU]; exact hPc, ZK.warm zN_ok hW hZ, hDc.weaken (fun _ _ _ _ => trivial)⟩⟩ rfl rfl hl.1 rfl (lv_room (Nat.le_of_ble_eq_true rfl)) dL_law_308 ⟨Nat.le_of_ble_eq_true rfl, Nat.le_of_ble_eq_true rfl⟩) hS (fun q _ h => hFc q h) hFc (fun r_7 u t H1 locs ht hvm hw_7 hB hz1 hk1 hSn => ?_)
  have hP1 : va_P D vwCl [] H1 := z_P0
  have hD1 : va_D (va_A [(qh0, .inr (12, zf 212 qf0))] H.size) [] := z_D0
  try dsimp only at hw_7
  obtain ⟨hPn, hDn⟩ := va_join (wr := []) (w1 := []) hP hD [0] [] rfl rfl (by decide) (by decide) hk1 hFc hP1 hD1
  clear hPc hDc hFc hP1 hD1 hk1 hz1
  generalize H1 = H at hPn hSn ⊢
  clear hP hD hS
  have hP : va_P D vwCl [] H := hPn
  have hD : va_D A [] := hDn
  have hS := hSn
  clear hPn hDn hSn
  refine W.widen (k := 13405) (n := 3699129) (Nat.le_of_ble_eq_true rfl) (Nat.le_of_ble_eq_true rfl) ?_
  obtain rfl : r_7 = (zTime n1) := hw_7
  refine lv_icmp_eq (tgt := 843) hx hb dL_law_311 (by decide) (fun _ => ?_) (fun c9 => absurd (rfl) c9)
  exact law_tail C0 hS hl

set_option maxHeartbeats 8000000 in
set_option maxRecDepth 100000 in
/-- the law at case 6: seed -/
theorem arm_6 {p : Program} {l : Launch} {e : Env} {s : State} {m : MethodId} {below : List Frame} {meth : Method} {c : Code} {b : Nat} {xs : Nat → Int32} {A : Nat → Prop} {D : va_G} {x : Nat → ClassId} (C0 : LawC p s m meth c b 6 xs A D x) {n1 n2 n3 n4 n5 : Int32} (hn1 : xs (1 : Int32).toNatClampNeg = n1) (hn2 : xs (2 : Int32).toNatClampNeg = n2) (hn3 : xs (3 : Int32).toNatClampNeg = n3) (hn4 : xs (4 : Int32).toNatClampNeg = n4) (hn5 : xs (5 : Int32).toNatClampNeg = n5) (ph0 : Nat) (pf0 : Nat → Value) (pho : Nat) (pfh : Nat → Value) (qh0 : Nat) (qf0 : Nat → Value) (h0_2 : pf0 2 = .ref pho) (h1_12 : pfh 12 = .int 0) (h2_196 : qf0 196 = .int 0) {H : Heap} {locs : List Loc} {ls : Array Slot} (hP : va_P D vwCl [(ph0, .inr (11, zf 6 pf0)), (pho, .inr (0, zf 18 pfh)), (qh0, .inr (12, zf 212 qf0))] H) (hD : va_D A [(ph0, .inr (11, zf 6 pf0)), (pho, .inr (0, zf 18 pfh)), (qh0, .inr (12, zf 212 qf0))]) (hS : va_S A s.heap H locs) (hl : lv_has ls 4 [(3, .int 0), (2, .ref qh0), (1, .ref ph0), (0, .ref b)]) : W p l e room_1 s m #[Value.ref b] below meth c H locs 13405 3699129 (lw_Z below #[Value.ref b] s) (F0 m 316 ls []) := by
  obtain ⟨hx, hb, hr, hml, hown, hts, hX, hbl, hlocks, hZ, hA, hA2, hbA⟩ := id C0
  have hK := hZ.1
  refine lv_aload_n hx hb dL_law_316 rfl (lv_at hl 2 rfl) ?_
  refine lv_aload_n hx hb dL_law_317 rfl (lv_at hl 3 rfl) ?_
  refine lv_iload_n hx hb dL_law_318 rfl (lv_at hl 0 rfl) ?_
  refine lv_iconst (v := 1) hx hb dL_law_319 (by decide) ?_
  refine lv_iadd hx hb dL_law_320 ?_
  refine lv_topi (fun y_2 ex_1 => ?_)
  obtain rfl : y_2 = 1 := ex_1.trans (by decide)
  refine z_sld hx hb hX hbl hbA hS (z_in (by decide)) hn1 dL_law_321 ?_
  refine lv_i2l hx hb dL_law_322 rfl ?_
  refine lv_topl (fun y_3 ex_4 => ?_)
  refine lv_bipush (v := 32) hx hb dL_law_323 (by decide) ?_
  refine lv_lshl hx hb dL_law_325 rfl ?_
  refine lv_topl (fun y_5 ex_6 => ?_)
  refine lv_aload_n hx hb dL_law_326 rfl (lv_at hl 3 rfl) ?_
  refine lv_iload_n hx hb dL_law_327 rfl (lv_at hl 0 rfl) ?_
  refine lv_iconst (v := 2) hx hb dL_law_328 (by decide) ?_
  refine lv_iadd hx hb dL_law_329 ?_
  refine lv_topi (fun y_8 ex_7 => ?_)
  obtain rfl : y_8 = 2 := ex_7.trans (by decide)
  refine z_sld hx hb hX hbl hbA hS (z_in (by decide)) hn2 dL_law_330 ?_
  refine lv_i2l hx hb dL_law_331 rfl ?_
  refine lv_topl (fun y_9 ex_10 => ?_)
  refine lv_ldc2 hx hb hown (hts _ (zm_859 _)) dL_law_332 ?_
  refine lv_land hx hb dL_law_335 ?_
  refine lv_topl (fun y_11 ex_12 => ?_)
  refine lv_lor hx hb dL_law_336 ?_
  refine lv_topl (fun y_13 ex_14 => ?_)
  have hPc := hP.sub (ws' := [(ph0, .inr (11, zf 6 pf0)), (pho, .inr (0, zf 18 pfh))]) [0, 1] rfl
  have hDc := hD.sub (ws' := [(ph0, .inr (11, zf 6 pf0)), (pho, .inr (0, zf 18 pfh))]) [0, 1] (by decide) rfl
  have hFc := va_free (wc := [(ph0, .inr (11, zf 6 pf0)), (pho, .inr (0, zf 18 pfh))]) hD hS hA [0, 1] rfl
  refine va_calli (va_runV (As := [.long y_13]) (rest := []) ⟨hx, hb, hml, hown, hts⟩ (c_seed l D x y_13 ph0 pf0 pho pfh H.size h0_2 h1_12) ⟨callB_of 1 hts (zgood (zm_223 _) rfl) rfl rfl rfl (hts _ (zm_168 _)) (hts _ (zm_860 _)) ⟨by decide, by decide, by decide +kernel⟩ ⟨Nat.le_of_ble_eq_true rfl, Nat.le_of_ble_eq_true rfl⟩, hts _ (zm_224 _), hts _ (zm_225 _)⟩ ⟨fun a U g mk q => by obtain ⟨q0, q1, qP, qK, qD⟩ := q; exact ⟨q0, q1, qP, ZK.calling (u := U) zN_ok rfl qK, qD⟩, va_recv hK hPc (ci := 11) (q0 := 0) rfl rfl, fun U hU hW => ⟨rfl, by rw [hU], by rw [hU]; exact hPc, ZK.warm zN_ok hW hZ, hDc.weaken (fun _ _ _ _ => trivial)⟩⟩ rfl rfl hl.1 rfl (lv_room (Nat.le_of_ble_eq_true rfl)) dL_law_337 ⟨Nat.le_of_ble_eq_true rfl, Nat.le_of_ble_eq_true rfl⟩) hS (fun q _ h => hFc q h) hFc (fun r_15 u t H1 locs ht hvm hw_15 hB hz1 hk1 hSn => ?_)
  have hP1 : va_P D vwCl [] H1 := z_P0
  have hD1 : va_D (va_A [(ph0, .inr (11, zf 6 pf0)), (pho, .inr (0, zf 18 pfh))] H.size) [] := z_D0
  try dsimp only at hw_15
  obtain ⟨hPn, hDn⟩ := va_join (wr := [(qh0, .inr (12, zf 212 qf0))]) (w1 := []) hP hD [0, 1] [2] rfl rfl (by decide) (by decide) hk1 hFc hP1 hD1
  clear hPc hDc hFc hP1 hD1 hk1 hz1
  generalize H1 = H at hPn hSn ⊢
  clear hP hD hS
  have hP : va_P D vwCl [(qh0, .inr (12, zf 212 qf0))] H := hPn
  have hD : va_D A [(qh0, .inr (12, zf 212 qf0))] := hDn
  have hS := hSn
  clear hPn hDn hSn
  refine W.widen (k := 13405) (n := 3699129) (Nat.le_of_ble_eq_true rfl) (Nat.le_of_ble_eq_true rfl) ?_
  obtain rfl : r_15 = 1 := hw_15
  refine lv_aload_n hx hb dL_law_340 rfl (lv_at hl 1 rfl) ?_
  refine lv_aload_n hx hb dL_law_341 rfl (lv_at hl 3 rfl) ?_
  refine lv_iload_n hx hb dL_law_342 rfl (lv_at hl 0 rfl) ?_
  refine lv_iconst (v := 1) hx hb dL_law_343 (by decide) ?_
  refine lv_iadd hx hb dL_law_344 ?_
  refine lv_topi (fun y_18 ex_17 => ?_)
  obtain rfl : y_18 = 1 := ex_17.trans (by decide)
  refine z_sld hx hb hX hbl hbA hS (z_in (by decide)) hn1 dL_law_345 ?_
  refine lv_i2l hx hb dL_law_346 rfl ?_
  refine lv_topl (fun y_19 ex_20 => ?_)
  refine lv_bipush (v := 32) hx hb dL_law_347 (by decide) ?_
  refine lv_lshl hx hb dL_law_349 rfl ?_
  refine lv_topl (fun y_21 ex_22 => ?_)
  refine lv_aload_n hx hb dL_law_350 rfl (lv_at hl 3 rfl) ?_
  refine lv_iload_n hx hb dL_law_351 rfl (lv_at hl 0 rfl) ?_
  refine lv_iconst (v := 2) hx hb dL_law_352 (by decide) ?_
  refine lv_iadd hx hb dL_law_353 ?_
  refine lv_topi (fun y_24 ex_23 => ?_)
  obtain rfl : y_24 = 2 := ex_23.trans (by decide)
  refine z_sld hx hb hX hbl hbA hS (z_in (by decide)) hn2 dL_law_354 ?_
  refine lv_i2l hx hb dL_law_355 rfl ?_
  refine lv_topl (fun y_25 ex_26 => ?_)
  refine lv_ldc2 hx hb hown (hts _ (zm_859 _)) dL_law_356 ?_
  refine lv_land hx hb dL_law_359 ?_
  refine lv_topl (fun y_27 ex_28 => ?_)
  refine lv_lor hx hb dL_law_360 ?_
  refine lv_topl (fun y_29 ex_30 => ?_)
  have hPc := hP.sub (ws' := [(qh0, .inr (12, zf 212 qf0))]) [0] rfl
  have hDc := hD.sub (ws' := [(qh0, .inr (12, zf 212 qf0))]) [0] (by decide) rfl
  have hFc := va_free (wc := [(qh0, .inr (12, zf 212 qf0))]) hD hS hA [0] rfl
  refine va_calli (va_runV (As := [.long y_29]) (rest := [.int 1]) ⟨hx, hb, hml, hown, hts⟩ (r_seed l D x y_29 qh0 qf0 H.size h2_196) ⟨callB_of 1 hts (zgood (zm_677 _) rfl) rfl rfl rfl (hts _ (zm_459 _)) (hts _ (zm_861 _)) ⟨by decide, by decide, by decide +kernel⟩ ⟨Nat.le_of_ble_eq_true rfl, Nat.le_of_ble_eq_true rfl⟩, hts _ (zm_678 _), hts _ (zm_679 _)⟩ ⟨fun a U g mk q => by obtain ⟨q0, q1, qP, qK, qD⟩ := q; exact ⟨q0, q1, qP, ZK.calling (u := U) zN_ok rfl qK, qD⟩, va_recv hK hPc (ci := 12) (q0 := 0) rfl rfl, fun U hU hW => ⟨rfl, by rw [hU], by rw [hU]; exact hPc, ZK.warm zN_ok hW hZ, hDc.weaken (fun _ _ _ _ => trivial)⟩⟩ rfl rfl hl.1 rfl (lv_room (Nat.le_of_ble_eq_true rfl)) dL_law_361 ⟨Nat.le_of_ble_eq_true rfl, Nat.le_of_ble_eq_true rfl⟩) hS (fun q _ h => hFc q h) hFc (fun r_31 u t H1 locs ht hvm hw_31 hB hz1 hk1 hSn => ?_)
  have hP1 : va_P D vwCl [] H1 := z_P0
  have hD1 : va_D (va_A [(qh0, .inr (12, zf 212 qf0))] H.size) [] := z_D0
  try dsimp only at hw_31
  obtain ⟨hPn, hDn⟩ := va_join (wr := []) (w1 := []) hP hD [0] [] rfl rfl (by decide) (by decide) hk1 hFc hP1 hD1
  clear hPc hDc hFc hP1 hD1 hk1 hz1
  generalize H1 = H at hPn hSn ⊢
  clear hP hD hS
  have hP : va_P D vwCl [] H := hPn
  have hD : va_D A [] := hDn
  have hS := hSn
  clear hPn hDn hSn
  refine W.widen (k := 13405) (n := 3699129) (Nat.le_of_ble_eq_true rfl) (Nat.le_of_ble_eq_true rfl) ?_
  obtain rfl : r_31 = 1 := hw_31
  refine lv_icmp_eq (tgt := 843) hx hb dL_law_364 (by decide) (fun _ => ?_) (fun c9 => absurd (by decide) c9)
  exact law_tail C0 hS hl

set_option maxHeartbeats 8000000 in
set_option maxRecDepth 100000 in
/-- the law at case 7: turns -/
theorem arm_7 {p : Program} {l : Launch} {e : Env} {s : State} {m : MethodId} {below : List Frame} {meth : Method} {c : Code} {b : Nat} {xs : Nat → Int32} {A : Nat → Prop} {D : va_G} {x : Nat → ClassId} (C0 : LawC p s m meth c b 6 xs A D x) {n1 n2 n3 n4 n5 : Int32} (hn1 : xs (1 : Int32).toNatClampNeg = n1) (hn2 : xs (2 : Int32).toNatClampNeg = n2) (hn3 : xs (3 : Int32).toNatClampNeg = n3) (hn4 : xs (4 : Int32).toNatClampNeg = n4) (hn5 : xs (5 : Int32).toNatClampNeg = n5) (ph0 : Nat) (pf0 : Nat → Value) (pho : Nat) (pfh : Nat → Value) (pma : Nat) (pfm : Nat → Value) (qh0 : Nat) (qf0 : Nat → Value) (qna : Nat) (qgn : Nat → Int32) (h0_2 : pf0 2 = .ref pho) (h0_3 : pf0 3 = .ref pma) (h1_12 : pfh 12 = .int 0) (h2_4 : pfm 4 = .int 0) (h3_196 : qf0 196 = .int 0) (h3_106 : qf0 106 = .ref qna) (h4_0 : qgn 0 = -1) (h4_1 : qgn 1 = -1) (h4_2 : qgn 2 = -1) (h4_3 : qgn 3 = -1) (h4_4 : qgn 4 = -1) (h4_5 : qgn 5 = -1) {H : Heap} {locs : List Loc} {ls : Array Slot} (hP : va_P D vwCl [(ph0, .inr (11, zf 6 pf0)), (pho, .inr (0, zf 18 pfh)), (pma, .inr (2, zf 19 pfm)), (qh0, .inr (12, zf 212 qf0)), (qna, .inl (x 0, 8, .inl qgn))] H) (hD : va_D A [(ph0, .inr (11, zf 6 pf0)), (pho, .inr (0, zf 18 pfh)), (pma, .inr (2, zf 19 pfm)), (qh0, .inr (12, zf 212 qf0)), (qna, .inl (x 0, 8, .inl qgn))]) (hS : va_S A s.heap H locs) (hl : lv_has ls 4 [(3, .int 0), (2, .ref qh0), (1, .ref ph0), (0, .ref b)]) : W p l e room_1 s m #[Value.ref b] below meth c H locs 13405 3699129 (lw_Z below #[Value.ref b] s) (F0 m 369 ls []) := by
  obtain ⟨hx, hb, hr, hml, hown, hts, hX, hbl, hlocks, hZ, hA, hA2, hbA⟩ := id C0
  have hK := hZ.1
  refine lv_aload_n hx hb dL_law_369 rfl (lv_at hl 2 rfl) ?_
  refine lv_aload_n hx hb dL_law_370 rfl (lv_at hl 3 rfl) ?_
  refine lv_iload_n hx hb dL_law_371 rfl (lv_at hl 0 rfl) ?_
  refine lv_iconst (v := 1) hx hb dL_law_372 (by decide) ?_
  refine lv_iadd hx hb dL_law_373 ?_
  refine lv_topi (fun y_2 ex_1 => ?_)
  obtain rfl : y_2 = 1 := ex_1.trans (by decide)
  refine z_sld hx hb hX hbl hbA hS (z_in (by decide)) hn1 dL_law_374 ?_
  have hPc := hP.sub (ws' := [(ph0, .inr (11, zf 6 pf0)), (pho, .inr (0, zf 18 pfh)), (pma, .inr (2, zf 19 pfm))]) [0, 1, 2] rfl
  have hDc := hD.sub (ws' := [(ph0, .inr (11, zf 6 pf0)), (pho, .inr (0, zf 18 pfh)), (pma, .inr (2, zf 19 pfm))]) [0, 1, 2] (by decide) rfl
  have hFc := va_free (wc := [(ph0, .inr (11, zf 6 pf0)), (pho, .inr (0, zf 18 pfh)), (pma, .inr (2, zf 19 pfm))]) hD hS hA [0, 1, 2] rfl
  refine va_calli (va_runV (As := [.int n1]) (rest := []) ⟨hx, hb, hml, hown, hts⟩ (c_turns l D x n1 ph0 pf0 pho pfh pma pfm H.size h0_2 h0_3 h1_12 h2_4) ⟨callB_of 1 hts (zgood (zm_226 _) rfl) rfl rfl rfl (hts _ (zm_168 _)) (hts _ (zm_862 _)) ⟨by decide, by decide, by decide +kernel⟩ ⟨Nat.le_of_ble_eq_true rfl, Nat.le_of_ble_eq_true rfl⟩, hts _ (zm_227 _), hts _ (zm_228 _)⟩ ⟨fun a U g mk q => by obtain ⟨q0, q1, qP, qK, qD⟩ := q; exact ⟨q0, q1, qP, ZK.calling (u := U) zN_ok rfl qK, qD⟩, va_recv hK hPc (ci := 11) (q0 := 0) rfl rfl, fun U hU hW => ⟨rfl, by rw [hU], by rw [hU]; exact hPc, ZK.warm zN_ok hW hZ, hDc.weaken (fun _ _ _ _ => trivial)⟩⟩ rfl rfl hl.1 rfl (lv_room (Nat.le_of_ble_eq_true rfl)) dL_law_375 ⟨Nat.le_of_ble_eq_true rfl, Nat.le_of_ble_eq_true rfl⟩) hS (fun q _ h => hFc q h) hFc (fun r_3 u t H1 locs ht hvm hw_3 hB hz1 hk1 hSn => ?_)
  have hP1 : va_P D vwCl [] H1 := z_P0
  have hD1 : va_D (va_A [(ph0, .inr (11, zf 6 pf0)), (pho, .inr (0, zf 18 pfh)), (pma, .inr (2, zf 19 pfm))] H.size) [] := z_D0
  try dsimp only at hw_3
  obtain ⟨hPn, hDn⟩ := va_join (wr := [(qh0, .inr (12, zf 212 qf0)), (qna, .inl (x 0, 8, .inl qgn))]) (w1 := []) hP hD [0, 1, 2] [3, 4] rfl rfl (by decide) (by decide) hk1 hFc hP1 hD1
  clear hPc hDc hFc hP1 hD1 hk1 hz1
  generalize H1 = H at hPn hSn ⊢
  clear hP hD hS
  have hP : va_P D vwCl [(qh0, .inr (12, zf 212 qf0)), (qna, .inl (x 0, 8, .inl qgn))] H := hPn
  have hD : va_D A [(qh0, .inr (12, zf 212 qf0)), (qna, .inl (x 0, 8, .inl qgn))] := hDn
  have hS := hSn
  clear hPn hDn hSn
  refine W.widen (k := 13405) (n := 3699129) (Nat.le_of_ble_eq_true rfl) (Nat.le_of_ble_eq_true rfl) ?_
  obtain rfl : r_3 = (zTurns n1) := hw_3
  refine lv_aload_n hx hb dL_law_378 rfl (lv_at hl 1 rfl) ?_
  refine lv_aload_n hx hb dL_law_379 rfl (lv_at hl 3 rfl) ?_
  refine lv_iload_n hx hb dL_law_380 rfl (lv_at hl 0 rfl) ?_
  refine lv_iconst (v := 1) hx hb dL_law_381 (by decide) ?_
  refine lv_iadd hx hb dL_law_382 ?_
  refine lv_topi (fun y_6 ex_5 => ?_)
  obtain rfl : y_6 = 1 := ex_5.trans (by decide)
  refine z_sld hx hb hX hbl hbA hS (z_in (by decide)) hn1 dL_law_383 ?_
  have hPc := hP.sub (ws' := [(qh0, .inr (12, zf 212 qf0)), (qna, .inl (x 0, 8, .inl qgn))]) [0, 1] rfl
  have hDc := hD.sub (ws' := [(qh0, .inr (12, zf 212 qf0)), (qna, .inl (x 0, 8, .inl qgn))]) [0, 1] (by decide) rfl
  have hFc := va_free (wc := [(qh0, .inr (12, zf 212 qf0)), (qna, .inl (x 0, 8, .inl qgn))]) hD hS hA [0, 1] rfl
  refine va_calli (va_runV (As := [.int n1]) (rest := [.int (zTurns n1)]) ⟨hx, hb, hml, hown, hts⟩ (r_turns l D x n1 qh0 qf0 qna qgn H.size h3_196 h3_106 h4_0 h4_1 h4_2 h4_3 h4_4 h4_5) ⟨callB_of 1 hts (zgood (zm_681 _) rfl) rfl rfl rfl (hts _ (zm_459 _)) (hts _ (zm_863 _)) ⟨by decide, by decide, by decide +kernel⟩ ⟨Nat.le_of_ble_eq_true rfl, Nat.le_of_ble_eq_true rfl⟩, hts _ (zm_682 _), hts _ (zm_683 _)⟩ ⟨fun a U g mk q => by obtain ⟨q0, q1, qP, qK, qD⟩ := q; exact ⟨q0, q1, qP, ZK.calling (u := U) zN_ok rfl qK, qD⟩, va_recv hK hPc (ci := 12) (q0 := 0) rfl rfl, fun U hU hW => ⟨rfl, by rw [hU], by rw [hU]; exact hPc, ZK.warm zN_ok hW hZ, hDc.weaken (fun _ _ _ _ => trivial)⟩⟩ rfl rfl hl.1 rfl (lv_room (Nat.le_of_ble_eq_true rfl)) dL_law_384 ⟨Nat.le_of_ble_eq_true rfl, Nat.le_of_ble_eq_true rfl⟩) hS (fun q _ h => hFc q h) hFc (fun r_7 u t H1 locs ht hvm hw_7 hB hz1 hk1 hSn => ?_)
  have hP1 : va_P D vwCl [] H1 := z_P0
  have hD1 : va_D (va_A [(qh0, .inr (12, zf 212 qf0)), (qna, .inl (x 0, 8, .inl qgn))] H.size) [] := z_D0
  try dsimp only at hw_7
  obtain ⟨hPn, hDn⟩ := va_join (wr := []) (w1 := []) hP hD [0, 1] [] rfl rfl (by decide) (by decide) hk1 hFc hP1 hD1
  clear hPc hDc hFc hP1 hD1 hk1 hz1
  generalize H1 = H at hPn hSn ⊢
  clear hP hD hS
  have hP : va_P D vwCl [] H := hPn
  have hD : va_D A [] := hDn
  have hS := hSn
  clear hPn hDn hSn
  refine W.widen (k := 13405) (n := 3699129) (Nat.le_of_ble_eq_true rfl) (Nat.le_of_ble_eq_true rfl) ?_
  obtain rfl : r_7 = (zTurns n1) := hw_7
  refine lv_icmp_eq (tgt := 843) hx hb dL_law_387 (by decide) (fun _ => ?_) (fun c9 => absurd (rfl) c9)
  exact law_tail C0 hS hl

set_option maxHeartbeats 8000000 in
set_option maxRecDepth 100000 in
/-- the law at case 8: halt -/
theorem arm_8 {p : Program} {l : Launch} {e : Env} {s : State} {m : MethodId} {below : List Frame} {meth : Method} {c : Code} {b : Nat} {xs : Nat → Int32} {A : Nat → Prop} {D : va_G} {x : Nat → ClassId} (C0 : LawC p s m meth c b 6 xs A D x) {n1 n2 n3 n4 n5 : Int32} (hn1 : xs (1 : Int32).toNatClampNeg = n1) (hn2 : xs (2 : Int32).toNatClampNeg = n2) (hn3 : xs (3 : Int32).toNatClampNeg = n3) (hn4 : xs (4 : Int32).toNatClampNeg = n4) (hn5 : xs (5 : Int32).toNatClampNeg = n5) (ph0 : Nat) (pf0 : Nat → Value) (pho : Nat) (pfh : Nat → Value) (pma : Nat) (pfm : Nat → Value) (qh0 : Nat) (qf0 : Nat → Value) (h0_2 : pf0 2 = .ref pho) (h0_3 : pf0 3 = .ref pma) (h1_12 : pfh 12 = .int 0) (h2_4 : pfm 4 = .int 0) (h3_104 : qf0 104 = .int 0) (h3_196 : qf0 196 = .int 0) {H : Heap} {locs : List Loc} {ls : Array Slot} (hP : va_P D vwCl [(ph0, .inr (11, zf 6 pf0)), (pho, .inr (0, zf 18 pfh)), (pma, .inr (2, zf 19 pfm)), (qh0, .inr (12, zf 212 qf0))] H) (hD : va_D A [(ph0, .inr (11, zf 6 pf0)), (pho, .inr (0, zf 18 pfh)), (pma, .inr (2, zf 19 pfm)), (qh0, .inr (12, zf 212 qf0))]) (hS : va_S A s.heap H locs) (hl : lv_has ls 4 [(3, .int 0), (2, .ref qh0), (1, .ref ph0), (0, .ref b)]) : W p l e room_1 s m #[Value.ref b] below meth c H locs 13405 3699129 (lw_Z below #[Value.ref b] s) (F0 m 392 ls []) := by
  obtain ⟨hx, hb, hr, hml, hown, hts, hX, hbl, hlocks, hZ, hA, hA2, hbA⟩ := id C0
  have hK := hZ.1
  refine lv_aload_n hx hb dL_law_392 rfl (lv_at hl 2 rfl) ?_
  refine lv_aload_n hx hb dL_law_393 rfl (lv_at hl 3 rfl) ?_
  refine lv_iload_n hx hb dL_law_394 rfl (lv_at hl 0 rfl) ?_
  refine lv_iconst (v := 1) hx hb dL_law_395 (by decide) ?_
  refine lv_iadd hx hb dL_law_396 ?_
  refine lv_topi (fun y_2 ex_1 => ?_)
  obtain rfl : y_2 = 1 := ex_1.trans (by decide)
  refine z_sld hx hb hX hbl hbA hS (z_in (by decide)) hn1 dL_law_397 ?_
  have hPc := hP.sub (ws' := [(ph0, .inr (11, zf 6 pf0)), (pho, .inr (0, zf 18 pfh)), (pma, .inr (2, zf 19 pfm))]) [0, 1, 2] rfl
  have hDc := hD.sub (ws' := [(ph0, .inr (11, zf 6 pf0)), (pho, .inr (0, zf 18 pfh)), (pma, .inr (2, zf 19 pfm))]) [0, 1, 2] (by decide) rfl
  have hFc := va_free (wc := [(ph0, .inr (11, zf 6 pf0)), (pho, .inr (0, zf 18 pfh)), (pma, .inr (2, zf 19 pfm))]) hD hS hA [0, 1, 2] rfl
  refine va_calli (va_runV (As := [.int n1]) (rest := []) ⟨hx, hb, hml, hown, hts⟩ (c_halt l D x n1 ph0 pf0 pho pfh pma pfm H.size h0_2 h0_3 h1_12 h2_4) ⟨callB_of 1 hts (zgood (zm_230 _) rfl) rfl rfl rfl (hts _ (zm_168 _)) (hts _ (zm_864 _)) ⟨by decide, by decide, by decide +kernel⟩ ⟨Nat.le_of_ble_eq_true rfl, Nat.le_of_ble_eq_true rfl⟩, hts _ (zm_231 _), hts _ (zm_232 _)⟩ ⟨fun a U g mk q => by obtain ⟨q0, q1, qP, qK, qD⟩ := q; exact ⟨q0, q1, qP, ZK.calling (u := U) zN_ok rfl qK, qD⟩, va_recv hK hPc (ci := 11) (q0 := 0) rfl rfl, fun U hU hW => ⟨rfl, by rw [hU], by rw [hU]; exact hPc, ZK.warm zN_ok hW hZ, hDc.weaken (fun _ _ _ _ => trivial)⟩⟩ rfl rfl hl.1 rfl (lv_room (Nat.le_of_ble_eq_true rfl)) dL_law_398 ⟨Nat.le_of_ble_eq_true rfl, Nat.le_of_ble_eq_true rfl⟩) hS (fun q _ h => hFc q h) hFc (fun r_3 u t H1 locs ht hvm hw_3 hB hz1 hk1 hSn => ?_)
  have hP1 : va_P D vwCl [] H1 := z_P0
  have hD1 : va_D (va_A [(ph0, .inr (11, zf 6 pf0)), (pho, .inr (0, zf 18 pfh)), (pma, .inr (2, zf 19 pfm))] H.size) [] := z_D0
  try dsimp only at hw_3
  obtain ⟨hPn, hDn⟩ := va_join (wr := [(qh0, .inr (12, zf 212 qf0))]) (w1 := []) hP hD [0, 1, 2] [3] rfl rfl (by decide) (by decide) hk1 hFc hP1 hD1
  clear hPc hDc hFc hP1 hD1 hk1 hz1
  generalize H1 = H at hPn hSn ⊢
  clear hP hD hS
  have hP : va_P D vwCl [(qh0, .inr (12, zf 212 qf0))] H := hPn
  have hD : va_D A [(qh0, .inr (12, zf 212 qf0))] := hDn
  have hS := hSn
  clear hPn hDn hSn
  refine W.widen (k := 13405) (n := 3699129) (Nat.le_of_ble_eq_true rfl) (Nat.le_of_ble_eq_true rfl) ?_
  obtain rfl : r_3 = (-1) := hw_3
  refine lv_aload_n hx hb dL_law_401 rfl (lv_at hl 1 rfl) ?_
  refine lv_aload_n hx hb dL_law_402 rfl (lv_at hl 3 rfl) ?_
  refine lv_iload_n hx hb dL_law_403 rfl (lv_at hl 0 rfl) ?_
  refine lv_iconst (v := 1) hx hb dL_law_404 (by decide) ?_
  refine lv_iadd hx hb dL_law_405 ?_
  refine lv_topi (fun y_6 ex_5 => ?_)
  obtain rfl : y_6 = 1 := ex_5.trans (by decide)
  refine z_sld hx hb hX hbl hbA hS (z_in (by decide)) hn1 dL_law_406 ?_
  have hPc := hP.sub (ws' := [(qh0, .inr (12, zf 212 qf0))]) [0] rfl
  have hDc := hD.sub (ws' := [(qh0, .inr (12, zf 212 qf0))]) [0] (by decide) rfl
  have hFc := va_free (wc := [(qh0, .inr (12, zf 212 qf0))]) hD hS hA [0] rfl
  refine va_calli (va_runV (As := [.int n1]) (rest := [.int (-1)]) ⟨hx, hb, hml, hown, hts⟩ (r_halt l D x n1 qh0 qf0 H.size h3_104 h3_196) ⟨callB_of 1 hts (zgood (zm_690 _) rfl) rfl rfl rfl (hts _ (zm_459 _)) (hts _ (zm_865 _)) ⟨by decide, by decide, by decide +kernel⟩ ⟨Nat.le_of_ble_eq_true rfl, Nat.le_of_ble_eq_true rfl⟩, hts _ (zm_691 _), hts _ (zm_692 _)⟩ ⟨fun a U g mk q => by obtain ⟨q0, q1, qP, qK, qD⟩ := q; exact ⟨q0, q1, qP, ZK.calling (u := U) zN_ok rfl qK, qD⟩, va_recv hK hPc (ci := 12) (q0 := 0) rfl rfl, fun U hU hW => ⟨rfl, by rw [hU], by rw [hU]; exact hPc, ZK.warm zN_ok hW hZ, hDc.weaken (fun _ _ _ _ => trivial)⟩⟩ rfl rfl hl.1 rfl (lv_room (Nat.le_of_ble_eq_true rfl)) dL_law_407 ⟨Nat.le_of_ble_eq_true rfl, Nat.le_of_ble_eq_true rfl⟩) hS (fun q _ h => hFc q h) hFc (fun r_7 u t H1 locs ht hvm hw_7 hB hz1 hk1 hSn => ?_)
  have hP1 : va_P D vwCl [] H1 := z_P0
  have hD1 : va_D (va_A [(qh0, .inr (12, zf 212 qf0))] H.size) [] := z_D0
  try dsimp only at hw_7
  obtain ⟨hPn, hDn⟩ := va_join (wr := []) (w1 := []) hP hD [0] [] rfl rfl (by decide) (by decide) hk1 hFc hP1 hD1
  clear hPc hDc hFc hP1 hD1 hk1 hz1
  generalize H1 = H at hPn hSn ⊢
  clear hP hD hS
  have hP : va_P D vwCl [] H := hPn
  have hD : va_D A [] := hDn
  have hS := hSn
  clear hPn hDn hSn
  refine W.widen (k := 13405) (n := 3699129) (Nat.le_of_ble_eq_true rfl) (Nat.le_of_ble_eq_true rfl) ?_
  obtain rfl : r_7 = (-1) := hw_7
  refine lv_icmp_eq (tgt := 843) hx hb dL_law_410 (by decide) (fun _ => ?_) (fun c9 => absurd (by decide) c9)
  exact law_tail C0 hS hl
