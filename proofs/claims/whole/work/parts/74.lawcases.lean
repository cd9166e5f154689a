/-! the law, call by call -/
section ZLW
variable {p : Program} {l : Launch} {e : Env} {s : State} {m : MethodId} {b : Nat} {below : List Frame} {meth : Method} {c : Code} {N : Nat} {xs : Nat → Int32} {D : va_G} {cy : Nat → ClassId} {ad1 ad2 : Nat → Nat} {i : Nat} {t u : zM}
set_option maxHeartbeats 1000000 in
set_option maxRecDepth 20000 in
theorem law_0 (C : zLC p s m b meth c N xs D cy ad1 ad2) (hi : i + 2 < N) (hR : zRl t u) (kk : ∀ t1 u1, zRl t1 u1 → Zl p l e s m b below meth c D cy ad1 ad2 745 i [] t1 u1) : Zl p l e s m b below meth c D cy ad1 ad2 140 i [] t u := by
  have hG := hR.gd
  obtain ⟨H, N0, hN0, hm, h400⟩ := hR.now
  have hp := hR.2.1.mp
  have hT := hR.mt
  have hok := hR.ok
  have hc := c_house hR (xs (i + 1)) (xs (i + 2))
  refine l_a1 C 140 dL_law_140 ?_
  refine l_arg C 141 1 dL_law_141 dL_law_142 dL_law_143 dL_law_144 dL_law_145 (by decide +kernel) (by omega) ?_
  refine l_arg C 146 2 dL_law_146 dL_law_147 dL_law_148 dL_law_149 dL_law_150 (by decide +kernel) (by omega) ?_
  refine l_c1 C 151 (As := [.int (xs (i + 1)), .int (xs (i + 2))]) (st := []) (kX6_house l D cy (zK6 cy) 271 ad1 C.2.2.2.2.2.2.1.1 (k6_ok cy ad1) t (xs (i + 1)) (xs (i + 2)) hG) dL_law_151 rfl gL_law_X6_house hyX6_house (by decide) (by decide) rfl rfl (Nat.le_of_ble_eq_true rfl) ?_
  refine l_a2 C 154 dL_law_154 ?_
  refine l_arg C 155 1 dL_law_155 dL_law_156 dL_law_157 dL_law_158 dL_law_159 (by decide +kernel) (by omega) ?_
  refine l_arg C 160 2 dL_law_160 dL_law_161 dL_law_162 dL_law_163 dL_law_164 (by decide +kernel) (by omega) ?_
  refine l_c2 C 165 (As := [.int (xs (i + 1)), .int (xs (i + 2))]) (kX7_house l D cy (zK7 cy) 8 ad2 C.2.2.2.2.2.2.2.1.1 (k7_ok cy ad2) u (xs (i + 1)) (xs (i + 2)) H N0 hm hp) dL_law_165 rfl gL_law_X7_house hyX7_house (by decide) (by decide) rfl rfl (Nat.le_of_ble_eq_true rfl) ?_
  refine l_eq C 168 745 dL_law_168 (by decide) hc.1 ?_
  exact kk _ _ hc.2
set_option maxHeartbeats 1000000 in
set_option maxRecDepth 20000 in
theorem law_1 (C : zLC p s m b meth c N xs D cy ad1 ad2) (hi : i + 2 < N) (hR : zRl t u) (kk : ∀ t1 u1, zRl t1 u1 → Zl p l e s m b below meth c D cy ad1 ad2 745 i [] t1 u1) : Zl p l e s m b below meth c D cy ad1 ad2 173 i [] t u := by
  have hG := hR.gd
  obtain ⟨H, N0, hN0, hm, h400⟩ := hR.now
  have hp := hR.2.1.mp
  have hT := hR.mt
  have hok := hR.ok
  have hc := c_flow hR (xs (i + 1)) (xs (i + 2))
  refine l_a1 C 173 dL_law_173 ?_
  refine l_arg C 174 1 dL_law_174 dL_law_175 dL_law_176 dL_law_177 dL_law_178 (by decide +kernel) (by omega) ?_
  refine l_arg C 179 2 dL_law_179 dL_law_180 dL_law_181 dL_law_182 dL_law_183 (by decide +kernel) (by omega) ?_
  refine l_c1 C 184 (As := [.int (xs (i + 1)), .int (xs (i + 2))]) (st := []) (kX6_flow l D cy (zK6 cy) 271 ad1 C.2.2.2.2.2.2.1.1 (k6_ok cy ad1) t (xs (i + 1)) (xs (i + 2)) hG) dL_law_184 rfl gL_law_X6_flow hyX6_flow (by decide) (by decide) rfl rfl (Nat.le_of_ble_eq_true rfl) ?_
  refine l_a2 C 187 dL_law_187 ?_
  refine l_arg C 188 1 dL_law_188 dL_law_189 dL_law_190 dL_law_191 dL_law_192 (by decide +kernel) (by omega) ?_
  refine l_arg C 193 2 dL_law_193 dL_law_194 dL_law_195 dL_law_196 dL_law_197 (by decide +kernel) (by omega) ?_
  refine l_c2 C 198 (As := [.int (xs (i + 1)), .int (xs (i + 2))]) (kX7_flow l D cy (zK7 cy) 8 ad2 C.2.2.2.2.2.2.2.1.1 (k7_ok cy ad2) u (xs (i + 1)) (xs (i + 2)) H N0 hm hp) dL_law_198 rfl gL_law_X7_flow hyX7_flow (by decide) (by decide) rfl rfl (Nat.le_of_ble_eq_true rfl) ?_
  refine l_eq C 201 745 dL_law_201 (by decide) hc.1 ?_
  exact kk _ _ hc.2
set_option maxHeartbeats 1000000 in
set_option maxRecDepth 20000 in
theorem law_2 (C : zLC p s m b meth c N xs D cy ad1 ad2) (hi : i + 2 < N) (hR : zRl t u) (kk : ∀ t1 u1, zRl t1 u1 → Zl p l e s m b below meth c D cy ad1 ad2 745 i [] t1 u1) : Zl p l e s m b below meth c D cy ad1 ad2 206 i [] t u := by
  have hG := hR.gd
  obtain ⟨H, N0, hN0, hm, h400⟩ := hR.now
  have hp := hR.2.1.mp
  have hT := hR.mt
  have hok := hR.ok
  have hb2 : ((if xs (i + 2) = 0 then 0 else 1) : Int32) = 0 ∨ ((if xs (i + 2) = 0 then 0 else 1) : Int32) = 1 := by split <;> first | exact Or.inl rfl | exact Or.inr rfl
  have hc := c_lock hR (xs (i + 1)) (if xs (i + 2) = 0 then 0 else 1) hb2
  refine l_a1 C 206 dL_law_206 ?_
  refine l_arg C 207 1 dL_law_207 dL_law_208 dL_law_209 dL_law_210 dL_law_211 (by decide +kernel) (by omega) ?_
  refine l_arg C 212 2 dL_law_212 dL_law_213 dL_law_214 dL_law_215 dL_law_216 (by decide +kernel) (by omega) ?_
  refine l_bit C 217 dL_law_217 dL_law_220 dL_law_221 dL_law_224 (by decide) (by decide) ?_
  refine l_c1 C 225 (As := [.int (xs (i + 1)), .int (if xs (i + 2) = 0 then 0 else 1)]) (st := []) (kX6_lock l D cy (zK6 cy) 271 ad1 C.2.2.2.2.2.2.1.1 (k6_ok cy ad1) t (xs (i + 1)) (if xs (i + 2) = 0 then 0 else 1) hG hb2) dL_law_225 rfl gL_law_X6_lock hyX6_lock (by decide) (by decide) rfl rfl (Nat.le_of_ble_eq_true rfl) ?_
  refine l_a2 C 228 dL_law_228 ?_
  refine l_arg C 229 1 dL_law_229 dL_law_230 dL_law_231 dL_law_232 dL_law_233 (by decide +kernel) (by omega) ?_
  refine l_arg C 234 2 dL_law_234 dL_law_235 dL_law_236 dL_law_237 dL_law_238 (by decide +kernel) (by omega) ?_
  refine l_bit C 239 dL_law_239 dL_law_242 dL_law_243 dL_law_246 (by decide) (by decide) ?_
  refine l_c2 C 247 (As := [.int (xs (i + 1)), .int (if xs (i + 2) = 0 then 0 else 1)]) (kX7_lock l D cy (zK7 cy) 8 ad2 C.2.2.2.2.2.2.2.1.1 (k7_ok cy ad2) u (xs (i + 1)) (if xs (i + 2) = 0 then 0 else 1) H N0 hm hp hb2) dL_law_247 rfl gL_law_X7_lock hyX7_lock (by decide) (by decide) rfl rfl (Nat.le_of_ble_eq_true rfl) ?_
  refine l_eq C 250 745 dL_law_250 (by decide) hc.1 ?_
  exact kk _ _ hc.2
set_option maxHeartbeats 1000000 in
set_option maxRecDepth 20000 in
theorem law_3 (C : zLC p s m b meth c N xs D cy ad1 ad2) (hi : i + 2 < N) (hR : zRl t u) (kk : ∀ t1 u1, zRl t1 u1 → Zl p l e s m b below meth c D cy ad1 ad2 745 i [] t1 u1) : Zl p l e s m b below meth c D cy ad1 ad2 255 i [] t u := by
  have hG := hR.gd
  obtain ⟨H, N0, hN0, hm, h400⟩ := hR.now
  have hp := hR.2.1.mp
  have hT := hR.mt
  have hok := hR.ok
  have hc := c_read hR (xs (i + 1))
  refine l_a1 C 255 dL_law_255 ?_
  refine l_arg C 256 1 dL_law_256 dL_law_257 dL_law_258 dL_law_259 dL_law_260 (by decide +kernel) (by omega) ?_
  refine l_c1 C 261 (As := [.int (xs (i + 1))]) (st := []) (kX6_read l D cy (zK6 cy) 271 ad1 C.2.2.2.2.2.2.1.1 (k6_ok cy ad1) t (xs (i + 1)) hG) dL_law_261 rfl gL_law_X6_read hyX6_read (by decide) (by decide) rfl rfl (Nat.le_of_ble_eq_true rfl) ?_
  refine l_a2 C 264 dL_law_264 ?_
  refine l_arg C 265 1 dL_law_265 dL_law_266 dL_law_267 dL_law_268 dL_law_269 (by decide +kernel) (by omega) ?_
  refine l_c2 C 270 (As := [.int (xs (i + 1))]) (kX7_read l D cy (zK7 cy) 8 ad2 C.2.2.2.2.2.2.2.1.1 (k7_ok cy ad2) u (xs (i + 1)) H N0 hm hp) dL_law_270 rfl gL_law_X7_read hyX7_read (by decide) (by decide) rfl rfl (Nat.le_of_ble_eq_true rfl) ?_
  refine l_eq C 273 745 dL_law_273 (by decide) hc.1 ?_
  exact kk _ _ hc.2
set_option maxHeartbeats 1000000 in
set_option maxRecDepth 20000 in
theorem law_4 (C : zLC p s m b meth c N xs D cy ad1 ad2) (hi : i + 2 < N) (hR : zRl t u) (kk : ∀ t1 u1, zRl t1 u1 → Zl p l e s m b below meth c D cy ad1 ad2 745 i [] t1 u1) : Zl p l e s m b below meth c D cy ad1 ad2 278 i [] t u := by
  have hG := hR.gd
  obtain ⟨H, N0, hN0, hm, h400⟩ := hR.now
  have hp := hR.2.1.mp
  have hT := hR.mt
  have hok := hR.ok
  have hc := c_change hR (xs (i + 1))
  refine l_a1 C 278 dL_law_278 ?_
  refine l_arg C 279 1 dL_law_279 dL_law_280 dL_law_281 dL_law_282 dL_law_283 (by decide +kernel) (by omega) ?_
  refine l_c1 C 284 (As := [.int (xs (i + 1))]) (st := []) (kX6_change l D cy (zK6 cy) 271 ad1 C.2.2.2.2.2.2.1.1 (k6_ok cy ad1) t (xs (i + 1)) hG) dL_law_284 rfl gL_law_X6_change hyX6_change (by decide) (by decide) rfl rfl (Nat.le_of_ble_eq_true rfl) ?_
  refine l_a2 C 287 dL_law_287 ?_
  refine l_arg C 288 1 dL_law_288 dL_law_289 dL_law_290 dL_law_291 dL_law_292 (by decide +kernel) (by omega) ?_
  refine l_c2 C 293 (As := [.int (xs (i + 1))]) (kX7_change l D cy (zK7 cy) 8 ad2 C.2.2.2.2.2.2.2.1.1 (k7_ok cy ad2) u (xs (i + 1)) H N0 hm hp) dL_law_293 rfl gL_law_X7_change hyX7_change (by decide) (by decide) rfl rfl (Nat.le_of_ble_eq_true rfl) ?_
  refine l_eq C 296 745 dL_law_296 (by decide) hc.1 ?_
  exact kk _ _ hc.2
set_option maxHeartbeats 1000000 in
set_option maxRecDepth 20000 in
theorem law_5 (C : zLC p s m b meth c N xs D cy ad1 ad2) (hi : i + 2 < N) (hR : zRl t u) (kk : ∀ t1 u1, zRl t1 u1 → Zl p l e s m b below meth c D cy ad1 ad2 745 i [] t1 u1) : Zl p l e s m b below meth c D cy ad1 ad2 301 i [] t u := by
  have hG := hR.gd
  obtain ⟨H, N0, hN0, hm, h400⟩ := hR.now
  have hp := hR.2.1.mp
  have hT := hR.mt
  have hok := hR.ok
  have hc := c_days hR (xs (i + 1)) hN0 h400
  refine l_a1 C 301 dL_law_301 ?_
  refine l_arg C 302 1 dL_law_302 dL_law_303 dL_law_304 dL_law_305 dL_law_306 (by decide +kernel) (by omega) ?_
  refine l_c1 C 307 (As := [.int (xs (i + 1))]) (st := []) (kX6_days l D cy (zK6 cy) 271 ad1 C.2.2.2.2.2.2.1.1 (k6_ok cy ad1) t (xs (i + 1)) hG) dL_law_307 rfl gL_law_X6_days hyX6_days (by decide) (by decide) rfl rfl (Nat.le_of_ble_eq_true rfl) ?_
  refine l_a2 C 310 dL_law_310 ?_
  refine l_arg C 311 1 dL_law_311 dL_law_312 dL_law_313 dL_law_314 dL_law_315 (by decide +kernel) (by omega) ?_
  refine l_c2 C 316 (As := [.int (xs (i + 1))]) (kX7_days l D cy (zK7 cy) 8 ad2 C.2.2.2.2.2.2.2.1.1 (k7_ok cy ad2) u (xs (i + 1)) H N0 (by omega) hm hp) dL_law_316 rfl gL_law_X7_days hyX7_days (by decide) (by decide) rfl rfl (Nat.le_of_ble_eq_true rfl) ?_
  refine l_eq C 319 745 dL_law_319 (by decide) hc.1 ?_
  exact kk _ _ hc.2
set_option maxHeartbeats 1000000 in
set_option maxRecDepth 20000 in
theorem law_6 (C : zLC p s m b meth c N xs D cy ad1 ad2) (hi : i + 2 < N) (hR : zRl t u) (kk : ∀ t1 u1, zRl t1 u1 → Zl p l e s m b below meth c D cy ad1 ad2 745 i [] t1 u1) : Zl p l e s m b below meth c D cy ad1 ad2 324 i [] t u := by
  have hG := hR.gd
  obtain ⟨H, N0, hN0, hm, h400⟩ := hR.now
  have hp := hR.2.1.mp
  have hT := hR.mt
  have hok := hR.ok
  have hc := c_set hR (xs (i + 1)) (xs (i + 2))
  refine l_a1 C 324 dL_law_324 ?_
  refine l_arg C 325 1 dL_law_325 dL_law_326 dL_law_327 dL_law_328 dL_law_329 (by decide +kernel) (by omega) ?_
  refine l_arg C 330 2 dL_law_330 dL_law_331 dL_law_332 dL_law_333 dL_law_334 (by decide +kernel) (by omega) ?_
  refine l_cS C 335 (As := [.int (xs (i + 1)), .int (xs (i + 2))]) (st := []) (kX6_set l D cy (zK6 cy) 271 ad1 C.2.2.2.2.2.2.1.1 (k6_ok cy ad1) t (xs (i + 1)) (xs (i + 2)) hG) dL_law_335 rfl gL_law_X6_set hyX6_set (by decide) (by decide) rfl rfl (Nat.le_of_ble_eq_true rfl) ?_
  refine l_a2 C 338 dL_law_338 ?_
  refine l_arg C 339 1 dL_law_339 dL_law_340 dL_law_341 dL_law_342 dL_law_343 (by decide +kernel) (by omega) ?_
  refine l_arg C 344 2 dL_law_344 dL_law_345 dL_law_346 dL_law_347 dL_law_348 (by decide +kernel) (by omega) ?_
  refine l_c2 C 349 (As := [.int (xs (i + 1)), .int (xs (i + 2))]) (kX7_set l D cy (zK7 cy) 8 ad2 C.2.2.2.2.2.2.2.1.1 (k7_ok cy ad2) u (xs (i + 1)) (xs (i + 2)) H N0 hm hp) dL_law_349 rfl gL_law_X7_set hyX7_set (by decide) (by decide) rfl rfl (Nat.le_of_ble_eq_true rfl) ?_
  refine l_eq C 352 745 dL_law_352 (by decide) hc.1 ?_
  exact kk _ _ hc.2
set_option maxHeartbeats 1000000 in
set_option maxRecDepth 20000 in
theorem law_7 (C : zLC p s m b meth c N xs D cy ad1 ad2) (hi : i + 2 < N) (hR : zRl t u) (kk : ∀ t1 u1, zRl t1 u1 → Zl p l e s m b below meth c D cy ad1 ad2 745 i [] t1 u1) : Zl p l e s m b below meth c D cy ad1 ad2 357 i [] t u := by
  have hG := hR.gd
  obtain ⟨H, N0, hN0, hm, h400⟩ := hR.now
  have hp := hR.2.1.mp
  have hT := hR.mt
  have hok := hR.ok
  have hc := c_houseOf hR (xs (i + 1)) (xs (i + 2))
  refine l_a1 C 357 dL_law_357 ?_
  refine l_arg C 358 1 dL_law_358 dL_law_359 dL_law_360 dL_law_361 dL_law_362 (by decide +kernel) (by omega) ?_
  refine l_arg C 363 2 dL_law_363 dL_law_364 dL_law_365 dL_law_366 dL_law_367 (by decide +kernel) (by omega) ?_
  refine l_c1 C 368 (As := [.int (xs (i + 1)), .int (xs (i + 2))]) (st := []) (kX6_houseOf l D cy (zK6 cy) 271 ad1 C.2.2.2.2.2.2.1.1 (k6_ok cy ad1) t (xs (i + 1)) (xs (i + 2)) hG) dL_law_368 rfl gL_law_X6_houseOf hyX6_houseOf (by decide) (by decide) rfl rfl (Nat.le_of_ble_eq_true rfl) ?_
  refine l_a2 C 371 dL_law_371 ?_
  refine l_arg C 372 1 dL_law_372 dL_law_373 dL_law_374 dL_law_375 dL_law_376 (by decide +kernel) (by omega) ?_
  refine l_arg C 377 2 dL_law_377 dL_law_378 dL_law_379 dL_law_380 dL_law_381 (by decide +kernel) (by omega) ?_
  refine l_c2 C 382 (As := [.int (xs (i + 1)), .int (xs (i + 2))]) (kX7_houseOf l D cy (zK7 cy) 8 ad2 C.2.2.2.2.2.2.2.1.1 (k7_ok cy ad2) u (xs (i + 1)) (xs (i + 2)) H N0 hm hp) dL_law_382 rfl gL_law_X7_houseOf hyX7_houseOf (by decide) (by decide) rfl rfl (Nat.le_of_ble_eq_true rfl) ?_
  refine l_eq C 385 745 dL_law_385 (by decide) hc ?_
  exact kk _ _ hR
set_option maxHeartbeats 1000000 in
set_option maxRecDepth 20000 in
theorem law_8 (C : zLC p s m b meth c N xs D cy ad1 ad2) (hi : i + 2 < N) (hR : zRl t u) (kk : ∀ t1 u1, zRl t1 u1 → Zl p l e s m b below meth c D cy ad1 ad2 745 i [] t1 u1) : Zl p l e s m b below meth c D cy ad1 ad2 390 i [] t u := by
  have hG := hR.gd
  obtain ⟨H, N0, hN0, hm, h400⟩ := hR.now
  have hp := hR.2.1.mp
  have hT := hR.mt
  have hok := hR.ok
  have hc := c_at hR (xs (i + 1)) (xs (i + 2))
  refine l_a1 C 390 dL_law_390 ?_
  refine l_arg C 391 1 dL_law_391 dL_law_392 dL_law_393 dL_law_394 dL_law_395 (by decide +kernel) (by omega) ?_
  refine l_arg C 396 2 dL_law_396 dL_law_397 dL_law_398 dL_law_399 dL_law_400 (by decide +kernel) (by omega) ?_
  refine l_c1 C 401 (As := [.int (xs (i + 1)), .int (xs (i + 2))]) (st := []) (kX6_at l D cy (zK6 cy) 271 ad1 C.2.2.2.2.2.2.1.1 (k6_ok cy ad1) t (xs (i + 1)) (xs (i + 2)) hG) dL_law_401 rfl gL_law_X6_at hyX6_at (by decide) (by decide) rfl rfl (Nat.le_of_ble_eq_true rfl) ?_
  refine l_a2 C 404 dL_law_404 ?_
  refine l_arg C 405 1 dL_law_405 dL_law_406 dL_law_407 dL_law_408 dL_law_409 (by decide +kernel) (by omega) ?_
  refine l_arg C 410 2 dL_law_410 dL_law_411 dL_law_412 dL_law_413 dL_law_414 (by decide +kernel) (by omega) ?_
  refine l_c2 C 415 (As := [.int (xs (i + 1)), .int (xs (i + 2))]) (kX7_at l D cy (zK7 cy) 8 ad2 C.2.2.2.2.2.2.2.1.1 (k7_ok cy ad2) u (xs (i + 1)) (xs (i + 2)) H N0 hm hp) dL_law_415 rfl gL_law_X7_at hyX7_at (by decide) (by decide) rfl rfl (Nat.le_of_ble_eq_true rfl) ?_
  refine l_eq C 418 745 dL_law_418 (by decide) hc ?_
  exact kk _ _ hR
set_option maxHeartbeats 1000000 in
set_option maxRecDepth 20000 in
theorem law_9 (C : zLC p s m b meth c N xs D cy ad1 ad2) (hi : i + 2 < N) (hR : zRl t u) (kk : ∀ t1 u1, zRl t1 u1 → Zl p l e s m b below meth c D cy ad1 ad2 745 i [] t1 u1) : Zl p l e s m b below meth c D cy ad1 ad2 423 i [] t u := by
  have hG := hR.gd
  obtain ⟨H, N0, hN0, hm, h400⟩ := hR.now
  have hp := hR.2.1.mp
  have hT := hR.mt
  have hok := hR.ok
  have hc := c_next hR (xs (i + 1)) (xs (i + 2))
  refine l_a1 C 423 dL_law_423 ?_
  refine l_arg C 424 1 dL_law_424 dL_law_425 dL_law_426 dL_law_427 dL_law_428 (by decide +kernel) (by omega) ?_
  refine l_arg C 429 2 dL_law_429 dL_law_430 dL_law_431 dL_law_432 dL_law_433 (by decide +kernel) (by omega) ?_
  refine l_c1 C 434 (As := [.int (xs (i + 1)), .int (xs (i + 2))]) (st := []) (kX6_next l D cy (zK6 cy) 271 ad1 C.2.2.2.2.2.2.1.1 (k6_ok cy ad1) t (xs (i + 1)) (xs (i + 2)) hG) dL_law_434 rfl gL_law_X6_next hyX6_next (by decide) (by decide) rfl rfl (Nat.le_of_ble_eq_true rfl) ?_
  refine l_a2 C 437 dL_law_437 ?_
  refine l_arg C 438 1 dL_law_438 dL_law_439 dL_law_440 dL_law_441 dL_law_442 (by decide +kernel) (by omega) ?_
  refine l_arg C 443 2 dL_law_443 dL_law_444 dL_law_445 dL_law_446 dL_law_447 (by decide +kernel) (by omega) ?_
  refine l_c2 C 448 (As := [.int (xs (i + 1)), .int (xs (i + 2))]) (kX7_next l D cy (zK7 cy) 8 ad2 C.2.2.2.2.2.2.2.1.1 (k7_ok cy ad2) u (xs (i + 1)) (xs (i + 2)) H N0 hm hp) dL_law_448 rfl gL_law_X7_next hyX7_next (by decide) (by decide) rfl rfl (Nat.le_of_ble_eq_true rfl) ?_
  refine l_eq C 451 745 dL_law_451 (by decide) hc.1 ?_
  exact kk _ _ hc.2
set_option maxHeartbeats 1000000 in
set_option maxRecDepth 20000 in
theorem law_10 (C : zLC p s m b meth c N xs D cy ad1 ad2) (hi : i + 2 < N) (hR : zRl t u) (kk : ∀ t1 u1, zRl t1 u1 → Zl p l e s m b below meth c D cy ad1 ad2 745 i [] t1 u1) : Zl p l e s m b below meth c D cy ad1 ad2 456 i [] t u := by
  have hG := hR.gd
  obtain ⟨H, N0, hN0, hm, h400⟩ := hR.now
  have hp := hR.2.1.mp
  have hT := hR.mt
  have hok := hR.ok
  obtain ⟨hv, E, hE, he⟩ := c_ledger hR (xs (i + 1)) (xs (i + 2))
  refine l_a1 C 456 dL_law_456 ?_
  refine l_arg C 457 1 dL_law_457 dL_law_458 dL_law_459 dL_law_460 dL_law_461 (by decide +kernel) (by omega) ?_
  refine l_arg C 462 2 dL_law_462 dL_law_463 dL_law_464 dL_law_465 dL_law_466 (by decide +kernel) (by omega) ?_
  refine l_c1 C 467 (As := [.int (xs (i + 1)), .int (xs (i + 2))]) (st := []) (kX6_ledger l D cy (zK6 cy) 271 ad1 C.2.2.2.2.2.2.1.1 (k6_ok cy ad1) t (xs (i + 1)) (xs (i + 2)) hG) dL_law_467 rfl gL_law_X6_ledger hyX6_ledger (by decide) (by decide) rfl rfl (Nat.le_of_ble_eq_true rfl) ?_
  refine l_a2 C 470 dL_law_470 ?_
  refine l_arg C 471 1 dL_law_471 dL_law_472 dL_law_473 dL_law_474 dL_law_475 (by decide +kernel) (by omega) ?_
  refine l_arg C 476 2 dL_law_476 dL_law_477 dL_law_478 dL_law_479 dL_law_480 (by decide +kernel) (by omega) ?_
  refine l_c2 C 481 (As := [.int (xs (i + 1)), .int (xs (i + 2))]) (kX7_ledger l D cy (zK7 cy) 8 ad2 C.2.2.2.2.2.2.2.1.1 (k7_ok cy ad2) u (xs (i + 1)) (xs (i + 2)) 0 0 E hE he) dL_law_481 rfl gL_law_X7_ledger hyX7_ledger (by decide) (by decide) rfl rfl (Nat.le_of_ble_eq_true rfl) ?_
  refine l_eq C 484 745 dL_law_484 (by decide) hv ?_
  exact kk _ _ hR
set_option maxHeartbeats 1000000 in
set_option maxRecDepth 20000 in
theorem law_11 (C : zLC p s m b meth c N xs D cy ad1 ad2) (hi : i + 2 < N) (hR : zRl t u) (kk : ∀ t1 u1, zRl t1 u1 → Zl p l e s m b below meth c D cy ad1 ad2 745 i [] t1 u1) : Zl p l e s m b below meth c D cy ad1 ad2 489 i [] t u := by
  have hG := hR.gd
  obtain ⟨H, N0, hN0, hm, h400⟩ := hR.now
  have hp := hR.2.1.mp
  have hT := hR.mt
  have hok := hR.ok
  have hc := c_why hR (xs (i + 1))
  refine l_a1 C 489 dL_law_489 ?_
  refine l_arg C 490 1 dL_law_490 dL_law_491 dL_law_492 dL_law_493 dL_law_494 (by decide +kernel) (by omega) ?_
  refine l_c1 C 495 (As := [.int (xs (i + 1))]) (st := []) (kX6_why l D cy (zK6 cy) 271 ad1 C.2.2.2.2.2.2.1.1 (k6_ok cy ad1) t (xs (i + 1)) hG) dL_law_495 rfl gL_law_X6_why hyX6_why (by decide) (by decide) rfl rfl (Nat.le_of_ble_eq_true rfl) ?_
  refine l_a2 C 498 dL_law_498 ?_
  refine l_arg C 499 1 dL_law_499 dL_law_500 dL_law_501 dL_law_502 dL_law_503 (by decide +kernel) (by omega) ?_
  refine l_c2 C 504 (As := [.int (xs (i + 1))]) (kX7_why l D cy (zK7 cy) 8 ad2 C.2.2.2.2.2.2.2.1.1 (k7_ok cy ad2) u (xs (i + 1)) H N0 hm hp) dL_law_504 rfl gL_law_X7_why hyX7_why (by decide) (by decide) rfl rfl (Nat.le_of_ble_eq_true rfl) ?_
  refine l_eq C 507 745 dL_law_507 (by decide) hc ?_
  exact kk _ _ hR
set_option maxHeartbeats 1000000 in
set_option maxRecDepth 20000 in
theorem law_12 (C : zLC p s m b meth c N xs D cy ad1 ad2) (hi : i + 2 < N) (hR : zRl t u) (kk : ∀ t1 u1, zRl t1 u1 → Zl p l e s m b below meth c D cy ad1 ad2 745 i [] t1 u1) : Zl p l e s m b below meth c D cy ad1 ad2 512 i [] t u := by
  have hG := hR.gd
  obtain ⟨H, N0, hN0, hm, h400⟩ := hR.now
  have hp := hR.2.1.mp
  have hT := hR.mt
  have hok := hR.ok
  have hc := c_ifRead hR (xs (i + 1)) (xs (i + 2))
  refine l_a1 C 512 dL_law_512 ?_
  refine l_arg C 513 1 dL_law_513 dL_law_514 dL_law_515 dL_law_516 dL_law_517 (by decide +kernel) (by omega) ?_
  refine l_arg C 518 2 dL_law_518 dL_law_519 dL_law_520 dL_law_521 dL_law_522 (by decide +kernel) (by omega) ?_
  refine l_c1 C 523 (As := [.int (xs (i + 1)), .int (xs (i + 2))]) (st := []) (kX6_ifRead l D cy (zK6 cy) 271 ad1 C.2.2.2.2.2.2.1.1 (k6_ok cy ad1) t (xs (i + 1)) (xs (i + 2)) hG) dL_law_523 rfl gL_law_X6_ifRead hyX6_ifRead (by decide) (by decide) rfl rfl (Nat.le_of_ble_eq_true rfl) ?_
  refine l_a2 C 526 dL_law_526 ?_
  refine l_arg C 527 1 dL_law_527 dL_law_528 dL_law_529 dL_law_530 dL_law_531 (by decide +kernel) (by omega) ?_
  refine l_arg C 532 2 dL_law_532 dL_law_533 dL_law_534 dL_law_535 dL_law_536 (by decide +kernel) (by omega) ?_
  refine l_c2 C 537 (As := [.int (xs (i + 1)), .int (xs (i + 2))]) (kX7_ifRead l D cy (zK7 cy) 8 ad2 C.2.2.2.2.2.2.2.1.1 (k7_ok cy ad2) u (xs (i + 1)) (xs (i + 2)) H N0 hm hp) dL_law_537 rfl gL_law_X7_ifRead hyX7_ifRead (by decide) (by decide) rfl rfl (Nat.le_of_ble_eq_true rfl) ?_
  refine l_eq C 540 745 dL_law_540 (by decide) hc ?_
  exact kk _ _ hR
set_option maxHeartbeats 1000000 in
set_option maxRecDepth 20000 in
theorem law_13 (C : zLC p s m b meth c N xs D cy ad1 ad2) (hi : i + 2 < N) (hR : zRl t u) (kk : ∀ t1 u1, zRl t1 u1 → Zl p l e s m b below meth c D cy ad1 ad2 745 i [] t1 u1) : Zl p l e s m b below meth c D cy ad1 ad2 545 i [] t u := by
  have hG := hR.gd
  obtain ⟨H, N0, hN0, hm, h400⟩ := hR.now
  have hp := hR.2.1.mp
  have hT := hR.mt
  have hok := hR.ok
  have hc := c_wronged hR (xs (i + 1))
  refine l_a1 C 545 dL_law_545 ?_
  refine l_arg C 546 1 dL_law_546 dL_law_547 dL_law_548 dL_law_549 dL_law_550 (by decide +kernel) (by omega) ?_
  refine l_c1 C 551 (As := [.int (xs (i + 1))]) (st := []) (kX6_wronged l D cy (zK6 cy) 271 ad1 C.2.2.2.2.2.2.1.1 (k6_ok cy ad1) t (xs (i + 1)) hG) dL_law_551 rfl gL_law_X6_wronged hyX6_wronged (by decide) (by decide) rfl rfl (Nat.le_of_ble_eq_true rfl) ?_
  refine l_a2 C 554 dL_law_554 ?_
  refine l_arg C 555 1 dL_law_555 dL_law_556 dL_law_557 dL_law_558 dL_law_559 (by decide +kernel) (by omega) ?_
  refine l_c2 C 560 (As := [.int (xs (i + 1))]) (kX7_wronged l D cy (zK7 cy) 8 ad2 C.2.2.2.2.2.2.2.1.1 (k7_ok cy ad2) u (xs (i + 1)) H N0 hm) dL_law_560 rfl gL_law_X7_wronged hyX7_wronged (by decide) (by decide) rfl rfl (Nat.le_of_ble_eq_true rfl) ?_
  refine l_eq C 563 745 dL_law_563 (by decide) hc ?_
  exact kk _ _ hR
set_option maxHeartbeats 1000000 in
set_option maxRecDepth 20000 in
theorem law_14 (C : zLC p s m b meth c N xs D cy ad1 ad2) (hi : i + 2 < N) (hR : zRl t u) (kk : ∀ t1 u1, zRl t1 u1 → Zl p l e s m b below meth c D cy ad1 ad2 745 i [] t1 u1) : Zl p l e s m b below meth c D cy ad1 ad2 568 i [] t u := by
  have hG := hR.gd
  obtain ⟨H, N0, hN0, hm, h400⟩ := hR.now
  have hp := hR.2.1.mp
  have hT := hR.mt
  have hok := hR.ok
  have hc := c_refundIn hR (xs (i + 1)) hN0 h400
  refine l_a1 C 568 dL_law_568 ?_
  refine l_arg C 569 1 dL_law_569 dL_law_570 dL_law_571 dL_law_572 dL_law_573 (by decide +kernel) (by omega) ?_
  refine l_c1 C 574 (As := [.int (xs (i + 1))]) (st := []) (kX6_refundIn l D cy (zK6 cy) 271 ad1 C.2.2.2.2.2.2.1.1 (k6_ok cy ad1) t (xs (i + 1)) hG) dL_law_574 rfl gL_law_X6_refundIn hyX6_refundIn (by decide) (by decide) rfl rfl (Nat.le_of_ble_eq_true rfl) ?_
  refine l_a2 C 577 dL_law_577 ?_
  refine l_arg C 578 1 dL_law_578 dL_law_579 dL_law_580 dL_law_581 dL_law_582 (by decide +kernel) (by omega) ?_
  refine l_c2 C 583 (As := [.int (xs (i + 1))]) (kX7_refundIn l D cy (zK7 cy) 8 ad2 C.2.2.2.2.2.2.2.1.1 (k7_ok cy ad2) u (xs (i + 1)) H N0 (by omega) hm) dL_law_583 rfl gL_law_X7_refundIn hyX7_refundIn (by decide) (by decide) rfl rfl (Nat.le_of_ble_eq_true rfl) ?_
  refine l_eq C 586 745 dL_law_586 (by decide) hc.1 ?_
  exact kk _ _ hc.2
set_option maxHeartbeats 1000000 in
set_option maxRecDepth 20000 in
theorem law_15 (C : zLC p s m b meth c N xs D cy ad1 ad2) (hi : i + 2 < N) (hR : zRl t u) (kk : ∀ t1 u1, zRl t1 u1 → Zl p l e s m b below meth c D cy ad1 ad2 745 i [] t1 u1) : Zl p l e s m b below meth c D cy ad1 ad2 591 i [] t u := by
  have hG := hR.gd
  obtain ⟨H, N0, hN0, hm, h400⟩ := hR.now
  have hp := hR.2.1.mp
  have hT := hR.mt
  have hok := hR.ok
  have hc := c_ifDays hR (xs (i + 1)) (xs (i + 2)) hN0 h400
  refine l_a1 C 591 dL_law_591 ?_
  refine l_arg C 592 1 dL_law_592 dL_law_593 dL_law_594 dL_law_595 dL_law_596 (by decide +kernel) (by omega) ?_
  refine l_arg C 597 2 dL_law_597 dL_law_598 dL_law_599 dL_law_600 dL_law_601 (by decide +kernel) (by omega) ?_
  refine l_c1 C 602 (As := [.int (xs (i + 1)), .int (xs (i + 2))]) (st := []) (kX6_ifDays l D cy (zK6 cy) 271 ad1 C.2.2.2.2.2.2.1.1 (k6_ok cy ad1) t (xs (i + 1)) (xs (i + 2)) hG) dL_law_602 rfl gL_law_X6_ifDays hyX6_ifDays (by decide) (by decide) rfl rfl (Nat.le_of_ble_eq_true rfl) ?_
  refine l_a2 C 605 dL_law_605 ?_
  refine l_arg C 606 1 dL_law_606 dL_law_607 dL_law_608 dL_law_609 dL_law_610 (by decide +kernel) (by omega) ?_
  refine l_arg C 611 2 dL_law_611 dL_law_612 dL_law_613 dL_law_614 dL_law_615 (by decide +kernel) (by omega) ?_
  refine l_c2 C 616 (As := [.int (xs (i + 1)), .int (xs (i + 2))]) (kX7_ifDays l D cy (zK7 cy) 8 ad2 C.2.2.2.2.2.2.2.1.1 (k7_ok cy ad2) u (xs (i + 1)) (xs (i + 2)) H N0 (by omega) hm) dL_law_616 rfl gL_law_X7_ifDays hyX7_ifDays (by decide) (by decide) rfl rfl (Nat.le_of_ble_eq_true rfl) ?_
  refine l_eq C 619 745 dL_law_619 (by decide) hc.1 ?_
  exact kk _ _ hc.2
set_option maxHeartbeats 1000000 in
set_option maxRecDepth 20000 in
theorem law_16 (C : zLC p s m b meth c N xs D cy ad1 ad2) (hi : i + 2 < N) (hR : zRl t u) (kk : ∀ t1 u1, zRl t1 u1 → Zl p l e s m b below meth c D cy ad1 ad2 745 i [] t1 u1) : Zl p l e s m b below meth c D cy ad1 ad2 624 i [] t u := by
  have hG := hR.gd
  obtain ⟨H, N0, hN0, hm, h400⟩ := hR.now
  have hp := hR.2.1.mp
  have hT := hR.mt
  have hok := hR.ok
  obtain ⟨he, Sn, Cn, s1, s2, s3, s4, s5⟩ := c_mean hR
  refine l_a1 C 624 dL_law_624 ?_
  refine l_c1 C 625 (As := []) (st := []) (kX6_mean l D cy (zK6 cy) 271 ad1 C.2.2.2.2.2.2.1.1 (k6_ok cy ad1) t Sn Cn s1 s3 s2 s5) dL_law_625 rfl gL_law_X6_mean hyX6_mean (by decide) (by decide) rfl rfl (Nat.le_of_ble_eq_true rfl) ?_
  refine l_a2 C 628 dL_law_628 ?_
  refine l_c2 C 629 (As := []) (kX7_mean l D cy (zK7 cy) 8 ad2 C.2.2.2.2.2.2.2.1.1 (k7_ok cy ad2) u H N0 Sn hm s1 s4) dL_law_629 rfl gL_law_X7_mean hyX7_mean (by decide) (by decide) rfl rfl (Nat.le_of_ble_eq_true rfl) ?_
  refine l_eq C 632 745 dL_law_632 (by decide) he ?_
  exact kk _ _ hR
set_option maxHeartbeats 1000000 in
set_option maxRecDepth 20000 in
theorem law_17 (C : zLC p s m b meth c N xs D cy ad1 ad2) (hi : i + 2 < N) (hR : zRl t u) (kk : ∀ t1 u1, zRl t1 u1 → Zl p l e s m b below meth c D cy ad1 ad2 745 i [] t1 u1) : Zl p l e s m b below meth c D cy ad1 ad2 637 i [] t u := by
  have hG := hR.gd
  obtain ⟨H, N0, hN0, hm, h400⟩ := hR.now
  have hp := hR.2.1.mp
  have hT := hR.mt
  have hok := hR.ok
  have hc := c_count hR (xs (i + 1))
  refine l_a1 C 637 dL_law_637 ?_
  refine l_arg C 638 1 dL_law_638 dL_law_639 dL_law_640 dL_law_641 dL_law_642 (by decide +kernel) (by omega) ?_
  refine l_c1 C 643 (As := [.int (xs (i + 1))]) (st := []) (kX6_count l D cy (zK6 cy) 271 ad1 C.2.2.2.2.2.2.1.1 (k6_ok cy ad1) t (xs (i + 1)) hG) dL_law_643 rfl gL_law_X6_count hyX6_count (by decide) (by decide) rfl rfl (Nat.le_of_ble_eq_true rfl) ?_
  refine l_a2 C 646 dL_law_646 ?_
  refine l_arg C 647 1 dL_law_647 dL_law_648 dL_law_649 dL_law_650 dL_law_651 (by decide +kernel) (by omega) ?_
  refine l_c2 C 652 (As := [.int (xs (i + 1))]) (kX7_count l D cy (zK7 cy) 8 ad2 C.2.2.2.2.2.2.2.1.1 (k7_ok cy ad2) u (xs (i + 1)) H N0 hm) dL_law_652 rfl gL_law_X7_count hyX7_count (by decide) (by decide) rfl rfl (Nat.le_of_ble_eq_true rfl) ?_
  refine l_eq C 655 745 dL_law_655 (by decide) hc ?_
  exact kk _ _ hR
set_option maxHeartbeats 1000000 in
set_option maxRecDepth 20000 in
theorem law_18 (C : zLC p s m b meth c N xs D cy ad1 ad2) (hi : i + 2 < N) (hR : zRl t u) (kk : ∀ t1 u1, zRl t1 u1 → Zl p l e s m b below meth c D cy ad1 ad2 745 i [] t1 u1) : Zl p l e s m b below meth c D cy ad1 ad2 660 i [] t u := by
  have hG := hR.gd
  obtain ⟨H, N0, hN0, hm, h400⟩ := hR.now
  have hp := hR.2.1.mp
  have hT := hR.mt
  have hok := hR.ok
  have hc := c_undo hR
  refine l_a1 C 660 dL_law_660 ?_
  refine l_c1 C 661 (As := []) (st := []) (kX6_undo l D cy (zK6 cy) 271 ad1 C.2.2.2.2.2.2.1.1 (k6_ok cy ad1) t hG) dL_law_661 rfl gL_law_X6_undo hyX6_undo (by decide) (by decide) rfl rfl (Nat.le_of_ble_eq_true rfl) ?_
  refine l_a2 C 664 dL_law_664 ?_
  refine l_c2 C 665 (As := []) (kX7_undo l D cy (zK7 cy) 8 ad2 C.2.2.2.2.2.2.2.1.1 (k7_ok cy ad2) u hp) dL_law_665 rfl gL_law_X7_undo hyX7_undo (by decide) (by decide) rfl rfl (Nat.le_of_ble_eq_true rfl) ?_
  refine l_eq C 668 745 dL_law_668 (by decide) hc.1 ?_
  exact kk _ _ hc.2
set_option maxHeartbeats 1000000 in
set_option maxRecDepth 20000 in
theorem law_19 (C : zLC p s m b meth c N xs D cy ad1 ad2) (hi : i + 2 < N) (hR : zRl t u) (kk : ∀ t1 u1, zRl t1 u1 → Zl p l e s m b below meth c D cy ad1 ad2 745 i [] t1 u1) : Zl p l e s m b below meth c D cy ad1 ad2 673 i [] t u := by
  have hG := hR.gd
  obtain ⟨H, N0, hN0, hm, h400⟩ := hR.now
  have hp := hR.2.1.mp
  have hT := hR.mt
  have hok := hR.ok
  have hc := c_type hR (xs (i + 1))
  refine l_a1 C 673 dL_law_673 ?_
  refine l_arg C 674 1 dL_law_674 dL_law_675 dL_law_676 dL_law_677 dL_law_678 (by decide +kernel) (by omega) ?_
  refine l_c1 C 679 (As := [.int (xs (i + 1))]) (st := []) (kX6_type l D cy (zK6 cy) 271 ad1 C.2.2.2.2.2.2.1.1 (k6_ok cy ad1) t (xs (i + 1)) hG) dL_law_679 rfl gL_law_X6_type hyX6_type (by decide) (by decide) rfl rfl (Nat.le_of_ble_eq_true rfl) ?_
  refine l_a2 C 682 dL_law_682 ?_
  refine l_arg C 683 1 dL_law_683 dL_law_684 dL_law_685 dL_law_686 dL_law_687 (by decide +kernel) (by omega) ?_
  refine l_c2 C 688 (As := [.int (xs (i + 1))]) (kX7_type l D cy (zK7 cy) 8 ad2 C.2.2.2.2.2.2.2.1.1 (k7_ok cy ad2) u (xs (i + 1)) hT) dL_law_688 rfl gL_law_X7_type hyX7_type (by decide) (by decide) rfl rfl (Nat.le_of_ble_eq_true rfl) ?_
  refine l_eq C 691 745 dL_law_691 (by decide) hc.1 ?_
  exact kk _ _ hc.2
set_option maxHeartbeats 1000000 in
set_option maxRecDepth 20000 in
theorem law_20 (C : zLC p s m b meth c N xs D cy ad1 ad2) (hi : i + 2 < N) (hR : zRl t u) (kk : ∀ t1 u1, zRl t1 u1 → Zl p l e s m b below meth c D cy ad1 ad2 745 i [] t1 u1) : Zl p l e s m b below meth c D cy ad1 ad2 696 i [] t u := by
  have hG := hR.gd
  obtain ⟨H, N0, hN0, hm, h400⟩ := hR.now
  have hp := hR.2.1.mp
  have hT := hR.mt
  have hok := hR.ok
  have hc := c_clear hR
  refine l_a1 C 696 dL_law_696 ?_
  refine l_c1 C 697 (As := []) (st := []) (kX6_clearText l D cy (zK6 cy) 271 ad1 C.2.2.2.2.2.2.1.1 (k6_ok cy ad1) t hG) dL_law_697 rfl gL_law_X6_clearText hyX6_clearText (by decide) (by decide) rfl rfl (Nat.le_of_ble_eq_true rfl) ?_
  refine l_a2 C 700 dL_law_700 ?_
  refine l_c2 C 701 (As := []) (kX7_clearText l D cy (zK7 cy) 8 ad2 C.2.2.2.2.2.2.2.1.1 (k7_ok cy ad2) u ) dL_law_701 rfl gL_law_X7_clearText hyX7_clearText (by decide) (by decide) rfl rfl (Nat.le_of_ble_eq_true rfl) ?_
  refine l_eq C 704 745 dL_law_704 (by decide) hc.1 ?_
  exact kk _ _ hc.2
set_option maxHeartbeats 1000000 in
set_option maxRecDepth 20000 in
theorem law_21 (C : zLC p s m b meth c N xs D cy ad1 ad2) (hi : i + 2 < N) (hR : zRl t u) (kk : ∀ t1 u1, zRl t1 u1 → Zl p l e s m b below meth c D cy ad1 ad2 745 i [] t1 u1) : Zl p l e s m b below meth c D cy ad1 ad2 709 i [] t u := by
  have hG := hR.gd
  obtain ⟨H, N0, hN0, hm, h400⟩ := hR.now
  have hp := hR.2.1.mp
  have hT := hR.mt
  have hok := hR.ok
  have hc := c_fault hR (xs (i + 1))
  refine l_a1 C 709 dL_law_709 ?_
  refine l_arg C 710 1 dL_law_710 dL_law_711 dL_law_712 dL_law_713 dL_law_714 (by decide +kernel) (by omega) ?_
  refine l_c1 C 715 (As := [.int (xs (i + 1))]) (st := []) (kX6_fault l D cy (zK6 cy) 271 ad1 C.2.2.2.2.2.2.1.1 (k6_ok cy ad1) t (xs (i + 1)) hG) dL_law_715 rfl gL_law_X6_fault hyX6_fault (by decide) (by decide) rfl rfl (Nat.le_of_ble_eq_true rfl) ?_
  refine l_a2 C 718 dL_law_718 ?_
  refine l_arg C 719 1 dL_law_719 dL_law_720 dL_law_721 dL_law_722 dL_law_723 (by decide +kernel) (by omega) ?_
  refine l_c2 C 724 (As := [.int (xs (i + 1))]) (kX7_fault l D cy (zK7 cy) 8 ad2 C.2.2.2.2.2.2.2.1.1 (k7_ok cy ad2) u (xs (i + 1)) hT hok) dL_law_724 rfl gL_law_X7_fault hyX7_fault (by decide) (by decide) rfl rfl (Nat.le_of_ble_eq_true rfl) ?_
  refine l_eq C 727 745 dL_law_727 (by decide) hc.1 ?_
  exact kk _ _ hc.2
set_option maxHeartbeats 1000000 in
set_option maxRecDepth 20000 in
theorem law_22 (C : zLC p s m b meth c N xs D cy ad1 ad2) (hi : i + 2 < N) (hR : zRl t u) (kk : ∀ t1 u1, zRl t1 u1 → Zl p l e s m b below meth c D cy ad1 ad2 745 i [] t1 u1) : Zl p l e s m b below meth c D cy ad1 ad2 732 i [] t u := by
  have hG := hR.gd
  obtain ⟨H, N0, hN0, hm, h400⟩ := hR.now
  have hp := hR.2.1.mp
  have hT := hR.mt
  have hok := hR.ok
  have hc := c_play hR
  refine l_a1 C 732 dL_law_732 ?_
  refine l_c1 C 733 (As := []) (st := []) (kX6_play l D cy (zK6 cy) 271 ad1 C.2.2.2.2.2.2.1.1 (k6_ok cy ad1) t hG) dL_law_733 rfl gL_law_X6_play hyX6_play (by decide) (by decide) rfl rfl (Nat.le_of_ble_eq_true rfl) ?_
  refine l_a2 C 736 dL_law_736 ?_
  refine l_c2 C 737 (As := []) (kX7_play l D cy (zK7 cy) 8 ad2 C.2.2.2.2.2.2.2.1.1 (k7_ok cy ad2) u hT hok) dL_law_737 rfl gL_law_X7_play hyX7_play (by decide) (by decide) rfl rfl (Nat.le_of_ble_eq_true rfl) ?_
  refine l_eq C 740 745 dL_law_740 (by decide) hc.1 ?_
  exact kk _ _ hc.2
end ZLW
