section LAWC
variable {X : JX} {l : Launch} {G : GB} {kc ks : Nat} {b L i k : Nat} {xs : Nat → Int32} {a h : Nat → Nat} {x y : Q3}
theorem w_change (E : JE X l G cL_law RL 4 13 484) (S : scr X b L xs) (hi : i + 5 < L) (hr : kc ≤ X.1.2.2.2.1.cells ∧ ks ≤ X.1.2.2.2.1.slots) (hp : PairI l G a h yX5_change cX5_change 6 yX6_change cX6_change 4 [.int (xs (i + 1)), .int (xs (i + 2)), .int (xs (i + 3))] k x y) (K : ∀ x' y', Rel (k + 1) x' y' → J X G 4 kc ks (wC G a x' ++ wM G h y') (lvL b (a 0) (h 0) i) 1433 []) : J X G 4 kc ks (wC G a x ++ wM G h y) (lvL b (a 0) (h 0) i) 216 [] := by
  obtain ⟨R, x', y', f1, l1, f2, l2, ⟨q1, q2, q3, q4⟩, hC, hM, r⟩ := hp
  refine J_aload_n E dL_law_216 rfl 2 rfl ?_
  refine J_arg E S 1 (by omega) (by decide) dL_law_217 dL_law_218 dL_law_219 dL_law_220 dL_law_221 ?_
  refine J_arg E S 2 (by omega) (by decide) dL_law_222 dL_law_223 dL_law_224 dL_law_225 dL_law_226 ?_
  refine J_arg E S 3 (by omega) (by decide) dL_law_227 dL_law_228 dL_law_229 dL_law_230 dL_law_231 ?_
  refine J_callVi E (As := [.int (xs (i + 1)), .int (xs (i + 2)), .int (xs (i + 3))]) (rest := []) (ci := 4) (q0 := 0) [] (wM G h y) hC cl_L_13 yo_X5_change dL_law_232 rfl rfl rfl (by omega) (by omega) rfl (Nat.le_of_ble_eq_true rfl) rfl hr (fun v w1 e => ?_)
  obtain ⟨e1, x1, rfl, sx⟩ := e
  subst e1
  refine J_w (ws' := wC G a x1 ++ wM G h y) rfl ?_
  refine J_aload_n E dL_law_235 rfl 1 rfl ?_
  refine J_arg E S 1 (by omega) (by decide) dL_law_236 dL_law_237 dL_law_238 dL_law_239 dL_law_240 ?_
  refine J_arg E S 2 (by omega) (by decide) dL_law_241 dL_law_242 dL_law_243 dL_law_244 dL_law_245 ?_
  refine J_arg E S 3 (by omega) (by decide) dL_law_246 dL_law_247 dL_law_248 dL_law_249 dL_law_250 ?_
  refine J_callVi E (As := [.int (xs (i + 1)), .int (xs (i + 2)), .int (xs (i + 3))]) (rest := [.int v]) (ci := 5) (q0 := 0) (wC G a x1) [] hM cl_L_17 yo_X6_change dL_law_251 rfl rfl rfl (by omega) (by omega) rfl (Nat.le_of_ble_eq_true rfl) (by rw [List.append_nil]) hr (fun u w2 e => ?_)
  obtain ⟨e2, y1, rfl, sy⟩ := e
  subst e2
  refine J_w (ws' := wC G a x1 ++ wM G h y1) (by rw [List.append_nil]) ?_
  exact J_icmp_eq E (tgt := 1433) dL_law_254 (by decide) (fun _ => K x1 y1 (r.sh sx sy)) (fun z => absurd rfl z)
theorem w_of (E : JE X l G cL_law RL 4 13 484) (S : scr X b L xs) (hi : i + 5 < L) (hr : kc ≤ X.1.2.2.2.1.cells ∧ ks ≤ X.1.2.2.2.1.slots) (hp : PairI l G a h yX5_of cX5_of 3 yX6_of cX6_of 3 [.int (xs (i + 1)), .int (xs (i + 2))] k x y) (K : ∀ x' y', Rel (k + 1) x' y' → J X G 4 kc ks (wC G a x' ++ wM G h y') (lvL b (a 0) (h 0) i) 1433 []) : J X G 4 kc ks (wC G a x ++ wM G h y) (lvL b (a 0) (h 0) i) 259 [] := by
  obtain ⟨R, x', y', f1, l1, f2, l2, ⟨q1, q2, q3, q4⟩, hC, hM, r⟩ := hp
  refine J_aload_n E dL_law_259 rfl 2 rfl ?_
  refine J_arg E S 1 (by omega) (by decide) dL_law_260 dL_law_261 dL_law_262 dL_law_263 dL_law_264 ?_
  refine J_arg E S 2 (by omega) (by decide) dL_law_265 dL_law_266 dL_law_267 dL_law_268 dL_law_269 ?_
  refine J_callVi E (As := [.int (xs (i + 1)), .int (xs (i + 2))]) (rest := []) (ci := 4) (q0 := 0) [] (wM G h y) hC cl_L_18 yo_X5_of dL_law_270 rfl rfl rfl (by omega) (by omega) rfl (Nat.le_of_ble_eq_true rfl) rfl hr (fun v w1 e => ?_)
  obtain ⟨e1, x1, rfl, sx⟩ := e
  subst e1
  refine J_w (ws' := wC G a x1 ++ wM G h y) rfl ?_
  refine J_aload_n E dL_law_273 rfl 1 rfl ?_
  refine J_arg E S 1 (by omega) (by decide) dL_law_274 dL_law_275 dL_law_276 dL_law_277 dL_law_278 ?_
  refine J_arg E S 2 (by omega) (by decide) dL_law_279 dL_law_280 dL_law_281 dL_law_282 dL_law_283 ?_
  refine J_callVi E (As := [.int (xs (i + 1)), .int (xs (i + 2))]) (rest := [.int v]) (ci := 5) (q0 := 0) (wC G a x1) [] hM cl_L_22 yo_X6_of dL_law_284 rfl rfl rfl (by omega) (by omega) rfl (Nat.le_of_ble_eq_true rfl) (by rw [List.append_nil]) hr (fun u w2 e => ?_)
  obtain ⟨e2, y1, rfl, sy⟩ := e
  subst e2
  refine J_w (ws' := wC G a x1 ++ wM G h y1) (by rw [List.append_nil]) ?_
  exact J_icmp_eq E (tgt := 1433) dL_law_287 (by decide) (fun _ => K x1 y1 (r.sh sx sy)) (fun z => absurd rfl z)
theorem w_rain (E : JE X l G cL_law RL 4 13 484) (S : scr X b L xs) (hi : i + 5 < L) (hr : kc ≤ X.1.2.2.2.1.cells ∧ ks ≤ X.1.2.2.2.1.slots) (hp : PairI l G a h yX5_rain cX5_rain 3 yX6_rain cX6_rain 2 [.int (xs (i + 1))] k x y) (K : ∀ x' y', Rel (k + 1) x' y' → J X G 4 kc ks (wC G a x' ++ wM G h y') (lvL b (a 0) (h 0) i) 1433 []) : J X G 4 kc ks (wC G a x ++ wM G h y) (lvL b (a 0) (h 0) i) 292 [] := by
  obtain ⟨R, x', y', f1, l1, f2, l2, ⟨q1, q2, q3, q4⟩, hC, hM, r⟩ := hp
  refine J_aload_n E dL_law_292 rfl 2 rfl ?_
  refine J_arg E S 1 (by omega) (by decide) dL_law_293 dL_law_294 dL_law_295 dL_law_296 dL_law_297 ?_
  refine J_callVi E (As := [.int (xs (i + 1))]) (rest := []) (ci := 4) (q0 := 0) [] (wM G h y) hC cl_L_23 yo_X5_rain dL_law_298 rfl rfl rfl (by omega) (by omega) rfl (Nat.le_of_ble_eq_true rfl) rfl hr (fun v w1 e => ?_)
  obtain ⟨e1, x1, rfl, sx⟩ := e
  subst e1
  refine J_w (ws' := wC G a x1 ++ wM G h y) rfl ?_
  refine J_aload_n E dL_law_301 rfl 1 rfl ?_
  refine J_arg E S 1 (by omega) (by decide) dL_law_302 dL_law_303 dL_law_304 dL_law_305 dL_law_306 ?_
  refine J_callVi E (As := [.int (xs (i + 1))]) (rest := [.int v]) (ci := 5) (q0 := 0) (wC G a x1) [] hM cl_L_27 yo_X6_rain dL_law_307 rfl rfl rfl (by omega) (by omega) rfl (Nat.le_of_ble_eq_true rfl) (by rw [List.append_nil]) hr (fun u w2 e => ?_)
  obtain ⟨e2, y1, rfl, sy⟩ := e
  subst e2
  refine J_w (ws' := wC G a x1 ++ wM G h y1) (by rw [List.append_nil]) ?_
  exact J_icmp_eq E (tgt := 1433) dL_law_310 (by decide) (fun _ => K x1 y1 (r.sh sx sy)) (fun z => absurd rfl z)
theorem w_spouts (E : JE X l G cL_law RL 4 13 484) (S : scr X b L xs) (hi : i + 5 < L) (hr : kc ≤ X.1.2.2.2.1.cells ∧ ks ≤ X.1.2.2.2.1.slots) (hp : PairI l G a h yX5_spouts cX5_spouts 4 yX6_spouts cX6_spouts 4 [.int (xs (i + 1))] k x y) (K : ∀ x' y', Rel (k + 1) x' y' → J X G 4 kc ks (wC G a x' ++ wM G h y') (lvL b (a 0) (h 0) i) 1433 []) : J X G 4 kc ks (wC G a x ++ wM G h y) (lvL b (a 0) (h 0) i) 315 [] := by
  obtain ⟨R, x', y', f1, l1, f2, l2, ⟨q1, q2, q3, q4⟩, hC, hM, r⟩ := hp
  refine J_aload_n E dL_law_315 rfl 2 rfl ?_
  refine J_arg E S 1 (by omega) (by decide) dL_law_316 dL_law_317 dL_law_318 dL_law_319 dL_law_320 ?_
  refine J_callVi E (As := [.int (xs (i + 1))]) (rest := []) (ci := 4) (q0 := 0) [] (wM G h y) hC cl_L_28 yo_X5_spouts dL_law_321 rfl rfl rfl (by omega) (by omega) rfl (Nat.le_of_ble_eq_true rfl) rfl hr (fun v w1 e => ?_)
  obtain ⟨e1, x1, rfl, sx⟩ := e
  subst e1
  refine J_w (ws' := wC G a x1 ++ wM G h y) rfl ?_
  refine J_aload_n E dL_law_324 rfl 1 rfl ?_
  refine J_arg E S 1 (by omega) (by decide) dL_law_325 dL_law_326 dL_law_327 dL_law_328 dL_law_329 ?_
  refine J_callVi E (As := [.int (xs (i + 1))]) (rest := [.int v]) (ci := 5) (q0 := 0) (wC G a x1) [] hM cl_L_31 yo_X6_spouts dL_law_330 rfl rfl rfl (by omega) (by omega) rfl (Nat.le_of_ble_eq_true rfl) (by rw [List.append_nil]) hr (fun u w2 e => ?_)
  obtain ⟨e2, y1, rfl, sy⟩ := e
  subst e2
  refine J_w (ws' := wC G a x1 ++ wM G h y1) (by rw [List.append_nil]) ?_
  exact J_icmp_eq E (tgt := 1433) dL_law_333 (by decide) (fun _ => K x1 y1 (r.sh sx sy)) (fun z => absurd rfl z)
theorem w_pour (E : JE X l G cL_law RL 4 13 484) (S : scr X b L xs) (hi : i + 5 < L) (hr : kc ≤ X.1.2.2.2.1.cells ∧ ks ≤ X.1.2.2.2.1.slots) (hp : PairI l G a h yX5_pour cX5_pour 3 yX6_pour cX6_pour 3 [.int (xs (i + 1)), .int (xs (i + 2))] k x y) (K : ∀ x' y', Rel (k + 1) x' y' → J X G 4 kc ks (wC G a x' ++ wM G h y') (lvL b (a 0) (h 0) i) 1433 []) : J X G 4 kc ks (wC G a x ++ wM G h y) (lvL b (a 0) (h 0) i) 338 [] := by
  obtain ⟨R, x', y', f1, l1, f2, l2, ⟨q1, q2, q3, q4⟩, hC, hM, r⟩ := hp
  refine J_aload_n E dL_law_338 rfl 2 rfl ?_
  refine J_arg E S 1 (by omega) (by decide) dL_law_339 dL_law_340 dL_law_341 dL_law_342 dL_law_343 ?_
  refine J_arg E S 2 (by omega) (by decide) dL_law_344 dL_law_345 dL_law_346 dL_law_347 dL_law_348 ?_
  refine J_callVi E (As := [.int (xs (i + 1)), .int (xs (i + 2))]) (rest := []) (ci := 4) (q0 := 0) [] (wM G h y) hC cl_L_32 yo_X5_pour dL_law_349 rfl rfl rfl (by omega) (by omega) rfl (Nat.le_of_ble_eq_true rfl) rfl hr (fun v w1 e => ?_)
  obtain ⟨e1, x1, rfl, sx⟩ := e
  subst e1
  refine J_w (ws' := wC G a x1 ++ wM G h y) rfl ?_
  refine J_aload_n E dL_law_352 rfl 1 rfl ?_
  refine J_arg E S 1 (by omega) (by decide) dL_law_353 dL_law_354 dL_law_355 dL_law_356 dL_law_357 ?_
  refine J_arg E S 2 (by omega) (by decide) dL_law_358 dL_law_359 dL_law_360 dL_law_361 dL_law_362 ?_
  refine J_callVi E (As := [.int (xs (i + 1)), .int (xs (i + 2))]) (rest := [.int v]) (ci := 5) (q0 := 0) (wC G a x1) [] hM cl_L_35 yo_X6_pour dL_law_363 rfl rfl rfl (by omega) (by omega) rfl (Nat.le_of_ble_eq_true rfl) (by rw [List.append_nil]) hr (fun u w2 e => ?_)
  obtain ⟨e2, y1, rfl, sy⟩ := e
  subst e2
  refine J_w (ws' := wC G a x1 ++ wM G h y1) (by rw [List.append_nil]) ?_
  exact J_icmp_eq E (tgt := 1433) dL_law_366 (by decide) (fun _ => K x1 y1 (r.sh sx sy)) (fun z => absurd rfl z)
theorem w_go (E : JE X l G cL_law RL 4 13 484) (S : scr X b L xs) (hi : i + 5 < L) (hr : kc ≤ X.1.2.2.2.1.cells ∧ ks ≤ X.1.2.2.2.1.slots) (hp : PairI l G a h yX5_go cX5_go 2 yX6_go cX6_go 2 [.int (xs (i + 1))] k x y) (K : ∀ x' y', Rel (k + 1) x' y' → J X G 4 kc ks (wC G a x' ++ wM G h y') (lvL b (a 0) (h 0) i) 1433 []) : J X G 4 kc ks (wC G a x ++ wM G h y) (lvL b (a 0) (h 0) i) 371 [] := by
  obtain ⟨R, x', y', f1, l1, f2, l2, ⟨q1, q2, q3, q4⟩, hC, hM, r⟩ := hp
  refine J_aload_n E dL_law_371 rfl 2 rfl ?_
  refine J_arg E S 1 (by omega) (by decide) dL_law_372 dL_law_373 dL_law_374 dL_law_375 dL_law_376 ?_
  refine J_callVi E (As := [.int (xs (i + 1))]) (rest := []) (ci := 4) (q0 := 0) [] (wM G h y) hC cl_L_36 yo_X5_go dL_law_377 rfl rfl rfl (by omega) (by omega) rfl (Nat.le_of_ble_eq_true rfl) rfl hr (fun v w1 e => ?_)
  obtain ⟨e1, x1, rfl, sx⟩ := e
  subst e1
  refine J_w (ws' := wC G a x1 ++ wM G h y) rfl ?_
  refine J_aload_n E dL_law_380 rfl 1 rfl ?_
  refine J_arg E S 1 (by omega) (by decide) dL_law_381 dL_law_382 dL_law_383 dL_law_384 dL_law_385 ?_
  refine J_callVi E (As := [.int (xs (i + 1))]) (rest := [.int v]) (ci := 5) (q0 := 0) (wC G a x1) [] hM cl_L_39 yo_X6_go dL_law_386 rfl rfl rfl (by omega) (by omega) rfl (Nat.le_of_ble_eq_true rfl) (by rw [List.append_nil]) hr (fun u w2 e => ?_)
  obtain ⟨e2, y1, rfl, sy⟩ := e
  subst e2
  refine J_w (ws' := wC G a x1 ++ wM G h y1) (by rw [List.append_nil]) ?_
  exact J_icmp_eq E (tgt := 1433) dL_law_389 (by decide) (fun _ => K x1 y1 (r.sh sx sy)) (fun z => absurd rfl z)
theorem w_now (E : JE X l G cL_law RL 4 13 484) (S : scr X b L xs) (hi : i + 5 < L) (hr : kc ≤ X.1.2.2.2.1.cells ∧ ks ≤ X.1.2.2.2.1.slots) (hp : PairI l G a h yX5_now cX5_now 2 yX6_now cX6_now 2 [.int (xs (i + 1))] k x y) (K : ∀ x' y', Rel (k + 1) x' y' → J X G 4 kc ks (wC G a x' ++ wM G h y') (lvL b (a 0) (h 0) i) 1433 []) : J X G 4 kc ks (wC G a x ++ wM G h y) (lvL b (a 0) (h 0) i) 394 [] := by
  obtain ⟨R, x', y', f1, l1, f2, l2, ⟨q1, q2, q3, q4⟩, hC, hM, r⟩ := hp
  refine J_aload_n E dL_law_394 rfl 2 rfl ?_
  refine J_arg E S 1 (by omega) (by decide) dL_law_395 dL_law_396 dL_law_397 dL_law_398 dL_law_399 ?_
  refine J_callVi E (As := [.int (xs (i + 1))]) (rest := []) (ci := 4) (q0 := 0) [] (wM G h y) hC cl_L_40 yo_X5_now dL_law_400 rfl rfl rfl (by omega) (by omega) rfl (Nat.le_of_ble_eq_true rfl) rfl hr (fun v w1 e => ?_)
  obtain ⟨e1, x1, rfl, sx⟩ := e
  subst e1
  refine J_w (ws' := wC G a x1 ++ wM G h y) rfl ?_
  refine J_aload_n E dL_law_403 rfl 1 rfl ?_
  refine J_arg E S 1 (by omega) (by decide) dL_law_404 dL_law_405 dL_law_406 dL_law_407 dL_law_408 ?_
  refine J_callVi E (As := [.int (xs (i + 1))]) (rest := [.int v]) (ci := 5) (q0 := 0) (wC G a x1) [] hM cl_L_43 yo_X6_now dL_law_409 rfl rfl rfl (by omega) (by omega) rfl (Nat.le_of_ble_eq_true rfl) (by rw [List.append_nil]) hr (fun u w2 e => ?_)
  obtain ⟨e2, y1, rfl, sy⟩ := e
  subst e2
  refine J_w (ws' := wC G a x1 ++ wM G h y1) (by rw [List.append_nil]) ?_
  exact J_icmp_eq E (tgt := 1433) dL_law_412 (by decide) (fun _ => K x1 y1 (r.sh sx sy)) (fun z => absurd rfl z)
theorem w_ahead (E : JE X l G cL_law RL 4 13 484) (S : scr X b L xs) (hi : i + 5 < L) (hr : kc ≤ X.1.2.2.2.1.cells ∧ ks ≤ X.1.2.2.2.1.slots) (hp : PairI l G a h yX5_ahead cX5_ahead 4 yX6_ahead cX6_ahead 5 [.int (xs (i + 1)), .int (xs (i + 2)), .int (xs (i + 3))] k x y) (K : ∀ x' y', Rel (k + 1) x' y' → J X G 4 kc ks (wC G a x' ++ wM G h y') (lvL b (a 0) (h 0) i) 1433 []) : J X G 4 kc ks (wC G a x ++ wM G h y) (lvL b (a 0) (h 0) i) 417 [] := by
  obtain ⟨R, x', y', f1, l1, f2, l2, ⟨q1, q2, q3, q4⟩, hC, hM, r⟩ := hp
  refine J_aload_n E dL_law_417 rfl 2 rfl ?_
  refine J_arg E S 1 (by omega) (by decide) dL_law_418 dL_law_419 dL_law_420 dL_law_421 dL_law_422 ?_
  refine J_arg E S 2 (by omega) (by decide) dL_law_423 dL_law_424 dL_law_425 dL_law_426 dL_law_427 ?_
  refine J_arg E S 3 (by omega) (by decide) dL_law_428 dL_law_429 dL_law_430 dL_law_431 dL_law_432 ?_
  refine J_callVi E (As := [.int (xs (i + 1)), .int (xs (i + 2)), .int (xs (i + 3))]) (rest := []) (ci := 4) (q0 := 0) [] (wM G h y) hC cl_L_44 yo_X5_ahead dL_law_433 rfl rfl rfl (by omega) (by omega) rfl (Nat.le_of_ble_eq_true rfl) rfl hr (fun v w1 e => ?_)
  obtain ⟨e1, x1, rfl, sx⟩ := e
  subst e1
  refine J_w (ws' := wC G a x1 ++ wM G h y) rfl ?_
  refine J_aload_n E dL_law_436 rfl 1 rfl ?_
  refine J_arg E S 1 (by omega) (by decide) dL_law_437 dL_law_438 dL_law_439 dL_law_440 dL_law_441 ?_
  refine J_arg E S 2 (by omega) (by decide) dL_law_442 dL_law_443 dL_law_444 dL_law_445 dL_law_446 ?_
  refine J_arg E S 3 (by omega) (by decide) dL_law_447 dL_law_448 dL_law_449 dL_law_450 dL_law_451 ?_
  refine J_callVi E (As := [.int (xs (i + 1)), .int (xs (i + 2)), .int (xs (i + 3))]) (rest := [.int v]) (ci := 5) (q0 := 0) (wC G a x1) [] hM cl_L_47 yo_X6_ahead dL_law_452 rfl rfl rfl (by omega) (by omega) rfl (Nat.le_of_ble_eq_true rfl) (by rw [List.append_nil]) hr (fun u w2 e => ?_)
  obtain ⟨e2, y1, rfl, sy⟩ := e
  subst e2
  refine J_w (ws' := wC G a x1 ++ wM G h y1) (by rw [List.append_nil]) ?_
  exact J_icmp_eq E (tgt := 1433) dL_law_455 (by decide) (fun _ => K x1 y1 (r.sh sx sy)) (fun z => absurd rfl z)
theorem w_alley (E : JE X l G cL_law RL 4 13 484) (S : scr X b L xs) (hi : i + 5 < L) (hr : kc ≤ X.1.2.2.2.1.cells ∧ ks ≤ X.1.2.2.2.1.slots) (hp : PairI l G a h yX5_alley cX5_alley 2 yX6_alley cX6_alley 2 [.int (xs (i + 1))] k x y) (K : ∀ x' y', Rel (k + 1) x' y' → J X G 4 kc ks (wC G a x' ++ wM G h y') (lvL b (a 0) (h 0) i) 1433 []) : J X G 4 kc ks (wC G a x ++ wM G h y) (lvL b (a 0) (h 0) i) 460 [] := by
  obtain ⟨R, x', y', f1, l1, f2, l2, ⟨q1, q2, q3, q4⟩, hC, hM, r⟩ := hp
  refine J_aload_n E dL_law_460 rfl 2 rfl ?_
  refine J_arg E S 1 (by omega) (by decide) dL_law_461 dL_law_462 dL_law_463 dL_law_464 dL_law_465 ?_
  refine J_callVi E (As := [.int (xs (i + 1))]) (rest := []) (ci := 4) (q0 := 0) [] (wM G h y) hC cl_L_48 yo_X5_alley dL_law_466 rfl rfl rfl (by omega) (by omega) rfl (Nat.le_of_ble_eq_true rfl) rfl hr (fun v w1 e => ?_)
  obtain ⟨e1, x1, rfl, sx⟩ := e
  subst e1
  refine J_w (ws' := wC G a x1 ++ wM G h y) rfl ?_
  refine J_aload_n E dL_law_469 rfl 1 rfl ?_
  refine J_arg E S 1 (by omega) (by decide) dL_law_470 dL_law_471 dL_law_472 dL_law_473 dL_law_474 ?_
  refine J_callVi E (As := [.int (xs (i + 1))]) (rest := [.int v]) (ci := 5) (q0 := 0) (wC G a x1) [] hM cl_L_51 yo_X6_alley dL_law_475 rfl rfl rfl (by omega) (by omega) rfl (Nat.le_of_ble_eq_true rfl) (by rw [List.append_nil]) hr (fun u w2 e => ?_)
  obtain ⟨e2, y1, rfl, sy⟩ := e
  subst e2
  refine J_w (ws' := wC G a x1 ++ wM G h y1) (by rw [List.append_nil]) ?_
  exact J_icmp_eq E (tgt := 1433) dL_law_478 (by decide) (fun _ => K x1 y1 (r.sh sx sy)) (fun z => absurd rfl z)
theorem w_dry (E : JE X l G cL_law RL 4 13 484) (S : scr X b L xs) (hi : i + 5 < L) (hr : kc ≤ X.1.2.2.2.1.cells ∧ ks ≤ X.1.2.2.2.1.slots) (hp : PairI l G a h yX5_dry cX5_dry 2 yX6_dry cX6_dry 3 [.int (xs (i + 1))] k x y) (K : ∀ x' y', Rel (k + 1) x' y' → J X G 4 kc ks (wC G a x' ++ wM G h y') (lvL b (a 0) (h 0) i) 1433 []) : J X G 4 kc ks (wC G a x ++ wM G h y) (lvL b (a 0) (h 0) i) 483 [] := by
  obtain ⟨R, x', y', f1, l1, f2, l2, ⟨q1, q2, q3, q4⟩, hC, hM, r⟩ := hp
  refine J_aload_n E dL_law_483 rfl 2 rfl ?_
  refine J_arg E S 1 (by omega) (by decide) dL_law_484 dL_law_485 dL_law_486 dL_law_487 dL_law_488 ?_
  refine J_callVi E (As := [.int (xs (i + 1))]) (rest := []) (ci := 4) (q0 := 0) [] (wM G h y) hC cl_L_52 yo_X5_dry dL_law_489 rfl rfl rfl (by omega) (by omega) rfl (Nat.le_of_ble_eq_true rfl) rfl hr (fun v w1 e => ?_)
  obtain ⟨e1, x1, rfl, sx⟩ := e
  subst e1
  refine J_w (ws' := wC G a x1 ++ wM G h y) rfl ?_
  refine J_aload_n E dL_law_492 rfl 1 rfl ?_
  refine J_arg E S 1 (by omega) (by decide) dL_law_493 dL_law_494 dL_law_495 dL_law_496 dL_law_497 ?_
  refine J_callVi E (As := [.int (xs (i + 1))]) (rest := [.int v]) (ci := 5) (q0 := 0) (wC G a x1) [] hM cl_L_55 yo_X6_dry dL_law_498 rfl rfl rfl (by omega) (by omega) rfl (Nat.le_of_ble_eq_true rfl) (by rw [List.append_nil]) hr (fun u w2 e => ?_)
  obtain ⟨e2, y1, rfl, sy⟩ := e
  subst e2
  refine J_w (ws' := wC G a x1 ++ wM G h y1) (by rw [List.append_nil]) ?_
  exact J_icmp_eq E (tgt := 1433) dL_law_501 (by decide) (fun _ => K x1 y1 (r.sh sx sy)) (fun z => absurd rfl z)
theorem w_when (E : JE X l G cL_law RL 4 13 484) (S : scr X b L xs) (hi : i + 5 < L) (hr : kc ≤ X.1.2.2.2.1.cells ∧ ks ≤ X.1.2.2.2.1.slots) (hp : PairI l G a h yX5_when cX5_when 4 yX6_when cX6_when 4 [.int (xs (i + 1)), .int (xs (i + 2))] k x y) (K : ∀ x' y', Rel (k + 1) x' y' → J X G 4 kc ks (wC G a x' ++ wM G h y') (lvL b (a 0) (h 0) i) 1433 []) : J X G 4 kc ks (wC G a x ++ wM G h y) (lvL b (a 0) (h 0) i) 506 [] := by
  obtain ⟨R, x', y', f1, l1, f2, l2, ⟨q1, q2, q3, q4⟩, hC, hM, r⟩ := hp
  refine J_aload_n E dL_law_506 rfl 2 rfl ?_
  refine J_arg E S 1 (by omega) (by decide) dL_law_507 dL_law_508 dL_law_509 dL_law_510 dL_law_511 ?_
  refine J_arg E S 2 (by omega) (by decide) dL_law_512 dL_law_513 dL_law_514 dL_law_515 dL_law_516 ?_
  refine J_callVi E (As := [.int (xs (i + 1)), .int (xs (i + 2))]) (rest := []) (ci := 4) (q0 := 0) [] (wM G h y) hC cl_L_56 yo_X5_when dL_law_517 rfl rfl rfl (by omega) (by omega) rfl (Nat.le_of_ble_eq_true rfl) rfl hr (fun v w1 e => ?_)
  obtain ⟨e1, x1, rfl, sx⟩ := e
  subst e1
  refine J_w (ws' := wC G a x1 ++ wM G h y) rfl ?_
  refine J_aload_n E dL_law_520 rfl 1 rfl ?_
  refine J_arg E S 1 (by omega) (by decide) dL_law_521 dL_law_522 dL_law_523 dL_law_524 dL_law_525 ?_
  refine J_arg E S 2 (by omega) (by decide) dL_law_526 dL_law_527 dL_law_528 dL_law_529 dL_law_530 ?_
  refine J_callVi E (As := [.int (xs (i + 1)), .int (xs (i + 2))]) (rest := [.int v]) (ci := 5) (q0 := 0) (wC G a x1) [] hM cl_L_59 yo_X6_when dL_law_531 rfl rfl rfl (by omega) (by omega) rfl (Nat.le_of_ble_eq_true rfl) (by rw [List.append_nil]) hr (fun u w2 e => ?_)
  obtain ⟨e2, y1, rfl, sy⟩ := e
  subst e2
  refine J_w (ws' := wC G a x1 ++ wM G h y1) (by rw [List.append_nil]) ?_
  exact J_icmp_eq E (tgt := 1433) dL_law_534 (by decide) (fun _ => K x1 y1 (r.sh sx sy)) (fun z => absurd rfl z)
theorem w_settles (E : JE X l G cL_law RL 4 13 484) (S : scr X b L xs) (hi : i + 5 < L) (hr : kc ≤ X.1.2.2.2.1.cells ∧ ks ≤ X.1.2.2.2.1.slots) (hp : PairI l G a h yX5_settles cX5_settles 2 yX6_settles cX6_settles 2 [] k x y) (K : ∀ x' y', Rel (k + 1) x' y' → J X G 4 kc ks (wC G a x' ++ wM G h y') (lvL b (a 0) (h 0) i) 1433 []) : J X G 4 kc ks (wC G a x ++ wM G h y) (lvL b (a 0) (h 0) i) 539 [] := by
  obtain ⟨R, x', y', f1, l1, f2, l2, ⟨q1, q2, q3, q4⟩, hC, hM, r⟩ := hp
  refine J_aload_n E dL_law_539 rfl 2 rfl ?_
  refine J_callVi E (As := []) (rest := []) (ci := 4) (q0 := 0) [] (wM G h y) hC cl_L_60 yo_X5_settles dL_law_540 rfl rfl rfl (by omega) (by omega) rfl (Nat.le_of_ble_eq_true rfl) rfl hr (fun v w1 e => ?_)
  obtain ⟨e1, x1, rfl, sx⟩ := e
  subst e1
  refine J_w (ws' := wC G a x1 ++ wM G h y) rfl ?_
  refine J_aload_n E dL_law_543 rfl 1 rfl ?_
  refine J_callVi E (As := []) (rest := [.int v]) (ci := 5) (q0 := 0) (wC G a x1) [] hM cl_L_64 yo_X6_settles dL_law_544 rfl rfl rfl (by omega) (by omega) rfl (Nat.le_of_ble_eq_true rfl) (by rw [List.append_nil]) hr (fun u w2 e => ?_)
  obtain ⟨e2, y1, rfl, sy⟩ := e
  subst e2
  refine J_w (ws' := wC G a x1 ++ wM G h y1) (by rw [List.append_nil]) ?_
  exact J_icmp_eq E (tgt := 1433) dL_law_547 (by decide) (fun _ => K x1 y1 (r.sh sx sy)) (fun z => absurd rfl z)
theorem w_below (E : JE X l G cL_law RL 4 13 484) (S : scr X b L xs) (hi : i + 5 < L) (hr : kc ≤ X.1.2.2.2.1.cells ∧ ks ≤ X.1.2.2.2.1.slots) (hp : PairI l G a h yX5_below cX5_below 5 yX6_below cX6_below 4 [.int (xs (i + 1))] k x y) (K : ∀ x' y', Rel (k + 1) x' y' → J X G 4 kc ks (wC G a x' ++ wM G h y') (lvL b (a 0) (h 0) i) 1433 []) : J X G 4 kc ks (wC G a x ++ wM G h y) (lvL b (a 0) (h 0) i) 552 [] := by
  obtain ⟨R, x', y', f1, l1, f2, l2, ⟨q1, q2, q3, q4⟩, hC, hM, r⟩ := hp
  refine J_aload_n E dL_law_552 rfl 2 rfl ?_
  refine J_arg E S 1 (by omega) (by decide) dL_law_553 dL_law_554 dL_law_555 dL_law_556 dL_law_557 ?_
  refine J_callVi E (As := [.int (xs (i + 1))]) (rest := []) (ci := 4) (q0 := 0) [] (wM G h y) hC cl_L_65 yo_X5_below dL_law_558 rfl rfl rfl (by omega) (by omega) rfl (Nat.le_of_ble_eq_true rfl) rfl hr (fun v w1 e => ?_)
  obtain ⟨e1, x1, rfl, sx⟩ := e
  subst e1
  refine J_w (ws' := wC G a x1 ++ wM G h y) rfl ?_
  refine J_aload_n E dL_law_561 rfl 1 rfl ?_
  refine J_arg E S 1 (by omega) (by decide) dL_law_562 dL_law_563 dL_law_564 dL_law_565 dL_law_566 ?_
  refine J_callVi E (As := [.int (xs (i + 1))]) (rest := [.int v]) (ci := 5) (q0 := 0) (wC G a x1) [] hM cl_L_68 yo_X6_below dL_law_567 rfl rfl rfl (by omega) (by omega) rfl (Nat.le_of_ble_eq_true rfl) (by rw [List.append_nil]) hr (fun u w2 e => ?_)
  obtain ⟨e2, y1, rfl, sy⟩ := e
  subst e2
  refine J_w (ws' := wC G a x1 ++ wM G h y1) (by rw [List.append_nil]) ?_
  exact J_icmp_eq E (tgt := 1433) dL_law_570 (by decide) (fun _ => K x1 y1 (r.sh sx sy)) (fun z => absurd rfl z)
theorem w_rainFor (E : JE X l G cL_law RL 4 13 484) (S : scr X b L xs) (hi : i + 5 < L) (hr : kc ≤ X.1.2.2.2.1.cells ∧ ks ≤ X.1.2.2.2.1.slots) (hp : PairI l G a h yX5_rainFor cX5_rainFor 3 yX6_rainFor cX6_rainFor 4 [.int (xs (i + 1)), .int (xs (i + 2))] k x y) (K : ∀ x' y', Rel (k + 1) x' y' → J X G 4 kc ks (wC G a x' ++ wM G h y') (lvL b (a 0) (h 0) i) 1433 []) : J X G 4 kc ks (wC G a x ++ wM G h y) (lvL b (a 0) (h 0) i) 575 [] := by
  obtain ⟨R, x', y', f1, l1, f2, l2, ⟨q1, q2, q3, q4⟩, hC, hM, r⟩ := hp
  refine J_aload_n E dL_law_575 rfl 2 rfl ?_
  refine J_arg E S 1 (by omega) (by decide) dL_law_576 dL_law_577 dL_law_578 dL_law_579 dL_law_580 ?_
  refine J_arg E S 2 (by omega) (by decide) dL_law_581 dL_law_582 dL_law_583 dL_law_584 dL_law_585 ?_
  refine J_callVi E (As := [.int (xs (i + 1)), .int (xs (i + 2))]) (rest := []) (ci := 4) (q0 := 0) [] (wM G h y) hC cl_L_69 yo_X5_rainFor dL_law_586 rfl rfl rfl (by omega) (by omega) rfl (Nat.le_of_ble_eq_true rfl) rfl hr (fun v w1 e => ?_)
  obtain ⟨e1, x1, rfl, sx⟩ := e
  subst e1
  refine J_w (ws' := wC G a x1 ++ wM G h y) rfl ?_
  refine J_aload_n E dL_law_589 rfl 1 rfl ?_
  refine J_arg E S 1 (by omega) (by decide) dL_law_590 dL_law_591 dL_law_592 dL_law_593 dL_law_594 ?_
  refine J_arg E S 2 (by omega) (by decide) dL_law_595 dL_law_596 dL_law_597 dL_law_598 dL_law_599 ?_
  refine J_callVi E (As := [.int (xs (i + 1)), .int (xs (i + 2))]) (rest := [.int v]) (ci := 5) (q0 := 0) (wC G a x1) [] hM cl_L_72 yo_X6_rainFor dL_law_600 rfl rfl rfl (by omega) (by omega) rfl (Nat.le_of_ble_eq_true rfl) (by rw [List.append_nil]) hr (fun u w2 e => ?_)
  obtain ⟨e2, y1, rfl, sy⟩ := e
  subst e2
  refine J_w (ws' := wC G a x1 ++ wM G h y1) (by rw [List.append_nil]) ?_
  exact J_icmp_eq E (tgt := 1433) dL_law_603 (by decide) (fun _ => K x1 y1 (r.sh sx sy)) (fun z => absurd rfl z)
end LAWC
