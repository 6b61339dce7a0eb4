/-! The cases of the law (written by wip/whole/jlaw.py). -/
theorem lc_feed {X : Cxt} {b0 L : Nat} {sc : Nat → Int32} {cs : Nat × Nat} {h : Hp} {I : Nat} {Inv Jnv : Hp → Prop} (G : GL X b0 L sc) (hL : I + 6 ≤ L) (hL2 : L ≤ 3072) (hcs : cs.1 ≤ 600000 ∧ cs.2 ≤ 7302250) (hA : Agree Inv Jnv D_X_feed D_M_feed 5 (fun _ => True)) (hi : Inv h) (kk : ∀ h2, Jnv h2 → LW X b0 cs (ii I) 1263 [] h2) : LW X b0 cs (ii I) 196 [] h := by
  obtain ⟨v, h1, h2, e1, e2, hI⟩ := hA [sc (I + 1), sc (I + 2), sc (I + 3), sc (I + 4), sc (I + 5)] rfl trivial h hi
  refine l_x G d_law_196 ?_
  refine l_arg (n := 1) G rfl hL hL2 rfl (by decide) d_law_197 d_law_198 d_law_199 d_law_200 d_law_201 ?_
  refine l_arg (n := 2) G rfl hL hL2 rfl (by decide) d_law_202 d_law_203 d_law_204 d_law_205 d_law_206 ?_
  refine l_arg (n := 3) G rfl hL hL2 rfl (by decide) d_law_207 d_law_208 d_law_209 d_law_210 d_law_211 ?_
  refine l_arg (n := 4) G rfl hL hL2 rfl (by decide) d_law_212 d_law_213 d_law_214 d_law_215 d_law_216 ?_
  refine l_arg (n := 5) G rfl hL hL2 rfl (by decide) d_law_217 d_law_218 d_law_219 d_law_220 d_law_221 ?_
  refine l_call (vs := [sc (I + 1), sc (I + 2), sc (I + 3), sc (I + 4), sc (I + 5)]) (r := 0) (st := []) G ok_X_feed mf_X_feed ⟨tw_600, tw_601⟩ rfl tw_599 d_law_222 (by decide) hcs rfl e1 (by simp [Value.category]) ?_
  refine l_m G d_law_225 ?_
  refine l_arg (n := 1) G rfl hL hL2 rfl (by decide) d_law_226 d_law_227 d_law_228 d_law_229 d_law_230 ?_
  refine l_arg (n := 2) G rfl hL hL2 rfl (by decide) d_law_231 d_law_232 d_law_233 d_law_234 d_law_235 ?_
  refine l_arg (n := 3) G rfl hL hL2 rfl (by decide) d_law_236 d_law_237 d_law_238 d_law_239 d_law_240 ?_
  refine l_arg (n := 4) G rfl hL hL2 rfl (by decide) d_law_241 d_law_242 d_law_243 d_law_244 d_law_245 ?_
  refine l_arg (n := 5) G rfl hL hL2 rfl (by decide) d_law_246 d_law_247 d_law_248 d_law_249 d_law_250 ?_
  refine l_call (vs := [sc (I + 1), sc (I + 2), sc (I + 3), sc (I + 4), sc (I + 5)]) (r := 111) (st := [.int v]) G ok_M_feed mf_M_feed ⟨tw_1581, tw_1582⟩ rfl tw_1580 d_law_251 (by decide) hcs rfl e2 (by simp [Value.category]) ?_
  exact l_eq G d_law_254 rfl (kk h2 hI)
theorem lc_back {X : Cxt} {b0 L : Nat} {sc : Nat → Int32} {cs : Nat × Nat} {h : Hp} {I : Nat} {Inv Jnv : Hp → Prop} (G : GL X b0 L sc) (hL : I + 6 ≤ L) (hL2 : L ≤ 3072) (hcs : cs.1 ≤ 600000 ∧ cs.2 ≤ 7302250) (hA : Agree Inv Jnv D_X_back D_M_back 1 (fun _ => True)) (hi : Inv h) (kk : ∀ h2, Jnv h2 → LW X b0 cs (ii I) 1263 [] h2) : LW X b0 cs (ii I) 259 [] h := by
  obtain ⟨v, h1, h2, e1, e2, hI⟩ := hA [sc (I + 1)] rfl trivial h hi
  refine l_x G d_law_259 ?_
  refine l_arg (n := 1) G rfl hL hL2 rfl (by decide) d_law_260 d_law_261 d_law_262 d_law_263 d_law_264 ?_
  refine l_call (vs := [sc (I + 1)]) (r := 0) (st := []) G ok_X_back mf_X_back ⟨tw_608, tw_609⟩ rfl tw_607 d_law_265 (by decide) hcs rfl e1 (by simp [Value.category]) ?_
  refine l_m G d_law_268 ?_
  refine l_arg (n := 1) G rfl hL hL2 rfl (by decide) d_law_269 d_law_270 d_law_271 d_law_272 d_law_273 ?_
  refine l_call (vs := [sc (I + 1)]) (r := 111) (st := [.int v]) G ok_M_back mf_M_back ⟨tw_1589, tw_1590⟩ rfl tw_1588 d_law_274 (by decide) hcs rfl e2 (by simp [Value.category]) ?_
  exact l_eq G d_law_277 rfl (kk h2 hI)
theorem lc_read {X : Cxt} {b0 L : Nat} {sc : Nat → Int32} {cs : Nat × Nat} {h : Hp} {I : Nat} {Inv Jnv : Hp → Prop} (G : GL X b0 L sc) (hL : I + 6 ≤ L) (hL2 : L ≤ 3072) (hcs : cs.1 ≤ 600000 ∧ cs.2 ≤ 7302250) (hA : Agree Inv Jnv D_X_read D_M_read 0 (fun _ => True)) (hi : Inv h) (kk : ∀ h2, Jnv h2 → LW X b0 cs (ii I) 1263 [] h2) : LW X b0 cs (ii I) 282 [] h := by
  obtain ⟨v, h1, h2, e1, e2, hI⟩ := hA [] rfl trivial h hi
  refine l_x G d_law_282 ?_
  refine l_call (vs := []) (r := 0) (st := []) G ok_X_read mf_X_read ⟨tw_612, tw_613⟩ rfl tw_611 d_law_283 (by decide) hcs rfl e1 (by simp [Value.category]) ?_
  refine l_m G d_law_286 ?_
  refine l_call (vs := []) (r := 111) (st := [.int v]) G ok_M_read mf_M_read ⟨tw_1593, tw_1594⟩ rfl tw_1592 d_law_287 (by decide) hcs rfl e2 (by simp [Value.category]) ?_
  exact l_eq G d_law_290 rfl (kk h2 hI)
theorem lc_place {X : Cxt} {b0 L : Nat} {sc : Nat → Int32} {cs : Nat × Nat} {h : Hp} {I : Nat} {Inv Jnv : Hp → Prop} (G : GL X b0 L sc) (hL : I + 6 ≤ L) (hL2 : L ≤ 3072) (hcs : cs.1 ≤ 600000 ∧ cs.2 ≤ 7302250) (hA : Agree Inv Jnv D_X_place D_M_place 0 (fun _ => True)) (hi : Inv h) (kk : ∀ h2, Jnv h2 → LW X b0 cs (ii I) 1263 [] h2) : LW X b0 cs (ii I) 295 [] h := by
  obtain ⟨v, h1, h2, e1, e2, hI⟩ := hA [] rfl trivial h hi
  refine l_x G d_law_295 ?_
  refine l_call (vs := []) (r := 0) (st := []) G ok_X_place mf_X_place ⟨tw_881, tw_882⟩ rfl tw_880 d_law_296 (by decide) hcs rfl e1 (by simp [Value.category]) ?_
  refine l_m G d_law_299 ?_
  refine l_call (vs := []) (r := 111) (st := [.int v]) G ok_M_place mf_M_place ⟨tw_1691, tw_1692⟩ rfl tw_1690 d_law_300 (by decide) hcs rfl e2 (by simp [Value.category]) ?_
  exact l_eq G d_law_303 rfl (kk h2 hI)
theorem lc_road {X : Cxt} {b0 L : Nat} {sc : Nat → Int32} {cs : Nat × Nat} {h : Hp} {I : Nat} {Inv Jnv : Hp → Prop} (G : GL X b0 L sc) (hL : I + 6 ≤ L) (hL2 : L ≤ 3072) (hcs : cs.1 ≤ 600000 ∧ cs.2 ≤ 7302250) (hA : Agree Inv Jnv D_X_road D_M_road 2 (fun _ => True)) (hi : Inv h) (kk : ∀ h2, Jnv h2 → LW X b0 cs (ii I) 1263 [] h2) : LW X b0 cs (ii I) 308 [] h := by
  obtain ⟨v, h1, h2, e1, e2, hI⟩ := hA [sc (I + 1), sc (I + 2)] rfl trivial h hi
  refine l_x G d_law_308 ?_
  refine l_arg (n := 1) G rfl hL hL2 rfl (by decide) d_law_309 d_law_310 d_law_311 d_law_312 d_law_313 ?_
  refine l_arg (n := 2) G rfl hL hL2 rfl (by decide) d_law_314 d_law_315 d_law_316 d_law_317 d_law_318 ?_
  refine l_call (vs := [sc (I + 1), sc (I + 2)]) (r := 0) (st := []) G ok_X_road mf_X_road ⟨tw_885, tw_886⟩ rfl tw_884 d_law_319 (by decide) hcs rfl e1 (by simp [Value.category]) ?_
  refine l_m G d_law_322 ?_
  refine l_arg (n := 1) G rfl hL hL2 rfl (by decide) d_law_323 d_law_324 d_law_325 d_law_326 d_law_327 ?_
  refine l_arg (n := 2) G rfl hL hL2 rfl (by decide) d_law_328 d_law_329 d_law_330 d_law_331 d_law_332 ?_
  refine l_call (vs := [sc (I + 1), sc (I + 2)]) (r := 111) (st := [.int v]) G ok_M_road mf_M_road ⟨tw_1695, tw_1696⟩ rfl tw_1694 d_law_333 (by decide) hcs rfl e2 (by simp [Value.category]) ?_
  exact l_eq G d_law_336 rfl (kk h2 hI)
theorem lc_goer {X : Cxt} {b0 L : Nat} {sc : Nat → Int32} {cs : Nat × Nat} {h : Hp} {I : Nat} {Inv Jnv : Hp → Prop} (G : GL X b0 L sc) (hL : I + 6 ≤ L) (hL2 : L ≤ 3072) (hcs : cs.1 ≤ 600000 ∧ cs.2 ≤ 7302250) (hA : Agree Inv Jnv D_X_goer D_M_goer 2 (fun _ => True)) (hi : Inv h) (kk : ∀ h2, Jnv h2 → LW X b0 cs (ii I) 1263 [] h2) : LW X b0 cs (ii I) 341 [] h := by
  obtain ⟨v, h1, h2, e1, e2, hI⟩ := hA [sc (I + 1), sc (I + 2)] rfl trivial h hi
  refine l_x G d_law_341 ?_
  refine l_arg (n := 1) G rfl hL hL2 rfl (by decide) d_law_342 d_law_343 d_law_344 d_law_345 d_law_346 ?_
  refine l_arg (n := 2) G rfl hL hL2 rfl (by decide) d_law_347 d_law_348 d_law_349 d_law_350 d_law_351 ?_
  refine l_call (vs := [sc (I + 1), sc (I + 2)]) (r := 0) (st := []) G ok_X_goer mf_X_goer ⟨tw_910, tw_911⟩ rfl tw_909 d_law_352 (by decide) hcs rfl e1 (by simp [Value.category]) ?_
  refine l_m G d_law_355 ?_
  refine l_arg (n := 1) G rfl hL hL2 rfl (by decide) d_law_356 d_law_357 d_law_358 d_law_359 d_law_360 ?_
  refine l_arg (n := 2) G rfl hL hL2 rfl (by decide) d_law_361 d_law_362 d_law_363 d_law_364 d_law_365 ?_
  refine l_call (vs := [sc (I + 1), sc (I + 2)]) (r := 111) (st := [.int v]) G ok_M_goer mf_M_goer ⟨tw_1750, tw_1751⟩ rfl tw_1749 d_law_366 (by decide) hcs rfl e2 (by simp [Value.category]) ?_
  exact l_eq G d_law_369 rfl (kk h2 hI)
theorem lc_gained {X : Cxt} {b0 L : Nat} {sc : Nat → Int32} {cs : Nat × Nat} {h : Hp} {I : Nat} {Inv Jnv : Hp → Prop} (G : GL X b0 L sc) (hL : I + 6 ≤ L) (hL2 : L ≤ 3072) (hcs : cs.1 ≤ 600000 ∧ cs.2 ≤ 7302250) (hA : Agree Inv Jnv D_X_gained D_M_gained 1 (fun _ => True)) (hi : Inv h) (kk : ∀ h2, Jnv h2 → LW X b0 cs (ii I) 1263 [] h2) : LW X b0 cs (ii I) 374 [] h := by
  obtain ⟨v, h1, h2, e1, e2, hI⟩ := hA [sc (I + 1)] rfl trivial h hi
  refine l_x G d_law_374 ?_
  refine l_arg (n := 1) G rfl hL hL2 rfl (by decide) d_law_375 d_law_376 d_law_377 d_law_378 d_law_379 ?_
  refine l_call (vs := [sc (I + 1)]) (r := 0) (st := []) G ok_X_gained mf_X_gained ⟨tw_963, tw_964⟩ rfl tw_962 d_law_380 (by decide) hcs rfl e1 (by simp [Value.category]) ?_
  refine l_m G d_law_383 ?_
  refine l_arg (n := 1) G rfl hL hL2 rfl (by decide) d_law_384 d_law_385 d_law_386 d_law_387 d_law_388 ?_
  refine l_call (vs := [sc (I + 1)]) (r := 111) (st := [.int v]) G ok_M_gained mf_M_gained ⟨tw_1793, tw_1794⟩ rfl tw_1792 d_law_389 (by decide) hcs rfl e2 (by simp [Value.category]) ?_
  exact l_eq G d_law_392 rfl (kk h2 hI)
theorem lc_want {X : Cxt} {b0 L : Nat} {sc : Nat → Int32} {cs : Nat × Nat} {h : Hp} {I : Nat} {Inv Jnv : Hp → Prop} (G : GL X b0 L sc) (hL : I + 6 ≤ L) (hL2 : L ≤ 3072) (hcs : cs.1 ≤ 600000 ∧ cs.2 ≤ 7302250) (hA : Agree Inv Jnv D_X_want D_M_want 2 (fun _ => True)) (hi : Inv h) (kk : ∀ h2, Jnv h2 → LW X b0 cs (ii I) 1263 [] h2) : LW X b0 cs (ii I) 397 [] h := by
  obtain ⟨v, h1, h2, e1, e2, hI⟩ := hA [sc (I + 1), sc (I + 2)] rfl trivial h hi
  refine l_x G d_law_397 ?_
  refine l_arg (n := 1) G rfl hL hL2 rfl (by decide) d_law_398 d_law_399 d_law_400 d_law_401 d_law_402 ?_
  refine l_arg (n := 2) G rfl hL hL2 rfl (by decide) d_law_403 d_law_404 d_law_405 d_law_406 d_law_407 ?_
  refine l_call (vs := [sc (I + 1), sc (I + 2)]) (r := 0) (st := []) G ok_X_want mf_X_want ⟨tw_968, tw_969⟩ rfl tw_967 d_law_408 (by decide) hcs rfl e1 (by simp [Value.category]) ?_
  refine l_m G d_law_411 ?_
  refine l_arg (n := 1) G rfl hL hL2 rfl (by decide) d_law_412 d_law_413 d_law_414 d_law_415 d_law_416 ?_
  refine l_arg (n := 2) G rfl hL hL2 rfl (by decide) d_law_417 d_law_418 d_law_419 d_law_420 d_law_421 ?_
  refine l_call (vs := [sc (I + 1), sc (I + 2)]) (r := 111) (st := [.int v]) G ok_M_want mf_M_want ⟨tw_1798, tw_1799⟩ rfl tw_1797 d_law_422 (by decide) hcs rfl e2 (by simp [Value.category]) ?_
  exact l_eq G d_law_425 rfl (kk h2 hI)
theorem lc_crowds {X : Cxt} {b0 L : Nat} {sc : Nat → Int32} {cs : Nat × Nat} {h : Hp} {I : Nat} {Inv Jnv : Hp → Prop} (G : GL X b0 L sc) (hL : I + 6 ≤ L) (hL2 : L ≤ 3072) (hcs : cs.1 ≤ 600000 ∧ cs.2 ≤ 7302250) (hA : Agree Inv Jnv D_X_crowds D_M_crowds 3 (fun _ => True)) (hi : Inv h) (kk : ∀ h2, Jnv h2 → LW X b0 cs (ii I) 1263 [] h2) : LW X b0 cs (ii I) 430 [] h := by
  obtain ⟨v, h1, h2, e1, e2, hI⟩ := hA [sc (I + 1), sc (I + 2), sc (I + 3)] rfl trivial h hi
  refine l_x G d_law_430 ?_
  refine l_arg (n := 1) G rfl hL hL2 rfl (by decide) d_law_431 d_law_432 d_law_433 d_law_434 d_law_435 ?_
  refine l_arg (n := 2) G rfl hL hL2 rfl (by decide) d_law_436 d_law_437 d_law_438 d_law_439 d_law_440 ?_
  refine l_arg (n := 3) G rfl hL hL2 rfl (by decide) d_law_441 d_law_442 d_law_443 d_law_444 d_law_445 ?_
  refine l_call (vs := [sc (I + 1), sc (I + 2), sc (I + 3)]) (r := 0) (st := []) G ok_X_crowds mf_X_crowds ⟨tw_973, tw_974⟩ rfl tw_972 d_law_446 (by decide) hcs rfl e1 (by simp [Value.category]) ?_
  refine l_m G d_law_449 ?_
  refine l_arg (n := 1) G rfl hL hL2 rfl (by decide) d_law_450 d_law_451 d_law_452 d_law_453 d_law_454 ?_
  refine l_arg (n := 2) G rfl hL hL2 rfl (by decide) d_law_455 d_law_456 d_law_457 d_law_458 d_law_459 ?_
  refine l_arg (n := 3) G rfl hL hL2 rfl (by decide) d_law_460 d_law_461 d_law_462 d_law_463 d_law_464 ?_
  refine l_call (vs := [sc (I + 1), sc (I + 2), sc (I + 3)]) (r := 111) (st := [.int v]) G ok_M_crowds mf_M_crowds ⟨tw_1802, tw_1803⟩ rfl tw_1801 d_law_465 (by decide) hcs rfl e2 (by simp [Value.category]) ?_
  exact l_eq G d_law_468 rfl (kk h2 hI)
theorem lc_flap {X : Cxt} {b0 L : Nat} {sc : Nat → Int32} {cs : Nat × Nat} {h : Hp} {I : Nat} {Inv Jnv : Hp → Prop} (G : GL X b0 L sc) (hL : I + 6 ≤ L) (hL2 : L ≤ 3072) (hcs : cs.1 ≤ 600000 ∧ cs.2 ≤ 7302250) (hA : Agree Inv Jnv D_X_flap D_M_flap 2 (fun _ => True)) (hi : Inv h) (kk : ∀ h2, Jnv h2 → LW X b0 cs (ii I) 1263 [] h2) : LW X b0 cs (ii I) 473 [] h := by
  obtain ⟨v, h1, h2, e1, e2, hI⟩ := hA [sc (I + 1), sc (I + 2)] rfl trivial h hi
  refine l_x G d_law_473 ?_
  refine l_arg (n := 1) G rfl hL hL2 rfl (by decide) d_law_474 d_law_475 d_law_476 d_law_477 d_law_478 ?_
  refine l_arg (n := 2) G rfl hL hL2 rfl (by decide) d_law_479 d_law_480 d_law_481 d_law_482 d_law_483 ?_
  refine l_call (vs := [sc (I + 1), sc (I + 2)]) (r := 0) (st := []) G ok_X_flap mf_X_flap ⟨tw_981, tw_982⟩ rfl tw_980 d_law_484 (by decide) hcs rfl e1 (by simp [Value.category]) ?_
  refine l_m G d_law_487 ?_
  refine l_arg (n := 1) G rfl hL hL2 rfl (by decide) d_law_488 d_law_489 d_law_490 d_law_491 d_law_492 ?_
  refine l_arg (n := 2) G rfl hL hL2 rfl (by decide) d_law_493 d_law_494 d_law_495 d_law_496 d_law_497 ?_
  refine l_call (vs := [sc (I + 1), sc (I + 2)]) (r := 111) (st := [.int v]) G ok_M_flap mf_M_flap ⟨tw_1810, tw_1811⟩ rfl tw_1809 d_law_498 (by decide) hcs rfl e2 (by simp [Value.category]) ?_
  exact l_eq G d_law_501 rfl (kk h2 hI)
theorem lc_turn {X : Cxt} {b0 L : Nat} {sc : Nat → Int32} {cs : Nat × Nat} {h : Hp} {I : Nat} {Inv Jnv : Hp → Prop} (G : GL X b0 L sc) (hL : I + 6 ≤ L) (hL2 : L ≤ 3072) (hcs : cs.1 ≤ 600000 ∧ cs.2 ≤ 7302250) (hA : Agree Inv Jnv D_X_turn D_M_turn 2 (fun _ => True)) (hi : Inv h) (kk : ∀ h2, Jnv h2 → LW X b0 cs (ii I) 1263 [] h2) : LW X b0 cs (ii I) 506 [] h := by
  obtain ⟨v, h1, h2, e1, e2, hI⟩ := hA [sc (I + 1), sc (I + 2)] rfl trivial h hi
  refine l_x G d_law_506 ?_
  refine l_arg (n := 1) G rfl hL hL2 rfl (by decide) d_law_507 d_law_508 d_law_509 d_law_510 d_law_511 ?_
  refine l_arg (n := 2) G rfl hL hL2 rfl (by decide) d_law_512 d_law_513 d_law_514 d_law_515 d_law_516 ?_
  refine l_call (vs := [sc (I + 1), sc (I + 2)]) (r := 0) (st := []) G ok_X_turn mf_X_turn ⟨tw_995, tw_996⟩ rfl tw_994 d_law_517 (by decide) hcs rfl e1 (by simp [Value.category]) ?_
  refine l_m G d_law_520 ?_
  refine l_arg (n := 1) G rfl hL hL2 rfl (by decide) d_law_521 d_law_522 d_law_523 d_law_524 d_law_525 ?_
  refine l_arg (n := 2) G rfl hL hL2 rfl (by decide) d_law_526 d_law_527 d_law_528 d_law_529 d_law_530 ?_
  refine l_call (vs := [sc (I + 1), sc (I + 2)]) (r := 111) (st := [.int v]) G ok_M_turn mf_M_turn ⟨tw_1818, tw_1819⟩ rfl tw_1817 d_law_531 (by decide) hcs rfl e2 (by simp [Value.category]) ?_
  exact l_eq G d_law_534 rfl (kk h2 hI)
theorem lc_wish {X : Cxt} {b0 L : Nat} {sc : Nat → Int32} {cs : Nat × Nat} {h : Hp} {I : Nat} {Inv Jnv : Hp → Prop} (G : GL X b0 L sc) (hL : I + 6 ≤ L) (hL2 : L ≤ 3072) (hcs : cs.1 ≤ 600000 ∧ cs.2 ≤ 7302250) (hA : Agree Inv Jnv D_X_wish D_M_wish 3 (fun _ => True)) (hi : Inv h) (kk : ∀ h2, Jnv h2 → LW X b0 cs (ii I) 1263 [] h2) : LW X b0 cs (ii I) 539 [] h := by
  obtain ⟨v, h1, h2, e1, e2, hI⟩ := hA [sc (I + 1), sc (I + 2), sc (I + 3)] rfl trivial h hi
  refine l_x G d_law_539 ?_
  refine l_arg (n := 1) G rfl hL hL2 rfl (by decide) d_law_540 d_law_541 d_law_542 d_law_543 d_law_544 ?_
  refine l_arg (n := 2) G rfl hL hL2 rfl (by decide) d_law_545 d_law_546 d_law_547 d_law_548 d_law_549 ?_
  refine l_arg (n := 3) G rfl hL hL2 rfl (by decide) d_law_550 d_law_551 d_law_552 d_law_553 d_law_554 ?_
  refine l_call (vs := [sc (I + 1), sc (I + 2), sc (I + 3)]) (r := 0) (st := []) G ok_X_wish mf_X_wish ⟨tw_999, tw_1000⟩ rfl tw_998 d_law_555 (by decide) hcs rfl e1 (by simp [Value.category]) ?_
  refine l_m G d_law_558 ?_
  refine l_arg (n := 1) G rfl hL hL2 rfl (by decide) d_law_559 d_law_560 d_law_561 d_law_562 d_law_563 ?_
  refine l_arg (n := 2) G rfl hL hL2 rfl (by decide) d_law_564 d_law_565 d_law_566 d_law_567 d_law_568 ?_
  refine l_arg (n := 3) G rfl hL hL2 rfl (by decide) d_law_569 d_law_570 d_law_571 d_law_572 d_law_573 ?_
  refine l_call (vs := [sc (I + 1), sc (I + 2), sc (I + 3)]) (r := 111) (st := [.int v]) G ok_M_wish mf_M_wish ⟨tw_1826, tw_1827⟩ rfl tw_1825 d_law_574 (by decide) hcs rfl e2 (by simp [Value.category]) ?_
  exact l_eq G d_law_577 rfl (kk h2 hI)
theorem lc_days {X : Cxt} {b0 L : Nat} {sc : Nat → Int32} {cs : Nat × Nat} {h : Hp} {I : Nat} {Inv Jnv : Hp → Prop} (G : GL X b0 L sc) (hL : I + 6 ≤ L) (hL2 : L ≤ 3072) (hcs : cs.1 ≤ 600000 ∧ cs.2 ≤ 7302250) (hA : Agree Inv Jnv D_X_days D_M_days 1 (fun _ => True)) (hi : Inv h) (kk : ∀ h2, Jnv h2 → LW X b0 cs (ii I) 1263 [] h2) : LW X b0 cs (ii I) 582 [] h := by
  obtain ⟨v, h1, h2, e1, e2, hI⟩ := hA [sc (I + 1)] rfl trivial h hi
  refine l_x G d_law_582 ?_
  refine l_arg (n := 1) G rfl hL hL2 rfl (by decide) d_law_583 d_law_584 d_law_585 d_law_586 d_law_587 ?_
  refine l_call (vs := [sc (I + 1)]) (r := 0) (st := []) G ok_X_days mf_X_days ⟨tw_1003, tw_1004⟩ rfl tw_1002 d_law_588 (by decide) hcs rfl e1 (by simp [Value.category]) ?_
  refine l_m G d_law_591 ?_
  refine l_arg (n := 1) G rfl hL hL2 rfl (by decide) d_law_592 d_law_593 d_law_594 d_law_595 d_law_596 ?_
  refine l_call (vs := [sc (I + 1)]) (r := 111) (st := [.int v]) G ok_M_days mf_M_days ⟨tw_1830, tw_1831⟩ rfl tw_1829 d_law_597 (by decide) hcs rfl e2 (by simp [Value.category]) ?_
  exact l_eq G d_law_600 rfl (kk h2 hI)
theorem lc_undo {X : Cxt} {b0 L : Nat} {sc : Nat → Int32} {cs : Nat × Nat} {h : Hp} {I : Nat} {Inv Jnv : Hp → Prop} (G : GL X b0 L sc) (hL : I + 6 ≤ L) (hL2 : L ≤ 3072) (hcs : cs.1 ≤ 600000 ∧ cs.2 ≤ 7302250) (hA : Agree Inv Jnv D_X_undo D_M_undo 0 (fun _ => True)) (hi : Inv h) (kk : ∀ h2, Jnv h2 → LW X b0 cs (ii I) 1263 [] h2) : LW X b0 cs (ii I) 605 [] h := by
  obtain ⟨v, h1, h2, e1, e2, hI⟩ := hA [] rfl trivial h hi
  refine l_x G d_law_605 ?_
  refine l_call (vs := []) (r := 0) (st := []) G ok_X_undo mf_X_undo ⟨tw_1035, tw_1036⟩ rfl tw_1034 d_law_606 (by decide) hcs rfl e1 (by simp [Value.category]) ?_
  refine l_m G d_law_609 ?_
  refine l_call (vs := []) (r := 111) (st := [.int v]) G ok_M_undo mf_M_undo ⟨tw_1865, tw_1866⟩ rfl tw_1864 d_law_610 (by decide) hcs rfl e2 (by simp [Value.category]) ?_
  exact l_eq G d_law_613 rfl (kk h2 hI)
theorem lc_plan {X : Cxt} {b0 L : Nat} {sc : Nat → Int32} {cs : Nat × Nat} {h : Hp} {I : Nat} {Inv Jnv : Hp → Prop} (G : GL X b0 L sc) (hL : I + 6 ≤ L) (hL2 : L ≤ 3072) (hcs : cs.1 ≤ 600000 ∧ cs.2 ≤ 7302250) (hA : Agree Inv Jnv D_X_plan D_M_plan 2 (fun _ => True)) (hi : Inv h) (kk : ∀ h2, Jnv h2 → LW X b0 cs (ii I) 1263 [] h2) : LW X b0 cs (ii I) 618 [] h := by
  obtain ⟨v, h1, h2, e1, e2, hI⟩ := hA [sc (I + 1), sc (I + 2)] rfl trivial h hi
  refine l_x G d_law_618 ?_
  refine l_arg (n := 1) G rfl hL hL2 rfl (by decide) d_law_619 d_law_620 d_law_621 d_law_622 d_law_623 ?_
  refine l_arg (n := 2) G rfl hL hL2 rfl (by decide) d_law_624 d_law_625 d_law_626 d_law_627 d_law_628 ?_
  refine l_call (vs := [sc (I + 1), sc (I + 2)]) (r := 0) (st := []) G ok_X_plan mf_X_plan ⟨tw_1047, tw_1048⟩ rfl tw_1046 d_law_629 (by decide) hcs rfl e1 (by simp [Value.category]) ?_
  refine l_m G d_law_632 ?_
  refine l_arg (n := 1) G rfl hL hL2 rfl (by decide) d_law_633 d_law_634 d_law_635 d_law_636 d_law_637 ?_
  refine l_arg (n := 2) G rfl hL hL2 rfl (by decide) d_law_638 d_law_639 d_law_640 d_law_641 d_law_642 ?_
  refine l_call (vs := [sc (I + 1), sc (I + 2)]) (r := 111) (st := [.int v]) G ok_M_plan mf_M_plan ⟨tw_1869, tw_1870⟩ rfl tw_1868 d_law_643 (by decide) hcs rfl e2 (by simp [Value.category]) ?_
  exact l_eq G d_law_646 rfl (kk h2 hI)
theorem lc_rests {X : Cxt} {b0 L : Nat} {sc : Nat → Int32} {cs : Nat × Nat} {h : Hp} {I : Nat} {Inv Jnv : Hp → Prop} (G : GL X b0 L sc) (hL : I + 6 ≤ L) (hL2 : L ≤ 3072) (hcs : cs.1 ≤ 600000 ∧ cs.2 ≤ 7302250) (hA : Agree Inv Jnv D_X_rests D_M_rests 0 (fun _ => True)) (hi : Inv h) (kk : ∀ h2, Jnv h2 → LW X b0 cs (ii I) 1263 [] h2) : LW X b0 cs (ii I) 651 [] h := by
  obtain ⟨v, h1, h2, e1, e2, hI⟩ := hA [] rfl trivial h hi
  refine l_x G d_law_651 ?_
  refine l_call (vs := []) (r := 0) (st := []) G ok_X_rests mf_X_rests ⟨tw_1077, tw_1078⟩ rfl tw_1076 d_law_652 (by decide) hcs rfl e1 (by simp [Value.category]) ?_
  refine l_m G d_law_655 ?_
  refine l_call (vs := []) (r := 111) (st := [.int v]) G ok_M_rests mf_M_rests ⟨tw_1896, tw_1897⟩ rfl tw_1895 d_law_656 (by decide) hcs rfl e2 (by simp [Value.category]) ?_
  exact l_eq G d_law_659 rfl (kk h2 hI)
theorem lc_bestRest {X : Cxt} {b0 L : Nat} {sc : Nat → Int32} {cs : Nat × Nat} {h : Hp} {I : Nat} {Inv Jnv : Hp → Prop} (G : GL X b0 L sc) (hL : I + 6 ≤ L) (hL2 : L ≤ 3072) (hcs : cs.1 ≤ 600000 ∧ cs.2 ≤ 7302250) (hA : Agree Inv Jnv D_X_bestRest D_M_bestRest 1 (fun _ => True)) (hi : Inv h) (kk : ∀ h2, Jnv h2 → LW X b0 cs (ii I) 1263 [] h2) : LW X b0 cs (ii I) 664 [] h := by
  obtain ⟨v, h1, h2, e1, e2, hI⟩ := hA [sc (I + 1)] rfl trivial h hi
  refine l_x G d_law_664 ?_
  refine l_arg (n := 1) G rfl hL hL2 rfl (by decide) d_law_665 d_law_666 d_law_667 d_law_668 d_law_669 ?_
  refine l_call (vs := [sc (I + 1)]) (r := 0) (st := []) G ok_X_bestRest mf_X_bestRest ⟨tw_1119, tw_1120⟩ rfl tw_1118 d_law_670 (by decide) hcs rfl e1 (by simp [Value.category]) ?_
  refine l_m G d_law_673 ?_
  refine l_arg (n := 1) G rfl hL hL2 rfl (by decide) d_law_674 d_law_675 d_law_676 d_law_677 d_law_678 ?_
  refine l_call (vs := [sc (I + 1)]) (r := 111) (st := [.int v]) G ok_M_bestRest mf_M_bestRest ⟨tw_1916, tw_1917⟩ rfl tw_1915 d_law_679 (by decide) hcs rfl e2 (by simp [Value.category]) ?_
  exact l_eq G d_law_682 rfl (kk h2 hI)
theorem lc_bestGiving {X : Cxt} {b0 L : Nat} {sc : Nat → Int32} {cs : Nat × Nat} {h : Hp} {I : Nat} {Inv Jnv : Hp → Prop} (G : GL X b0 L sc) (hL : I + 6 ≤ L) (hL2 : L ≤ 3072) (hcs : cs.1 ≤ 600000 ∧ cs.2 ≤ 7302250) (hA : Agree Inv Jnv D_X_bestGiving D_M_bestGiving 1 (fun _ => True)) (hi : Inv h) (kk : ∀ h2, Jnv h2 → LW X b0 cs (ii I) 1263 [] h2) : LW X b0 cs (ii I) 687 [] h := by
  obtain ⟨v, h1, h2, e1, e2, hI⟩ := hA [sc (I + 1)] rfl trivial h hi
  refine l_x G d_law_687 ?_
  refine l_arg (n := 1) G rfl hL hL2 rfl (by decide) d_law_688 d_law_689 d_law_690 d_law_691 d_law_692 ?_
  refine l_call (vs := [sc (I + 1)]) (r := 0) (st := []) G ok_X_bestGiving mf_X_bestGiving ⟨tw_1123, tw_1124⟩ rfl tw_1122 d_law_693 (by decide) hcs rfl e1 (by simp [Value.category]) ?_
  refine l_m G d_law_696 ?_
  refine l_arg (n := 1) G rfl hL hL2 rfl (by decide) d_law_697 d_law_698 d_law_699 d_law_700 d_law_701 ?_
  refine l_call (vs := [sc (I + 1)]) (r := 111) (st := [.int v]) G ok_M_bestGiving mf_M_bestGiving ⟨tw_1928, tw_1929⟩ rfl tw_1927 d_law_702 (by decide) hcs rfl e2 (by simp [Value.category]) ?_
  exact l_eq G d_law_705 rfl (kk h2 hI)
theorem lc_settles {X : Cxt} {b0 L : Nat} {sc : Nat → Int32} {cs : Nat × Nat} {h : Hp} {I : Nat} {Inv Jnv : Hp → Prop} (G : GL X b0 L sc) (hL : I + 6 ≤ L) (hL2 : L ≤ 3072) (hcs : cs.1 ≤ 600000 ∧ cs.2 ≤ 7302250) (hA : Agree Inv Jnv D_X_settles D_M_settles 0 (fun _ => True)) (hi : Inv h) (kk : ∀ h2, Jnv h2 → LW X b0 cs (ii I) 1263 [] h2) : LW X b0 cs (ii I) 710 [] h := by
  obtain ⟨v, h1, h2, e1, e2, hI⟩ := hA [] rfl trivial h hi
  refine l_x G d_law_710 ?_
  refine l_call (vs := []) (r := 0) (st := []) G ok_X_settles mf_X_settles ⟨tw_1127, tw_1128⟩ rfl tw_1126 d_law_711 (by decide) hcs rfl e1 (by simp [Value.category]) ?_
  refine l_m G d_law_714 ?_
  refine l_call (vs := []) (r := 111) (st := [.int v]) G ok_M_settles mf_M_settles ⟨tw_1932, tw_1933⟩ rfl tw_1931 d_law_715 (by decide) hcs rfl e2 (by simp [Value.category]) ?_
  exact l_eq G d_law_718 rfl (kk h2 hI)
theorem lc_oneEach {X : Cxt} {b0 L : Nat} {sc : Nat → Int32} {cs : Nat × Nat} {h : Hp} {I : Nat} {Inv Jnv : Hp → Prop} (G : GL X b0 L sc) (hL : I + 6 ≤ L) (hL2 : L ≤ 3072) (hcs : cs.1 ≤ 600000 ∧ cs.2 ≤ 7302250) (hA : Agree Inv Jnv D_X_oneEach D_M_oneEach 1 (fun _ => True)) (hi : Inv h) (kk : ∀ h2, Jnv h2 → LW X b0 cs (ii I) 1263 [] h2) : LW X b0 cs (ii I) 723 [] h := by
  obtain ⟨v, h1, h2, e1, e2, hI⟩ := hA [sc (I + 1)] rfl trivial h hi
  refine l_x G d_law_723 ?_
  refine l_arg (n := 1) G rfl hL hL2 rfl (by decide) d_law_724 d_law_725 d_law_726 d_law_727 d_law_728 ?_
  refine l_call (vs := [sc (I + 1)]) (r := 0) (st := []) G ok_X_oneEach mf_X_oneEach ⟨tw_1146, tw_1147⟩ rfl tw_1145 d_law_729 (by decide) hcs rfl e1 (by simp [Value.category]) ?_
  refine l_m G d_law_732 ?_
  refine l_arg (n := 1) G rfl hL hL2 rfl (by decide) d_law_733 d_law_734 d_law_735 d_law_736 d_law_737 ?_
  refine l_call (vs := [sc (I + 1)]) (r := 111) (st := [.int v]) G ok_M_oneEach mf_M_oneEach ⟨tw_1940, tw_1941⟩ rfl tw_1939 d_law_738 (by decide) hcs rfl e2 (by simp [Value.category]) ?_
  exact l_eq G d_law_741 rfl (kk h2 hI)
theorem lc_closing {X : Cxt} {b0 L : Nat} {sc : Nat → Int32} {cs : Nat × Nat} {h : Hp} {I : Nat} {Inv Jnv : Hp → Prop} (G : GL X b0 L sc) (hL : I + 6 ≤ L) (hL2 : L ≤ 3072) (hcs : cs.1 ≤ 600000 ∧ cs.2 ≤ 7302250) (hA : Agree Inv Jnv D_X_closing D_M_closing 0 (fun _ => True)) (hi : Inv h) (kk : ∀ h2, Jnv h2 → LW X b0 cs (ii I) 1263 [] h2) : LW X b0 cs (ii I) 746 [] h := by
  obtain ⟨v, h1, h2, e1, e2, hI⟩ := hA [] rfl trivial h hi
  refine l_x G d_law_746 ?_
  refine l_call (vs := []) (r := 0) (st := []) G ok_X_closing mf_X_closing ⟨tw_1172, tw_1173⟩ rfl tw_1171 d_law_747 (by decide) hcs rfl e1 (by simp [Value.category]) ?_
  refine l_m G d_law_750 ?_
  refine l_call (vs := []) (r := 111) (st := [.int v]) G ok_M_closing mf_M_closing ⟨tw_1952, tw_1953⟩ rfl tw_1951 d_law_751 (by decide) hcs rfl e2 (by simp [Value.category]) ?_
  exact l_eq G d_law_754 rfl (kk h2 hI)
theorem lc_search {X : Cxt} {b0 L : Nat} {sc : Nat → Int32} {cs : Nat × Nat} {h : Hp} {I : Nat} {Inv Jnv : Hp → Prop} (G : GL X b0 L sc) (hL : I + 6 ≤ L) (hL2 : L ≤ 3072) (hcs : cs.1 ≤ 600000 ∧ cs.2 ≤ 7302250) (hA : Agree Inv Jnv D_X_search D_M_search 2 (fun _ => True)) (hi : Inv h) (kk : ∀ h2, Jnv h2 → LW X b0 cs (ii I) 1263 [] h2) : LW X b0 cs (ii I) 759 [] h := by
  obtain ⟨v, h1, h2, e1, e2, hI⟩ := hA [sc (I + 1), sc (I + 2)] rfl trivial h hi
  refine l_x G d_law_759 ?_
  refine l_arg (n := 1) G rfl hL hL2 rfl (by decide) d_law_760 d_law_761 d_law_762 d_law_763 d_law_764 ?_
  refine l_arg (n := 2) G rfl hL hL2 rfl (by decide) d_law_765 d_law_766 d_law_767 d_law_768 d_law_769 ?_
  refine l_call (vs := [sc (I + 1), sc (I + 2)]) (r := 0) (st := []) G ok_X_search mf_X_search ⟨tw_1185, tw_1186⟩ rfl tw_1184 d_law_770 (by decide) hcs rfl e1 (by simp [Value.category]) ?_
  refine l_m G d_law_773 ?_
  refine l_arg (n := 1) G rfl hL hL2 rfl (by decide) d_law_774 d_law_775 d_law_776 d_law_777 d_law_778 ?_
  refine l_arg (n := 2) G rfl hL hL2 rfl (by decide) d_law_779 d_law_780 d_law_781 d_law_782 d_law_783 ?_
  refine l_call (vs := [sc (I + 1), sc (I + 2)]) (r := 111) (st := [.int v]) G ok_M_search mf_M_search ⟨tw_1960, tw_1961⟩ rfl tw_1959 d_law_784 (by decide) hcs rfl e2 (by simp [Value.category]) ?_
  exact l_eq G d_law_787 rfl (kk h2 hI)
theorem lc_bar {X : Cxt} {b0 L : Nat} {sc : Nat → Int32} {cs : Nat × Nat} {h : Hp} {I : Nat} {Inv Jnv : Hp → Prop} (G : GL X b0 L sc) (hL : I + 6 ≤ L) (hL2 : L ≤ 3072) (hcs : cs.1 ≤ 600000 ∧ cs.2 ≤ 7302250) (hA : Agree Inv Jnv D_X_bar D_M_bar 2 (fun _ => True)) (hi : Inv h) (kk : ∀ h2, Jnv h2 → LW X b0 cs (ii I) 1263 [] h2) : LW X b0 cs (ii I) 792 [] h := by
  obtain ⟨v, h1, h2, e1, e2, hI⟩ := hA [sc (I + 1), sc (I + 2)] rfl trivial h hi
  refine l_x G d_law_792 ?_
  refine l_arg (n := 1) G rfl hL hL2 rfl (by decide) d_law_793 d_law_794 d_law_795 d_law_796 d_law_797 ?_
  refine l_arg (n := 2) G rfl hL hL2 rfl (by decide) d_law_798 d_law_799 d_law_800 d_law_801 d_law_802 ?_
  refine l_call (vs := [sc (I + 1), sc (I + 2)]) (r := 0) (st := []) G ok_X_bar mf_X_bar ⟨tw_1193, tw_1194⟩ rfl tw_1192 d_law_803 (by decide) hcs rfl e1 (by simp [Value.category]) ?_
  refine l_m G d_law_806 ?_
  refine l_arg (n := 1) G rfl hL hL2 rfl (by decide) d_law_807 d_law_808 d_law_809 d_law_810 d_law_811 ?_
  refine l_arg (n := 2) G rfl hL hL2 rfl (by decide) d_law_812 d_law_813 d_law_814 d_law_815 d_law_816 ?_
  refine l_call (vs := [sc (I + 1), sc (I + 2)]) (r := 111) (st := [.int v]) G ok_M_bar mf_M_bar ⟨tw_1972, tw_1973⟩ rfl tw_1971 d_law_817 (by decide) hcs rfl e2 (by simp [Value.category]) ?_
  exact l_eq G d_law_820 rfl (kk h2 hI)
theorem lc_enough {X : Cxt} {b0 L : Nat} {sc : Nat → Int32} {cs : Nat × Nat} {h : Hp} {I : Nat} {Inv Jnv : Hp → Prop} (G : GL X b0 L sc) (hL : I + 6 ≤ L) (hL2 : L ≤ 3072) (hcs : cs.1 ≤ 600000 ∧ cs.2 ≤ 7302250) (hA : Agree Inv Jnv D_X_enough D_M_enough 2 (fun _ => True)) (hi : Inv h) (kk : ∀ h2, Jnv h2 → LW X b0 cs (ii I) 1263 [] h2) : LW X b0 cs (ii I) 825 [] h := by
  obtain ⟨v, h1, h2, e1, e2, hI⟩ := hA [sc (I + 1), sc (I + 2)] rfl trivial h hi
  refine l_x G d_law_825 ?_
  refine l_arg (n := 1) G rfl hL hL2 rfl (by decide) d_law_826 d_law_827 d_law_828 d_law_829 d_law_830 ?_
  refine l_arg (n := 2) G rfl hL hL2 rfl (by decide) d_law_831 d_law_832 d_law_833 d_law_834 d_law_835 ?_
  refine l_call (vs := [sc (I + 1), sc (I + 2)]) (r := 0) (st := []) G ok_X_enough mf_X_enough ⟨tw_1197, tw_1198⟩ rfl tw_1196 d_law_836 (by decide) hcs rfl e1 (by simp [Value.category]) ?_
  refine l_m G d_law_839 ?_
  refine l_arg (n := 1) G rfl hL hL2 rfl (by decide) d_law_840 d_law_841 d_law_842 d_law_843 d_law_844 ?_
  refine l_arg (n := 2) G rfl hL hL2 rfl (by decide) d_law_845 d_law_846 d_law_847 d_law_848 d_law_849 ?_
  refine l_call (vs := [sc (I + 1), sc (I + 2)]) (r := 111) (st := [.int v]) G ok_M_enough mf_M_enough ⟨tw_1976, tw_1977⟩ rfl tw_1975 d_law_850 (by decide) hcs rfl e2 (by simp [Value.category]) ?_
  exact l_eq G d_law_853 rfl (kk h2 hI)
theorem lc_open {X : Cxt} {b0 L : Nat} {sc : Nat → Int32} {cs : Nat × Nat} {h : Hp} {I : Nat} {Inv Jnv : Hp → Prop} (G : GL X b0 L sc) (hL : I + 6 ≤ L) (hL2 : L ≤ 3072) (hcs : cs.1 ≤ 600000 ∧ cs.2 ≤ 7302250) (hA : Agree Inv Jnv D_X_open D_M_open 1 (fun _ => True)) (hi : Inv h) (kk : ∀ h2, Jnv h2 → LW X b0 cs (ii I) 1263 [] h2) : LW X b0 cs (ii I) 858 [] h := by
  obtain ⟨v, h1, h2, e1, e2, hI⟩ := hA [sc (I + 1)] rfl trivial h hi
  refine l_x G d_law_858 ?_
  refine l_arg (n := 1) G rfl hL hL2 rfl (by decide) d_law_859 d_law_860 d_law_861 d_law_862 d_law_863 ?_
  refine l_call (vs := [sc (I + 1)]) (r := 0) (st := []) G ok_X_open mf_X_open ⟨tw_1205, tw_1206⟩ rfl tw_1204 d_law_864 (by decide) hcs rfl e1 (by simp [Value.category]) ?_
  refine l_m G d_law_867 ?_
  refine l_arg (n := 1) G rfl hL hL2 rfl (by decide) d_law_868 d_law_869 d_law_870 d_law_871 d_law_872 ?_
  refine l_call (vs := [sc (I + 1)]) (r := 111) (st := [.int v]) G ok_M_open mf_M_open ⟨tw_1980, tw_1981⟩ rfl tw_1979 d_law_873 (by decide) hcs rfl e2 (by simp [Value.category]) ?_
  exact l_eq G d_law_876 rfl (kk h2 hI)
theorem lc_crowded {X : Cxt} {b0 L : Nat} {sc : Nat → Int32} {cs : Nat × Nat} {h : Hp} {I : Nat} {Inv Jnv : Hp → Prop} (G : GL X b0 L sc) (hL : I + 6 ≤ L) (hL2 : L ≤ 3072) (hcs : cs.1 ≤ 600000 ∧ cs.2 ≤ 7302250) (hA : Agree Inv Jnv D_X_crowded D_M_crowded 1 (fun _ => True)) (hi : Inv h) (kk : ∀ h2, Jnv h2 → LW X b0 cs (ii I) 1263 [] h2) : LW X b0 cs (ii I) 881 [] h := by
  obtain ⟨v, h1, h2, e1, e2, hI⟩ := hA [sc (I + 1)] rfl trivial h hi
  refine l_x G d_law_881 ?_
  refine l_arg (n := 1) G rfl hL hL2 rfl (by decide) d_law_882 d_law_883 d_law_884 d_law_885 d_law_886 ?_
  refine l_call (vs := [sc (I + 1)]) (r := 0) (st := []) G ok_X_crowded mf_X_crowded ⟨tw_1210, tw_1211⟩ rfl tw_1209 d_law_887 (by decide) hcs rfl e1 (by simp [Value.category]) ?_
  refine l_m G d_law_890 ?_
  refine l_arg (n := 1) G rfl hL hL2 rfl (by decide) d_law_891 d_law_892 d_law_893 d_law_894 d_law_895 ?_
  refine l_call (vs := [sc (I + 1)]) (r := 111) (st := [.int v]) G ok_M_crowded mf_M_crowded ⟨tw_1984, tw_1985⟩ rfl tw_1983 d_law_896 (by decide) hcs rfl e2 (by simp [Value.category]) ?_
  exact l_eq G d_law_899 rfl (kk h2 hI)
theorem lc_same {X : Cxt} {b0 L : Nat} {sc : Nat → Int32} {cs : Nat × Nat} {h : Hp} {I : Nat} {Inv Jnv : Hp → Prop} (G : GL X b0 L sc) (hL : I + 6 ≤ L) (hL2 : L ≤ 3072) (hcs : cs.1 ≤ 600000 ∧ cs.2 ≤ 7302250) (hA : Agree Inv Jnv D_X_same D_M_same 1 (fun _ => True)) (hi : Inv h) (kk : ∀ h2, Jnv h2 → LW X b0 cs (ii I) 1263 [] h2) : LW X b0 cs (ii I) 904 [] h := by
  obtain ⟨v, h1, h2, e1, e2, hI⟩ := hA [sc (I + 1)] rfl trivial h hi
  refine l_x G d_law_904 ?_
  refine l_arg (n := 1) G rfl hL hL2 rfl (by decide) d_law_905 d_law_906 d_law_907 d_law_908 d_law_909 ?_
  refine l_call (vs := [sc (I + 1)]) (r := 0) (st := []) G ok_X_same mf_X_same ⟨tw_1214, tw_1215⟩ rfl tw_1213 d_law_910 (by decide) hcs rfl e1 (by simp [Value.category]) ?_
  refine l_m G d_law_913 ?_
  refine l_arg (n := 1) G rfl hL hL2 rfl (by decide) d_law_914 d_law_915 d_law_916 d_law_917 d_law_918 ?_
  refine l_call (vs := [sc (I + 1)]) (r := 111) (st := [.int v]) G ok_M_same mf_M_same ⟨tw_1988, tw_1989⟩ rfl tw_1987 d_law_919 (by decide) hcs rfl e2 (by simp [Value.category]) ?_
  exact l_eq G d_law_922 rfl (kk h2 hI)
theorem lc_then {X : Cxt} {b0 L : Nat} {sc : Nat → Int32} {cs : Nat × Nat} {h : Hp} {I : Nat} {Inv Jnv : Hp → Prop} (G : GL X b0 L sc) (hL : I + 6 ≤ L) (hL2 : L ≤ 3072) (hcs : cs.1 ≤ 600000 ∧ cs.2 ≤ 7302250) (hA : Agree Inv Jnv D_X_then D_M_then 3 (fun _ => True)) (hi : Inv h) (kk : ∀ h2, Jnv h2 → LW X b0 cs (ii I) 1263 [] h2) : LW X b0 cs (ii I) 927 [] h := by
  obtain ⟨v, h1, h2, e1, e2, hI⟩ := hA [sc (I + 1), sc (I + 2), sc (I + 3)] rfl trivial h hi
  refine l_x G d_law_927 ?_
  refine l_arg (n := 1) G rfl hL hL2 rfl (by decide) d_law_928 d_law_929 d_law_930 d_law_931 d_law_932 ?_
  refine l_arg (n := 2) G rfl hL hL2 rfl (by decide) d_law_933 d_law_934 d_law_935 d_law_936 d_law_937 ?_
  refine l_arg (n := 3) G rfl hL hL2 rfl (by decide) d_law_938 d_law_939 d_law_940 d_law_941 d_law_942 ?_
  refine l_call (vs := [sc (I + 1), sc (I + 2), sc (I + 3)]) (r := 0) (st := []) G ok_X_then mf_X_then ⟨tw_1218, tw_1219⟩ rfl tw_1217 d_law_943 (by decide) hcs rfl e1 (by simp [Value.category]) ?_
  refine l_m G d_law_946 ?_
  refine l_arg (n := 1) G rfl hL hL2 rfl (by decide) d_law_947 d_law_948 d_law_949 d_law_950 d_law_951 ?_
  refine l_arg (n := 2) G rfl hL hL2 rfl (by decide) d_law_952 d_law_953 d_law_954 d_law_955 d_law_956 ?_
  refine l_arg (n := 3) G rfl hL hL2 rfl (by decide) d_law_957 d_law_958 d_law_959 d_law_960 d_law_961 ?_
  refine l_call (vs := [sc (I + 1), sc (I + 2), sc (I + 3)]) (r := 111) (st := [.int v]) G ok_M_then mf_M_then ⟨tw_1992, tw_1993⟩ rfl tw_1991 d_law_962 (by decide) hcs rfl e2 (by simp [Value.category]) ?_
  exact l_eq G d_law_965 rfl (kk h2 hI)
theorem lc_gainedIn {X : Cxt} {b0 L : Nat} {sc : Nat → Int32} {cs : Nat × Nat} {h : Hp} {I : Nat} {Inv Jnv : Hp → Prop} (G : GL X b0 L sc) (hL : I + 6 ≤ L) (hL2 : L ≤ 3072) (hcs : cs.1 ≤ 600000 ∧ cs.2 ≤ 7302250) (hA : Agree Inv Jnv D_X_gainedIn D_M_gainedIn 2 (fun _ => True)) (hi : Inv h) (kk : ∀ h2, Jnv h2 → LW X b0 cs (ii I) 1263 [] h2) : LW X b0 cs (ii I) 970 [] h := by
  obtain ⟨v, h1, h2, e1, e2, hI⟩ := hA [sc (I + 1), sc (I + 2)] rfl trivial h hi
  refine l_x G d_law_970 ?_
  refine l_arg (n := 1) G rfl hL hL2 rfl (by decide) d_law_971 d_law_972 d_law_973 d_law_974 d_law_975 ?_
  refine l_arg (n := 2) G rfl hL hL2 rfl (by decide) d_law_976 d_law_977 d_law_978 d_law_979 d_law_980 ?_
  refine l_call (vs := [sc (I + 1), sc (I + 2)]) (r := 0) (st := []) G ok_X_gainedIn mf_X_gainedIn ⟨tw_1228, tw_1229⟩ rfl tw_1227 d_law_981 (by decide) hcs rfl e1 (by simp [Value.category]) ?_
  refine l_m G d_law_984 ?_
  refine l_arg (n := 1) G rfl hL hL2 rfl (by decide) d_law_985 d_law_986 d_law_987 d_law_988 d_law_989 ?_
  refine l_arg (n := 2) G rfl hL hL2 rfl (by decide) d_law_990 d_law_991 d_law_992 d_law_993 d_law_994 ?_
  refine l_call (vs := [sc (I + 1), sc (I + 2)]) (r := 111) (st := [.int v]) G ok_M_gainedIn mf_M_gainedIn ⟨tw_1996, tw_1997⟩ rfl tw_1995 d_law_995 (by decide) hcs rfl e2 (by simp [Value.category]) ?_
  exact l_eq G d_law_998 rfl (kk h2 hI)
theorem lc_year {X : Cxt} {b0 L : Nat} {sc : Nat → Int32} {cs : Nat × Nat} {h : Hp} {I : Nat} {Inv Jnv : Hp → Prop} (G : GL X b0 L sc) (hL : I + 6 ≤ L) (hL2 : L ≤ 3072) (hcs : cs.1 ≤ 600000 ∧ cs.2 ≤ 7302250) (hA : Agree Inv Jnv D_X_year D_M_year 4 (fun _ => True)) (hi : Inv h) (kk : ∀ h2, Jnv h2 → LW X b0 cs (ii I) 1263 [] h2) : LW X b0 cs (ii I) 1003 [] h := by
  obtain ⟨v, h1, h2, e1, e2, hI⟩ := hA [sc (I + 1), sc (I + 2), sc (I + 3), sc (I + 4)] rfl trivial h hi
  refine l_x G d_law_1003 ?_
  refine l_arg (n := 1) G rfl hL hL2 rfl (by decide) d_law_1004 d_law_1005 d_law_1006 d_law_1007 d_law_1008 ?_
  refine l_arg (n := 2) G rfl hL hL2 rfl (by decide) d_law_1009 d_law_1010 d_law_1011 d_law_1012 d_law_1013 ?_
  refine l_arg (n := 3) G rfl hL hL2 rfl (by decide) d_law_1014 d_law_1015 d_law_1016 d_law_1017 d_law_1018 ?_
  refine l_arg (n := 4) G rfl hL hL2 rfl (by decide) d_law_1019 d_law_1020 d_law_1021 d_law_1022 d_law_1023 ?_
  refine l_call (vs := [sc (I + 1), sc (I + 2), sc (I + 3), sc (I + 4)]) (r := 0) (st := []) G ok_X_year mf_X_year ⟨tw_1232, tw_1233⟩ rfl tw_1231 d_law_1024 (by decide) hcs rfl e1 (by simp [Value.category]) ?_
  refine l_m G d_law_1027 ?_
  refine l_arg (n := 1) G rfl hL hL2 rfl (by decide) d_law_1028 d_law_1029 d_law_1030 d_law_1031 d_law_1032 ?_
  refine l_arg (n := 2) G rfl hL hL2 rfl (by decide) d_law_1033 d_law_1034 d_law_1035 d_law_1036 d_law_1037 ?_
  refine l_arg (n := 3) G rfl hL hL2 rfl (by decide) d_law_1038 d_law_1039 d_law_1040 d_law_1041 d_law_1042 ?_
  refine l_arg (n := 4) G rfl hL hL2 rfl (by decide) d_law_1043 d_law_1044 d_law_1045 d_law_1046 d_law_1047 ?_
  refine l_call (vs := [sc (I + 1), sc (I + 2), sc (I + 3), sc (I + 4)]) (r := 111) (st := [.int v]) G ok_M_year mf_M_year ⟨tw_2000, tw_2001⟩ rfl tw_1999 d_law_1048 (by decide) hcs rfl e2 (by simp [Value.category]) ?_
  exact l_eq G d_law_1051 rfl (kk h2 hI)
theorem lc_tell {X : Cxt} {b0 L : Nat} {sc : Nat → Int32} {cs : Nat × Nat} {h : Hp} {I : Nat} {Inv Jnv : Hp → Prop} (G : GL X b0 L sc) (hL : I + 6 ≤ L) (hL2 : L ≤ 3072) (hcs : cs.1 ≤ 600000 ∧ cs.2 ≤ 7302250) (hA : Agree Inv Jnv D_X_tell D_M_tell 3 (fun vs => vs[2]? = some 0 ∨ vs[2]? = some 1)) (hi : Inv h) (kk : ∀ h2, Jnv h2 → LW X b0 cs (ii I) 1263 [] h2) : LW X b0 cs (ii I) 1056 [] h := by
  obtain ⟨v, h1, h2, e1, e2, hI⟩ := hA [sc (I + 1), sc (I + 2), if sc (I + 3) = 0 then 0 else 1] rfl (by by_cases e : sc (I + 3) = 0 <;> simp [e]) h hi
  refine l_x G d_law_1056 ?_
  refine l_arg (n := 1) G rfl hL hL2 rfl (by decide) d_law_1057 d_law_1058 d_law_1059 d_law_1060 d_law_1061 ?_
  refine l_arg (n := 2) G rfl hL hL2 rfl (by decide) d_law_1062 d_law_1063 d_law_1064 d_law_1065 d_law_1066 ?_
  refine l_arg (n := 3) G rfl hL hL2 rfl (by decide) d_law_1067 d_law_1068 d_law_1069 d_law_1070 d_law_1071 ?_
  refine l_bool G d_law_1072 rfl d_law_1075 d_law_1076 rfl d_law_1079 rfl ?_
  refine l_call (vs := [sc (I + 1), sc (I + 2), if sc (I + 3) = 0 then 0 else 1]) (r := 0) (st := []) G ok_X_tell mf_X_tell ⟨tw_1236, tw_1237⟩ rfl tw_1235 d_law_1080 (by decide) hcs rfl e1 (by simp [Value.category]) ?_
  refine l_m G d_law_1083 ?_
  refine l_arg (n := 1) G rfl hL hL2 rfl (by decide) d_law_1084 d_law_1085 d_law_1086 d_law_1087 d_law_1088 ?_
  refine l_arg (n := 2) G rfl hL hL2 rfl (by decide) d_law_1089 d_law_1090 d_law_1091 d_law_1092 d_law_1093 ?_
  refine l_arg (n := 3) G rfl hL hL2 rfl (by decide) d_law_1094 d_law_1095 d_law_1096 d_law_1097 d_law_1098 ?_
  refine l_bool G d_law_1099 rfl d_law_1102 d_law_1103 rfl d_law_1106 rfl ?_
  refine l_call (vs := [sc (I + 1), sc (I + 2), if sc (I + 3) = 0 then 0 else 1]) (r := 111) (st := [.int v]) G ok_M_tell mf_M_tell ⟨tw_2004, tw_2005⟩ rfl tw_2003 d_law_1107 (by decide) hcs rfl e2 (by simp [Value.category]) ?_
  exact l_eq G d_law_1110 rfl (kk h2 hI)
theorem lc_forget {X : Cxt} {b0 L : Nat} {sc : Nat → Int32} {cs : Nat × Nat} {h : Hp} {I : Nat} {Inv Jnv : Hp → Prop} (G : GL X b0 L sc) (hL : I + 6 ≤ L) (hL2 : L ≤ 3072) (hcs : cs.1 ≤ 600000 ∧ cs.2 ≤ 7302250) (hA : Agree Inv Jnv D_X_forget D_M_forget 0 (fun _ => True)) (hi : Inv h) (kk : ∀ h2, Jnv h2 → LW X b0 cs (ii I) 1263 [] h2) : LW X b0 cs (ii I) 1115 [] h := by
  obtain ⟨v, h1, h2, e1, e2, hI⟩ := hA [] rfl trivial h hi
  refine l_x G d_law_1115 ?_
  refine l_call (vs := []) (r := 0) (st := []) G ok_X_forget mf_X_forget ⟨tw_1244, tw_1245⟩ rfl tw_1243 d_law_1116 (by decide) hcs rfl e1 (by simp [Value.category]) ?_
  refine l_m G d_law_1119 ?_
  refine l_call (vs := []) (r := 111) (st := [.int v]) G ok_M_forget mf_M_forget ⟨tw_2011, tw_2012⟩ rfl tw_2010 d_law_1120 (by decide) hcs rfl e2 (by simp [Value.category]) ?_
  exact l_eq G d_law_1123 rfl (kk h2 hI)
theorem lc_who {X : Cxt} {b0 L : Nat} {sc : Nat → Int32} {cs : Nat × Nat} {h : Hp} {I : Nat} {Inv Jnv : Hp → Prop} (G : GL X b0 L sc) (hL : I + 6 ≤ L) (hL2 : L ≤ 3072) (hcs : cs.1 ≤ 600000 ∧ cs.2 ≤ 7302250) (hA : Agree Inv Jnv D_X_who D_M_who 2 (fun _ => True)) (hi : Inv h) (kk : ∀ h2, Jnv h2 → LW X b0 cs (ii I) 1263 [] h2) : LW X b0 cs (ii I) 1128 [] h := by
  obtain ⟨v, h1, h2, e1, e2, hI⟩ := hA [sc (I + 1), sc (I + 2)] rfl trivial h hi
  refine l_x G d_law_1128 ?_
  refine l_arg (n := 1) G rfl hL hL2 rfl (by decide) d_law_1129 d_law_1130 d_law_1131 d_law_1132 d_law_1133 ?_
  refine l_arg (n := 2) G rfl hL hL2 rfl (by decide) d_law_1134 d_law_1135 d_law_1136 d_law_1137 d_law_1138 ?_
  refine l_call (vs := [sc (I + 1), sc (I + 2)]) (r := 0) (st := []) G ok_X_who mf_X_who ⟨tw_1248, tw_1249⟩ rfl tw_1247 d_law_1139 (by decide) hcs rfl e1 (by simp [Value.category]) ?_
  refine l_m G d_law_1142 ?_
  refine l_arg (n := 1) G rfl hL hL2 rfl (by decide) d_law_1143 d_law_1144 d_law_1145 d_law_1146 d_law_1147 ?_
  refine l_arg (n := 2) G rfl hL hL2 rfl (by decide) d_law_1148 d_law_1149 d_law_1150 d_law_1151 d_law_1152 ?_
  refine l_call (vs := [sc (I + 1), sc (I + 2)]) (r := 111) (st := [.int v]) G ok_M_who mf_M_who ⟨tw_2015, tw_2016⟩ rfl tw_2014 d_law_1153 (by decide) hcs rfl e2 (by simp [Value.category]) ?_
  exact l_eq G d_law_1156 rfl (kk h2 hI)
theorem lc_look {X : Cxt} {b0 L : Nat} {sc : Nat → Int32} {cs : Nat × Nat} {h : Hp} {I : Nat} {Inv Jnv : Hp → Prop} (G : GL X b0 L sc) (hL : I + 6 ≤ L) (hL2 : L ≤ 3072) (hcs : cs.1 ≤ 600000 ∧ cs.2 ≤ 7302250) (hA : Agree Inv Jnv D_X_look D_M_look 2 (fun _ => True)) (hi : Inv h) (kk : ∀ h2, Jnv h2 → LW X b0 cs (ii I) 1263 [] h2) : LW X b0 cs (ii I) 1161 [] h := by
  obtain ⟨v, h1, h2, e1, e2, hI⟩ := hA [sc (I + 1), sc (I + 2)] rfl trivial h hi
  refine l_x G d_law_1161 ?_
  refine l_arg (n := 1) G rfl hL hL2 rfl (by decide) d_law_1162 d_law_1163 d_law_1164 d_law_1165 d_law_1166 ?_
  refine l_arg (n := 2) G rfl hL hL2 rfl (by decide) d_law_1167 d_law_1168 d_law_1169 d_law_1170 d_law_1171 ?_
  refine l_call (vs := [sc (I + 1), sc (I + 2)]) (r := 0) (st := []) G ok_X_look mf_X_look ⟨tw_1273, tw_1274⟩ rfl tw_1272 d_law_1172 (by decide) hcs rfl e1 (by simp [Value.category]) ?_
  refine l_m G d_law_1175 ?_
  refine l_arg (n := 1) G rfl hL hL2 rfl (by decide) d_law_1176 d_law_1177 d_law_1178 d_law_1179 d_law_1180 ?_
  refine l_arg (n := 2) G rfl hL hL2 rfl (by decide) d_law_1181 d_law_1182 d_law_1183 d_law_1184 d_law_1185 ?_
  refine l_call (vs := [sc (I + 1), sc (I + 2)]) (r := 111) (st := [.int v]) G ok_M_look mf_M_look ⟨tw_2030, tw_2031⟩ rfl tw_2029 d_law_1186 (by decide) hcs rfl e2 (by simp [Value.category]) ?_
  exact l_eq G d_law_1189 rfl (kk h2 hI)
theorem lc_hold {X : Cxt} {b0 L : Nat} {sc : Nat → Int32} {cs : Nat × Nat} {h : Hp} {I : Nat} {Inv Jnv : Hp → Prop} (G : GL X b0 L sc) (hL : I + 6 ≤ L) (hL2 : L ≤ 3072) (hcs : cs.1 ≤ 600000 ∧ cs.2 ≤ 7302250) (hA : Agree Inv Jnv D_X_hold D_M_hold 1 (fun _ => True)) (hi : Inv h) (kk : ∀ h2, Jnv h2 → LW X b0 cs (ii I) 1263 [] h2) : LW X b0 cs (ii I) 1194 [] h := by
  obtain ⟨v, h1, h2, e1, e2, hI⟩ := hA [sc (I + 1)] rfl trivial h hi
  refine l_x G d_law_1194 ?_
  refine l_arg (n := 1) G rfl hL hL2 rfl (by decide) d_law_1195 d_law_1196 d_law_1197 d_law_1198 d_law_1199 ?_
  refine l_call (vs := [sc (I + 1)]) (r := 0) (st := []) G ok_X_hold mf_X_hold ⟨tw_1286, tw_1287⟩ rfl tw_1285 d_law_1200 (by decide) hcs rfl e1 (by simp [Value.category]) ?_
  refine l_m G d_law_1203 ?_
  refine l_arg (n := 1) G rfl hL hL2 rfl (by decide) d_law_1204 d_law_1205 d_law_1206 d_law_1207 d_law_1208 ?_
  refine l_call (vs := [sc (I + 1)]) (r := 111) (st := [.int v]) G ok_M_hold mf_M_hold ⟨tw_2034, tw_2035⟩ rfl tw_2033 d_law_1209 (by decide) hcs rfl e2 (by simp [Value.category]) ?_
  exact l_eq G d_law_1212 rfl (kk h2 hI)
theorem lc_restore {X : Cxt} {b0 L : Nat} {sc : Nat → Int32} {cs : Nat × Nat} {h : Hp} {I : Nat} {Inv Jnv : Hp → Prop} (G : GL X b0 L sc) (hL : I + 6 ≤ L) (hL2 : L ≤ 3072) (hcs : cs.1 ≤ 600000 ∧ cs.2 ≤ 7302250) (hA : Agree Inv Jnv D_X_restore D_M_restore 1 (fun _ => True)) (hi : Inv h) (kk : ∀ h2, Jnv h2 → LW X b0 cs (ii I) 1263 [] h2) : LW X b0 cs (ii I) 1217 [] h := by
  obtain ⟨v, h1, h2, e1, e2, hI⟩ := hA [sc (I + 1)] rfl trivial h hi
  refine l_x G d_law_1217 ?_
  refine l_arg (n := 1) G rfl hL hL2 rfl (by decide) d_law_1218 d_law_1219 d_law_1220 d_law_1221 d_law_1222 ?_
  refine l_call (vs := [sc (I + 1)]) (r := 0) (st := []) G ok_X_restore mf_X_restore ⟨tw_1294, tw_1295⟩ rfl tw_1293 d_law_1223 (by decide) hcs rfl e1 (by simp [Value.category]) ?_
  refine l_m G d_law_1226 ?_
  refine l_arg (n := 1) G rfl hL hL2 rfl (by decide) d_law_1227 d_law_1228 d_law_1229 d_law_1230 d_law_1231 ?_
  refine l_call (vs := [sc (I + 1)]) (r := 111) (st := [.int v]) G ok_M_restore mf_M_restore ⟨tw_2038, tw_2039⟩ rfl tw_2037 d_law_1232 (by decide) hcs rfl e2 (by simp [Value.category]) ?_
  exact l_eq G d_law_1235 rfl (kk h2 hI)
theorem lc_count {X : Cxt} {b0 L : Nat} {sc : Nat → Int32} {cs : Nat × Nat} {h : Hp} {I : Nat} {Inv Jnv : Hp → Prop} (G : GL X b0 L sc) (hL : I + 6 ≤ L) (hL2 : L ≤ 3072) (hcs : cs.1 ≤ 600000 ∧ cs.2 ≤ 7302250) (hA : Agree Inv Jnv D_X_count D_M_count 1 (fun _ => True)) (hi : Inv h) (kk : ∀ h2, Jnv h2 → LW X b0 cs (ii I) 1263 [] h2) : LW X b0 cs (ii I) 1240 [] h := by
  obtain ⟨v, h1, h2, e1, e2, hI⟩ := hA [sc (I + 1)] rfl trivial h hi
  refine l_x G d_law_1240 ?_
  refine l_arg (n := 1) G rfl hL hL2 rfl (by decide) d_law_1241 d_law_1242 d_law_1243 d_law_1244 d_law_1245 ?_
  refine l_call (vs := [sc (I + 1)]) (r := 0) (st := []) G ok_X_count mf_X_count ⟨tw_1302, tw_1303⟩ rfl tw_1301 d_law_1246 (by decide) hcs rfl e1 (by simp [Value.category]) ?_
  refine l_m G d_law_1249 ?_
  refine l_arg (n := 1) G rfl hL hL2 rfl (by decide) d_law_1250 d_law_1251 d_law_1252 d_law_1253 d_law_1254 ?_
  refine l_call (vs := [sc (I + 1)]) (r := 111) (st := [.int v]) G ok_M_count mf_M_count ⟨tw_2042, tw_2043⟩ rfl tw_2041 d_law_1255 (by decide) hcs rfl e2 (by simp [Value.category]) ?_
  exact l_eq G d_law_1258 rfl (kk h2 hI)
def PureOps (Inv Jnv : Hp → Prop) : Prop :=
  Agree Inv Jnv D_X_feed D_M_feed 5 (fun _ => True) ∧
  Agree Inv Jnv D_X_back D_M_back 1 (fun _ => True) ∧
  Agree Inv Jnv D_X_read D_M_read 0 (fun _ => True) ∧
  Agree Inv Jnv D_X_place D_M_place 0 (fun _ => True) ∧
  Agree Inv Jnv D_X_road D_M_road 2 (fun _ => True) ∧
  Agree Inv Jnv D_X_goer D_M_goer 2 (fun _ => True) ∧
  Agree Inv Jnv D_X_gained D_M_gained 1 (fun _ => True) ∧
  Agree Inv Jnv D_X_want D_M_want 2 (fun _ => True) ∧
  Agree Inv Jnv D_X_crowds D_M_crowds 3 (fun _ => True) ∧
  Agree Inv Jnv D_X_flap D_M_flap 2 (fun _ => True) ∧
  Agree Inv Jnv D_X_turn D_M_turn 2 (fun _ => True) ∧
  Agree Inv Jnv D_X_wish D_M_wish 3 (fun _ => True) ∧
  Agree Inv Jnv D_X_days D_M_days 1 (fun _ => True) ∧
  Agree Inv Jnv D_X_undo D_M_undo 0 (fun _ => True) ∧
  Agree Inv Jnv D_X_plan D_M_plan 2 (fun _ => True) ∧
  Agree Inv Jnv D_X_rests D_M_rests 0 (fun _ => True) ∧
  Agree Inv Jnv D_X_bestRest D_M_bestRest 1 (fun _ => True) ∧
  Agree Inv Jnv D_X_bestGiving D_M_bestGiving 1 (fun _ => True) ∧
  Agree Inv Jnv D_X_settles D_M_settles 0 (fun _ => True) ∧
  Agree Inv Jnv D_X_oneEach D_M_oneEach 1 (fun _ => True) ∧
  Agree Inv Jnv D_X_closing D_M_closing 0 (fun _ => True) ∧
  Agree Inv Jnv D_X_search D_M_search 2 (fun _ => True) ∧
  Agree Inv Jnv D_X_bar D_M_bar 2 (fun _ => True) ∧
  Agree Inv Jnv D_X_enough D_M_enough 2 (fun _ => True) ∧
  Agree Inv Jnv D_X_open D_M_open 1 (fun _ => True) ∧
  Agree Inv Jnv D_X_crowded D_M_crowded 1 (fun _ => True) ∧
  Agree Inv Jnv D_X_same D_M_same 1 (fun _ => True) ∧
  Agree Inv Jnv D_X_then D_M_then 3 (fun _ => True) ∧
  Agree Inv Jnv D_X_gainedIn D_M_gainedIn 2 (fun _ => True) ∧
  Agree Inv Jnv D_X_year D_M_year 4 (fun _ => True) ∧
  Agree Inv Jnv D_X_tell D_M_tell 3 (fun vs => vs[2]? = some 0 ∨ vs[2]? = some 1) ∧
  Agree Inv Jnv D_X_forget D_M_forget 0 (fun _ => True) ∧
  Agree Inv Jnv D_X_who D_M_who 2 (fun _ => True) ∧
  Agree Inv Jnv D_X_look D_M_look 2 (fun _ => True) ∧
  Agree Inv Jnv D_X_hold D_M_hold 1 (fun _ => True) ∧
  Agree Inv Jnv D_X_restore D_M_restore 1 (fun _ => True) ∧
  Agree Inv Jnv D_X_count D_M_count 1 (fun _ => True)
