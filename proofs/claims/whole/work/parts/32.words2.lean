/-! Words for the constructors (written by wip/whole/jinit.py). -/
theorem tw_147 : Cond.code ⟨"BlinkerCross", "<init>", "()V"⟩ prog_1_method_1_code 1 none ∈ TB := tb_mem (i := 147) (by decide +kernel) (by decide +kernel)
theorem tw_148 : Cond.methodLink "BlinkerCross" 3 ⟨"java/lang/Object", "<init>", "()V"⟩ ∈ TB := tb_mem (i := 148) (by decide +kernel) (by decide +kernel)
theorem tw_151 : Cond.classLink "BlinkerCross" 9 "BlinkerCross$Tape" ∈ TB := tb_mem (i := 151) (by decide +kernel) (by decide +kernel)
theorem tw_152 : Cond.instantiable "BlinkerCross$Tape" 5 ∈ TB := tb_mem (i := 152) (by decide +kernel) (by decide +kernel)
theorem tw_154 : Cond.instanceMethod ⟨"BlinkerCross$Tape", "<init>", "()V"⟩ ∈ TB := tb_mem (i := 154) (by decide +kernel) (by decide +kernel)
theorem tw_155 : Cond.code ⟨"BlinkerCross$Tape", "<init>", "()V"⟩ prog_10_method_1_code 1 none ∈ TB := tb_mem (i := 155) (by decide +kernel) (by decide +kernel)
theorem tw_156 : Cond.methodLink "BlinkerCross$Tape" 3 ⟨"java/lang/Object", "<init>", "()V"⟩ ∈ TB := tb_mem (i := 156) (by decide +kernel) (by decide +kernel)
theorem tw_175 : Cond.arrayClass .byte ∈ TB := tb_mem (i := 175) (by decide +kernel) (by decide +kernel)
theorem tw_176 : Cond.arrayClass .int ∈ TB := tb_mem (i := 176) (by decide +kernel) (by decide +kernel)
theorem tw_177 : Cond.arrayClass .long ∈ TB := tb_mem (i := 177) (by decide +kernel) (by decide +kernel)
theorem tw_178 : Cond.classLink "BlinkerCross" 16 "BlinkerCross$Text" ∈ TB := tb_mem (i := 178) (by decide +kernel) (by decide +kernel)
theorem tw_179 : Cond.instantiable "BlinkerCross$Text" 11 ∈ TB := tb_mem (i := 179) (by decide +kernel) (by decide +kernel)
theorem tw_180 : Cond.methodLink "BlinkerCross" 18 ⟨"BlinkerCross$Text", "<init>", "()V"⟩ ∈ TB := tb_mem (i := 180) (by decide +kernel) (by decide +kernel)
theorem tw_181 : Cond.instanceMethod ⟨"BlinkerCross$Text", "<init>", "()V"⟩ ∈ TB := tb_mem (i := 181) (by decide +kernel) (by decide +kernel)
theorem tw_182 : Cond.code ⟨"BlinkerCross$Text", "<init>", "()V"⟩ prog_11_method_1_code 1 none ∈ TB := tb_mem (i := 182) (by decide +kernel) (by decide +kernel)
theorem tw_183 : Cond.methodLink "BlinkerCross$Text" 3 ⟨"java/lang/Object", "<init>", "()V"⟩ ∈ TB := tb_mem (i := 183) (by decide +kernel) (by decide +kernel)
theorem tw_184 : Cond.methodLink "BlinkerCross$Text" 33 ⟨"BlinkerCross$Text", "clear", "()V"⟩ ∈ TB := tb_mem (i := 184) (by decide +kernel) (by decide +kernel)
theorem tw_263 : Cond.classLink "BlinkerCross" 23 "BlinkerCross$Parser" ∈ TB := tb_mem (i := 263) (by decide +kernel) (by decide +kernel)
theorem tw_264 : Cond.instantiable "BlinkerCross$Parser" 12 ∈ TB := tb_mem (i := 264) (by decide +kernel) (by decide +kernel)
theorem tw_265 : Cond.methodLink "BlinkerCross" 25 ⟨"BlinkerCross$Parser", "<init>", "(LBlinkerCross$Tape;)V"⟩ ∈ TB := tb_mem (i := 265) (by decide +kernel) (by decide +kernel)
theorem tw_266 : Cond.instanceMethod ⟨"BlinkerCross$Parser", "<init>", "(LBlinkerCross$Tape;)V"⟩ ∈ TB := tb_mem (i := 266) (by decide +kernel) (by decide +kernel)
theorem tw_267 : Cond.code ⟨"BlinkerCross$Parser", "<init>", "(LBlinkerCross$Tape;)V"⟩ prog_6_method_1_code 2 none ∈ TB := tb_mem (i := 267) (by decide +kernel) (by decide +kernel)
theorem tw_268 : Cond.methodLink "BlinkerCross$Parser" 3 ⟨"java/lang/Object", "<init>", "()V"⟩ ∈ TB := tb_mem (i := 268) (by decide +kernel) (by decide +kernel)
theorem tw_269 : Cond.classLink "BlinkerCross$Parser" 9 "BlinkerCross$Text" ∈ TB := tb_mem (i := 269) (by decide +kernel) (by decide +kernel)
theorem tw_270 : Cond.methodLink "BlinkerCross$Parser" 11 ⟨"BlinkerCross$Text", "<init>", "()V"⟩ ∈ TB := tb_mem (i := 270) (by decide +kernel) (by decide +kernel)
theorem tw_310 : Cond.classLink "BlinkerCross" 32 "BlinkerCross$Scene" ∈ TB := tb_mem (i := 310) (by decide +kernel) (by decide +kernel)
theorem tw_311 : Cond.instantiable "BlinkerCross$Scene" 5 ∈ TB := tb_mem (i := 311) (by decide +kernel) (by decide +kernel)
theorem tw_312 : Cond.methodLink "BlinkerCross" 34 ⟨"BlinkerCross$Scene", "<init>", "(LBlinkerCross$Text;)V"⟩ ∈ TB := tb_mem (i := 312) (by decide +kernel) (by decide +kernel)
theorem tw_313 : Cond.instanceMethod ⟨"BlinkerCross$Scene", "<init>", "(LBlinkerCross$Text;)V"⟩ ∈ TB := tb_mem (i := 313) (by decide +kernel) (by decide +kernel)
theorem tw_314 : Cond.code ⟨"BlinkerCross$Scene", "<init>", "(LBlinkerCross$Text;)V"⟩ prog_8_method_1_code 2 none ∈ TB := tb_mem (i := 314) (by decide +kernel) (by decide +kernel)
theorem tw_315 : Cond.methodLink "BlinkerCross$Scene" 3 ⟨"java/lang/Object", "<init>", "()V"⟩ ∈ TB := tb_mem (i := 315) (by decide +kernel) (by decide +kernel)
theorem tw_345 : Cond.classLink "BlinkerCross" 41 "BlinkerCross$Laws" ∈ TB := tb_mem (i := 345) (by decide +kernel) (by decide +kernel)
theorem tw_346 : Cond.instantiable "BlinkerCross$Laws" 3 ∈ TB := tb_mem (i := 346) (by decide +kernel) (by decide +kernel)
theorem tw_347 : Cond.methodLink "BlinkerCross" 43 ⟨"BlinkerCross$Laws", "<init>", "(LBlinkerCross$Text;)V"⟩ ∈ TB := tb_mem (i := 347) (by decide +kernel) (by decide +kernel)
theorem tw_348 : Cond.instanceMethod ⟨"BlinkerCross$Laws", "<init>", "(LBlinkerCross$Text;)V"⟩ ∈ TB := tb_mem (i := 348) (by decide +kernel) (by decide +kernel)
theorem tw_349 : Cond.code ⟨"BlinkerCross$Laws", "<init>", "(LBlinkerCross$Text;)V"⟩ prog_5_method_1_code 2 none ∈ TB := tb_mem (i := 349) (by decide +kernel) (by decide +kernel)
theorem tw_350 : Cond.methodLink "BlinkerCross$Laws" 3 ⟨"java/lang/Object", "<init>", "()V"⟩ ∈ TB := tb_mem (i := 350) (by decide +kernel) (by decide +kernel)
theorem tw_361 : Cond.classLink "BlinkerCross" 48 "BlinkerCross$Days" ∈ TB := tb_mem (i := 361) (by decide +kernel) (by decide +kernel)
theorem tw_362 : Cond.instantiable "BlinkerCross$Days" 3 ∈ TB := tb_mem (i := 362) (by decide +kernel) (by decide +kernel)
theorem tw_363 : Cond.methodLink "BlinkerCross" 50 ⟨"BlinkerCross$Days", "<init>", "(LBlinkerCross$Text;LBlinkerCross$Laws;)V"⟩ ∈ TB := tb_mem (i := 363) (by decide +kernel) (by decide +kernel)
theorem tw_364 : Cond.instanceMethod ⟨"BlinkerCross$Days", "<init>", "(LBlinkerCross$Text;LBlinkerCross$Laws;)V"⟩ ∈ TB := tb_mem (i := 364) (by decide +kernel) (by decide +kernel)
theorem tw_365 : Cond.code ⟨"BlinkerCross$Days", "<init>", "(LBlinkerCross$Text;LBlinkerCross$Laws;)V"⟩ prog_2_method_1_code 3 none ∈ TB := tb_mem (i := 365) (by decide +kernel) (by decide +kernel)
theorem tw_366 : Cond.methodLink "BlinkerCross$Days" 3 ⟨"java/lang/Object", "<init>", "()V"⟩ ∈ TB := tb_mem (i := 366) (by decide +kernel) (by decide +kernel)
theorem tw_367 : Cond.classLink "BlinkerCross$Days" 19 "BlinkerCross$Scene" ∈ TB := tb_mem (i := 367) (by decide +kernel) (by decide +kernel)
theorem tw_368 : Cond.methodLink "BlinkerCross$Days" 21 ⟨"BlinkerCross$Scene", "<init>", "(LBlinkerCross$Text;)V"⟩ ∈ TB := tb_mem (i := 368) (by decide +kernel) (by decide +kernel)
theorem tw_379 : Cond.classLink "BlinkerCross" 57 "BlinkerCross$Plan" ∈ TB := tb_mem (i := 379) (by decide +kernel) (by decide +kernel)
theorem tw_380 : Cond.instantiable "BlinkerCross$Plan" 14 ∈ TB := tb_mem (i := 380) (by decide +kernel) (by decide +kernel)
theorem tw_381 : Cond.methodLink "BlinkerCross" 59 ⟨"BlinkerCross$Plan", "<init>", "(LBlinkerCross$Text;LBlinkerCross$Scene;LBlinkerCross$Laws;)V"⟩ ∈ TB := tb_mem (i := 381) (by decide +kernel) (by decide +kernel)
theorem tw_382 : Cond.instanceMethod ⟨"BlinkerCross$Plan", "<init>", "(LBlinkerCross$Text;LBlinkerCross$Scene;LBlinkerCross$Laws;)V"⟩ ∈ TB := tb_mem (i := 382) (by decide +kernel) (by decide +kernel)
theorem tw_383 : Cond.code ⟨"BlinkerCross$Plan", "<init>", "(LBlinkerCross$Text;LBlinkerCross$Scene;LBlinkerCross$Laws;)V"⟩ prog_7_method_1_code 4 none ∈ TB := tb_mem (i := 383) (by decide +kernel) (by decide +kernel)
theorem tw_384 : Cond.methodLink "BlinkerCross$Plan" 3 ⟨"java/lang/Object", "<init>", "()V"⟩ ∈ TB := tb_mem (i := 384) (by decide +kernel) (by decide +kernel)
theorem tw_432 : Cond.classLink "BlinkerCross" 66 "BlinkerCross$Givings" ∈ TB := tb_mem (i := 432) (by decide +kernel) (by decide +kernel)
theorem tw_433 : Cond.instantiable "BlinkerCross$Givings" 15 ∈ TB := tb_mem (i := 433) (by decide +kernel) (by decide +kernel)
theorem tw_434 : Cond.methodLink "BlinkerCross" 68 ⟨"BlinkerCross$Givings", "<init>", "(LBlinkerCross$Text;LBlinkerCross$Scene;LBlinkerCross$Laws;)V"⟩ ∈ TB := tb_mem (i := 434) (by decide +kernel) (by decide +kernel)
theorem tw_435 : Cond.instanceMethod ⟨"BlinkerCross$Givings", "<init>", "(LBlinkerCross$Text;LBlinkerCross$Scene;LBlinkerCross$Laws;)V"⟩ ∈ TB := tb_mem (i := 435) (by decide +kernel) (by decide +kernel)
theorem tw_436 : Cond.code ⟨"BlinkerCross$Givings", "<init>", "(LBlinkerCross$Text;LBlinkerCross$Scene;LBlinkerCross$Laws;)V"⟩ prog_3_method_1_code 4 none ∈ TB := tb_mem (i := 436) (by decide +kernel) (by decide +kernel)
theorem tw_437 : Cond.methodLink "BlinkerCross$Givings" 3 ⟨"java/lang/Object", "<init>", "()V"⟩ ∈ TB := tb_mem (i := 437) (by decide +kernel) (by decide +kernel)
theorem tw_489 : Cond.classLink "BlinkerCross" 73 "BlinkerCross$Sharing" ∈ TB := tb_mem (i := 489) (by decide +kernel) (by decide +kernel)
theorem tw_490 : Cond.instantiable "BlinkerCross$Sharing" 4 ∈ TB := tb_mem (i := 490) (by decide +kernel) (by decide +kernel)
theorem tw_491 : Cond.methodLink "BlinkerCross" 75 ⟨"BlinkerCross$Sharing", "<init>", "(LBlinkerCross$Text;LBlinkerCross$Scene;)V"⟩ ∈ TB := tb_mem (i := 491) (by decide +kernel) (by decide +kernel)
theorem tw_492 : Cond.instanceMethod ⟨"BlinkerCross$Sharing", "<init>", "(LBlinkerCross$Text;LBlinkerCross$Scene;)V"⟩ ∈ TB := tb_mem (i := 492) (by decide +kernel) (by decide +kernel)
theorem tw_493 : Cond.code ⟨"BlinkerCross$Sharing", "<init>", "(LBlinkerCross$Text;LBlinkerCross$Scene;)V"⟩ prog_9_method_1_code 3 none ∈ TB := tb_mem (i := 493) (by decide +kernel) (by decide +kernel)
theorem tw_494 : Cond.methodLink "BlinkerCross$Sharing" 3 ⟨"java/lang/Object", "<init>", "()V"⟩ ∈ TB := tb_mem (i := 494) (by decide +kernel) (by decide +kernel)
theorem tw_495 : Cond.classLink "BlinkerCross$Sharing" 15 "[[I" ∈ TB := tb_mem (i := 495) (by decide +kernel) (by decide +kernel)
theorem tw_511 : Cond.classLink "BlinkerCross" 82 "BlinkerCross$Told" ∈ TB := tb_mem (i := 511) (by decide +kernel) (by decide +kernel)
theorem tw_512 : Cond.instantiable "BlinkerCross$Told" 7 ∈ TB := tb_mem (i := 512) (by decide +kernel) (by decide +kernel)
theorem tw_513 : Cond.methodLink "BlinkerCross" 84 ⟨"BlinkerCross$Told", "<init>", "(LBlinkerCross$Text;LBlinkerCross$Scene;LBlinkerCross$Laws;)V"⟩ ∈ TB := tb_mem (i := 513) (by decide +kernel) (by decide +kernel)
theorem tw_514 : Cond.instanceMethod ⟨"BlinkerCross$Told", "<init>", "(LBlinkerCross$Text;LBlinkerCross$Scene;LBlinkerCross$Laws;)V"⟩ ∈ TB := tb_mem (i := 514) (by decide +kernel) (by decide +kernel)
theorem tw_515 : Cond.code ⟨"BlinkerCross$Told", "<init>", "(LBlinkerCross$Text;LBlinkerCross$Scene;LBlinkerCross$Laws;)V"⟩ prog_12_method_1_code 4 none ∈ TB := tb_mem (i := 515) (by decide +kernel) (by decide +kernel)
theorem tw_516 : Cond.methodLink "BlinkerCross$Told" 3 ⟨"java/lang/Object", "<init>", "()V"⟩ ∈ TB := tb_mem (i := 516) (by decide +kernel) (by decide +kernel)
theorem tw_540 : Cond.arrayClass .boolean ∈ TB := tb_mem (i := 540) (by decide +kernel) (by decide +kernel)
theorem tw_541 : Cond.classLink "BlinkerCross" 89 "BlinkerCross$History" ∈ TB := tb_mem (i := 541) (by decide +kernel) (by decide +kernel)
theorem tw_542 : Cond.instantiable "BlinkerCross$History" 5 ∈ TB := tb_mem (i := 542) (by decide +kernel) (by decide +kernel)
theorem tw_544 : Cond.instanceMethod ⟨"BlinkerCross$History", "<init>", "()V"⟩ ∈ TB := tb_mem (i := 544) (by decide +kernel) (by decide +kernel)
theorem tw_545 : Cond.code ⟨"BlinkerCross$History", "<init>", "()V"⟩ prog_4_method_1_code 1 none ∈ TB := tb_mem (i := 545) (by decide +kernel) (by decide +kernel)
theorem tw_546 : Cond.methodLink "BlinkerCross$History" 3 ⟨"java/lang/Object", "<init>", "()V"⟩ ∈ TB := tb_mem (i := 546) (by decide +kernel) (by decide +kernel)
theorem tw_547 : Cond.classLink "BlinkerCross$History" 9 "[[I" ∈ TB := tb_mem (i := 547) (by decide +kernel) (by decide +kernel)
set_option maxRecDepth 100000 in
theorem tw_1340 : Cond.code ⟨"BlinkerCrossModel", "<init>", "()V"⟩ prog_14_method_2_code 1 none ∈ TB := tb_mem (i := 1340) rfl rfl
theorem tw_1341 : Cond.methodLink "BlinkerCrossModel" 7 ⟨"java/lang/Object", "<init>", "()V"⟩ ∈ TB := tb_mem (i := 1341) (by decide +kernel) (by decide +kernel)
theorem tw_1346 : Cond.methodLink "BlinkerCrossModel" 165 ⟨"BlinkerCrossModel", "letters", "(IIIIIII)J"⟩ ∈ TB := tb_mem (i := 1346) (by decide +kernel) (by decide +kernel)
theorem tw_1347 : Cond.static ⟨"BlinkerCrossModel", "letters", "(IIIIIII)J"⟩ ∈ TB := tb_mem (i := 1347) (by decide +kernel) (by decide +kernel)
theorem tw_oi : Cond.instanceMethod Lib.objectInit ∈ TB := tb_mem (i := 149) (by decide +kernel) (by decide +kernel)
theorem tw_oc : Cond.code Lib.objectInit ⟨#[0xb1]⟩ 1 none ∈ TB := tb_mem (i := 150) (by decide +kernel) (by decide +kernel)
theorem sa_astL {Y : Yt} {sl : List (Nat × Nat)} {pc p1 p2 p3 : Nat} {a : Xp Nat} {i : Xp Int32} {e : Xp Int64} (ha : EO Y Value.ref sl 0 pc p1 a) (hi : EO Y Value.int sl 1 p1 p2 i) (he : EO Y Value.long sl 2 p2 p3 e) (hd : decode Y.1 p3 = .ok (.lastore, 1)) : SA Y sl sl pc (p3 + 1) 0 0 (sAstL a i e) := by
  intro X cs G hzm hxb hc1 hc2 ls h r ls' h' hf
  obtain ⟨q, hq, hf⟩ := bnd hf
  obtain ⟨w, hw, hf⟩ := bnd hf
  obtain ⟨x, hx, hf⟩ := bnd hf
  obtain ⟨h1, hp, hf⟩ := bnd hf
  cases hf
  refine ⟨rfl, fun k => ?_⟩
  refine ha X cs G ls [] h q.1 q.2 hq (Nat.le_refl _) (hi X cs G ls _ q.2 w.1 w.2 hw (Nat.le_refl _) (he X cs G ls _ w.2 x.1 x.2 hx (Nat.le_refl _) ?_))
  intro hc hl H locs la hP hD hS hz hla
  obtain ⟨n, f, h2, hin, rfl⟩ := hAstL_spec hp
  have hat : H[xb X + q.1]? = some (arrV (xk X 2) n (fun j => .long (f j))) := hP q.1 _ (cW_at h2)
  refine W.last G.1 G.2.1 hat ((G.2.2.2.2.2.1.2 2 _ rfl).1 n (fun j => .long (f j))) (fun q => by cases q) (by rw [arrV_size]; exact hin) rfl rfl hd fun H1 e z oq => ?_
  refine ar_go (st := []) k h2 hc hl hP hD hS hz hla ?_ z oq
  rw [e]
  show _ = some (arrV (xk X 2) n (fun j => .long (vp_updL f w.1.toNatClampNeg x.1 j)))
  rw [arrV_store]
  congr 2
  funext j
  by_cases hq : j = w.1.toNatClampNeg
  · subst hq; simp [updV, vp_updL]
  · simp [updV, vp_updL, hq]
