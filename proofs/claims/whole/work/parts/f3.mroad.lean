/-! The reference: a road is told. -/
section TRG
variable {m m1 m2 μ : Mem} {n t L nr ng nw : Nat} {c : Nat → Int} {E : Except (Nat × Nat) Smt} {S T : Smt}
theorem advs_1 {K : Nat → Nat} {w : Nat} : advs K [w] = adv K w := funext fun t => by
  show (adv K w t).bind (advs K []) = _
  cases adv K w t <;> rfl
theorem advs_2 {K : Nat → Nat} {a b t : Nat} : advs K [a, b] t = (adv K a t).bind (adv K b) := by
  show (adv K a t).bind (advs K [b]) = _
  rw [advs_1]
theorem advs_3 {K : Nat → Nat} {a b d t : Nat} : advs K [a, b, d] t = ((adv K a t).bind (adv K b)).bind (adv K d) := by
  show (adv K a t).bind (advs K [b, d]) = _
  cases adv K a t with
  | error e => rfl
  | ok x => exact advs_2
theorem advs_4 {K : Nat → Nat} {a b d e t : Nat} : advs K [a, b, d, e] t = (((adv K a t).bind (adv K b)).bind (adv K d)).bind (adv K e) := by
  show (adv K a t).bind (advs K [b, d, e]) = _
  cases adv K a t with
  | error e => rfl
  | ok x => exact advs_3
theorem udR {b3 b5 : Bool} (k0 : tkd c n t = 0) (h3 : ∀ S, E = .ok S → b3 = isTd S (nam c n (t + 1))) (h5 : b5 = !decide (1 ≤ tvn c n (t + 2) ∧ tvn c n (t + 2) ≤ 9)) : erW (E.bind (und c n t)) = orW (orW (erW E) b3 (3, t + 1)) b5 (5, t + 2) := by
  cases E with
  | error e => rfl
  | ok S =>
    have e3 := h3 S rfl
    show erW (und c n t S) = _
    unfold und
    rw [if_pos k0, e3, h5]
    cases hb : isTd S (nam c n (t + 1)) with
    | true => rw [if_pos rfl]; rfl
    | false =>
      rw [if_neg (by decide)]
      by_cases a2 : 1 ≤ tvn c n (t + 2) ∧ tvn c n (t + 2) ≤ 9
      · rw [if_neg (fun x => x a2), decide_eq_true a2]; rfl
      · rw [if_pos a2, decide_eq_false a2]; rfl
theorem udRo (k0 : tkd c n t = 0) (hN : tN_ S < 6) (h : und c n t S = .ok T) : isTd S (nam c n (t + 1)) = false ∧ T = (tN_ S + 1, tK_ S, vp_updL (tRn_ S) (tN_ S) (nam c n (t + 1)), tGn_ S, upd (tWd_ S) (tN_ S) (ii (tvn c n (t + 2))), tFc_ S, tSg_ S, tWt_ S, tSd_ S) := by
  unfold und at h
  rw [if_pos k0] at h
  cases hb : isTd S (nam c n (t + 1)) with
  | true => rw [hb, if_pos rfl] at h; cases h
  | false =>
    rw [hb, if_neg (by decide)] at h
    split at h
    · cases h
    · cases h
      exact ⟨rfl, rfl⟩
theorem w_tellRoad (hn : n ≤ 2000) (hL : L ≤ 1) (hK : MKX c n t m) (hW : WSX c n t (erW E) m) (hR : RNX L nr ng nw E m) (k0 : tkd c n t = 0) : ∃ μ, NTx L m μ ∧ NTO c n L (nr + 1) ng nw (E.bind (und c n t)) (pNm (tkd c n) (decide (6 ≤ nr)) [0, 20, 21, 22] t) μ ∧ ∀ Q, wD D_M_tellOne [.ref 111] (hp m) Q ↔ Q none (hp μ) := by
  obtain ⟨r19, r20, r121, r123, r126, lr, lg, lw, av, hav, hS⟩ := id hR
  have h11 := hK.2.1
  have z := tkz_le (c := c) (n := n)
  have tz := hK.2.2.1
  have hk : m.1 114 t = ii 20 := by rw [hK.k, k0]; rfl
  obtain ⟨m1, A1, P1, q1⟩ := w_roomFor (x := nr) (y := 6) (by omega) (by decide) hK hW k0 (by decide)
  have q1 : ∀ Q, wD D_M_roomFor [.ref 111, .int (ii nr), .int (ii 6)] (hp m) Q ↔ Q none (hp m1) := q1
  unfold pNm
  by_cases full : nr = 6
  · rw [if_pos full] at P1
    have h13 : m1.1 111 13 = ii 2 := P1.1
    rw [show decide (6 ≤ nr) = true from decide_eq_true (by omega), if_pos rfl]
    refine ⟨m1, A1.nt, P1, fun Q => wD_eq (wD_out ?_) Q⟩
    simp (disch := omega) only [D_M_tellOne, F_M_tellOne, h11, hk, r19, r121, ↓q1, h13, Nat.reduceEqDiff, Int.reduceEq, Int.reduceLT, Int.reduceLE, Int.reduceNeg, List.length_cons, List.length_nil, ↓wD_run, ↓wD_mV, ↓wS_seq, ↓wS_skip, ↓wS_brk, ↓wS_cnt, ↓wS_retV, ↓wS_put, ↓wS_putZ, ↓wS_fop, ↓wS_ast, ↓wS_astL, ↓wS_aop, ↓wS_if, ↓wS_blk, ↓wS_ret, ↓wS_retZ, ↓wS_call, ↓wS_sw, ↓wS_cpy, ↓wE_kI, ↓wE_kL, ↓wE_o1, ↓wE_o2, ↓wE_oD, ↓wE_oR, ↓wE_gI, ↓wE_gR, ↓wE_aI, ↓wE_aL, ↓wE_aR, ↓wE_lnX, ↓wE_iX, ↓wE_bX, ↓wE_cAnd, ↓wE_cOr, ↓wE_cNot, ↓wE_asV, ↓wA_nil, ↓wA_cons, ↓wE_cI, ↓wE_cL, ↓wE_cR, ↓wE_chX, ↓wE_idX, ↓xI_s, ↓xL_s, ↓xF_s, ↓lI_0, ↓lL_0, ↓lR_0, ↓lI_1, ↓lL_1, ↓lR_1, ↓lI_2, ↓lL_2, ↓lR_2, ↓lI_3, ↓lL_3, ↓lR_3, ↓lI_4, ↓lL_4, ↓lR_4, ↓lI_5, ↓lL_5, ↓lR_5, ↓lI_6, ↓lL_6, ↓lR_6, ↓lI_7, ↓lL_7, ↓lR_7, ↓lI_8, ↓lL_8, ↓lR_8, ↓lI_9, ↓lL_9, ↓lR_9, ↓lI_10, ↓lL_10, ↓lR_10, ↓lI_11, ↓lL_11, ↓lR_11, ↓lI_12, ↓lL_12, ↓lR_12, ↓lI_13, ↓lL_13, ↓lR_13, ↓lI_14, ↓lL_14, ↓lR_14, ↓lI_15, ↓lL_15, ↓lR_15, ↓lI_16, ↓lL_16, ↓lR_16, ↓st_0, ↓st_1, ↓st_2, ↓st_3, ↓st_4, ↓st_5, ↓st_6, ↓st_7, ↓st_8, ↓st_9, ↓st_10, ↓st_11, ↓st_12, ↓st_13, ↓st_14, ↓st_15, ↓st_16, ↓in_0, ↓in_1, ↓in_2, ↓in_3, ↓in_4, ↓in_5, ↓in_6, ↓in_7, ↓in_8, ↓in_9, ↓in_10, ↓in_11, ↓in_12, ↓in_13, ↓in_14, ↓in_15, ↓in_16, ↓dc_0, ↓dc_1, ↓dc_2, ↓dc_3, ↓dc_4, ↓dc_5, ↓dc_6, ↓dc_7, ↓dc_8, ↓dc_9, ↓dc_10, ↓dc_11, ↓dc_12, ↓dc_13, ↓dc_14, ↓dc_15, ↓dc_16, ↓bk_0_0, ↓bk_0_1, ↓bk_0_2, ↓bk_0_3, ↓bk_0_4, ↓bk_0_5, ↓bk_1_1, ↓bk_1_2, ↓bk_1_3, ↓bk_1_4, ↓bk_1_5, ↓bk_1_6, ↓bk_2_2, ↓bk_2_3, ↓bk_2_4, ↓bk_2_5, ↓bk_2_6, ↓bk_2_7, ↓bk_3_3, ↓bk_3_4, ↓bk_3_5, ↓bk_3_6, ↓bk_3_7, ↓bk_3_8, ↓bk_4_4, ↓bk_4_5, ↓bk_4_6, ↓bk_4_7, ↓bk_4_8, ↓bk_4_9, ↓bk_5_5, ↓bk_5_6, ↓bk_5_7, ↓bk_5_8, ↓bk_5_9, ↓bk_5_10, ↓bk_6_6, ↓bk_6_7, ↓bk_6_8, ↓bk_6_9, ↓bk_6_10, ↓bk_6_11, ↓bk_7_7, ↓bk_7_8, ↓bk_7_9, ↓bk_7_10, ↓bk_7_11, ↓bk_7_12, ↓bk_8_8, ↓bk_8_9, ↓bk_8_10, ↓bk_8_11, ↓bk_8_12, ↓bk_8_13, ↓bk_9_9, ↓bk_9_10, ↓bk_9_11, ↓bk_9_12, ↓bk_9_13, ↓bk_9_14, ↓bk_10_10, ↓bk_10_11, ↓bk_10_12, ↓bk_10_13, ↓bk_10_14, ↓bk_10_15, ↓bk_11_11, ↓bk_11_12, ↓bk_11_13, ↓bk_11_14, ↓bk_11_15, ↓bk_11_16, ↓bk_12_12, ↓bk_12_13, ↓bk_12_14, ↓bk_12_15, ↓bk_12_16, ↓bk_12_17, ↓bk_13_13, ↓bk_13_14, ↓bk_13_15, ↓bk_13_16, ↓bk_13_17, ↓bk_13_18, ↓bk_14_14, ↓bk_14_15, ↓bk_14_16, ↓bk_14_17, ↓bk_14_18, ↓bk_15_15, ↓bk_15_16, ↓bk_15_17, ↓bk_15_18, ↓bk_16_16, ↓bk_16_17, ↓bk_16_18, ↓tk_0_0, ↓tk_0_1, ↓tk_0_2, ↓tk_0_3, ↓tk_0_4, ↓tk_0_5, ↓tk_1_1, ↓tk_1_2, ↓tk_1_3, ↓tk_1_4, ↓tk_1_5, ↓tk_1_6, ↓tk_2_2, ↓tk_2_3, ↓tk_2_4, ↓tk_2_5, ↓tk_2_6, ↓tk_2_7, ↓tk_3_3, ↓tk_3_4, ↓tk_3_5, ↓tk_3_6, ↓tk_3_7, ↓tk_3_8, ↓tk_4_4, ↓tk_4_5, ↓tk_4_6, ↓tk_4_7, ↓tk_4_8, ↓tk_4_9, ↓tk_5_5, ↓tk_5_6, ↓tk_5_7, ↓tk_5_8, ↓tk_5_9, ↓tk_5_10, ↓tk_6_6, ↓tk_6_7, ↓tk_6_8, ↓tk_6_9, ↓tk_6_10, ↓tk_6_11, ↓tk_7_7, ↓tk_7_8, ↓tk_7_9, ↓tk_7_10, ↓tk_7_11, ↓tk_7_12, ↓tk_8_8, ↓tk_8_9, ↓tk_8_10, ↓tk_8_11, ↓tk_8_12, ↓tk_8_13, ↓tk_9_9, ↓tk_9_10, ↓tk_9_11, ↓tk_9_12, ↓tk_9_13, ↓tk_9_14, ↓tk_10_10, ↓tk_10_11, ↓tk_10_12, ↓tk_10_13, ↓tk_10_14, ↓tk_10_15, ↓tk_11_11, ↓tk_11_12, ↓tk_11_13, ↓tk_11_14, ↓tk_11_15, ↓tk_11_16, ↓tk_12_12, ↓tk_12_13, ↓tk_12_14, ↓tk_12_15, ↓tk_12_16, ↓tk_12_17, ↓tk_13_13, ↓tk_13_14, ↓tk_13_15, ↓tk_13_16, ↓tk_13_17, ↓tk_13_18, ↓tk_14_14, ↓tk_14_15, ↓tk_14_16, ↓tk_14_17, ↓tk_14_18, ↓tk_15_15, ↓tk_15_16, ↓tk_15_17, ↓tk_15_18, ↓tk_16_16, ↓tk_16_17, ↓tk_16_18, ↓bk_r1, ↓bk_r2, ↓bk_r3, ↓sw_t, ↓sw_f, ↓sw_n, decide_eq_true_eq, ↓reduceIte, ii_add, ii_sub, ii_mul, true_and, and_true, List.map_cons, List.map_nil, Value.category, ne_eq, gt_iff_lt, ge_iff_le, not_true_eq_false, not_false_eq_true, Bool.false_eq_true, true_or, or_true, false_or, or_false, okI_ii, ii_nat, ii_lt, ii_le, ii_inj, ii_lt0, ii_0lt, ii_0le, ii_le0, ii_eq0, Int.toNat_add, Int.toNat_natCast, Int.toNat_mul, Int.reduceToNat, Nat.zero_add, nrw_0, sI_eq, sI_ne, sI_2, sJ_1, sI_sI, sI_sw, io_111, ↓g_111_0, ↓p_111_0, ↓g_111_1, ↓g_111_2, ↓p_111_2, ↓g_111_3, ↓g_111_4, ↓p_111_4, ↓g_111_5, ↓g_111_6, ↓g_111_7, ↓g_111_8, ↓g_111_9, ↓g_111_10, ↓p_111_10, ↓g_111_11, ↓p_111_11, ↓g_111_12, ↓p_111_12, ↓g_111_13, ↓p_111_13, ↓g_111_14, ↓p_111_14, ↓g_111_15, ↓p_111_15, ↓g_111_16, ↓p_111_16, ↓g_111_17, ↓p_111_17, ↓g_111_18, ↓p_111_18, ↓g_111_19, ↓p_111_19, ↓g_111_20, ↓p_111_20, ↓g_111_21, ↓g_111_22, ↓g_111_23, ↓g_111_24, ↓g_111_25, ↓g_111_26, ↓g_111_27, ↓g_111_28, ↓g_111_29, ↓g_111_30, ↓g_111_31, ↓g_111_32, ↓g_111_33, ↓p_111_33, ↓g_111_34, ↓g_111_35, ↓g_111_36, ↓g_111_37, ↓g_111_38, ↓g_111_39, ↓p_111_39, ↓g_111_40, ↓g_111_41, ↓g_111_42, ↓g_111_43, ↓p_111_43, ↓g_111_44, ↓g_111_45, ↓g_111_46, ↓p_111_46, ↓g_111_47, ↓g_111_48, ↓g_111_49, ↓p_111_49, ↓g_111_50, ↓p_111_50, ↓g_111_51, ↓p_111_51, ↓g_111_52, ↓g_111_53, ↓g_111_54, ↓g_111_55, ↓g_111_56, ↓g_111_57, ↓p_111_57, ↓g_111_58, ↓g_111_59, ↓p_111_59, ↓g_111_60, ↓p_111_60, ↓g_111_61, ↓p_111_61, ↓g_111_62, ↓g_111_63, ↓g_111_64, ↓g_111_65, ↓g_111_66, ↓g_111_67, ↓p_111_67, ↓g_111_68, ↓g_111_69, ↓g_111_70, ↓g_111_71, ↓g_111_72, ↓b_112, ↓x_112, ↓b_113, ↓x_113, ↓b_114, ↓x_114, ↓b_115, ↓x_115, ↓b_116, ↓x_116, ↓b_117, ↓x_117, ↓b_118, ↓x_118, ↓b_119, ↓x_119, ↓b_120, ↓x_120, ↓b_121, ↓x_121, ↓b_122, ↓x_122, ↓b_123, ↓x_123, ↓b_124, ↓x_124, ↓b_125, ↓x_125, ↓b_126, ↓x_126, ↓b_127, ↓x_127, ↓b_128, ↓x_128, ↓b_129, ↓x_129, ↓b_130, ↓x_130, ↓b_131, ↓x_131, ↓b_132, ↓x_132, ↓b_133, ↓x_133, ↓b_134, ↓x_134, ↓b_135, ↓x_135, ↓b_136, ↓x_136, ↓b_137, ↓x_137, ↓b_138, ↓x_138, ↓b_139, ↓x_139, ↓b_140, ↓x_140, ↓b_141, ↓x_141, ↓b_142, ↓x_142, ↓b_143, ↓x_143, ↓b_144, ↓x_144, ↓b_145, ↓x_145, ↓b_146, ↓x_146, ↓b_147, ↓x_147, ↓b_148, ↓x_148, ↓b_149, ↓x_149, ↓b_150, ↓x_150, ↓b_151, ↓x_151, ↓b_152, ↓x_152, ↓b_153, ↓x_153, ↓b_154, ↓x_154, ↓b_155, ↓x_155, ↓b_156, ↓x_156, ↓b_157, ↓x_157, ↓b_158, ↓x_158]
  · rw [if_neg full] at P1
    rw [show decide (6 ≤ nr) = false from decide_eq_false (by omega), if_neg (by decide)]
    show ∃ μ, NTx L m μ ∧ NTO c n L (nr + 1) ng nw (E.bind (und c n t)) ((adv (tkd c n) 0 t).bind (advs (tkd c n) [20, 21, 22])) μ ∧ _
    cases e0 : adv (tkd c n) 0 t with
    | error e =>
      rw [e0] at P1
      have P1 : MFX c n e.1 e.2 m1 := P1
      have h13 := P1.1
      have f1 := P1.2.1
      have f2 := P1.2.2.1
      have c1 : 0 < (e.1 : Int) := by omega
      refine ⟨m1, A1.nt, P1, fun Q => wD_eq (wD_out ?_) Q⟩
      simp (disch := omega) only [D_M_tellOne, F_M_tellOne, h11, hk, r19, r121, ↓q1, h13, c1, Nat.reduceEqDiff, Int.reduceEq, Int.reduceLT, Int.reduceLE, Int.reduceNeg, List.length_cons, List.length_nil, ↓wD_run, ↓wD_mV, ↓wS_seq, ↓wS_skip, ↓wS_brk, ↓wS_cnt, ↓wS_retV, ↓wS_put, ↓wS_putZ, ↓wS_fop, ↓wS_ast, ↓wS_astL, ↓wS_aop, ↓wS_if, ↓wS_blk, ↓wS_ret, ↓wS_retZ, ↓wS_call, ↓wS_sw, ↓wS_cpy, ↓wE_kI, ↓wE_kL, ↓wE_o1, ↓wE_o2, ↓wE_oD, ↓wE_oR, ↓wE_gI, ↓wE_gR, ↓wE_aI, ↓wE_aL, ↓wE_aR, ↓wE_lnX, ↓wE_iX, ↓wE_bX, ↓wE_cAnd, ↓wE_cOr, ↓wE_cNot, ↓wE_asV, ↓wA_nil, ↓wA_cons, ↓wE_cI, ↓wE_cL, ↓wE_cR, ↓wE_chX, ↓wE_idX, ↓xI_s, ↓xL_s, ↓xF_s, ↓lI_0, ↓lL_0, ↓lR_0, ↓lI_1, ↓lL_1, ↓lR_1, ↓lI_2, ↓lL_2, ↓lR_2, ↓lI_3, ↓lL_3, ↓lR_3, ↓lI_4, ↓lL_4, ↓lR_4, ↓lI_5, ↓lL_5, ↓lR_5, ↓lI_6, ↓lL_6, ↓lR_6, ↓lI_7, ↓lL_7, ↓lR_7, ↓lI_8, ↓lL_8, ↓lR_8, ↓lI_9, ↓lL_9, ↓lR_9, ↓lI_10, ↓lL_10, ↓lR_10, ↓lI_11, ↓lL_11, ↓lR_11, ↓lI_12, ↓lL_12, ↓lR_12, ↓lI_13, ↓lL_13, ↓lR_13, ↓lI_14, ↓lL_14, ↓lR_14, ↓lI_15, ↓lL_15, ↓lR_15, ↓lI_16, ↓lL_16, ↓lR_16, ↓st_0, ↓st_1, ↓st_2, ↓st_3, ↓st_4, ↓st_5, ↓st_6, ↓st_7, ↓st_8, ↓st_9, ↓st_10, ↓st_11, ↓st_12, ↓st_13, ↓st_14, ↓st_15, ↓st_16, ↓in_0, ↓in_1, ↓in_2, ↓in_3, ↓in_4, ↓in_5, ↓in_6, ↓in_7, ↓in_8, ↓in_9, ↓in_10, ↓in_11, ↓in_12, ↓in_13, ↓in_14, ↓in_15, ↓in_16, ↓dc_0, ↓dc_1, ↓dc_2, ↓dc_3, ↓dc_4, ↓dc_5, ↓dc_6, ↓dc_7, ↓dc_8, ↓dc_9, ↓dc_10, ↓dc_11, ↓dc_12, ↓dc_13, ↓dc_14, ↓dc_15, ↓dc_16, ↓bk_0_0, ↓bk_0_1, ↓bk_0_2, ↓bk_0_3, ↓bk_0_4, ↓bk_0_5, ↓bk_1_1, ↓bk_1_2, ↓bk_1_3, ↓bk_1_4, ↓bk_1_5, ↓bk_1_6, ↓bk_2_2, ↓bk_2_3, ↓bk_2_4, ↓bk_2_5, ↓bk_2_6, ↓bk_2_7, ↓bk_3_3, ↓bk_3_4, ↓bk_3_5, ↓bk_3_6, ↓bk_3_7, ↓bk_3_8, ↓bk_4_4, ↓bk_4_5, ↓bk_4_6, ↓bk_4_7, ↓bk_4_8, ↓bk_4_9, ↓bk_5_5, ↓bk_5_6, ↓bk_5_7, ↓bk_5_8, ↓bk_5_9, ↓bk_5_10, ↓bk_6_6, ↓bk_6_7, ↓bk_6_8, ↓bk_6_9, ↓bk_6_10, ↓bk_6_11, ↓bk_7_7, ↓bk_7_8, ↓bk_7_9, ↓bk_7_10, ↓bk_7_11, ↓bk_7_12, ↓bk_8_8, ↓bk_8_9, ↓bk_8_10, ↓bk_8_11, ↓bk_8_12, ↓bk_8_13, ↓bk_9_9, ↓bk_9_10, ↓bk_9_11, ↓bk_9_12, ↓bk_9_13, ↓bk_9_14, ↓bk_10_10, ↓bk_10_11, ↓bk_10_12, ↓bk_10_13, ↓bk_10_14, ↓bk_10_15, ↓bk_11_11, ↓bk_11_12, ↓bk_11_13, ↓bk_11_14, ↓bk_11_15, ↓bk_11_16, ↓bk_12_12, ↓bk_12_13, ↓bk_12_14, ↓bk_12_15, ↓bk_12_16, ↓bk_12_17, ↓bk_13_13, ↓bk_13_14, ↓bk_13_15, ↓bk_13_16, ↓bk_13_17, ↓bk_13_18, ↓bk_14_14, ↓bk_14_15, ↓bk_14_16, ↓bk_14_17, ↓bk_14_18, ↓bk_15_15, ↓bk_15_16, ↓bk_15_17, ↓bk_15_18, ↓bk_16_16, ↓bk_16_17, ↓bk_16_18, ↓tk_0_0, ↓tk_0_1, ↓tk_0_2, ↓tk_0_3, ↓tk_0_4, ↓tk_0_5, ↓tk_1_1, ↓tk_1_2, ↓tk_1_3, ↓tk_1_4, ↓tk_1_5, ↓tk_1_6, ↓tk_2_2, ↓tk_2_3, ↓tk_2_4, ↓tk_2_5, ↓tk_2_6, ↓tk_2_7, ↓tk_3_3, ↓tk_3_4, ↓tk_3_5, ↓tk_3_6, ↓tk_3_7, ↓tk_3_8, ↓tk_4_4, ↓tk_4_5, ↓tk_4_6, ↓tk_4_7, ↓tk_4_8, ↓tk_4_9, ↓tk_5_5, ↓tk_5_6, ↓tk_5_7, ↓tk_5_8, ↓tk_5_9, ↓tk_5_10, ↓tk_6_6, ↓tk_6_7, ↓tk_6_8, ↓tk_6_9, ↓tk_6_10, ↓tk_6_11, ↓tk_7_7, ↓tk_7_8, ↓tk_7_9, ↓tk_7_10, ↓tk_7_11, ↓tk_7_12, ↓tk_8_8, ↓tk_8_9, ↓tk_8_10, ↓tk_8_11, ↓tk_8_12, ↓tk_8_13, ↓tk_9_9, ↓tk_9_10, ↓tk_9_11, ↓tk_9_12, ↓tk_9_13, ↓tk_9_14, ↓tk_10_10, ↓tk_10_11, ↓tk_10_12, ↓tk_10_13, ↓tk_10_14, ↓tk_10_15, ↓tk_11_11, ↓tk_11_12, ↓tk_11_13, ↓tk_11_14, ↓tk_11_15, ↓tk_11_16, ↓tk_12_12, ↓tk_12_13, ↓tk_12_14, ↓tk_12_15, ↓tk_12_16, ↓tk_12_17, ↓tk_13_13, ↓tk_13_14, ↓tk_13_15, ↓tk_13_16, ↓tk_13_17, ↓tk_13_18, ↓tk_14_14, ↓tk_14_15, ↓tk_14_16, ↓tk_14_17, ↓tk_14_18, ↓tk_15_15, ↓tk_15_16, ↓tk_15_17, ↓tk_15_18, ↓tk_16_16, ↓tk_16_17, ↓tk_16_18, ↓bk_r1, ↓bk_r2, ↓bk_r3, ↓sw_t, ↓sw_f, ↓sw_n, decide_eq_true_eq, ↓reduceIte, ii_add, ii_sub, ii_mul, true_and, and_true, List.map_cons, List.map_nil, Value.category, ne_eq, gt_iff_lt, ge_iff_le, not_true_eq_false, not_false_eq_true, Bool.false_eq_true, true_or, or_true, false_or, or_false, okI_ii, ii_nat, ii_lt, ii_le, ii_inj, ii_lt0, ii_0lt, ii_0le, ii_le0, ii_eq0, Int.toNat_add, Int.toNat_natCast, Int.toNat_mul, Int.reduceToNat, Nat.zero_add, nrw_0, sI_eq, sI_ne, sI_2, sJ_1, sI_sI, sI_sw, io_111, ↓g_111_0, ↓p_111_0, ↓g_111_1, ↓g_111_2, ↓p_111_2, ↓g_111_3, ↓g_111_4, ↓p_111_4, ↓g_111_5, ↓g_111_6, ↓g_111_7, ↓g_111_8, ↓g_111_9, ↓g_111_10, ↓p_111_10, ↓g_111_11, ↓p_111_11, ↓g_111_12, ↓p_111_12, ↓g_111_13, ↓p_111_13, ↓g_111_14, ↓p_111_14, ↓g_111_15, ↓p_111_15, ↓g_111_16, ↓p_111_16, ↓g_111_17, ↓p_111_17, ↓g_111_18, ↓p_111_18, ↓g_111_19, ↓p_111_19, ↓g_111_20, ↓p_111_20, ↓g_111_21, ↓g_111_22, ↓g_111_23, ↓g_111_24, ↓g_111_25, ↓g_111_26, ↓g_111_27, ↓g_111_28, ↓g_111_29, ↓g_111_30, ↓g_111_31, ↓g_111_32, ↓g_111_33, ↓p_111_33, ↓g_111_34, ↓g_111_35, ↓g_111_36, ↓g_111_37, ↓g_111_38, ↓g_111_39, ↓p_111_39, ↓g_111_40, ↓g_111_41, ↓g_111_42, ↓g_111_43, ↓p_111_43, ↓g_111_44, ↓g_111_45, ↓g_111_46, ↓p_111_46, ↓g_111_47, ↓g_111_48, ↓g_111_49, ↓p_111_49, ↓g_111_50, ↓p_111_50, ↓g_111_51, ↓p_111_51, ↓g_111_52, ↓g_111_53, ↓g_111_54, ↓g_111_55, ↓g_111_56, ↓g_111_57, ↓p_111_57, ↓g_111_58, ↓g_111_59, ↓p_111_59, ↓g_111_60, ↓p_111_60, ↓g_111_61, ↓p_111_61, ↓g_111_62, ↓g_111_63, ↓g_111_64, ↓g_111_65, ↓g_111_66, ↓g_111_67, ↓p_111_67, ↓g_111_68, ↓g_111_69, ↓g_111_70, ↓g_111_71, ↓g_111_72, ↓b_112, ↓x_112, ↓b_113, ↓x_113, ↓b_114, ↓x_114, ↓b_115, ↓x_115, ↓b_116, ↓x_116, ↓b_117, ↓x_117, ↓b_118, ↓x_118, ↓b_119, ↓x_119, ↓b_120, ↓x_120, ↓b_121, ↓x_121, ↓b_122, ↓x_122, ↓b_123, ↓x_123, ↓b_124, ↓x_124, ↓b_125, ↓x_125, ↓b_126, ↓x_126, ↓b_127, ↓x_127, ↓b_128, ↓x_128, ↓b_129, ↓x_129, ↓b_130, ↓x_130, ↓b_131, ↓x_131, ↓b_132, ↓x_132, ↓b_133, ↓x_133, ↓b_134, ↓x_134, ↓b_135, ↓x_135, ↓b_136, ↓x_136, ↓b_137, ↓x_137, ↓b_138, ↓x_138, ↓b_139, ↓x_139, ↓b_140, ↓x_140, ↓b_141, ↓x_141, ↓b_142, ↓x_142, ↓b_143, ↓x_143, ↓b_144, ↓x_144, ↓b_145, ↓x_145, ↓b_146, ↓x_146, ↓b_147, ↓x_147, ↓b_148, ↓x_148, ↓b_149, ↓x_149, ↓b_150, ↓x_150, ↓b_151, ↓x_151, ↓b_152, ↓x_152, ↓b_153, ↓x_153, ↓b_154, ↓x_154, ↓b_155, ↓x_155, ↓b_156, ↓x_156, ↓b_157, ↓x_157, ↓b_158, ↓x_158]
    | ok a =>
      rw [e0] at P1
      obtain ⟨_, l4, rfl⟩ := adv_ok e0
      obtain ⟨K1, W1⟩ := P1
      have g13 := K1.1
      have tz1 := K1.2.2.1
      have s20 : m1.1 111 20 = ii ((nr + ng : Nat) : Int) := by rw [A1.2.2 20 (by decide)]; exact r20
      obtain ⟨m2, A2, P2, q2⟩ := w_Mnamed (k := nr + ng) hn (by omega) s20 K1 W1
      have B2 := A1.tr A2
      have u19 : m2.1 111 19 = ii L := by rw [B2.2.2 19 (by decide)]; exact r19
      have u121 : m2.1 121 L = ii nr := by rw [B2.2.1 121 (by decide)]; exact r121
      obtain ⟨v, m3, A3, P3, hv, q3⟩ := w_Mbounded (lo := 1) (hi := 9) hn (by decide) (by decide) P2
      have q3 : ∀ Q, wD D_M_bounded [.ref 111, .int (ii 1), .int (ii 9)] (hp m2) Q ↔ Q (some (.int v)) (hp m3) := q3
      have B3 := B2.tr A3
      have l6 : (6 : Int) * (L : Int) + (nr : Int) = ((6 * L + nr : Nat) : Int) := by omega
      obtain ⟨m4, e4⟩ : ∃ m4, m4 = sI m3 122 (upd (m3.1 122) (6 * L + nr) v) := ⟨_, rfl⟩
      have P4 := P3.row (r := 122) (g := upd (m3.1 122) (6 * L + nr) v) (by decide) (by decide)
      rw [← e4] at P4
      have k4 : ∀ r, r ≠ 122 → m4.1 r = m3.1 r := fun r hr => by rw [e4, sI_ne hr]
      have j4 : m4.2 = m.2 := by rw [e4]; exact B3.1
      have v19 : m4.1 111 19 = ii L := by rw [k4 111 (by decide), B3.2.2 19 (by decide)]; exact r19
      have v20 : m4.1 111 20 = ii ((nr + ng : Nat) : Int) := by rw [k4 111 (by decide), B3.2.2 20 (by decide)]; exact r20
      have v121 : m4.1 121 L = ii nr := by rw [k4 121 (by decide), B3.2.1 121 (by decide)]; exact r121
      obtain ⟨m5, N5, q5⟩ := w_endsName (k := nr + ng) (x := ii nr) (y := ii ((t + 1 : Nat) : Int)) (z := nam c n (t + 1)) (by omega) v20 P4 (fun a ha => ⟨t + 1, by omega, rfl, by
        obtain ⟨y, hy, _⟩ := exb_ok ha
        obtain ⟨x, hx, _⟩ := exb_ok hy
        rw [j4]
        exact (hK.2.2.2 (t + 1) (by omega)).2.2.2 (adv_ok hx).1⟩)
      have B4 : NTx L m m4 := B3.nt.tr (by rw [e4]; exact NTx_122 (by omega) (by omega))
      have e4' := e4.symm
      show ∃ μ, NTx L m μ ∧ NTO c n L (nr + 1) ng nw (E.bind (und c n t)) (advs (tkd c n) [20, 21, 22] (t + 1)) μ ∧ _
      rw [advs_3]
      cases ea : ((adv (tkd c n) 20 (t + 1)).bind (adv (tkd c n) 21)).bind (adv (tkd c n) 22) with
      | error e =>
        rw [ea] at N5
        obtain ⟨P5, A5⟩ := N5
        have P5 : MFX c n e.1 e.2 m5 := P5
        have h13 := P5.1
        have f1 := P5.2.1
        have f2 := P5.2.2.1
        have c1 : ¬ ((e.1 : Int) = 0) := by omega
        refine ⟨m5, B4.tr A5.nt, P5, fun Q => wD_eq (wD_out ?_) Q⟩
        simp (disch := omega) only [D_M_tellOne, F_M_tellOne, h11, hk, r19, r121, ↓q1, g13, ↓q2, u19, u121, l6, ↓q3, e4', v19, v121, ↓q5, h13, c1, Nat.reduceEqDiff, Int.reduceEq, Int.reduceLT, Int.reduceLE, Int.reduceNeg, List.length_cons, List.length_nil, ↓wD_run, ↓wD_mV, ↓wS_seq, ↓wS_skip, ↓wS_brk, ↓wS_cnt, ↓wS_retV, ↓wS_put, ↓wS_putZ, ↓wS_fop, ↓wS_ast, ↓wS_astL, ↓wS_aop, ↓wS_if, ↓wS_blk, ↓wS_ret, ↓wS_retZ, ↓wS_call, ↓wS_sw, ↓wS_cpy, ↓wE_kI, ↓wE_kL, ↓wE_o1, ↓wE_o2, ↓wE_oD, ↓wE_oR, ↓wE_gI, ↓wE_gR, ↓wE_aI, ↓wE_aL, ↓wE_aR, ↓wE_lnX, ↓wE_iX, ↓wE_bX, ↓wE_cAnd, ↓wE_cOr, ↓wE_cNot, ↓wE_asV, ↓wA_nil, ↓wA_cons, ↓wE_cI, ↓wE_cL, ↓wE_cR, ↓wE_chX, ↓wE_idX, ↓xI_s, ↓xL_s, ↓xF_s, ↓lI_0, ↓lL_0, ↓lR_0, ↓lI_1, ↓lL_1, ↓lR_1, ↓lI_2, ↓lL_2, ↓lR_2, ↓lI_3, ↓lL_3, ↓lR_3, ↓lI_4, ↓lL_4, ↓lR_4, ↓lI_5, ↓lL_5, ↓lR_5, ↓lI_6, ↓lL_6, ↓lR_6, ↓lI_7, ↓lL_7, ↓lR_7, ↓lI_8, ↓lL_8, ↓lR_8, ↓lI_9, ↓lL_9, ↓lR_9, ↓lI_10, ↓lL_10, ↓lR_10, ↓lI_11, ↓lL_11, ↓lR_11, ↓lI_12, ↓lL_12, ↓lR_12, ↓lI_13, ↓lL_13, ↓lR_13, ↓lI_14, ↓lL_14, ↓lR_14, ↓lI_15, ↓lL_15, ↓lR_15, ↓lI_16, ↓lL_16, ↓lR_16, ↓st_0, ↓st_1, ↓st_2, ↓st_3, ↓st_4, ↓st_5, ↓st_6, ↓st_7, ↓st_8, ↓st_9, ↓st_10, ↓st_11, ↓st_12, ↓st_13, ↓st_14, ↓st_15, ↓st_16, ↓in_0, ↓in_1, ↓in_2, ↓in_3, ↓in_4, ↓in_5, ↓in_6, ↓in_7, ↓in_8, ↓in_9, ↓in_10, ↓in_11, ↓in_12, ↓in_13, ↓in_14, ↓in_15, ↓in_16, ↓dc_0, ↓dc_1, ↓dc_2, ↓dc_3, ↓dc_4, ↓dc_5, ↓dc_6, ↓dc_7, ↓dc_8, ↓dc_9, ↓dc_10, ↓dc_11, ↓dc_12, ↓dc_13, ↓dc_14, ↓dc_15, ↓dc_16, ↓bk_0_0, ↓bk_0_1, ↓bk_0_2, ↓bk_0_3, ↓bk_0_4, ↓bk_0_5, ↓bk_1_1, ↓bk_1_2, ↓bk_1_3, ↓bk_1_4, ↓bk_1_5, ↓bk_1_6, ↓bk_2_2, ↓bk_2_3, ↓bk_2_4, ↓bk_2_5, ↓bk_2_6, ↓bk_2_7, ↓bk_3_3, ↓bk_3_4, ↓bk_3_5, ↓bk_3_6, ↓bk_3_7, ↓bk_3_8, ↓bk_4_4, ↓bk_4_5, ↓bk_4_6, ↓bk_4_7, ↓bk_4_8, ↓bk_4_9, ↓bk_5_5, ↓bk_5_6, ↓bk_5_7, ↓bk_5_8, ↓bk_5_9, ↓bk_5_10, ↓bk_6_6, ↓bk_6_7, ↓bk_6_8, ↓bk_6_9, ↓bk_6_10, ↓bk_6_11, ↓bk_7_7, ↓bk_7_8, ↓bk_7_9, ↓bk_7_10, ↓bk_7_11, ↓bk_7_12, ↓bk_8_8, ↓bk_8_9, ↓bk_8_10, ↓bk_8_11, ↓bk_8_12, ↓bk_8_13, ↓bk_9_9, ↓bk_9_10, ↓bk_9_11, ↓bk_9_12, ↓bk_9_13, ↓bk_9_14, ↓bk_10_10, ↓bk_10_11, ↓bk_10_12, ↓bk_10_13, ↓bk_10_14, ↓bk_10_15, ↓bk_11_11, ↓bk_11_12, ↓bk_11_13, ↓bk_11_14, ↓bk_11_15, ↓bk_11_16, ↓bk_12_12, ↓bk_12_13, ↓bk_12_14, ↓bk_12_15, ↓bk_12_16, ↓bk_12_17, ↓bk_13_13, ↓bk_13_14, ↓bk_13_15, ↓bk_13_16, ↓bk_13_17, ↓bk_13_18, ↓bk_14_14, ↓bk_14_15, ↓bk_14_16, ↓bk_14_17, ↓bk_14_18, ↓bk_15_15, ↓bk_15_16, ↓bk_15_17, ↓bk_15_18, ↓bk_16_16, ↓bk_16_17, ↓bk_16_18, ↓tk_0_0, ↓tk_0_1, ↓tk_0_2, ↓tk_0_3, ↓tk_0_4, ↓tk_0_5, ↓tk_1_1, ↓tk_1_2, ↓tk_1_3, ↓tk_1_4, ↓tk_1_5, ↓tk_1_6, ↓tk_2_2, ↓tk_2_3, ↓tk_2_4, ↓tk_2_5, ↓tk_2_6, ↓tk_2_7, ↓tk_3_3, ↓tk_3_4, ↓tk_3_5, ↓tk_3_6, ↓tk_3_7, ↓tk_3_8, ↓tk_4_4, ↓tk_4_5, ↓tk_4_6, ↓tk_4_7, ↓tk_4_8, ↓tk_4_9, ↓tk_5_5, ↓tk_5_6, ↓tk_5_7, ↓tk_5_8, ↓tk_5_9, ↓tk_5_10, ↓tk_6_6, ↓tk_6_7, ↓tk_6_8, ↓tk_6_9, ↓tk_6_10, ↓tk_6_11, ↓tk_7_7, ↓tk_7_8, ↓tk_7_9, ↓tk_7_10, ↓tk_7_11, ↓tk_7_12, ↓tk_8_8, ↓tk_8_9, ↓tk_8_10, ↓tk_8_11, ↓tk_8_12, ↓tk_8_13, ↓tk_9_9, ↓tk_9_10, ↓tk_9_11, ↓tk_9_12, ↓tk_9_13, ↓tk_9_14, ↓tk_10_10, ↓tk_10_11, ↓tk_10_12, ↓tk_10_13, ↓tk_10_14, ↓tk_10_15, ↓tk_11_11, ↓tk_11_12, ↓tk_11_13, ↓tk_11_14, ↓tk_11_15, ↓tk_11_16, ↓tk_12_12, ↓tk_12_13, ↓tk_12_14, ↓tk_12_15, ↓tk_12_16, ↓tk_12_17, ↓tk_13_13, ↓tk_13_14, ↓tk_13_15, ↓tk_13_16, ↓tk_13_17, ↓tk_13_18, ↓tk_14_14, ↓tk_14_15, ↓tk_14_16, ↓tk_14_17, ↓tk_14_18, ↓tk_15_15, ↓tk_15_16, ↓tk_15_17, ↓tk_15_18, ↓tk_16_16, ↓tk_16_17, ↓tk_16_18, ↓bk_r1, ↓bk_r2, ↓bk_r3, ↓sw_t, ↓sw_f, ↓sw_n, decide_eq_true_eq, ↓reduceIte, ii_add, ii_sub, ii_mul, true_and, and_true, List.map_cons, List.map_nil, Value.category, ne_eq, gt_iff_lt, ge_iff_le, not_true_eq_false, not_false_eq_true, Bool.false_eq_true, true_or, or_true, false_or, or_false, okI_ii, ii_nat, ii_lt, ii_le, ii_inj, ii_lt0, ii_0lt, ii_0le, ii_le0, ii_eq0, Int.toNat_add, Int.toNat_natCast, Int.toNat_mul, Int.reduceToNat, Nat.zero_add, nrw_0, sI_eq, sI_ne, sI_2, sJ_1, sI_sI, sI_sw, io_111, ↓g_111_0, ↓p_111_0, ↓g_111_1, ↓g_111_2, ↓p_111_2, ↓g_111_3, ↓g_111_4, ↓p_111_4, ↓g_111_5, ↓g_111_6, ↓g_111_7, ↓g_111_8, ↓g_111_9, ↓g_111_10, ↓p_111_10, ↓g_111_11, ↓p_111_11, ↓g_111_12, ↓p_111_12, ↓g_111_13, ↓p_111_13, ↓g_111_14, ↓p_111_14, ↓g_111_15, ↓p_111_15, ↓g_111_16, ↓p_111_16, ↓g_111_17, ↓p_111_17, ↓g_111_18, ↓p_111_18, ↓g_111_19, ↓p_111_19, ↓g_111_20, ↓p_111_20, ↓g_111_21, ↓g_111_22, ↓g_111_23, ↓g_111_24, ↓g_111_25, ↓g_111_26, ↓g_111_27, ↓g_111_28, ↓g_111_29, ↓g_111_30, ↓g_111_31, ↓g_111_32, ↓g_111_33, ↓p_111_33, ↓g_111_34, ↓g_111_35, ↓g_111_36, ↓g_111_37, ↓g_111_38, ↓g_111_39, ↓p_111_39, ↓g_111_40, ↓g_111_41, ↓g_111_42, ↓g_111_43, ↓p_111_43, ↓g_111_44, ↓g_111_45, ↓g_111_46, ↓p_111_46, ↓g_111_47, ↓g_111_48, ↓g_111_49, ↓p_111_49, ↓g_111_50, ↓p_111_50, ↓g_111_51, ↓p_111_51, ↓g_111_52, ↓g_111_53, ↓g_111_54, ↓g_111_55, ↓g_111_56, ↓g_111_57, ↓p_111_57, ↓g_111_58, ↓g_111_59, ↓p_111_59, ↓g_111_60, ↓p_111_60, ↓g_111_61, ↓p_111_61, ↓g_111_62, ↓g_111_63, ↓g_111_64, ↓g_111_65, ↓g_111_66, ↓g_111_67, ↓p_111_67, ↓g_111_68, ↓g_111_69, ↓g_111_70, ↓g_111_71, ↓g_111_72, ↓b_112, ↓x_112, ↓b_113, ↓x_113, ↓b_114, ↓x_114, ↓b_115, ↓x_115, ↓b_116, ↓x_116, ↓b_117, ↓x_117, ↓b_118, ↓x_118, ↓b_119, ↓x_119, ↓b_120, ↓x_120, ↓b_121, ↓x_121, ↓b_122, ↓x_122, ↓b_123, ↓x_123, ↓b_124, ↓x_124, ↓b_125, ↓x_125, ↓b_126, ↓x_126, ↓b_127, ↓x_127, ↓b_128, ↓x_128, ↓b_129, ↓x_129, ↓b_130, ↓x_130, ↓b_131, ↓x_131, ↓b_132, ↓x_132, ↓b_133, ↓x_133, ↓b_134, ↓x_134, ↓b_135, ↓x_135, ↓b_136, ↓x_136, ↓b_137, ↓x_137, ↓b_138, ↓x_138, ↓b_139, ↓x_139, ↓b_140, ↓x_140, ↓b_141, ↓x_141, ↓b_142, ↓x_142, ↓b_143, ↓x_143, ↓b_144, ↓x_144, ↓b_145, ↓x_145, ↓b_146, ↓x_146, ↓b_147, ↓x_147, ↓b_148, ↓x_148, ↓b_149, ↓x_149, ↓b_150, ↓x_150, ↓b_151, ↓x_151, ↓b_152, ↓x_152, ↓b_153, ↓x_153, ↓b_154, ↓x_154, ↓b_155, ↓x_155, ↓b_156, ↓x_156, ↓b_157, ↓x_157, ↓b_158, ↓x_158]
      | ok a =>
        rw [ea] at N5
        obtain ⟨K5, W5, M5⟩ := N5
        have h13 := K5.1
        obtain ⟨y, hy, ea⟩ := exb_ok ea
        obtain ⟨x, hx, hy2⟩ := exb_ok hy
        obtain ⟨_, _, ex⟩ := adv_ok hx
        have ex : x = t + 2 := by omega
        subst ex
        have vv : v = ii (tvn c n (t + 2)) := by
          have := hv ⟨y, hy⟩
          rw [hx] at this
          exact this
        rw [hx] at W5
        have w19 : m5.1 111 19 = ii L := by rw [M5.2.2.2.2.2 19 (by decide) (by decide)]; exact v19
        have w121 : m5.1 121 L = ii nr := by rw [M5.2.2.2.1 121 (by decide) (by decide)]; exact v121
        have l7 : (nr : Int) + 1 = ((nr + 1 : Nat) : Int) := by omega
        obtain ⟨m6, e6⟩ : ∃ m6, m6 = sI m5 121 (upd (m5.1 121) L (ii ((nr + 1 : Nat) : Int))) := ⟨_, rfl⟩
        have k6 : ∀ r, r ≠ 121 → m6.1 r = m5.1 r := fun r hr => by rw [e6, sI_ne hr]
        have j6 : m6.2 = m5.2 := by rw [e6]; rfl
        have R6 : ∀ r, r ≠ 111 → r ≠ 120 → r ≠ 121 → r ≠ 122 → m6.1 r = m.1 r := fun r h1 h2 h3 h4 => by rw [k6 r h3, M5.2.2.2.1 r h1 h2, k4 r h4, B3.2.1 r h1]
        have x119 : m6.2 119 = vp_updL (m.2 119) (nr + ng) (nam c n (t + 1)) := by rw [j6, M5.1, j4]
        have x120 : m6.1 120 = upd (m.1 120) (nr + ng) (ii nr) := by rw [k6 120 (by decide), M5.2.2.1, k4 120 (by decide), B3.2.1 120 (by decide)]
        have x122 : m6.1 122 = upd (m.1 122) (6 * L + nr) v := by rw [k6 122 (by decide), M5.2.2.2.1 122 (by decide) (by decide), e4, sI_eq, B3.2.1 122 (by decide)]
        have eW : erW (E.bind (und c n t)) = orW (orW (erW E) (anyb (fun j => decide (m1.2 119 j = nam c n (t + 1))) (nr + ng)) (3, t + 1)) (!decide (((1 : Nat) : Int) ≤ tvn c n (exT (.ok (t + 2))) ∧ tvn c n (exT (.ok (t + 2))) ≤ ((9 : Nat) : Int))) (5, exT (.ok (t + 2))) := by
          refine udR k0 (fun S hS0 => ?_) rfl
          rw [A1.1]
          exact (hS S hS0).1.td lr
        refine ⟨m6, (B4.tr M5.nt).tr (by rw [e6]; exact NTx_row (Or.inl rfl)), ⟨?_, ?_, ?_, ?_, ?_, ?_, ?_, by omega, lg, lw, upn av (nr + ng) nr, fun k hk => ?_, fun T hT => ?_⟩, fun Q => wD_eq (wD_out ?_) Q⟩
        · exact K5.of2 (by rw [k6 111 (by decide)]) (by rw [k6 111 (by decide)]) (fun r h1 h2 => k6 r (by omega)) (by rw [j6])
        · rw [eW]
          exact W5.of (by rw [k6 111 (by decide)]) (by rw [k6 111 (by decide)])
        · rw [k6 111 (by decide)]; exact w19
        · rw [k6 111 (by decide), M5.2.2.2.2.1, show nr + ng + 1 = nr + 1 + ng by omega]
        · rw [e6, sI_eq, upd_eq]
        · rw [R6 123 (by decide) (by decide) (by decide) (by decide)]; exact r123
        · rw [R6 126 (by decide) (by decide) (by decide) (by decide)]; exact r126
        · rw [x120]
          by_cases d : k = nr + ng
          · rw [d, upd_eq, upn_eq]; exact ⟨rfl, Or.inl (by omega)⟩
          · rw [upd_ne d, upn_ne d]; exact hav k (by omega)
        · obtain ⟨S, hS0, hT⟩ := exb_ok hT
          obtain ⟨s1, s2⟩ := hS S hS0
          have sN : tN_ S = nr := s1.1
          obtain ⟨t1, t2⟩ := udRo k0 (by omega) hT
          subst t2
          refine ⟨by rw [x119]; exact s1.ar lr t1 _, fun r hr => ?_, fun g hg => ?_, fun i hi => ?_, ?_⟩
          · rw [x122]
            show upd (m.1 122) (6 * L + nr) v (6 * L + r) = upd (tWd_ S) (tN_ S) (ii (tvn c n (t + 2))) r
            by_cases d : r = nr
            · rw [d, upd_eq, sN, upd_eq]; exact vv
            · rw [upd_ne (by omega), upd_ne (by omega)]; exact s2.1 r (by omega)
          · rw [R6 124 (by decide) (by decide) (by decide) (by decide), R6 125 (by decide) (by decide) (by decide) (by decide)]; exact s2.2.1 g hg
          · rw [R6 127 (by decide) (by decide) (by decide) (by decide)]; exact s2.2.2.1 i hi
          · rw [R6 128 (by decide) (by decide) (by decide) (by decide)]; exact s2.2.2.2
        · have e6' := e6.symm
          simp (disch := omega) only [D_M_tellOne, F_M_tellOne, h11, hk, r19, r121, ↓q1, g13, ↓q2, u19, u121, l6, ↓q3, e4', v19, v121, ↓q5, h13, w19, w121, l7, e6', Nat.reduceEqDiff, Int.reduceEq, Int.reduceLT, Int.reduceLE, Int.reduceNeg, List.length_cons, List.length_nil, ↓wD_run, ↓wD_mV, ↓wS_seq, ↓wS_skip, ↓wS_brk, ↓wS_cnt, ↓wS_retV, ↓wS_put, ↓wS_putZ, ↓wS_fop, ↓wS_ast, ↓wS_astL, ↓wS_aop, ↓wS_if, ↓wS_blk, ↓wS_ret, ↓wS_retZ, ↓wS_call, ↓wS_sw, ↓wS_cpy, ↓wE_kI, ↓wE_kL, ↓wE_o1, ↓wE_o2, ↓wE_oD, ↓wE_oR, ↓wE_gI, ↓wE_gR, ↓wE_aI, ↓wE_aL, ↓wE_aR, ↓wE_lnX, ↓wE_iX, ↓wE_bX, ↓wE_cAnd, ↓wE_cOr, ↓wE_cNot, ↓wE_asV, ↓wA_nil, ↓wA_cons, ↓wE_cI, ↓wE_cL, ↓wE_cR, ↓wE_chX, ↓wE_idX, ↓xI_s, ↓xL_s, ↓xF_s, ↓lI_0, ↓lL_0, ↓lR_0, ↓lI_1, ↓lL_1, ↓lR_1, ↓lI_2, ↓lL_2, ↓lR_2, ↓lI_3, ↓lL_3, ↓lR_3, ↓lI_4, ↓lL_4, ↓lR_4, ↓lI_5, ↓lL_5, ↓lR_5, ↓lI_6, ↓lL_6, ↓lR_6, ↓lI_7, ↓lL_7, ↓lR_7, ↓lI_8, ↓lL_8, ↓lR_8, ↓lI_9, ↓lL_9, ↓lR_9, ↓lI_10, ↓lL_10, ↓lR_10, ↓lI_11, ↓lL_11, ↓lR_11, ↓lI_12, ↓lL_12, ↓lR_12, ↓lI_13, ↓lL_13, ↓lR_13, ↓lI_14, ↓lL_14, ↓lR_14, ↓lI_15, ↓lL_15, ↓lR_15, ↓lI_16, ↓lL_16, ↓lR_16, ↓st_0, ↓st_1, ↓st_2, ↓st_3, ↓st_4, ↓st_5, ↓st_6, ↓st_7, ↓st_8, ↓st_9, ↓st_10, ↓st_11, ↓st_12, ↓st_13, ↓st_14, ↓st_15, ↓st_16, ↓in_0, ↓in_1, ↓in_2, ↓in_3, ↓in_4, ↓in_5, ↓in_6, ↓in_7, ↓in_8, ↓in_9, ↓in_10, ↓in_11, ↓in_12, ↓in_13, ↓in_14, ↓in_15, ↓in_16, ↓dc_0, ↓dc_1, ↓dc_2, ↓dc_3, ↓dc_4, ↓dc_5, ↓dc_6, ↓dc_7, ↓dc_8, ↓dc_9, ↓dc_10, ↓dc_11, ↓dc_12, ↓dc_13, ↓dc_14, ↓dc_15, ↓dc_16, ↓bk_0_0, ↓bk_0_1, ↓bk_0_2, ↓bk_0_3, ↓bk_0_4, ↓bk_0_5, ↓bk_1_1, ↓bk_1_2, ↓bk_1_3, ↓bk_1_4, ↓bk_1_5, ↓bk_1_6, ↓bk_2_2, ↓bk_2_3, ↓bk_2_4, ↓bk_2_5, ↓bk_2_6, ↓bk_2_7, ↓bk_3_3, ↓bk_3_4, ↓bk_3_5, ↓bk_3_6, ↓bk_3_7, ↓bk_3_8, ↓bk_4_4, ↓bk_4_5, ↓bk_4_6, ↓bk_4_7, ↓bk_4_8, ↓bk_4_9, ↓bk_5_5, ↓bk_5_6, ↓bk_5_7, ↓bk_5_8, ↓bk_5_9, ↓bk_5_10, ↓bk_6_6, ↓bk_6_7, ↓bk_6_8, ↓bk_6_9, ↓bk_6_10, ↓bk_6_11, ↓bk_7_7, ↓bk_7_8, ↓bk_7_9, ↓bk_7_10, ↓bk_7_11, ↓bk_7_12, ↓bk_8_8, ↓bk_8_9, ↓bk_8_10, ↓bk_8_11, ↓bk_8_12, ↓bk_8_13, ↓bk_9_9, ↓bk_9_10, ↓bk_9_11, ↓bk_9_12, ↓bk_9_13, ↓bk_9_14, ↓bk_10_10, ↓bk_10_11, ↓bk_10_12, ↓bk_10_13, ↓bk_10_14, ↓bk_10_15, ↓bk_11_11, ↓bk_11_12, ↓bk_11_13, ↓bk_11_14, ↓bk_11_15, ↓bk_11_16, ↓bk_12_12, ↓bk_12_13, ↓bk_12_14, ↓bk_12_15, ↓bk_12_16, ↓bk_12_17, ↓bk_13_13, ↓bk_13_14, ↓bk_13_15, ↓bk_13_16, ↓bk_13_17, ↓bk_13_18, ↓bk_14_14, ↓bk_14_15, ↓bk_14_16, ↓bk_14_17, ↓bk_14_18, ↓bk_15_15, ↓bk_15_16, ↓bk_15_17, ↓bk_15_18, ↓bk_16_16, ↓bk_16_17, ↓bk_16_18, ↓tk_0_0, ↓tk_0_1, ↓tk_0_2, ↓tk_0_3, ↓tk_0_4, ↓tk_0_5, ↓tk_1_1, ↓tk_1_2, ↓tk_1_3, ↓tk_1_4, ↓tk_1_5, ↓tk_1_6, ↓tk_2_2, ↓tk_2_3, ↓tk_2_4, ↓tk_2_5, ↓tk_2_6, ↓tk_2_7, ↓tk_3_3, ↓tk_3_4, ↓tk_3_5, ↓tk_3_6, ↓tk_3_7, ↓tk_3_8, ↓tk_4_4, ↓tk_4_5, ↓tk_4_6, ↓tk_4_7, ↓tk_4_8, ↓tk_4_9, ↓tk_5_5, ↓tk_5_6, ↓tk_5_7, ↓tk_5_8, ↓tk_5_9, ↓tk_5_10, ↓tk_6_6, ↓tk_6_7, ↓tk_6_8, ↓tk_6_9, ↓tk_6_10, ↓tk_6_11, ↓tk_7_7, ↓tk_7_8, ↓tk_7_9, ↓tk_7_10, ↓tk_7_11, ↓tk_7_12, ↓tk_8_8, ↓tk_8_9, ↓tk_8_10, ↓tk_8_11, ↓tk_8_12, ↓tk_8_13, ↓tk_9_9, ↓tk_9_10, ↓tk_9_11, ↓tk_9_12, ↓tk_9_13, ↓tk_9_14, ↓tk_10_10, ↓tk_10_11, ↓tk_10_12, ↓tk_10_13, ↓tk_10_14, ↓tk_10_15, ↓tk_11_11, ↓tk_11_12, ↓tk_11_13, ↓tk_11_14, ↓tk_11_15, ↓tk_11_16, ↓tk_12_12, ↓tk_12_13, ↓tk_12_14, ↓tk_12_15, ↓tk_12_16, ↓tk_12_17, ↓tk_13_13, ↓tk_13_14, ↓tk_13_15, ↓tk_13_16, ↓tk_13_17, ↓tk_13_18, ↓tk_14_14, ↓tk_14_15, ↓tk_14_16, ↓tk_14_17, ↓tk_14_18, ↓tk_15_15, ↓tk_15_16, ↓tk_15_17, ↓tk_15_18, ↓tk_16_16, ↓tk_16_17, ↓tk_16_18, ↓bk_r1, ↓bk_r2, ↓bk_r3, ↓sw_t, ↓sw_f, ↓sw_n, decide_eq_true_eq, ↓reduceIte, ii_add, ii_sub, ii_mul, true_and, and_true, List.map_cons, List.map_nil, Value.category, ne_eq, gt_iff_lt, ge_iff_le, not_true_eq_false, not_false_eq_true, Bool.false_eq_true, true_or, or_true, false_or, or_false, okI_ii, ii_nat, ii_lt, ii_le, ii_inj, ii_lt0, ii_0lt, ii_0le, ii_le0, ii_eq0, Int.toNat_add, Int.toNat_natCast, Int.toNat_mul, Int.reduceToNat, Nat.zero_add, nrw_0, sI_eq, sI_ne, sI_2, sJ_1, sI_sI, sI_sw, io_111, ↓g_111_0, ↓p_111_0, ↓g_111_1, ↓g_111_2, ↓p_111_2, ↓g_111_3, ↓g_111_4, ↓p_111_4, ↓g_111_5, ↓g_111_6, ↓g_111_7, ↓g_111_8, ↓g_111_9, ↓g_111_10, ↓p_111_10, ↓g_111_11, ↓p_111_11, ↓g_111_12, ↓p_111_12, ↓g_111_13, ↓p_111_13, ↓g_111_14, ↓p_111_14, ↓g_111_15, ↓p_111_15, ↓g_111_16, ↓p_111_16, ↓g_111_17, ↓p_111_17, ↓g_111_18, ↓p_111_18, ↓g_111_19, ↓p_111_19, ↓g_111_20, ↓p_111_20, ↓g_111_21, ↓g_111_22, ↓g_111_23, ↓g_111_24, ↓g_111_25, ↓g_111_26, ↓g_111_27, ↓g_111_28, ↓g_111_29, ↓g_111_30, ↓g_111_31, ↓g_111_32, ↓g_111_33, ↓p_111_33, ↓g_111_34, ↓g_111_35, ↓g_111_36, ↓g_111_37, ↓g_111_38, ↓g_111_39, ↓p_111_39, ↓g_111_40, ↓g_111_41, ↓g_111_42, ↓g_111_43, ↓p_111_43, ↓g_111_44, ↓g_111_45, ↓g_111_46, ↓p_111_46, ↓g_111_47, ↓g_111_48, ↓g_111_49, ↓p_111_49, ↓g_111_50, ↓p_111_50, ↓g_111_51, ↓p_111_51, ↓g_111_52, ↓g_111_53, ↓g_111_54, ↓g_111_55, ↓g_111_56, ↓g_111_57, ↓p_111_57, ↓g_111_58, ↓g_111_59, ↓p_111_59, ↓g_111_60, ↓p_111_60, ↓g_111_61, ↓p_111_61, ↓g_111_62, ↓g_111_63, ↓g_111_64, ↓g_111_65, ↓g_111_66, ↓g_111_67, ↓p_111_67, ↓g_111_68, ↓g_111_69, ↓g_111_70, ↓g_111_71, ↓g_111_72, ↓b_112, ↓x_112, ↓b_113, ↓x_113, ↓b_114, ↓x_114, ↓b_115, ↓x_115, ↓b_116, ↓x_116, ↓b_117, ↓x_117, ↓b_118, ↓x_118, ↓b_119, ↓x_119, ↓b_120, ↓x_120, ↓b_121, ↓x_121, ↓b_122, ↓x_122, ↓b_123, ↓x_123, ↓b_124, ↓x_124, ↓b_125, ↓x_125, ↓b_126, ↓x_126, ↓b_127, ↓x_127, ↓b_128, ↓x_128, ↓b_129, ↓x_129, ↓b_130, ↓x_130, ↓b_131, ↓x_131, ↓b_132, ↓x_132, ↓b_133, ↓x_133, ↓b_134, ↓x_134, ↓b_135, ↓x_135, ↓b_136, ↓x_136, ↓b_137, ↓x_137, ↓b_138, ↓x_138, ↓b_139, ↓x_139, ↓b_140, ↓x_140, ↓b_141, ↓x_141, ↓b_142, ↓x_142, ↓b_143, ↓x_143, ↓b_144, ↓x_144, ↓b_145, ↓x_145, ↓b_146, ↓x_146, ↓b_147, ↓x_147, ↓b_148, ↓x_148, ↓b_149, ↓x_149, ↓b_150, ↓x_150, ↓b_151, ↓x_151, ↓b_152, ↓x_152, ↓b_153, ↓x_153, ↓b_154, ↓x_154, ↓b_155, ↓x_155, ↓b_156, ↓x_156, ↓b_157, ↓x_157, ↓b_158, ↓x_158]
end TRG
