/-! The class's first pass; where a fault may stand. -/
def EZ {α : Type} (z : Nat) (p : α → Nat) : Except (Nat × Nat) α → Prop
  | .error e => e.2 ≤ z
  | .ok a => p a ≤ z
theorem EZ.b {α β : Type} {z : Nat} {p : α → Nat} {q : β → Nat} {x : Except (Nat × Nat) α} {f : α → Except (Nat × Nat) β} (h : EZ z p x) (hf : ∀ a, p a ≤ z → EZ z q (f a)) : EZ z q (x.bind f) := by
  cases x with
  | error e => exact h
  | ok a => exact hf a h
section EZS
variable {n t w : Nat} {c : Nat → Int}
theorem adv_z (ht : t ≤ tkz c n) (hw : w ≤ 30) : EZ (tkz c n) id (adv (tkd c n) w t) := by
  unfold adv
  by_cases d : tkd c n t = w
  · rw [if_pos d]
    by_cases e : t < 400
    · rw [if_pos e]; exact tkz_go ht (by omega) e
    · rw [if_neg e]; exact ht
  · rw [if_neg d]; exact ht
def UZ (c : Nat → Int) (n : Nat) (U : Nat → PRs) : Prop := ∀ t, t ≤ tkz c n → EZ (tkz c n) (fun b : Nat × Tm => b.1) (U t)
theorem pLp_z {U : Nat → PRs} {k : Nat} (hw : w ≤ 29) (hU : UZ c n U) : ∀ f t cs, t ≤ tkz c n → EZ (tkz c n) (fun b : Nat × Tm => b.1) (pLp (tkd c n) U w k f t cs) := by
  intro f
  induction f with
  | zero => intro t cs h; exact h
  | succ f ih =>
    intro t cs h
    rw [pLp]
    by_cases d : tkd c n t = w ∨ tkd c n t = w + 1
    · rw [if_pos d]
      exact (adv_z h (by omega)).b (fun a ha => (hU a ha).b (fun b hb => ih _ _ hb))
    · rw [if_neg d]; exact h
theorem pPr_z {U : Nat → PRs} (hU : UZ c n U) : UZ c n (pPr (tkd c n) U) := fun t h => (hU t h).b (fun b hb => pLp_z (by decide) hU _ _ _ hb)
theorem pSm_z {U : Nat → PRs} (hU : UZ c n U) : UZ c n (pSm (tkd c n) U) := fun t h => (pPr_z hU t h).b (fun b hb => pLp_z (by decide) (pPr_z hU) _ _ _ hb)
theorem pUn_z {V : Nat → Int32} {S : Nat → PRs} {room : Bool} (hS : room = true → UZ c n S) : UZ c n (pUn (tkd c n) V S room) := fun t h => by
  unfold pUn
  by_cases a1 : tkd c n t = 21
  · rw [if_pos a1]; exact (adv_z h (by decide)).b (fun a ha => ha)
  · rw [if_neg a1]
    by_cases a2 : 11 ≤ tkd c n t ∧ tkd c n t ≤ 19
    · rw [if_pos a2]; exact (adv_z h (by omega)).b (fun a ha => ha)
    · rw [if_neg a2]
      by_cases a3 : tkd c n t = 29
      · rw [if_neg (fun x => x a3)]
        cases room with
        | false => rw [if_pos rfl]; exact h
        | true => rw [if_neg (by decide)]; exact (adv_z h (by decide)).b (fun a ha => (hS rfl a ha).b (fun b hb => (adv_z hb (by decide)).b (fun d hd => hd)))
      · rw [if_pos a3]; exact h
theorem pUd_z {V : Nat → Int32} : ∀ d, UZ c n (pUd (tkd c n) V d)
  | 0 => pUn_z (fun h => by cases h)
  | d + 1 => pUn_z (fun _ => pSm_z (pUd_z d))
theorem pS0_z : UZ c n (pS0 c n) := pSm_z (pUd_z 6)
theorem pIf1_z (h : t ≤ tkz c n) : EZ (tkz c n) (fun y : Nat × Tm × Tm × Tm => y.1) (pIf1 (tkd c n) (pS0 c n) t) := (adv_z h (by decide)).b (fun a ha => (pS0_z a ha).b (fun b hb => (adv_z hb (by decide)).b (fun a2 h2 => (pS0_z a2 h2).b (fun b2 hb2 => (adv_z hb2 (by decide)).b (fun a3 h3 => (pS0_z a3 h3).b (fun b3 hb3 => (adv_z hb3 (by decide)).b (fun a4 h4 => h4)))))))
theorem pEnd_z (h : t ≤ tkz c n) : EZ (tkz c n) (fun y : Nat × List Br => y.1) (pEnd (tkd c n) (pS0 c n) t) := (pS0_z t h).b (fun b hb => (adv_z hb (by decide)).b (fun a ha => ha))
theorem pIfs_z : ∀ f t, t ≤ tkz c n → EZ (tkz c n) (fun y : Nat × List Br => y.1) (pIfs (tkd c n) (pS0 c n) f t) := by
  intro f
  induction f with
  | zero =>
    intro t h
    rw [pIfs]
    by_cases d : tkd c n t = 8
    · rw [if_pos d]; exact h
    · rw [if_neg d]; exact pEnd_z h
  | succ f ih =>
    intro t h
    rw [pIfs]
    by_cases d : tkd c n t = 8
    · rw [if_pos d]; exact (pIf1_z h).b (fun y hy => (ih _ hy).b (fun z hz => hz))
    · rw [if_neg d]; exact pEnd_z h
theorem pLw_z {k : Nat} (hk : k ≤ 20) (h : t ≤ tkz c n) : EZ (tkz c n) (fun y : Nat × List Br => y.1) (pLw (tkd c n) (pS0 c n) k t) := (adv_z h (by omega)).b (fun a ha => (adv_z ha (by decide)).b (fun b hb => pIfs_z _ _ hb))
theorem advs_z : ∀ {ws : List Nat}, (∀ w, w ∈ ws → w ≤ 30) → ∀ t, t ≤ tkz c n → EZ (tkz c n) id (advs (tkd c n) ws t)
  | [], _, t, h => h
  | w :: ws, hw, t, h => (adv_z h (hw w List.mem_cons_self)).b (fun a ha => advs_z (fun x hx => hw x (List.mem_cons_of_mem _ hx)) a ha)
theorem pNm_z {full : Bool} {ws : List Nat} (hw : ∀ w, w ∈ ws → w ≤ 30) (h : t ≤ tkz c n) : EZ (tkz c n) (fun x : Nat × Option (Nat × List Br) => x.1) ((pNm (tkd c n) full ws t).bind fun a => .ok (a, none)) := by
  unfold pNm
  cases full with
  | true => rw [if_pos rfl]; exact h
  | false => rw [if_neg (by decide)]; exact (advs_z hw t h).b (fun a ha => ha)
theorem pTl_z {nr ng nw : Nat} (h : t ≤ tkz c n) : EZ (tkz c n) (fun x : Nat × Option (Nat × List Br) => x.1) (pTl (tkd c n) (pS0 c n) nr ng nw t) := by
  unfold pTl
  split
  · exact pNm_z (by decide) h
  · split
    · exact pNm_z (by decide) h
    · split
      · exact pNm_z (by decide) h
      · split
        · exact pNm_z (by decide) h
        · split
          · exact (pLw_z (by omega) h).b (fun b hb => hb)
          · exact h
theorem pAl_z : ∀ f t nr ng nw bf, t ≤ tkz c n → EZ (tkz c n) (fun x : Nat × (Nat → List Br) => x.1) (pAl c n f t nr ng nw bf) := by
  intro f
  induction f with
  | zero => intro t nr ng nw bf h; exact Nat.zero_le _
  | succ f ih =>
    intro t nr ng nw bf h
    rw [pAl]
    split
    · exact h
    · exact (pTl_z h).b (fun x hx => ih _ _ _ _ _ hx)
end EZS
def P1x (m μ : Mem) : Prop := μ.2 = m.2 ∧ (∀ r, r ≠ 14 → r ≠ 15 → r ≠ 20 → r ≠ 21 → r ≠ 22 → μ.1 r = m.1 r) ∧ (∀ k, k < 5 ∨ 11 < k → μ.1 14 k = m.1 14 k) ∧ ∀ k, k ≠ 10 → μ.1 15 k = m.1 15 k
def P1O (c : Nat → Int) (n : Nat) : Except (Nat × Nat) (Nat × (Nat → List Br)) → Mem → Prop
  | .error e, μ => PBX e.1 e.2 μ
  | .ok x, μ => ∃ cs, PGX c n 0 x.1 cs μ ∧ LwP cs x.2 μ
section PA1
variable {m m1 m2 μ : Mem} {n i z t s nr ng nw : Nat} {c : Nat → Int} {cs : Tm} {bf : Nat → List Br}
theorem P1x.tr (p : P1x m m1) (q : P1x m1 m2) : P1x m m2 := ⟨q.1.trans p.1, fun r h1 h2 h3 h4 h5 => (q.2.1 r h1 h2 h3 h4 h5).trans (p.2.1 r h1 h2 h3 h4 h5), fun k h => (q.2.2.1 k h).trans (p.2.2.1 k h), fun k h => (q.2.2.2 k h).trans (p.2.2.2 k h)⟩
theorem cnI_le {b : Prop} [Decidable b] : cnI b ≤ 1 := by unfold cnI; split <;> omega
theorem w_pass1 (h : PGX c n 0 0 cs m) (h9 : m.1 14 9 = ii 0) (h10 : m.1 14 10 = ii 0) (h11 : m.1 14 11 = ii 0) (hL : LwP cs bf m) {Q : Rs → Ev → Hp → Prop} (g : ∀ j μ, P1x m μ → P1O c n (pAl c n 402 0 0 0 0 bf) μ → Q (0, none) [.ref 14, .int (ii ((j : Nat) : Int))] (hp μ)) : wS (sWh (Lc_Parser_check_1) (Lb_Parser_check_1) Lu_Parser_check_1) [.ref 14, .int (ii 0)] (hp m) Q := by
  have z4 := tkz_le (c := c) (n := n)
  refine wS_lp (σ := Mem) 401 (fun j μ => P1x m μ ∧ ((∃ e, pAl c n 402 0 0 0 0 bf = .error e ∧ PBX e.1 e.2 μ) ∨ ∃ t nr ng nw bg ds, PGX c n 0 t ds μ ∧ μ.1 14 9 = ii ((nr : Nat) : Int) ∧ μ.1 14 10 = ii ((ng : Nat) : Int) ∧ μ.1 14 11 = ii ((nw : Nat) : Int) ∧ nr ≤ j ∧ ng ≤ j ∧ nw ≤ j ∧ LwP ds bg μ ∧ j ≤ t ∧ pAl c n (402 - j) t nr ng nw bg = pAl c n 402 0 0 0 0 bf)) (fun j _ => [.ref 14, .int (ii j)]) (fun μ => hp μ) ?_ m ⟨⟨rfl, fun _ _ _ _ _ _ => rfl, fun _ _ => rfl, fun _ _ => rfl⟩, Or.inr ⟨0, 0, 0, 0, bf, cs, h, h9, h10, h11, Nat.le_refl _, Nat.le_refl _, Nat.le_refl _, hL, Nat.le_refl _, rfl⟩⟩ rfl rfl
  intro j μ hj ⟨A, B⟩
  have e1 : (j : Int) + 1 = ((j + 1 : Nat) : Int) := by omega
  rcases B with ⟨e, eG, hB⟩ | ⟨t, nr, ng, nw, bg, ds, hP, g9, g10, g11, lr, lg, lw, hL, jt, eG⟩
  · have h5 := hB.1
    have f1 := hB.2.1
    have f2 := hB.2.2.1
    have c1 : ¬ ((e.1 : Int) = 0) := by omega
    have G1 := g j μ A (by rw [eG]; exact hB)
    by_cases b1 : (j : Int) ≤ 400
    · simp (disch := omega) only [Lc_Parser_check_1, b1, h5, c1, Nat.reduceEqDiff, Int.reduceEq, Int.reduceLT, Int.reduceLE, Int.reduceNeg, List.length_cons, List.length_nil, ↓wD_run, ↓wD_mV, ↓wS_seq, ↓wS_skip, ↓wS_brk, ↓wS_cnt, ↓wS_retV, ↓wS_put, ↓wS_putZ, ↓wS_fop, ↓wS_ast, ↓wS_astL, ↓wS_aop, ↓wS_if, ↓wS_blk, ↓wS_ret, ↓wS_retZ, ↓wS_call, ↓wS_sw, ↓wS_cpy, ↓wE_kI, ↓wE_kL, ↓wE_o1, ↓wE_o2, ↓wE_oD, ↓wE_oR, ↓wE_gI, ↓wE_gR, ↓wE_aI, ↓wE_aL, ↓wE_aR, ↓wE_lnX, ↓wE_iX, ↓wE_bX, ↓wE_cAnd, ↓wE_cOr, ↓wE_cNot, ↓wE_asV, ↓wA_nil, ↓wA_cons, ↓wE_cI, ↓wE_cL, ↓wE_cR, ↓wE_chX, ↓wE_idX, ↓xI_s, ↓xL_s, ↓xF_s, ↓lI_0, ↓lL_0, ↓lR_0, ↓lI_1, ↓lL_1, ↓lR_1, ↓lI_2, ↓lL_2, ↓lR_2, ↓lI_3, ↓lL_3, ↓lR_3, ↓lI_4, ↓lL_4, ↓lR_4, ↓lI_5, ↓lL_5, ↓lR_5, ↓lI_6, ↓lL_6, ↓lR_6, ↓lI_7, ↓lL_7, ↓lR_7, ↓lI_8, ↓lL_8, ↓lR_8, ↓lI_9, ↓lL_9, ↓lR_9, ↓lI_10, ↓lL_10, ↓lR_10, ↓lI_11, ↓lL_11, ↓lR_11, ↓lI_12, ↓lL_12, ↓lR_12, ↓lI_13, ↓lL_13, ↓lR_13, ↓lI_14, ↓lL_14, ↓lR_14, ↓lI_15, ↓lL_15, ↓lR_15, ↓lI_16, ↓lL_16, ↓lR_16, ↓st_0, ↓st_1, ↓st_2, ↓st_3, ↓st_4, ↓st_5, ↓st_6, ↓st_7, ↓st_8, ↓st_9, ↓st_10, ↓st_11, ↓st_12, ↓st_13, ↓st_14, ↓st_15, ↓st_16, ↓in_0, ↓in_1, ↓in_2, ↓in_3, ↓in_4, ↓in_5, ↓in_6, ↓in_7, ↓in_8, ↓in_9, ↓in_10, ↓in_11, ↓in_12, ↓in_13, ↓in_14, ↓in_15, ↓in_16, ↓dc_0, ↓dc_1, ↓dc_2, ↓dc_3, ↓dc_4, ↓dc_5, ↓dc_6, ↓dc_7, ↓dc_8, ↓dc_9, ↓dc_10, ↓dc_11, ↓dc_12, ↓dc_13, ↓dc_14, ↓dc_15, ↓dc_16, ↓bk_0_0, ↓bk_0_1, ↓bk_0_2, ↓bk_0_3, ↓bk_0_4, ↓bk_0_5, ↓bk_1_1, ↓bk_1_2, ↓bk_1_3, ↓bk_1_4, ↓bk_1_5, ↓bk_1_6, ↓bk_2_2, ↓bk_2_3, ↓bk_2_4, ↓bk_2_5, ↓bk_2_6, ↓bk_2_7, ↓bk_3_3, ↓bk_3_4, ↓bk_3_5, ↓bk_3_6, ↓bk_3_7, ↓bk_3_8, ↓bk_4_4, ↓bk_4_5, ↓bk_4_6, ↓bk_4_7, ↓bk_4_8, ↓bk_4_9, ↓bk_5_5, ↓bk_5_6, ↓bk_5_7, ↓bk_5_8, ↓bk_5_9, ↓bk_5_10, ↓bk_6_6, ↓bk_6_7, ↓bk_6_8, ↓bk_6_9, ↓bk_6_10, ↓bk_6_11, ↓bk_7_7, ↓bk_7_8, ↓bk_7_9, ↓bk_7_10, ↓bk_7_11, ↓bk_7_12, ↓bk_8_8, ↓bk_8_9, ↓bk_8_10, ↓bk_8_11, ↓bk_8_12, ↓bk_8_13, ↓bk_9_9, ↓bk_9_10, ↓bk_9_11, ↓bk_9_12, ↓bk_9_13, ↓bk_9_14, ↓bk_10_10, ↓bk_10_11, ↓bk_10_12, ↓bk_10_13, ↓bk_10_14, ↓bk_10_15, ↓bk_11_11, ↓bk_11_12, ↓bk_11_13, ↓bk_11_14, ↓bk_11_15, ↓bk_11_16, ↓bk_12_12, ↓bk_12_13, ↓bk_12_14, ↓bk_12_15, ↓bk_12_16, ↓bk_12_17, ↓bk_13_13, ↓bk_13_14, ↓bk_13_15, ↓bk_13_16, ↓bk_13_17, ↓bk_13_18, ↓bk_14_14, ↓bk_14_15, ↓bk_14_16, ↓bk_14_17, ↓bk_14_18, ↓bk_15_15, ↓bk_15_16, ↓bk_15_17, ↓bk_15_18, ↓bk_16_16, ↓bk_16_17, ↓bk_16_18, ↓tk_0_0, ↓tk_0_1, ↓tk_0_2, ↓tk_0_3, ↓tk_0_4, ↓tk_0_5, ↓tk_1_1, ↓tk_1_2, ↓tk_1_3, ↓tk_1_4, ↓tk_1_5, ↓tk_1_6, ↓tk_2_2, ↓tk_2_3, ↓tk_2_4, ↓tk_2_5, ↓tk_2_6, ↓tk_2_7, ↓tk_3_3, ↓tk_3_4, ↓tk_3_5, ↓tk_3_6, ↓tk_3_7, ↓tk_3_8, ↓tk_4_4, ↓tk_4_5, ↓tk_4_6, ↓tk_4_7, ↓tk_4_8, ↓tk_4_9, ↓tk_5_5, ↓tk_5_6, ↓tk_5_7, ↓tk_5_8, ↓tk_5_9, ↓tk_5_10, ↓tk_6_6, ↓tk_6_7, ↓tk_6_8, ↓tk_6_9, ↓tk_6_10, ↓tk_6_11, ↓tk_7_7, ↓tk_7_8, ↓tk_7_9, ↓tk_7_10, ↓tk_7_11, ↓tk_7_12, ↓tk_8_8, ↓tk_8_9, ↓tk_8_10, ↓tk_8_11, ↓tk_8_12, ↓tk_8_13, ↓tk_9_9, ↓tk_9_10, ↓tk_9_11, ↓tk_9_12, ↓tk_9_13, ↓tk_9_14, ↓tk_10_10, ↓tk_10_11, ↓tk_10_12, ↓tk_10_13, ↓tk_10_14, ↓tk_10_15, ↓tk_11_11, ↓tk_11_12, ↓tk_11_13, ↓tk_11_14, ↓tk_11_15, ↓tk_11_16, ↓tk_12_12, ↓tk_12_13, ↓tk_12_14, ↓tk_12_15, ↓tk_12_16, ↓tk_12_17, ↓tk_13_13, ↓tk_13_14, ↓tk_13_15, ↓tk_13_16, ↓tk_13_17, ↓tk_13_18, ↓tk_14_14, ↓tk_14_15, ↓tk_14_16, ↓tk_14_17, ↓tk_14_18, ↓tk_15_15, ↓tk_15_16, ↓tk_15_17, ↓tk_15_18, ↓tk_16_16, ↓tk_16_17, ↓tk_16_18, ↓bk_r1, ↓bk_r2, ↓bk_r3, ↓sw_t, ↓sw_f, ↓sw_n, decide_eq_true_eq, ↓reduceIte, ii_add, ii_sub, ii_mul, true_and, and_true, List.map_cons, List.map_nil, Value.category, ne_eq, gt_iff_lt, ge_iff_le, not_true_eq_false, not_false_eq_true, Bool.false_eq_true, true_or, or_true, false_or, or_false, okI_ii, ii_nat, ii_lt, ii_le, ii_inj, ii_lt0, ii_0lt, ii_0le, ii_le0, ii_eq0, Int.toNat_add, Int.toNat_natCast, Int.toNat_mul, Int.reduceToNat, Nat.zero_add, nrw_0, sI_eq, sI_ne, sI_2, sJ_1, sI_sI, sI_sw, io_0, ↓g_0_0, ↓g_0_1, ↓g_0_2, ↓g_0_3, ↓g_0_4, ↓g_0_5, ↓g_0_6, ↓g_0_7, ↓g_0_8, ↓g_0_9, ↓g_0_10, io_1, ↓g_1_0, ↓g_1_1, ↓p_1_1, ↓g_1_2, ↓g_1_3, ↓g_1_4, ↓b_2, ↓x_2, ↓b_3, ↓x_3, ↓b_4, ↓x_4, ↓b_5, ↓x_5, io_6, ↓g_6_0, ↓p_6_0, ↓g_6_1, ↓p_6_1, ↓g_6_2, ↓p_6_2, ↓g_6_3, ↓g_6_4, ↓g_6_5, ↓g_6_6, ↓g_6_7, ↓g_6_8, ↓g_6_9, ↓g_6_10, ↓p_6_10, ↓b_7, ↓x_7, ↓b_8, ↓x_8, ↓b_9, ↓x_9, ↓b_10, ↓x_10, ↓b_11, ↓x_11, ↓b_12, ↓x_12, ↓b_13, ↓x_13, io_14, ↓g_14_0, ↓g_14_1, ↓p_14_1, ↓g_14_2, ↓g_14_3, ↓g_14_4, ↓g_14_5, ↓p_14_5, ↓g_14_6, ↓p_14_6, ↓g_14_7, ↓p_14_7, ↓g_14_8, ↓p_14_8, ↓g_14_9, ↓p_14_9, ↓g_14_10, ↓p_14_10, ↓g_14_11, ↓p_14_11, io_15, ↓g_15_0, ↓p_15_0, ↓g_15_1, ↓p_15_1, ↓g_15_2, ↓p_15_2, ↓g_15_3, ↓g_15_4, ↓g_15_5, ↓g_15_6, ↓g_15_7, ↓g_15_8, ↓g_15_9, ↓g_15_10, ↓p_15_10, ↓b_16, ↓x_16, ↓b_17, ↓x_17, ↓b_18, ↓x_18, ↓b_19, ↓x_19, ↓b_20, ↓x_20, ↓b_21, ↓x_21, ↓b_22, ↓x_22, ↓b_23, ↓x_23, ↓b_24, ↓x_24, io_25, ↓g_25_0, ↓g_25_1, ↓g_25_2, ↓g_25_3, ↓p_25_3, ↓g_25_4, ↓b_26, ↓x_26, ↓b_27, ↓x_27, ↓b_28, ↓x_28, io_29, ↓g_29_0, ↓g_29_1, ↓g_29_2, ↓b_30, ↓x_30, ↓b_31, ↓x_31, io_32, ↓g_32_0, ↓g_32_1, ↓g_32_2, io_33, ↓g_33_0, ↓g_33_1, ↓g_33_2, ↓g_33_3, ↓p_33_3, ↓g_33_4, ↓b_34, ↓x_34, ↓b_35, ↓x_35, ↓b_36, ↓x_36, io_37, ↓g_37_0, ↓p_37_0, ↓g_37_1, ↓p_37_1, ↓g_37_2, ↓p_37_2, ↓g_37_3, ↓g_37_4, ↓g_37_5, ↓g_37_6, ↓g_37_7, ↓g_37_8, ↓g_37_9, ↓g_37_10, ↓g_37_11, ↓g_37_12, ↓p_37_12, ↓g_37_13, ↓p_37_13, ↓b_38, ↓x_38, ↓b_39, ↓x_39, ↓b_40, ↓x_40, ↓b_41, ↓x_41, ↓b_42, ↓x_42, ↓b_43, ↓x_43, io_44, ↓g_44_0, ↓p_44_0, ↓g_44_1, ↓p_44_1, ↓g_44_2, ↓p_44_2, ↓g_44_3, ↓g_44_4, ↓g_44_5, ↓g_44_6, ↓g_44_7, ↓g_44_8, ↓g_44_9, ↓g_44_10, ↓g_44_11, ↓g_44_12, ↓p_44_12, ↓g_44_13, ↓p_44_13, ↓g_44_14, ↓p_44_14, ↓b_45, ↓x_45, ↓b_46, ↓x_46, ↓b_47, ↓x_47, ↓b_48, ↓x_48, ↓b_49, ↓x_49, ↓b_50, ↓x_50, io_51, ↓g_51_0, ↓g_51_1, ↓g_51_2, ↓g_51_3, ↓b_52, ↓x_52, ↓b_53, io_60, ↓g_60_0, ↓p_60_0, ↓g_60_1, ↓g_60_2, ↓g_60_3, ↓g_60_4, ↓g_60_5, ↓g_60_6, ↓b_61, ↓x_61, ↓b_62, ↓x_62, ↓b_63, ↓x_63, io_64, ↓g_64_0, ↓p_64_0, ↓g_64_1, ↓g_64_2, ↓p_64_2, ↓g_64_3, ↓g_64_4, ↓b_65, ↓b_106, ↓b_110, ↓x_110, ↓n_48, ↓q56, ↓q64, ↓x64]
      exact G1
    · simp (disch := omega) only [Lc_Parser_check_1, b1, Nat.reduceEqDiff, Int.reduceEq, Int.reduceLT, Int.reduceLE, Int.reduceNeg, List.length_cons, List.length_nil, ↓wD_run, ↓wD_mV, ↓wS_seq, ↓wS_skip, ↓wS_brk, ↓wS_cnt, ↓wS_retV, ↓wS_put, ↓wS_putZ, ↓wS_fop, ↓wS_ast, ↓wS_astL, ↓wS_aop, ↓wS_if, ↓wS_blk, ↓wS_ret, ↓wS_retZ, ↓wS_call, ↓wS_sw, ↓wS_cpy, ↓wE_kI, ↓wE_kL, ↓wE_o1, ↓wE_o2, ↓wE_oD, ↓wE_oR, ↓wE_gI, ↓wE_gR, ↓wE_aI, ↓wE_aL, ↓wE_aR, ↓wE_lnX, ↓wE_iX, ↓wE_bX, ↓wE_cAnd, ↓wE_cOr, ↓wE_cNot, ↓wE_asV, ↓wA_nil, ↓wA_cons, ↓wE_cI, ↓wE_cL, ↓wE_cR, ↓wE_chX, ↓wE_idX, ↓xI_s, ↓xL_s, ↓xF_s, ↓lI_0, ↓lL_0, ↓lR_0, ↓lI_1, ↓lL_1, ↓lR_1, ↓lI_2, ↓lL_2, ↓lR_2, ↓lI_3, ↓lL_3, ↓lR_3, ↓lI_4, ↓lL_4, ↓lR_4, ↓lI_5, ↓lL_5, ↓lR_5, ↓lI_6, ↓lL_6, ↓lR_6, ↓lI_7, ↓lL_7, ↓lR_7, ↓lI_8, ↓lL_8, ↓lR_8, ↓lI_9, ↓lL_9, ↓lR_9, ↓lI_10, ↓lL_10, ↓lR_10, ↓lI_11, ↓lL_11, ↓lR_11, ↓lI_12, ↓lL_12, ↓lR_12, ↓lI_13, ↓lL_13, ↓lR_13, ↓lI_14, ↓lL_14, ↓lR_14, ↓lI_15, ↓lL_15, ↓lR_15, ↓lI_16, ↓lL_16, ↓lR_16, ↓st_0, ↓st_1, ↓st_2, ↓st_3, ↓st_4, ↓st_5, ↓st_6, ↓st_7, ↓st_8, ↓st_9, ↓st_10, ↓st_11, ↓st_12, ↓st_13, ↓st_14, ↓st_15, ↓st_16, ↓in_0, ↓in_1, ↓in_2, ↓in_3, ↓in_4, ↓in_5, ↓in_6, ↓in_7, ↓in_8, ↓in_9, ↓in_10, ↓in_11, ↓in_12, ↓in_13, ↓in_14, ↓in_15, ↓in_16, ↓dc_0, ↓dc_1, ↓dc_2, ↓dc_3, ↓dc_4, ↓dc_5, ↓dc_6, ↓dc_7, ↓dc_8, ↓dc_9, ↓dc_10, ↓dc_11, ↓dc_12, ↓dc_13, ↓dc_14, ↓dc_15, ↓dc_16, ↓bk_0_0, ↓bk_0_1, ↓bk_0_2, ↓bk_0_3, ↓bk_0_4, ↓bk_0_5, ↓bk_1_1, ↓bk_1_2, ↓bk_1_3, ↓bk_1_4, ↓bk_1_5, ↓bk_1_6, ↓bk_2_2, ↓bk_2_3, ↓bk_2_4, ↓bk_2_5, ↓bk_2_6, ↓bk_2_7, ↓bk_3_3, ↓bk_3_4, ↓bk_3_5, ↓bk_3_6, ↓bk_3_7, ↓bk_3_8, ↓bk_4_4, ↓bk_4_5, ↓bk_4_6, ↓bk_4_7, ↓bk_4_8, ↓bk_4_9, ↓bk_5_5, ↓bk_5_6, ↓bk_5_7, ↓bk_5_8, ↓bk_5_9, ↓bk_5_10, ↓bk_6_6, ↓bk_6_7, ↓bk_6_8, ↓bk_6_9, ↓bk_6_10, ↓bk_6_11, ↓bk_7_7, ↓bk_7_8, ↓bk_7_9, ↓bk_7_10, ↓bk_7_11, ↓bk_7_12, ↓bk_8_8, ↓bk_8_9, ↓bk_8_10, ↓bk_8_11, ↓bk_8_12, ↓bk_8_13, ↓bk_9_9, ↓bk_9_10, ↓bk_9_11, ↓bk_9_12, ↓bk_9_13, ↓bk_9_14, ↓bk_10_10, ↓bk_10_11, ↓bk_10_12, ↓bk_10_13, ↓bk_10_14, ↓bk_10_15, ↓bk_11_11, ↓bk_11_12, ↓bk_11_13, ↓bk_11_14, ↓bk_11_15, ↓bk_11_16, ↓bk_12_12, ↓bk_12_13, ↓bk_12_14, ↓bk_12_15, ↓bk_12_16, ↓bk_12_17, ↓bk_13_13, ↓bk_13_14, ↓bk_13_15, ↓bk_13_16, ↓bk_13_17, ↓bk_13_18, ↓bk_14_14, ↓bk_14_15, ↓bk_14_16, ↓bk_14_17, ↓bk_14_18, ↓bk_15_15, ↓bk_15_16, ↓bk_15_17, ↓bk_15_18, ↓bk_16_16, ↓bk_16_17, ↓bk_16_18, ↓tk_0_0, ↓tk_0_1, ↓tk_0_2, ↓tk_0_3, ↓tk_0_4, ↓tk_0_5, ↓tk_1_1, ↓tk_1_2, ↓tk_1_3, ↓tk_1_4, ↓tk_1_5, ↓tk_1_6, ↓tk_2_2, ↓tk_2_3, ↓tk_2_4, ↓tk_2_5, ↓tk_2_6, ↓tk_2_7, ↓tk_3_3, ↓tk_3_4, ↓tk_3_5, ↓tk_3_6, ↓tk_3_7, ↓tk_3_8, ↓tk_4_4, ↓tk_4_5, ↓tk_4_6, ↓tk_4_7, ↓tk_4_8, ↓tk_4_9, ↓tk_5_5, ↓tk_5_6, ↓tk_5_7, ↓tk_5_8, ↓tk_5_9, ↓tk_5_10, ↓tk_6_6, ↓tk_6_7, ↓tk_6_8, ↓tk_6_9, ↓tk_6_10, ↓tk_6_11, ↓tk_7_7, ↓tk_7_8, ↓tk_7_9, ↓tk_7_10, ↓tk_7_11, ↓tk_7_12, ↓tk_8_8, ↓tk_8_9, ↓tk_8_10, ↓tk_8_11, ↓tk_8_12, ↓tk_8_13, ↓tk_9_9, ↓tk_9_10, ↓tk_9_11, ↓tk_9_12, ↓tk_9_13, ↓tk_9_14, ↓tk_10_10, ↓tk_10_11, ↓tk_10_12, ↓tk_10_13, ↓tk_10_14, ↓tk_10_15, ↓tk_11_11, ↓tk_11_12, ↓tk_11_13, ↓tk_11_14, ↓tk_11_15, ↓tk_11_16, ↓tk_12_12, ↓tk_12_13, ↓tk_12_14, ↓tk_12_15, ↓tk_12_16, ↓tk_12_17, ↓tk_13_13, ↓tk_13_14, ↓tk_13_15, ↓tk_13_16, ↓tk_13_17, ↓tk_13_18, ↓tk_14_14, ↓tk_14_15, ↓tk_14_16, ↓tk_14_17, ↓tk_14_18, ↓tk_15_15, ↓tk_15_16, ↓tk_15_17, ↓tk_15_18, ↓tk_16_16, ↓tk_16_17, ↓tk_16_18, ↓bk_r1, ↓bk_r2, ↓bk_r3, ↓sw_t, ↓sw_f, ↓sw_n, decide_eq_true_eq, ↓reduceIte, ii_add, ii_sub, ii_mul, true_and, and_true, List.map_cons, List.map_nil, Value.category, ne_eq, gt_iff_lt, ge_iff_le, not_true_eq_false, not_false_eq_true, Bool.false_eq_true, true_or, or_true, false_or, or_false, okI_ii, ii_nat, ii_lt, ii_le, ii_inj, ii_lt0, ii_0lt, ii_0le, ii_le0, ii_eq0, Int.toNat_add, Int.toNat_natCast, Int.toNat_mul, Int.reduceToNat, Nat.zero_add, nrw_0, sI_eq, sI_ne, sI_2, sJ_1, sI_sI, sI_sw, io_0, ↓g_0_0, ↓g_0_1, ↓g_0_2, ↓g_0_3, ↓g_0_4, ↓g_0_5, ↓g_0_6, ↓g_0_7, ↓g_0_8, ↓g_0_9, ↓g_0_10, io_1, ↓g_1_0, ↓g_1_1, ↓p_1_1, ↓g_1_2, ↓g_1_3, ↓g_1_4, ↓b_2, ↓x_2, ↓b_3, ↓x_3, ↓b_4, ↓x_4, ↓b_5, ↓x_5, io_6, ↓g_6_0, ↓p_6_0, ↓g_6_1, ↓p_6_1, ↓g_6_2, ↓p_6_2, ↓g_6_3, ↓g_6_4, ↓g_6_5, ↓g_6_6, ↓g_6_7, ↓g_6_8, ↓g_6_9, ↓g_6_10, ↓p_6_10, ↓b_7, ↓x_7, ↓b_8, ↓x_8, ↓b_9, ↓x_9, ↓b_10, ↓x_10, ↓b_11, ↓x_11, ↓b_12, ↓x_12, ↓b_13, ↓x_13, io_14, ↓g_14_0, ↓g_14_1, ↓p_14_1, ↓g_14_2, ↓g_14_3, ↓g_14_4, ↓g_14_5, ↓p_14_5, ↓g_14_6, ↓p_14_6, ↓g_14_7, ↓p_14_7, ↓g_14_8, ↓p_14_8, ↓g_14_9, ↓p_14_9, ↓g_14_10, ↓p_14_10, ↓g_14_11, ↓p_14_11, io_15, ↓g_15_0, ↓p_15_0, ↓g_15_1, ↓p_15_1, ↓g_15_2, ↓p_15_2, ↓g_15_3, ↓g_15_4, ↓g_15_5, ↓g_15_6, ↓g_15_7, ↓g_15_8, ↓g_15_9, ↓g_15_10, ↓p_15_10, ↓b_16, ↓x_16, ↓b_17, ↓x_17, ↓b_18, ↓x_18, ↓b_19, ↓x_19, ↓b_20, ↓x_20, ↓b_21, ↓x_21, ↓b_22, ↓x_22, ↓b_23, ↓x_23, ↓b_24, ↓x_24, io_25, ↓g_25_0, ↓g_25_1, ↓g_25_2, ↓g_25_3, ↓p_25_3, ↓g_25_4, ↓b_26, ↓x_26, ↓b_27, ↓x_27, ↓b_28, ↓x_28, io_29, ↓g_29_0, ↓g_29_1, ↓g_29_2, ↓b_30, ↓x_30, ↓b_31, ↓x_31, io_32, ↓g_32_0, ↓g_32_1, ↓g_32_2, io_33, ↓g_33_0, ↓g_33_1, ↓g_33_2, ↓g_33_3, ↓p_33_3, ↓g_33_4, ↓b_34, ↓x_34, ↓b_35, ↓x_35, ↓b_36, ↓x_36, io_37, ↓g_37_0, ↓p_37_0, ↓g_37_1, ↓p_37_1, ↓g_37_2, ↓p_37_2, ↓g_37_3, ↓g_37_4, ↓g_37_5, ↓g_37_6, ↓g_37_7, ↓g_37_8, ↓g_37_9, ↓g_37_10, ↓g_37_11, ↓g_37_12, ↓p_37_12, ↓g_37_13, ↓p_37_13, ↓b_38, ↓x_38, ↓b_39, ↓x_39, ↓b_40, ↓x_40, ↓b_41, ↓x_41, ↓b_42, ↓x_42, ↓b_43, ↓x_43, io_44, ↓g_44_0, ↓p_44_0, ↓g_44_1, ↓p_44_1, ↓g_44_2, ↓p_44_2, ↓g_44_3, ↓g_44_4, ↓g_44_5, ↓g_44_6, ↓g_44_7, ↓g_44_8, ↓g_44_9, ↓g_44_10, ↓g_44_11, ↓g_44_12, ↓p_44_12, ↓g_44_13, ↓p_44_13, ↓g_44_14, ↓p_44_14, ↓b_45, ↓x_45, ↓b_46, ↓x_46, ↓b_47, ↓x_47, ↓b_48, ↓x_48, ↓b_49, ↓x_49, ↓b_50, ↓x_50, io_51, ↓g_51_0, ↓g_51_1, ↓g_51_2, ↓g_51_3, ↓b_52, ↓x_52, ↓b_53, io_60, ↓g_60_0, ↓p_60_0, ↓g_60_1, ↓g_60_2, ↓g_60_3, ↓g_60_4, ↓g_60_5, ↓g_60_6, ↓b_61, ↓x_61, ↓b_62, ↓x_62, ↓b_63, ↓x_63, io_64, ↓g_64_0, ↓p_64_0, ↓g_64_1, ↓g_64_2, ↓p_64_2, ↓g_64_3, ↓g_64_4, ↓b_65, ↓b_106, ↓b_110, ↓x_110, ↓n_48, ↓q56, ↓q64, ↓x64]
      exact G1
  · obtain ⟨h5, h7, h8, hz, hK⟩ := id hP.1
    have kb : tkd c n t ≤ 32 := tkk_le
    have b1 : (j : Int) ≤ 400 := by omega
    have jl : j < 401 := by omega
    rw [show 402 - j = (402 - (j + 1)) + 1 by omega, pAl] at eG
    by_cases k : tkd c n t = 31
    · rw [if_pos k] at eG
      have c1 : (tkd c n t : Int) = 31 := by omega
      have G1 := g j μ A (by rw [← eG]; exact ⟨ds, hP, hL⟩)
      simp (disch := omega) only [Lc_Parser_check_1, b1, h5, h8, c1, Nat.reduceEqDiff, Int.reduceEq, Int.reduceLT, Int.reduceLE, Int.reduceNeg, List.length_cons, List.length_nil, ↓wD_run, ↓wD_mV, ↓wS_seq, ↓wS_skip, ↓wS_brk, ↓wS_cnt, ↓wS_retV, ↓wS_put, ↓wS_putZ, ↓wS_fop, ↓wS_ast, ↓wS_astL, ↓wS_aop, ↓wS_if, ↓wS_blk, ↓wS_ret, ↓wS_retZ, ↓wS_call, ↓wS_sw, ↓wS_cpy, ↓wE_kI, ↓wE_kL, ↓wE_o1, ↓wE_o2, ↓wE_oD, ↓wE_oR, ↓wE_gI, ↓wE_gR, ↓wE_aI, ↓wE_aL, ↓wE_aR, ↓wE_lnX, ↓wE_iX, ↓wE_bX, ↓wE_cAnd, ↓wE_cOr, ↓wE_cNot, ↓wE_asV, ↓wA_nil, ↓wA_cons, ↓wE_cI, ↓wE_cL, ↓wE_cR, ↓wE_chX, ↓wE_idX, ↓xI_s, ↓xL_s, ↓xF_s, ↓lI_0, ↓lL_0, ↓lR_0, ↓lI_1, ↓lL_1, ↓lR_1, ↓lI_2, ↓lL_2, ↓lR_2, ↓lI_3, ↓lL_3, ↓lR_3, ↓lI_4, ↓lL_4, ↓lR_4, ↓lI_5, ↓lL_5, ↓lR_5, ↓lI_6, ↓lL_6, ↓lR_6, ↓lI_7, ↓lL_7, ↓lR_7, ↓lI_8, ↓lL_8, ↓lR_8, ↓lI_9, ↓lL_9, ↓lR_9, ↓lI_10, ↓lL_10, ↓lR_10, ↓lI_11, ↓lL_11, ↓lR_11, ↓lI_12, ↓lL_12, ↓lR_12, ↓lI_13, ↓lL_13, ↓lR_13, ↓lI_14, ↓lL_14, ↓lR_14, ↓lI_15, ↓lL_15, ↓lR_15, ↓lI_16, ↓lL_16, ↓lR_16, ↓st_0, ↓st_1, ↓st_2, ↓st_3, ↓st_4, ↓st_5, ↓st_6, ↓st_7, ↓st_8, ↓st_9, ↓st_10, ↓st_11, ↓st_12, ↓st_13, ↓st_14, ↓st_15, ↓st_16, ↓in_0, ↓in_1, ↓in_2, ↓in_3, ↓in_4, ↓in_5, ↓in_6, ↓in_7, ↓in_8, ↓in_9, ↓in_10, ↓in_11, ↓in_12, ↓in_13, ↓in_14, ↓in_15, ↓in_16, ↓dc_0, ↓dc_1, ↓dc_2, ↓dc_3, ↓dc_4, ↓dc_5, ↓dc_6, ↓dc_7, ↓dc_8, ↓dc_9, ↓dc_10, ↓dc_11, ↓dc_12, ↓dc_13, ↓dc_14, ↓dc_15, ↓dc_16, ↓bk_0_0, ↓bk_0_1, ↓bk_0_2, ↓bk_0_3, ↓bk_0_4, ↓bk_0_5, ↓bk_1_1, ↓bk_1_2, ↓bk_1_3, ↓bk_1_4, ↓bk_1_5, ↓bk_1_6, ↓bk_2_2, ↓bk_2_3, ↓bk_2_4, ↓bk_2_5, ↓bk_2_6, ↓bk_2_7, ↓bk_3_3, ↓bk_3_4, ↓bk_3_5, ↓bk_3_6, ↓bk_3_7, ↓bk_3_8, ↓bk_4_4, ↓bk_4_5, ↓bk_4_6, ↓bk_4_7, ↓bk_4_8, ↓bk_4_9, ↓bk_5_5, ↓bk_5_6, ↓bk_5_7, ↓bk_5_8, ↓bk_5_9, ↓bk_5_10, ↓bk_6_6, ↓bk_6_7, ↓bk_6_8, ↓bk_6_9, ↓bk_6_10, ↓bk_6_11, ↓bk_7_7, ↓bk_7_8, ↓bk_7_9, ↓bk_7_10, ↓bk_7_11, ↓bk_7_12, ↓bk_8_8, ↓bk_8_9, ↓bk_8_10, ↓bk_8_11, ↓bk_8_12, ↓bk_8_13, ↓bk_9_9, ↓bk_9_10, ↓bk_9_11, ↓bk_9_12, ↓bk_9_13, ↓bk_9_14, ↓bk_10_10, ↓bk_10_11, ↓bk_10_12, ↓bk_10_13, ↓bk_10_14, ↓bk_10_15, ↓bk_11_11, ↓bk_11_12, ↓bk_11_13, ↓bk_11_14, ↓bk_11_15, ↓bk_11_16, ↓bk_12_12, ↓bk_12_13, ↓bk_12_14, ↓bk_12_15, ↓bk_12_16, ↓bk_12_17, ↓bk_13_13, ↓bk_13_14, ↓bk_13_15, ↓bk_13_16, ↓bk_13_17, ↓bk_13_18, ↓bk_14_14, ↓bk_14_15, ↓bk_14_16, ↓bk_14_17, ↓bk_14_18, ↓bk_15_15, ↓bk_15_16, ↓bk_15_17, ↓bk_15_18, ↓bk_16_16, ↓bk_16_17, ↓bk_16_18, ↓tk_0_0, ↓tk_0_1, ↓tk_0_2, ↓tk_0_3, ↓tk_0_4, ↓tk_0_5, ↓tk_1_1, ↓tk_1_2, ↓tk_1_3, ↓tk_1_4, ↓tk_1_5, ↓tk_1_6, ↓tk_2_2, ↓tk_2_3, ↓tk_2_4, ↓tk_2_5, ↓tk_2_6, ↓tk_2_7, ↓tk_3_3, ↓tk_3_4, ↓tk_3_5, ↓tk_3_6, ↓tk_3_7, ↓tk_3_8, ↓tk_4_4, ↓tk_4_5, ↓tk_4_6, ↓tk_4_7, ↓tk_4_8, ↓tk_4_9, ↓tk_5_5, ↓tk_5_6, ↓tk_5_7, ↓tk_5_8, ↓tk_5_9, ↓tk_5_10, ↓tk_6_6, ↓tk_6_7, ↓tk_6_8, ↓tk_6_9, ↓tk_6_10, ↓tk_6_11, ↓tk_7_7, ↓tk_7_8, ↓tk_7_9, ↓tk_7_10, ↓tk_7_11, ↓tk_7_12, ↓tk_8_8, ↓tk_8_9, ↓tk_8_10, ↓tk_8_11, ↓tk_8_12, ↓tk_8_13, ↓tk_9_9, ↓tk_9_10, ↓tk_9_11, ↓tk_9_12, ↓tk_9_13, ↓tk_9_14, ↓tk_10_10, ↓tk_10_11, ↓tk_10_12, ↓tk_10_13, ↓tk_10_14, ↓tk_10_15, ↓tk_11_11, ↓tk_11_12, ↓tk_11_13, ↓tk_11_14, ↓tk_11_15, ↓tk_11_16, ↓tk_12_12, ↓tk_12_13, ↓tk_12_14, ↓tk_12_15, ↓tk_12_16, ↓tk_12_17, ↓tk_13_13, ↓tk_13_14, ↓tk_13_15, ↓tk_13_16, ↓tk_13_17, ↓tk_13_18, ↓tk_14_14, ↓tk_14_15, ↓tk_14_16, ↓tk_14_17, ↓tk_14_18, ↓tk_15_15, ↓tk_15_16, ↓tk_15_17, ↓tk_15_18, ↓tk_16_16, ↓tk_16_17, ↓tk_16_18, ↓bk_r1, ↓bk_r2, ↓bk_r3, ↓sw_t, ↓sw_f, ↓sw_n, decide_eq_true_eq, ↓reduceIte, ii_add, ii_sub, ii_mul, true_and, and_true, List.map_cons, List.map_nil, Value.category, ne_eq, gt_iff_lt, ge_iff_le, not_true_eq_false, not_false_eq_true, Bool.false_eq_true, true_or, or_true, false_or, or_false, okI_ii, ii_nat, ii_lt, ii_le, ii_inj, ii_lt0, ii_0lt, ii_0le, ii_le0, ii_eq0, Int.toNat_add, Int.toNat_natCast, Int.toNat_mul, Int.reduceToNat, Nat.zero_add, nrw_0, sI_eq, sI_ne, sI_2, sJ_1, sI_sI, sI_sw, io_0, ↓g_0_0, ↓g_0_1, ↓g_0_2, ↓g_0_3, ↓g_0_4, ↓g_0_5, ↓g_0_6, ↓g_0_7, ↓g_0_8, ↓g_0_9, ↓g_0_10, io_1, ↓g_1_0, ↓g_1_1, ↓p_1_1, ↓g_1_2, ↓g_1_3, ↓g_1_4, ↓b_2, ↓x_2, ↓b_3, ↓x_3, ↓b_4, ↓x_4, ↓b_5, ↓x_5, io_6, ↓g_6_0, ↓p_6_0, ↓g_6_1, ↓p_6_1, ↓g_6_2, ↓p_6_2, ↓g_6_3, ↓g_6_4, ↓g_6_5, ↓g_6_6, ↓g_6_7, ↓g_6_8, ↓g_6_9, ↓g_6_10, ↓p_6_10, ↓b_7, ↓x_7, ↓b_8, ↓x_8, ↓b_9, ↓x_9, ↓b_10, ↓x_10, ↓b_11, ↓x_11, ↓b_12, ↓x_12, ↓b_13, ↓x_13, io_14, ↓g_14_0, ↓g_14_1, ↓p_14_1, ↓g_14_2, ↓g_14_3, ↓g_14_4, ↓g_14_5, ↓p_14_5, ↓g_14_6, ↓p_14_6, ↓g_14_7, ↓p_14_7, ↓g_14_8, ↓p_14_8, ↓g_14_9, ↓p_14_9, ↓g_14_10, ↓p_14_10, ↓g_14_11, ↓p_14_11, io_15, ↓g_15_0, ↓p_15_0, ↓g_15_1, ↓p_15_1, ↓g_15_2, ↓p_15_2, ↓g_15_3, ↓g_15_4, ↓g_15_5, ↓g_15_6, ↓g_15_7, ↓g_15_8, ↓g_15_9, ↓g_15_10, ↓p_15_10, ↓b_16, ↓x_16, ↓b_17, ↓x_17, ↓b_18, ↓x_18, ↓b_19, ↓x_19, ↓b_20, ↓x_20, ↓b_21, ↓x_21, ↓b_22, ↓x_22, ↓b_23, ↓x_23, ↓b_24, ↓x_24, io_25, ↓g_25_0, ↓g_25_1, ↓g_25_2, ↓g_25_3, ↓p_25_3, ↓g_25_4, ↓b_26, ↓x_26, ↓b_27, ↓x_27, ↓b_28, ↓x_28, io_29, ↓g_29_0, ↓g_29_1, ↓g_29_2, ↓b_30, ↓x_30, ↓b_31, ↓x_31, io_32, ↓g_32_0, ↓g_32_1, ↓g_32_2, io_33, ↓g_33_0, ↓g_33_1, ↓g_33_2, ↓g_33_3, ↓p_33_3, ↓g_33_4, ↓b_34, ↓x_34, ↓b_35, ↓x_35, ↓b_36, ↓x_36, io_37, ↓g_37_0, ↓p_37_0, ↓g_37_1, ↓p_37_1, ↓g_37_2, ↓p_37_2, ↓g_37_3, ↓g_37_4, ↓g_37_5, ↓g_37_6, ↓g_37_7, ↓g_37_8, ↓g_37_9, ↓g_37_10, ↓g_37_11, ↓g_37_12, ↓p_37_12, ↓g_37_13, ↓p_37_13, ↓b_38, ↓x_38, ↓b_39, ↓x_39, ↓b_40, ↓x_40, ↓b_41, ↓x_41, ↓b_42, ↓x_42, ↓b_43, ↓x_43, io_44, ↓g_44_0, ↓p_44_0, ↓g_44_1, ↓p_44_1, ↓g_44_2, ↓p_44_2, ↓g_44_3, ↓g_44_4, ↓g_44_5, ↓g_44_6, ↓g_44_7, ↓g_44_8, ↓g_44_9, ↓g_44_10, ↓g_44_11, ↓g_44_12, ↓p_44_12, ↓g_44_13, ↓p_44_13, ↓g_44_14, ↓p_44_14, ↓b_45, ↓x_45, ↓b_46, ↓x_46, ↓b_47, ↓x_47, ↓b_48, ↓x_48, ↓b_49, ↓x_49, ↓b_50, ↓x_50, io_51, ↓g_51_0, ↓g_51_1, ↓g_51_2, ↓g_51_3, ↓b_52, ↓x_52, ↓b_53, io_60, ↓g_60_0, ↓p_60_0, ↓g_60_1, ↓g_60_2, ↓g_60_3, ↓g_60_4, ↓g_60_5, ↓g_60_6, ↓b_61, ↓x_61, ↓b_62, ↓x_62, ↓b_63, ↓x_63, io_64, ↓g_64_0, ↓p_64_0, ↓g_64_1, ↓g_64_2, ↓p_64_2, ↓g_64_3, ↓g_64_4, ↓b_65, ↓b_106, ↓b_110, ↓x_110, ↓n_48, ↓q56, ↓q64, ↓x64]
      exact G1
    · rw [if_neg k] at eG
      have c1 : ¬ ((tkd c n t : Int) = 31) := by omega
      obtain ⟨μ1, F1, P1, y9, y10, y11, q⟩ := w_readTell hP g9 g10 g11 (by omega) (by omega) (by omega)
      have u0 := cnI_le (b := tkd c n t = 0)
      have u1 := cnI_le (b := tkd c n t = 1)
      have u2 := cnI_le (b := tkd c n t = 2)
      simp (disch := omega) only [Lc_Parser_check_1, Lb_Parser_check_1, Lu_Parser_check_1, b1, h5, h8, c1, ↓q, e1, Nat.reduceEqDiff, Int.reduceEq, Int.reduceLT, Int.reduceLE, Int.reduceNeg, List.length_cons, List.length_nil, ↓wD_run, ↓wD_mV, ↓wS_seq, ↓wS_skip, ↓wS_brk, ↓wS_cnt, ↓wS_retV, ↓wS_put, ↓wS_putZ, ↓wS_fop, ↓wS_ast, ↓wS_astL, ↓wS_aop, ↓wS_if, ↓wS_blk, ↓wS_ret, ↓wS_retZ, ↓wS_call, ↓wS_sw, ↓wS_cpy, ↓wE_kI, ↓wE_kL, ↓wE_o1, ↓wE_o2, ↓wE_oD, ↓wE_oR, ↓wE_gI, ↓wE_gR, ↓wE_aI, ↓wE_aL, ↓wE_aR, ↓wE_lnX, ↓wE_iX, ↓wE_bX, ↓wE_cAnd, ↓wE_cOr, ↓wE_cNot, ↓wE_asV, ↓wA_nil, ↓wA_cons, ↓wE_cI, ↓wE_cL, ↓wE_cR, ↓wE_chX, ↓wE_idX, ↓xI_s, ↓xL_s, ↓xF_s, ↓lI_0, ↓lL_0, ↓lR_0, ↓lI_1, ↓lL_1, ↓lR_1, ↓lI_2, ↓lL_2, ↓lR_2, ↓lI_3, ↓lL_3, ↓lR_3, ↓lI_4, ↓lL_4, ↓lR_4, ↓lI_5, ↓lL_5, ↓lR_5, ↓lI_6, ↓lL_6, ↓lR_6, ↓lI_7, ↓lL_7, ↓lR_7, ↓lI_8, ↓lL_8, ↓lR_8, ↓lI_9, ↓lL_9, ↓lR_9, ↓lI_10, ↓lL_10, ↓lR_10, ↓lI_11, ↓lL_11, ↓lR_11, ↓lI_12, ↓lL_12, ↓lR_12, ↓lI_13, ↓lL_13, ↓lR_13, ↓lI_14, ↓lL_14, ↓lR_14, ↓lI_15, ↓lL_15, ↓lR_15, ↓lI_16, ↓lL_16, ↓lR_16, ↓st_0, ↓st_1, ↓st_2, ↓st_3, ↓st_4, ↓st_5, ↓st_6, ↓st_7, ↓st_8, ↓st_9, ↓st_10, ↓st_11, ↓st_12, ↓st_13, ↓st_14, ↓st_15, ↓st_16, ↓in_0, ↓in_1, ↓in_2, ↓in_3, ↓in_4, ↓in_5, ↓in_6, ↓in_7, ↓in_8, ↓in_9, ↓in_10, ↓in_11, ↓in_12, ↓in_13, ↓in_14, ↓in_15, ↓in_16, ↓dc_0, ↓dc_1, ↓dc_2, ↓dc_3, ↓dc_4, ↓dc_5, ↓dc_6, ↓dc_7, ↓dc_8, ↓dc_9, ↓dc_10, ↓dc_11, ↓dc_12, ↓dc_13, ↓dc_14, ↓dc_15, ↓dc_16, ↓bk_0_0, ↓bk_0_1, ↓bk_0_2, ↓bk_0_3, ↓bk_0_4, ↓bk_0_5, ↓bk_1_1, ↓bk_1_2, ↓bk_1_3, ↓bk_1_4, ↓bk_1_5, ↓bk_1_6, ↓bk_2_2, ↓bk_2_3, ↓bk_2_4, ↓bk_2_5, ↓bk_2_6, ↓bk_2_7, ↓bk_3_3, ↓bk_3_4, ↓bk_3_5, ↓bk_3_6, ↓bk_3_7, ↓bk_3_8, ↓bk_4_4, ↓bk_4_5, ↓bk_4_6, ↓bk_4_7, ↓bk_4_8, ↓bk_4_9, ↓bk_5_5, ↓bk_5_6, ↓bk_5_7, ↓bk_5_8, ↓bk_5_9, ↓bk_5_10, ↓bk_6_6, ↓bk_6_7, ↓bk_6_8, ↓bk_6_9, ↓bk_6_10, ↓bk_6_11, ↓bk_7_7, ↓bk_7_8, ↓bk_7_9, ↓bk_7_10, ↓bk_7_11, ↓bk_7_12, ↓bk_8_8, ↓bk_8_9, ↓bk_8_10, ↓bk_8_11, ↓bk_8_12, ↓bk_8_13, ↓bk_9_9, ↓bk_9_10, ↓bk_9_11, ↓bk_9_12, ↓bk_9_13, ↓bk_9_14, ↓bk_10_10, ↓bk_10_11, ↓bk_10_12, ↓bk_10_13, ↓bk_10_14, ↓bk_10_15, ↓bk_11_11, ↓bk_11_12, ↓bk_11_13, ↓bk_11_14, ↓bk_11_15, ↓bk_11_16, ↓bk_12_12, ↓bk_12_13, ↓bk_12_14, ↓bk_12_15, ↓bk_12_16, ↓bk_12_17, ↓bk_13_13, ↓bk_13_14, ↓bk_13_15, ↓bk_13_16, ↓bk_13_17, ↓bk_13_18, ↓bk_14_14, ↓bk_14_15, ↓bk_14_16, ↓bk_14_17, ↓bk_14_18, ↓bk_15_15, ↓bk_15_16, ↓bk_15_17, ↓bk_15_18, ↓bk_16_16, ↓bk_16_17, ↓bk_16_18, ↓tk_0_0, ↓tk_0_1, ↓tk_0_2, ↓tk_0_3, ↓tk_0_4, ↓tk_0_5, ↓tk_1_1, ↓tk_1_2, ↓tk_1_3, ↓tk_1_4, ↓tk_1_5, ↓tk_1_6, ↓tk_2_2, ↓tk_2_3, ↓tk_2_4, ↓tk_2_5, ↓tk_2_6, ↓tk_2_7, ↓tk_3_3, ↓tk_3_4, ↓tk_3_5, ↓tk_3_6, ↓tk_3_7, ↓tk_3_8, ↓tk_4_4, ↓tk_4_5, ↓tk_4_6, ↓tk_4_7, ↓tk_4_8, ↓tk_4_9, ↓tk_5_5, ↓tk_5_6, ↓tk_5_7, ↓tk_5_8, ↓tk_5_9, ↓tk_5_10, ↓tk_6_6, ↓tk_6_7, ↓tk_6_8, ↓tk_6_9, ↓tk_6_10, ↓tk_6_11, ↓tk_7_7, ↓tk_7_8, ↓tk_7_9, ↓tk_7_10, ↓tk_7_11, ↓tk_7_12, ↓tk_8_8, ↓tk_8_9, ↓tk_8_10, ↓tk_8_11, ↓tk_8_12, ↓tk_8_13, ↓tk_9_9, ↓tk_9_10, ↓tk_9_11, ↓tk_9_12, ↓tk_9_13, ↓tk_9_14, ↓tk_10_10, ↓tk_10_11, ↓tk_10_12, ↓tk_10_13, ↓tk_10_14, ↓tk_10_15, ↓tk_11_11, ↓tk_11_12, ↓tk_11_13, ↓tk_11_14, ↓tk_11_15, ↓tk_11_16, ↓tk_12_12, ↓tk_12_13, ↓tk_12_14, ↓tk_12_15, ↓tk_12_16, ↓tk_12_17, ↓tk_13_13, ↓tk_13_14, ↓tk_13_15, ↓tk_13_16, ↓tk_13_17, ↓tk_13_18, ↓tk_14_14, ↓tk_14_15, ↓tk_14_16, ↓tk_14_17, ↓tk_14_18, ↓tk_15_15, ↓tk_15_16, ↓tk_15_17, ↓tk_15_18, ↓tk_16_16, ↓tk_16_17, ↓tk_16_18, ↓bk_r1, ↓bk_r2, ↓bk_r3, ↓sw_t, ↓sw_f, ↓sw_n, decide_eq_true_eq, ↓reduceIte, ii_add, ii_sub, ii_mul, true_and, and_true, List.map_cons, List.map_nil, Value.category, ne_eq, gt_iff_lt, ge_iff_le, not_true_eq_false, not_false_eq_true, Bool.false_eq_true, true_or, or_true, false_or, or_false, okI_ii, ii_nat, ii_lt, ii_le, ii_inj, ii_lt0, ii_0lt, ii_0le, ii_le0, ii_eq0, Int.toNat_add, Int.toNat_natCast, Int.toNat_mul, Int.reduceToNat, Nat.zero_add, nrw_0, sI_eq, sI_ne, sI_2, sJ_1, sI_sI, sI_sw, io_0, ↓g_0_0, ↓g_0_1, ↓g_0_2, ↓g_0_3, ↓g_0_4, ↓g_0_5, ↓g_0_6, ↓g_0_7, ↓g_0_8, ↓g_0_9, ↓g_0_10, io_1, ↓g_1_0, ↓g_1_1, ↓p_1_1, ↓g_1_2, ↓g_1_3, ↓g_1_4, ↓b_2, ↓x_2, ↓b_3, ↓x_3, ↓b_4, ↓x_4, ↓b_5, ↓x_5, io_6, ↓g_6_0, ↓p_6_0, ↓g_6_1, ↓p_6_1, ↓g_6_2, ↓p_6_2, ↓g_6_3, ↓g_6_4, ↓g_6_5, ↓g_6_6, ↓g_6_7, ↓g_6_8, ↓g_6_9, ↓g_6_10, ↓p_6_10, ↓b_7, ↓x_7, ↓b_8, ↓x_8, ↓b_9, ↓x_9, ↓b_10, ↓x_10, ↓b_11, ↓x_11, ↓b_12, ↓x_12, ↓b_13, ↓x_13, io_14, ↓g_14_0, ↓g_14_1, ↓p_14_1, ↓g_14_2, ↓g_14_3, ↓g_14_4, ↓g_14_5, ↓p_14_5, ↓g_14_6, ↓p_14_6, ↓g_14_7, ↓p_14_7, ↓g_14_8, ↓p_14_8, ↓g_14_9, ↓p_14_9, ↓g_14_10, ↓p_14_10, ↓g_14_11, ↓p_14_11, io_15, ↓g_15_0, ↓p_15_0, ↓g_15_1, ↓p_15_1, ↓g_15_2, ↓p_15_2, ↓g_15_3, ↓g_15_4, ↓g_15_5, ↓g_15_6, ↓g_15_7, ↓g_15_8, ↓g_15_9, ↓g_15_10, ↓p_15_10, ↓b_16, ↓x_16, ↓b_17, ↓x_17, ↓b_18, ↓x_18, ↓b_19, ↓x_19, ↓b_20, ↓x_20, ↓b_21, ↓x_21, ↓b_22, ↓x_22, ↓b_23, ↓x_23, ↓b_24, ↓x_24, io_25, ↓g_25_0, ↓g_25_1, ↓g_25_2, ↓g_25_3, ↓p_25_3, ↓g_25_4, ↓b_26, ↓x_26, ↓b_27, ↓x_27, ↓b_28, ↓x_28, io_29, ↓g_29_0, ↓g_29_1, ↓g_29_2, ↓b_30, ↓x_30, ↓b_31, ↓x_31, io_32, ↓g_32_0, ↓g_32_1, ↓g_32_2, io_33, ↓g_33_0, ↓g_33_1, ↓g_33_2, ↓g_33_3, ↓p_33_3, ↓g_33_4, ↓b_34, ↓x_34, ↓b_35, ↓x_35, ↓b_36, ↓x_36, io_37, ↓g_37_0, ↓p_37_0, ↓g_37_1, ↓p_37_1, ↓g_37_2, ↓p_37_2, ↓g_37_3, ↓g_37_4, ↓g_37_5, ↓g_37_6, ↓g_37_7, ↓g_37_8, ↓g_37_9, ↓g_37_10, ↓g_37_11, ↓g_37_12, ↓p_37_12, ↓g_37_13, ↓p_37_13, ↓b_38, ↓x_38, ↓b_39, ↓x_39, ↓b_40, ↓x_40, ↓b_41, ↓x_41, ↓b_42, ↓x_42, ↓b_43, ↓x_43, io_44, ↓g_44_0, ↓p_44_0, ↓g_44_1, ↓p_44_1, ↓g_44_2, ↓p_44_2, ↓g_44_3, ↓g_44_4, ↓g_44_5, ↓g_44_6, ↓g_44_7, ↓g_44_8, ↓g_44_9, ↓g_44_10, ↓g_44_11, ↓g_44_12, ↓p_44_12, ↓g_44_13, ↓p_44_13, ↓g_44_14, ↓p_44_14, ↓b_45, ↓x_45, ↓b_46, ↓x_46, ↓b_47, ↓x_47, ↓b_48, ↓x_48, ↓b_49, ↓x_49, ↓b_50, ↓x_50, io_51, ↓g_51_0, ↓g_51_1, ↓g_51_2, ↓g_51_3, ↓b_52, ↓x_52, ↓b_53, io_60, ↓g_60_0, ↓p_60_0, ↓g_60_1, ↓g_60_2, ↓g_60_3, ↓g_60_4, ↓g_60_5, ↓g_60_6, ↓b_61, ↓x_61, ↓b_62, ↓x_62, ↓b_63, ↓x_63, io_64, ↓g_64_0, ↓p_64_0, ↓g_64_1, ↓g_64_2, ↓p_64_2, ↓g_64_3, ↓g_64_4, ↓b_65, ↓b_106, ↓b_110, ↓x_110, ↓n_48, ↓q56, ↓q64, ↓x64]
      refine ⟨jl, μ1, ⟨A.tr ⟨F1.1, F1.2.1, F1.2.2.1, F1.2.2.2.1⟩, ?_⟩, rfl⟩
      cases ep : pTl (tkd c n) (pS0 c n) nr ng nw t with
      | error x => rw [ep] at P1 eG; exact Or.inl ⟨x, eG.symm, P1⟩
      | ok x =>
        rw [ep] at P1 eG
        have gd := pTl_good ep
        obtain ⟨a, o⟩ := x
        have ga : t < a := gd.1
        cases o with
        | none =>
          have nl : ¬ (3 ≤ tkd c n t ∧ tkd c n t ≤ 6) := fun y => by
            obtain ⟨bs, e, _⟩ := gd.2.2.2.2.2.2.2.2 y
            cases e
          refine Or.inr ⟨a, _, _, _, bg, ds, P1, y9, y10, y11, by omega, by omega, by omega, ⟨hL.1, fun law hl => ?_⟩, by omega, eG⟩
          obtain ⟨X, Y, e1, e2⟩ := hL.2 law hl
          exact ⟨X, Y, e1, by rw [F1.2.2.2.2 law (Or.inl nl)]; exact e2⟩
        | some v =>
          obtain ⟨kk, bs⟩ := v
          have ly : 3 ≤ tkd c n t ∧ tkd c n t ≤ 6 := by
            by_cases y : 3 ≤ tkd c n t ∧ tkd c n t ≤ 6
            · exact y
            · have g4 := gd.2.2.2.1
              rcases (show tkd c n t = 0 ∨ tkd c n t = 1 ∨ tkd c n t = 2 ∨ tkd c n t = 7 by omega) with w | w | w | w
              · have := (gd.2.2.2.2.1 w).2.2.2.2.2; cases this
              · have := (gd.2.2.2.2.2.1 w).2.2.2.2.2.2; cases this
              · have := (gd.2.2.2.2.2.2.1 w).2.2.2.2.2.2; cases this
              · have := (gd.2.2.2.2.2.2.2.1 w).2.2.2; cases this
          obtain ⟨bs', e, _, _, _, hbo⟩ := gd.2.2.2.2.2.2.2.2 ly
          have eb : bs' = bs := by cases e; rfl
          rw [eb] at hbo
          have ek : kk = tkd c n t - 3 := by cases e; rfl
          refine Or.inr ⟨a, _, _, _, _, _, P1.1, y9, y10, y11, by omega, by omega, by omega, ⟨hL.1.app (encs_ok hbo ?_), fun law hl => ?_⟩, by omega, eG⟩
          · have := P1.1.2.1.2.1
            rw [List.length_append] at this
            exact this
          by_cases d : law = kk
          · refine ⟨ds, [], ?_, by rw [d]; exact P1.2⟩
            show _ = ds ++ encs ds.length (if law = kk then bs else bg law) ++ []
            rw [if_pos d, List.append_nil]
          · obtain ⟨X, Y, e1, e2⟩ := hL.2 law hl
            refine ⟨X, Y ++ encs ds.length bs, ?_, by rw [F1.2.2.2.2 law (Or.inr (by omega))]; exact e2⟩
            show _ = X ++ encs X.length (if law = kk then bs else bg law) ++ _
            rw [if_neg d, ← List.append_assoc, ← e1]
end PA1
