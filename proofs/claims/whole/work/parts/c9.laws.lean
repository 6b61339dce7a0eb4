/-! Laws: what their tokens come to; the class's readLaw. -/
abbrev LRs := Except (Nat × Nat) (Nat × List Br)
def pIf1 (K : Nat → Nat) (S : Nat → PRs) (t : Nat) : Except (Nat × Nat) (Nat × Tm × Tm × Tm) := (adv K 8 t).bind fun a => (S a).bind fun l => (adv K 28 l.1).bind fun b => (S b).bind fun r => (adv K 9 r.1).bind fun d => (S d).bind fun x => (adv K 10 x.1).bind fun e => .ok (e, l.2, r.2, x.2)
def pEnd (K : Nat → Nat) (S : Nat → PRs) (t : Nat) : LRs := (S t).bind fun x => (adv K 22 x.1).bind fun e => .ok (e, [(none, x.2)])
def pIfs (K : Nat → Nat) (S : Nat → PRs) : Nat → Nat → LRs
  | 0, t => if K t = 8 then .error (2, t) else pEnd K S t
  | f + 1, t => if K t = 8 then (pIf1 K S t).bind fun y => (pIfs K S f y.1).bind fun z => .ok (z.1, (some (y.2.1, y.2.2.1), y.2.2.2) :: z.2) else pEnd K S t
def pLw (K : Nat → Nat) (S : Nat → PRs) (k t : Nat) : LRs := (adv K (3 + k) t).bind fun a => (adv K 23 a).bind fun b => pIfs K S 4 b
/-- a branch in the class's codes, from place a on -/
def enb (a : Nat) (b : Br) : Tm := match b.1 with
  | none => b.2.map cX ++ [(3, 0)]
  | some c => c.1.map cX ++ c.2.map cX ++ [(2, ii ((a + c.1.length + c.2.length + 1 + b.2.length + 1 : Nat) : Int))] ++ b.2.map cX ++ [(3, 0)]
def encs : Nat → List Br → Tm
  | _, [] => []
  | a, b :: bs => enb a b ++ encs (a + (enb a b).length) bs
theorem encs_app : ∀ {bs : List Br} {a : Nat} {b : Br}, encs a (bs ++ [b]) = encs a bs ++ enb (a + (encs a bs).length) b
  | [], a, b => by show enb a b ++ [] = enb (a + 0) b; rw [List.append_nil]; rfl
  | x :: bs, a, b => by
    show enb a x ++ encs _ (bs ++ [b]) = enb a x ++ encs _ bs ++ enb _ b
    rw [encs_app, List.append_assoc]
    congr 2
    show _ = enb (a + (enb a x ++ encs _ bs).length) b
    rw [List.length_append, Nat.add_assoc]
def PLX (c : Nat → Int) (n s : Nat) : PRs → Mem → Prop
  | .error e, μ => PBX e.1 e.2 μ
  | .ok b, μ => PGX c n s b.1 b.2 μ
def stT (K : Nat → Nat) (w : Nat) (E : PRs) : PRs := E.bind fun b => (adv K w b.1).bind fun a => .ok (a, b.2)
def stS' (S : Nat → PRs) (E : PRs) : PRs := E.bind fun b => (S b.1).bind fun r => .ok (r.1, b.2 ++ r.2.map cX)
def stE (o : Nat) (x : Int32) (E : PRs) : PRs := E.bind fun b => .ok (b.1, b.2 ++ [(o, x)])
section PLW
variable {m m1 m2 μ : Mem} {n s t w d k law : Nat} {c : Nat → Int} {cs : Tm} {E : PRs} {R : Dn} {S : Nat → PRs}
theorem PLX.tk (h : PLX c n s E m) (hw : w ≤ 30) : ∃ μ, PAx m μ ∧ PLX c n (s + 1) (stT (tkd c n) w E) μ ∧ ∀ Q, wD D_Parser_take [.ref 14, .int (ii w)] (hp m) Q ↔ Q none (hp μ) := by
  cases E with
  | error e => exact ⟨m, PAx.rf m, h, fun Q => w_takeB h Q⟩
  | ok b =>
    obtain ⟨μ, A, P, q⟩ := w_takeG (w := w) h hw
    refine ⟨μ, A, ?_, q⟩
    show PLX c n (s + 1) ((adv (tkd c n) w b.1).bind fun a => .ok (a, b.2)) μ
    cases e : adv (tkd c n) w b.1 with
    | error x => rw [e] at P; exact P
    | ok x => rw [e] at P; exact P
theorem PLX.r (hR : RDR c n R d S) (h : PLX c n s E m) : ∃ μ, PAx m μ ∧ PLX c n s (stS' S E) μ ∧ ∀ Q, wD R [.ref 14, .int (ii d)] (hp m) Q ↔ Q none (hp μ) := by
  cases E with
  | error e => exact ⟨m, PAx.rf m, h, fun Q => hR.2 m _ _ h Q⟩
  | ok b =>
    obtain ⟨μ, A, P, q⟩ := hR.1 _ _ _ _ h
    refine ⟨μ, A, ?_, q⟩
    show PLX c n s ((S b.1).bind fun r => .ok (r.1, b.2 ++ r.2.map cX)) μ
    cases e : S b.1 with
    | error x => rw [e] at P; exact P
    | ok x => rw [e] at P; exact P
theorem PLX.e {o : Nat} {x : Int32} (h : PLX c n (s + 1) E m) : ∃ μ, PAx m μ ∧ PLX c n s (stE o x E) μ ∧ ∀ Q, wD D_Text_emit [.ref 15, .int (ii o), .int x] (hp m) Q ↔ Q none (hp μ) := by
  cases E with
  | error e =>
    obtain ⟨μ, A, P, q⟩ := w_emitB (o := o) (x := x) h
    exact ⟨μ, A, P, q⟩
  | ok b =>
    obtain ⟨μ, A, P, q⟩ := w_emitG (o := o) (x := x) h (by have := h.1.2.2.2.1; have := tkz_le (c := c) (n := n); omega)
    exact ⟨μ, A, P, q⟩
theorem PLX.z (h : PLX c n s E m) : ∃ sz, sz ≤ 408 ∧ m.1 15 10 = ii ((sz : Nat) : Int) ∧ ∀ b, E = .ok b → sz = b.2.length := by
  cases E with
  | error e =>
    obtain ⟨sz, h1, h2⟩ := h.2.2.2.2
    exact ⟨sz, h1, h2, fun b x => by cases x⟩
  | ok b => exact ⟨b.2.length, h.2.1.2.1, h.2.1.1, fun x hx => by cases hx; rfl⟩
theorem PLX.dn (h : PLX c n s E m) (hs : w ≤ s) : PLX c n w E m := by
  cases E with
  | error e => exact h
  | ok b => exact ⟨h.1, h.2.1, by have := h.2.2; omega⟩
theorem w_aimHere {sz : Nat} (h1 : m.1 15 10 = ii sz) (hs : sz ≤ 408) (hk : k ≤ 408) (Q : Option Value → Hp → Prop) : wD D_Text_aimHere [.ref 15, .int (ii k)] (hp m) Q ↔ Q none (hp (if k < sz then sI m 22 (upd (m.1 22) k (ii sz)) else m)) := by
  have a0 : 0 ≤ (k : Int) := by omega
  apply wD_eq
  apply wD_out
  by_cases d : k < sz
  · have a1 : (k : Int) < (sz : Int) := by omega
    rw [if_pos d]
    simp (disch := omega) only [D_Text_aimHere, F_Text_aimHere, h1, a0, a1, Nat.reduceEqDiff, Int.reduceEq, Int.reduceLT, Int.reduceLE, Int.reduceNeg, List.length_cons, List.length_nil, ↓wD_run, ↓wD_mV, ↓wS_seq, ↓wS_skip, ↓wS_brk, ↓wS_cnt, ↓wS_retV, ↓wS_put, ↓wS_putZ, ↓wS_fop, ↓wS_ast, ↓wS_astL, ↓wS_aop, ↓wS_if, ↓wS_blk, ↓wS_ret, ↓wS_retZ, ↓wS_call, ↓wS_sw, ↓wS_cpy, ↓wE_kI, ↓wE_kL, ↓wE_o1, ↓wE_o2, ↓wE_oD, ↓wE_oR, ↓wE_gI, ↓wE_gR, ↓wE_aI, ↓wE_aL, ↓wE_aR, ↓wE_lnX, ↓wE_iX, ↓wE_bX, ↓wE_cAnd, ↓wE_cOr, ↓wE_cNot, ↓wE_asV, ↓wA_nil, ↓wA_cons, ↓wE_cI, ↓wE_cL, ↓wE_cR, ↓wE_chX, ↓wE_idX, ↓xI_s, ↓xL_s, ↓xF_s, ↓lI_0, ↓lL_0, ↓lR_0, ↓lI_1, ↓lL_1, ↓lR_1, ↓lI_2, ↓lL_2, ↓lR_2, ↓lI_3, ↓lL_3, ↓lR_3, ↓lI_4, ↓lL_4, ↓lR_4, ↓lI_5, ↓lL_5, ↓lR_5, ↓lI_6, ↓lL_6, ↓lR_6, ↓lI_7, ↓lL_7, ↓lR_7, ↓lI_8, ↓lL_8, ↓lR_8, ↓lI_9, ↓lL_9, ↓lR_9, ↓lI_10, ↓lL_10, ↓lR_10, ↓lI_11, ↓lL_11, ↓lR_11, ↓lI_12, ↓lL_12, ↓lR_12, ↓lI_13, ↓lL_13, ↓lR_13, ↓lI_14, ↓lL_14, ↓lR_14, ↓lI_15, ↓lL_15, ↓lR_15, ↓lI_16, ↓lL_16, ↓lR_16, ↓st_0, ↓st_1, ↓st_2, ↓st_3, ↓st_4, ↓st_5, ↓st_6, ↓st_7, ↓st_8, ↓st_9, ↓st_10, ↓st_11, ↓st_12, ↓st_13, ↓st_14, ↓st_15, ↓st_16, ↓in_0, ↓in_1, ↓in_2, ↓in_3, ↓in_4, ↓in_5, ↓in_6, ↓in_7, ↓in_8, ↓in_9, ↓in_10, ↓in_11, ↓in_12, ↓in_13, ↓in_14, ↓in_15, ↓in_16, ↓dc_0, ↓dc_1, ↓dc_2, ↓dc_3, ↓dc_4, ↓dc_5, ↓dc_6, ↓dc_7, ↓dc_8, ↓dc_9, ↓dc_10, ↓dc_11, ↓dc_12, ↓dc_13, ↓dc_14, ↓dc_15, ↓dc_16, ↓bk_0_0, ↓bk_0_1, ↓bk_0_2, ↓bk_0_3, ↓bk_0_4, ↓bk_0_5, ↓bk_1_1, ↓bk_1_2, ↓bk_1_3, ↓bk_1_4, ↓bk_1_5, ↓bk_1_6, ↓bk_2_2, ↓bk_2_3, ↓bk_2_4, ↓bk_2_5, ↓bk_2_6, ↓bk_2_7, ↓bk_3_3, ↓bk_3_4, ↓bk_3_5, ↓bk_3_6, ↓bk_3_7, ↓bk_3_8, ↓bk_4_4, ↓bk_4_5, ↓bk_4_6, ↓bk_4_7, ↓bk_4_8, ↓bk_4_9, ↓bk_5_5, ↓bk_5_6, ↓bk_5_7, ↓bk_5_8, ↓bk_5_9, ↓bk_5_10, ↓bk_6_6, ↓bk_6_7, ↓bk_6_8, ↓bk_6_9, ↓bk_6_10, ↓bk_6_11, ↓bk_7_7, ↓bk_7_8, ↓bk_7_9, ↓bk_7_10, ↓bk_7_11, ↓bk_7_12, ↓bk_8_8, ↓bk_8_9, ↓bk_8_10, ↓bk_8_11, ↓bk_8_12, ↓bk_8_13, ↓bk_9_9, ↓bk_9_10, ↓bk_9_11, ↓bk_9_12, ↓bk_9_13, ↓bk_9_14, ↓bk_10_10, ↓bk_10_11, ↓bk_10_12, ↓bk_10_13, ↓bk_10_14, ↓bk_10_15, ↓bk_11_11, ↓bk_11_12, ↓bk_11_13, ↓bk_11_14, ↓bk_11_15, ↓bk_11_16, ↓bk_12_12, ↓bk_12_13, ↓bk_12_14, ↓bk_12_15, ↓bk_12_16, ↓bk_12_17, ↓bk_13_13, ↓bk_13_14, ↓bk_13_15, ↓bk_13_16, ↓bk_13_17, ↓bk_13_18, ↓bk_14_14, ↓bk_14_15, ↓bk_14_16, ↓bk_14_17, ↓bk_14_18, ↓bk_15_15, ↓bk_15_16, ↓bk_15_17, ↓bk_15_18, ↓bk_16_16, ↓bk_16_17, ↓bk_16_18, ↓tk_0_0, ↓tk_0_1, ↓tk_0_2, ↓tk_0_3, ↓tk_0_4, ↓tk_0_5, ↓tk_1_1, ↓tk_1_2, ↓tk_1_3, ↓tk_1_4, ↓tk_1_5, ↓tk_1_6, ↓tk_2_2, ↓tk_2_3, ↓tk_2_4, ↓tk_2_5, ↓tk_2_6, ↓tk_2_7, ↓tk_3_3, ↓tk_3_4, ↓tk_3_5, ↓tk_3_6, ↓tk_3_7, ↓tk_3_8, ↓tk_4_4, ↓tk_4_5, ↓tk_4_6, ↓tk_4_7, ↓tk_4_8, ↓tk_4_9, ↓tk_5_5, ↓tk_5_6, ↓tk_5_7, ↓tk_5_8, ↓tk_5_9, ↓tk_5_10, ↓tk_6_6, ↓tk_6_7, ↓tk_6_8, ↓tk_6_9, ↓tk_6_10, ↓tk_6_11, ↓tk_7_7, ↓tk_7_8, ↓tk_7_9, ↓tk_7_10, ↓tk_7_11, ↓tk_7_12, ↓tk_8_8, ↓tk_8_9, ↓tk_8_10, ↓tk_8_11, ↓tk_8_12, ↓tk_8_13, ↓tk_9_9, ↓tk_9_10, ↓tk_9_11, ↓tk_9_12, ↓tk_9_13, ↓tk_9_14, ↓tk_10_10, ↓tk_10_11, ↓tk_10_12, ↓tk_10_13, ↓tk_10_14, ↓tk_10_15, ↓tk_11_11, ↓tk_11_12, ↓tk_11_13, ↓tk_11_14, ↓tk_11_15, ↓tk_11_16, ↓tk_12_12, ↓tk_12_13, ↓tk_12_14, ↓tk_12_15, ↓tk_12_16, ↓tk_12_17, ↓tk_13_13, ↓tk_13_14, ↓tk_13_15, ↓tk_13_16, ↓tk_13_17, ↓tk_13_18, ↓tk_14_14, ↓tk_14_15, ↓tk_14_16, ↓tk_14_17, ↓tk_14_18, ↓tk_15_15, ↓tk_15_16, ↓tk_15_17, ↓tk_15_18, ↓tk_16_16, ↓tk_16_17, ↓tk_16_18, ↓bk_r1, ↓bk_r2, ↓bk_r3, ↓sw_t, ↓sw_f, ↓sw_n, decide_eq_true_eq, ↓reduceIte, ii_add, ii_sub, ii_mul, true_and, and_true, List.map_cons, List.map_nil, Value.category, ne_eq, gt_iff_lt, ge_iff_le, not_true_eq_false, not_false_eq_true, Bool.false_eq_true, true_or, or_true, false_or, or_false, okI_ii, ii_nat, ii_lt, ii_le, ii_inj, ii_lt0, ii_0lt, ii_0le, ii_le0, ii_eq0, Int.toNat_add, Int.toNat_natCast, Int.toNat_mul, Int.reduceToNat, Nat.zero_add, nrw_0, sI_eq, sI_ne, sI_2, sJ_1, sI_sI, sI_sw, io_0, ↓g_0_0, ↓g_0_1, ↓g_0_2, ↓g_0_3, ↓g_0_4, ↓g_0_5, ↓g_0_6, ↓g_0_7, ↓g_0_8, ↓g_0_9, ↓g_0_10, io_1, ↓g_1_0, ↓g_1_1, ↓p_1_1, ↓g_1_2, ↓g_1_3, ↓g_1_4, ↓b_2, ↓x_2, ↓b_3, ↓x_3, ↓b_4, ↓x_4, ↓b_5, ↓x_5, io_6, ↓g_6_0, ↓p_6_0, ↓g_6_1, ↓p_6_1, ↓g_6_2, ↓p_6_2, ↓g_6_3, ↓g_6_4, ↓g_6_5, ↓g_6_6, ↓g_6_7, ↓g_6_8, ↓g_6_9, ↓g_6_10, ↓p_6_10, ↓b_7, ↓x_7, ↓b_8, ↓x_8, ↓b_9, ↓x_9, ↓b_10, ↓x_10, ↓b_11, ↓x_11, ↓b_12, ↓x_12, ↓b_13, ↓x_13, io_14, ↓g_14_0, ↓g_14_1, ↓p_14_1, ↓g_14_2, ↓g_14_3, ↓g_14_4, ↓g_14_5, ↓p_14_5, ↓g_14_6, ↓p_14_6, ↓g_14_7, ↓p_14_7, ↓g_14_8, ↓p_14_8, ↓g_14_9, ↓p_14_9, ↓g_14_10, ↓p_14_10, ↓g_14_11, ↓p_14_11, io_15, ↓g_15_0, ↓p_15_0, ↓g_15_1, ↓p_15_1, ↓g_15_2, ↓p_15_2, ↓g_15_3, ↓g_15_4, ↓g_15_5, ↓g_15_6, ↓g_15_7, ↓g_15_8, ↓g_15_9, ↓g_15_10, ↓p_15_10, ↓b_16, ↓x_16, ↓b_17, ↓x_17, ↓b_18, ↓x_18, ↓b_19, ↓x_19, ↓b_20, ↓x_20, ↓b_21, ↓x_21, ↓b_22, ↓x_22, ↓b_23, ↓x_23, ↓b_24, ↓x_24, io_25, ↓g_25_0, ↓g_25_1, ↓g_25_2, ↓g_25_3, ↓p_25_3, ↓g_25_4, ↓b_26, ↓x_26, ↓b_27, ↓x_27, ↓b_28, ↓x_28, io_29, ↓g_29_0, ↓g_29_1, ↓g_29_2, ↓b_30, ↓x_30, ↓b_31, ↓x_31, io_32, ↓g_32_0, ↓g_32_1, ↓g_32_2, io_33, ↓g_33_0, ↓g_33_1, ↓g_33_2, ↓g_33_3, ↓p_33_3, ↓g_33_4, ↓b_34, ↓x_34, ↓b_35, ↓x_35, ↓b_36, ↓x_36, io_37, ↓g_37_0, ↓p_37_0, ↓g_37_1, ↓p_37_1, ↓g_37_2, ↓p_37_2, ↓g_37_3, ↓g_37_4, ↓g_37_5, ↓g_37_6, ↓g_37_7, ↓g_37_8, ↓g_37_9, ↓g_37_10, ↓g_37_11, ↓g_37_12, ↓p_37_12, ↓g_37_13, ↓p_37_13, ↓b_38, ↓x_38, ↓b_39, ↓x_39, ↓b_40, ↓x_40, ↓b_41, ↓x_41, ↓b_42, ↓x_42, ↓b_43, ↓x_43, io_44, ↓g_44_0, ↓p_44_0, ↓g_44_1, ↓p_44_1, ↓g_44_2, ↓p_44_2, ↓g_44_3, ↓g_44_4, ↓g_44_5, ↓g_44_6, ↓g_44_7, ↓g_44_8, ↓g_44_9, ↓g_44_10, ↓g_44_11, ↓g_44_12, ↓p_44_12, ↓g_44_13, ↓p_44_13, ↓g_44_14, ↓p_44_14, ↓b_45, ↓x_45, ↓b_46, ↓x_46, ↓b_47, ↓x_47, ↓b_48, ↓x_48, ↓b_49, ↓x_49, ↓b_50, ↓x_50, io_51, ↓g_51_0, ↓g_51_1, ↓g_51_2, ↓g_51_3, ↓b_52, ↓x_52, ↓b_53, io_60, ↓g_60_0, ↓p_60_0, ↓g_60_1, ↓g_60_2, ↓g_60_3, ↓g_60_4, ↓g_60_5, ↓g_60_6, ↓b_61, ↓x_61, ↓b_62, ↓x_62, ↓b_63, ↓x_63, io_64, ↓g_64_0, ↓p_64_0, ↓g_64_1, ↓g_64_2, ↓p_64_2, ↓g_64_3, ↓g_64_4, ↓b_65, ↓b_106, ↓b_110, ↓x_110, ↓n_48, ↓q56, ↓q64, ↓x64]
  · have a1 : ¬ ((k : Int) < (sz : Int)) := by omega
    rw [if_neg d]
    simp (disch := omega) only [D_Text_aimHere, F_Text_aimHere, h1, a0, a1, Nat.reduceEqDiff, Int.reduceEq, Int.reduceLT, Int.reduceLE, Int.reduceNeg, List.length_cons, List.length_nil, ↓wD_run, ↓wD_mV, ↓wS_seq, ↓wS_skip, ↓wS_brk, ↓wS_cnt, ↓wS_retV, ↓wS_put, ↓wS_putZ, ↓wS_fop, ↓wS_ast, ↓wS_astL, ↓wS_aop, ↓wS_if, ↓wS_blk, ↓wS_ret, ↓wS_retZ, ↓wS_call, ↓wS_sw, ↓wS_cpy, ↓wE_kI, ↓wE_kL, ↓wE_o1, ↓wE_o2, ↓wE_oD, ↓wE_oR, ↓wE_gI, ↓wE_gR, ↓wE_aI, ↓wE_aL, ↓wE_aR, ↓wE_lnX, ↓wE_iX, ↓wE_bX, ↓wE_cAnd, ↓wE_cOr, ↓wE_cNot, ↓wE_asV, ↓wA_nil, ↓wA_cons, ↓wE_cI, ↓wE_cL, ↓wE_cR, ↓wE_chX, ↓wE_idX, ↓xI_s, ↓xL_s, ↓xF_s, ↓lI_0, ↓lL_0, ↓lR_0, ↓lI_1, ↓lL_1, ↓lR_1, ↓lI_2, ↓lL_2, ↓lR_2, ↓lI_3, ↓lL_3, ↓lR_3, ↓lI_4, ↓lL_4, ↓lR_4, ↓lI_5, ↓lL_5, ↓lR_5, ↓lI_6, ↓lL_6, ↓lR_6, ↓lI_7, ↓lL_7, ↓lR_7, ↓lI_8, ↓lL_8, ↓lR_8, ↓lI_9, ↓lL_9, ↓lR_9, ↓lI_10, ↓lL_10, ↓lR_10, ↓lI_11, ↓lL_11, ↓lR_11, ↓lI_12, ↓lL_12, ↓lR_12, ↓lI_13, ↓lL_13, ↓lR_13, ↓lI_14, ↓lL_14, ↓lR_14, ↓lI_15, ↓lL_15, ↓lR_15, ↓lI_16, ↓lL_16, ↓lR_16, ↓st_0, ↓st_1, ↓st_2, ↓st_3, ↓st_4, ↓st_5, ↓st_6, ↓st_7, ↓st_8, ↓st_9, ↓st_10, ↓st_11, ↓st_12, ↓st_13, ↓st_14, ↓st_15, ↓st_16, ↓in_0, ↓in_1, ↓in_2, ↓in_3, ↓in_4, ↓in_5, ↓in_6, ↓in_7, ↓in_8, ↓in_9, ↓in_10, ↓in_11, ↓in_12, ↓in_13, ↓in_14, ↓in_15, ↓in_16, ↓dc_0, ↓dc_1, ↓dc_2, ↓dc_3, ↓dc_4, ↓dc_5, ↓dc_6, ↓dc_7, ↓dc_8, ↓dc_9, ↓dc_10, ↓dc_11, ↓dc_12, ↓dc_13, ↓dc_14, ↓dc_15, ↓dc_16, ↓bk_0_0, ↓bk_0_1, ↓bk_0_2, ↓bk_0_3, ↓bk_0_4, ↓bk_0_5, ↓bk_1_1, ↓bk_1_2, ↓bk_1_3, ↓bk_1_4, ↓bk_1_5, ↓bk_1_6, ↓bk_2_2, ↓bk_2_3, ↓bk_2_4, ↓bk_2_5, ↓bk_2_6, ↓bk_2_7, ↓bk_3_3, ↓bk_3_4, ↓bk_3_5, ↓bk_3_6, ↓bk_3_7, ↓bk_3_8, ↓bk_4_4, ↓bk_4_5, ↓bk_4_6, ↓bk_4_7, ↓bk_4_8, ↓bk_4_9, ↓bk_5_5, ↓bk_5_6, ↓bk_5_7, ↓bk_5_8, ↓bk_5_9, ↓bk_5_10, ↓bk_6_6, ↓bk_6_7, ↓bk_6_8, ↓bk_6_9, ↓bk_6_10, ↓bk_6_11, ↓bk_7_7, ↓bk_7_8, ↓bk_7_9, ↓bk_7_10, ↓bk_7_11, ↓bk_7_12, ↓bk_8_8, ↓bk_8_9, ↓bk_8_10, ↓bk_8_11, ↓bk_8_12, ↓bk_8_13, ↓bk_9_9, ↓bk_9_10, ↓bk_9_11, ↓bk_9_12, ↓bk_9_13, ↓bk_9_14, ↓bk_10_10, ↓bk_10_11, ↓bk_10_12, ↓bk_10_13, ↓bk_10_14, ↓bk_10_15, ↓bk_11_11, ↓bk_11_12, ↓bk_11_13, ↓bk_11_14, ↓bk_11_15, ↓bk_11_16, ↓bk_12_12, ↓bk_12_13, ↓bk_12_14, ↓bk_12_15, ↓bk_12_16, ↓bk_12_17, ↓bk_13_13, ↓bk_13_14, ↓bk_13_15, ↓bk_13_16, ↓bk_13_17, ↓bk_13_18, ↓bk_14_14, ↓bk_14_15, ↓bk_14_16, ↓bk_14_17, ↓bk_14_18, ↓bk_15_15, ↓bk_15_16, ↓bk_15_17, ↓bk_15_18, ↓bk_16_16, ↓bk_16_17, ↓bk_16_18, ↓tk_0_0, ↓tk_0_1, ↓tk_0_2, ↓tk_0_3, ↓tk_0_4, ↓tk_0_5, ↓tk_1_1, ↓tk_1_2, ↓tk_1_3, ↓tk_1_4, ↓tk_1_5, ↓tk_1_6, ↓tk_2_2, ↓tk_2_3, ↓tk_2_4, ↓tk_2_5, ↓tk_2_6, ↓tk_2_7, ↓tk_3_3, ↓tk_3_4, ↓tk_3_5, ↓tk_3_6, ↓tk_3_7, ↓tk_3_8, ↓tk_4_4, ↓tk_4_5, ↓tk_4_6, ↓tk_4_7, ↓tk_4_8, ↓tk_4_9, ↓tk_5_5, ↓tk_5_6, ↓tk_5_7, ↓tk_5_8, ↓tk_5_9, ↓tk_5_10, ↓tk_6_6, ↓tk_6_7, ↓tk_6_8, ↓tk_6_9, ↓tk_6_10, ↓tk_6_11, ↓tk_7_7, ↓tk_7_8, ↓tk_7_9, ↓tk_7_10, ↓tk_7_11, ↓tk_7_12, ↓tk_8_8, ↓tk_8_9, ↓tk_8_10, ↓tk_8_11, ↓tk_8_12, ↓tk_8_13, ↓tk_9_9, ↓tk_9_10, ↓tk_9_11, ↓tk_9_12, ↓tk_9_13, ↓tk_9_14, ↓tk_10_10, ↓tk_10_11, ↓tk_10_12, ↓tk_10_13, ↓tk_10_14, ↓tk_10_15, ↓tk_11_11, ↓tk_11_12, ↓tk_11_13, ↓tk_11_14, ↓tk_11_15, ↓tk_11_16, ↓tk_12_12, ↓tk_12_13, ↓tk_12_14, ↓tk_12_15, ↓tk_12_16, ↓tk_12_17, ↓tk_13_13, ↓tk_13_14, ↓tk_13_15, ↓tk_13_16, ↓tk_13_17, ↓tk_13_18, ↓tk_14_14, ↓tk_14_15, ↓tk_14_16, ↓tk_14_17, ↓tk_14_18, ↓tk_15_15, ↓tk_15_16, ↓tk_15_17, ↓tk_15_18, ↓tk_16_16, ↓tk_16_17, ↓tk_16_18, ↓bk_r1, ↓bk_r2, ↓bk_r3, ↓sw_t, ↓sw_f, ↓sw_n, decide_eq_true_eq, ↓reduceIte, ii_add, ii_sub, ii_mul, true_and, and_true, List.map_cons, List.map_nil, Value.category, ne_eq, gt_iff_lt, ge_iff_le, not_true_eq_false, not_false_eq_true, Bool.false_eq_true, true_or, or_true, false_or, or_false, okI_ii, ii_nat, ii_lt, ii_le, ii_inj, ii_lt0, ii_0lt, ii_0le, ii_le0, ii_eq0, Int.toNat_add, Int.toNat_natCast, Int.toNat_mul, Int.reduceToNat, Nat.zero_add, nrw_0, sI_eq, sI_ne, sI_2, sJ_1, sI_sI, sI_sw, io_0, ↓g_0_0, ↓g_0_1, ↓g_0_2, ↓g_0_3, ↓g_0_4, ↓g_0_5, ↓g_0_6, ↓g_0_7, ↓g_0_8, ↓g_0_9, ↓g_0_10, io_1, ↓g_1_0, ↓g_1_1, ↓p_1_1, ↓g_1_2, ↓g_1_3, ↓g_1_4, ↓b_2, ↓x_2, ↓b_3, ↓x_3, ↓b_4, ↓x_4, ↓b_5, ↓x_5, io_6, ↓g_6_0, ↓p_6_0, ↓g_6_1, ↓p_6_1, ↓g_6_2, ↓p_6_2, ↓g_6_3, ↓g_6_4, ↓g_6_5, ↓g_6_6, ↓g_6_7, ↓g_6_8, ↓g_6_9, ↓g_6_10, ↓p_6_10, ↓b_7, ↓x_7, ↓b_8, ↓x_8, ↓b_9, ↓x_9, ↓b_10, ↓x_10, ↓b_11, ↓x_11, ↓b_12, ↓x_12, ↓b_13, ↓x_13, io_14, ↓g_14_0, ↓g_14_1, ↓p_14_1, ↓g_14_2, ↓g_14_3, ↓g_14_4, ↓g_14_5, ↓p_14_5, ↓g_14_6, ↓p_14_6, ↓g_14_7, ↓p_14_7, ↓g_14_8, ↓p_14_8, ↓g_14_9, ↓p_14_9, ↓g_14_10, ↓p_14_10, ↓g_14_11, ↓p_14_11, io_15, ↓g_15_0, ↓p_15_0, ↓g_15_1, ↓p_15_1, ↓g_15_2, ↓p_15_2, ↓g_15_3, ↓g_15_4, ↓g_15_5, ↓g_15_6, ↓g_15_7, ↓g_15_8, ↓g_15_9, ↓g_15_10, ↓p_15_10, ↓b_16, ↓x_16, ↓b_17, ↓x_17, ↓b_18, ↓x_18, ↓b_19, ↓x_19, ↓b_20, ↓x_20, ↓b_21, ↓x_21, ↓b_22, ↓x_22, ↓b_23, ↓x_23, ↓b_24, ↓x_24, io_25, ↓g_25_0, ↓g_25_1, ↓g_25_2, ↓g_25_3, ↓p_25_3, ↓g_25_4, ↓b_26, ↓x_26, ↓b_27, ↓x_27, ↓b_28, ↓x_28, io_29, ↓g_29_0, ↓g_29_1, ↓g_29_2, ↓b_30, ↓x_30, ↓b_31, ↓x_31, io_32, ↓g_32_0, ↓g_32_1, ↓g_32_2, io_33, ↓g_33_0, ↓g_33_1, ↓g_33_2, ↓g_33_3, ↓p_33_3, ↓g_33_4, ↓b_34, ↓x_34, ↓b_35, ↓x_35, ↓b_36, ↓x_36, io_37, ↓g_37_0, ↓p_37_0, ↓g_37_1, ↓p_37_1, ↓g_37_2, ↓p_37_2, ↓g_37_3, ↓g_37_4, ↓g_37_5, ↓g_37_6, ↓g_37_7, ↓g_37_8, ↓g_37_9, ↓g_37_10, ↓g_37_11, ↓g_37_12, ↓p_37_12, ↓g_37_13, ↓p_37_13, ↓b_38, ↓x_38, ↓b_39, ↓x_39, ↓b_40, ↓x_40, ↓b_41, ↓x_41, ↓b_42, ↓x_42, ↓b_43, ↓x_43, io_44, ↓g_44_0, ↓p_44_0, ↓g_44_1, ↓p_44_1, ↓g_44_2, ↓p_44_2, ↓g_44_3, ↓g_44_4, ↓g_44_5, ↓g_44_6, ↓g_44_7, ↓g_44_8, ↓g_44_9, ↓g_44_10, ↓g_44_11, ↓g_44_12, ↓p_44_12, ↓g_44_13, ↓p_44_13, ↓g_44_14, ↓p_44_14, ↓b_45, ↓x_45, ↓b_46, ↓x_46, ↓b_47, ↓x_47, ↓b_48, ↓x_48, ↓b_49, ↓x_49, ↓b_50, ↓x_50, io_51, ↓g_51_0, ↓g_51_1, ↓g_51_2, ↓g_51_3, ↓b_52, ↓x_52, ↓b_53, io_60, ↓g_60_0, ↓p_60_0, ↓g_60_1, ↓g_60_2, ↓g_60_3, ↓g_60_4, ↓g_60_5, ↓g_60_6, ↓b_61, ↓x_61, ↓b_62, ↓x_62, ↓b_63, ↓x_63, io_64, ↓g_64_0, ↓p_64_0, ↓g_64_1, ↓g_64_2, ↓p_64_2, ↓g_64_3, ↓g_64_4, ↓b_65, ↓b_106, ↓b_110, ↓x_110, ↓n_48, ↓q56, ↓q64, ↓x64]
theorem w_aimB {f ft : Nat} (h : PBX f ft m) (hk : k ≤ 408) : ∃ μ, PAx m μ ∧ PBX f ft μ ∧ ∀ Q, wD D_Text_aimHere [.ref 15, .int (ii k)] (hp m) Q ↔ Q none (hp μ) := by
  obtain ⟨sz, h1, h2⟩ := h.2.2.2.2
  have q := fun Q => w_aimHere h2 h1 hk Q
  by_cases d : k < sz
  · rw [if_pos d] at q
    refine ⟨_, ?_, ?_, q⟩
    · exact ⟨rfl, fun r _ _ _ h4 => sI_ne h4, fun k _ => by rw [sI_ne (by decide)], fun k _ => by rw [sI_ne (by decide)]⟩
    · unfold PBX SZX
      rw [sI_ne (by decide), sI_ne (by decide)]
      exact h
  · rw [if_neg d] at q
    exact ⟨m, PAx.rf m, h, q⟩
theorem w_aimG {A B : Tm} {o : Nat} {x : Int32} (h : PGX c n s t (A ++ (o, x) :: B) m) : ∃ μ, PAx m μ ∧ PGX c n s t (A ++ (o, ii ((A ++ (o, x) :: B).length)) :: B) μ ∧ ∀ Q, wD D_Text_aimHere [.ref 15, .int (ii A.length)] (hp m) Q ↔ Q none (hp μ) := by
  obtain ⟨sz, es⟩ : ∃ sz, sz = (A ++ (o, x) :: B).length := ⟨_, rfl⟩
  have el : sz = A.length + (B.length + 1) := by rw [es, List.length_append, List.length_cons]
  obtain ⟨hK, ⟨c1, c2, c3⟩, hb⟩ := h
  rw [← es] at c1 c2 c3 hb ⊢
  have q := fun Q => w_aimHere c1 c2 (k := A.length) (by omega) Q
  rw [if_pos (by omega)] at q
  have F : PAx m (sI m 22 (upd (m.1 22) A.length (ii sz))) := ⟨rfl, fun r _ _ _ h4 => sI_ne h4, fun k _ => by rw [sI_ne (by decide)], fun k _ => by rw [sI_ne (by decide)]⟩
  have e2 : (A ++ (o, ii sz) :: B).length = sz := by rw [List.length_append, List.length_cons]; omega
  refine ⟨_, F, ⟨?_, ⟨?_, by omega, fun i hi => ?_⟩, by rw [e2]; exact hb⟩, q⟩
  · obtain ⟨h5, h7, h8, hz, hT⟩ := hK
    refine ⟨by rw [sI_ne (by decide)]; exact h5, by rw [sI_ne (by decide)]; exact h7, by rw [sI_ne (by decide)]; exact h8, hz, hT.pa F⟩
  · rw [e2, sI_ne (by decide)]; exact c1
  · rw [e2] at hi
    have := c3 i hi
    rw [sI_ne (by decide), sI_eq]
    by_cases d : i = A.length
    · subst d
      rw [upd_eq]
      simp only [List.getD_eq_getElem?_getD, List.getElem?_append_right (Nat.le_refl _), Nat.sub_self, List.getElem?_cons_zero, Option.getD_some] at this ⊢
      exact ⟨this.1, trivial⟩
    · rw [upd_ne d]
      have eg : (A ++ (o, ii (sz : Int)) :: B).getD i (0, 0) = (A ++ (o, x) :: B).getD i (0, 0) := by
        simp only [List.getD_eq_getElem?_getD]
        rcases Nat.lt_or_ge i A.length with l | l
        · rw [List.getElem?_append_left l, List.getElem?_append_left l]
        · rw [List.getElem?_append_right l, List.getElem?_append_right l]
          obtain ⟨j, ej⟩ : ∃ j, i - A.length = j + 1 := ⟨i - A.length - 1, by omega⟩
          rw [ej, List.getElem?_cons_succ, List.getElem?_cons_succ]
      rw [eg]
      exact this
theorem exb_k {α β ε : Type} (a : α) (f : α → Except ε β) : (Except.ok a : Except ε α).bind f = f a := rfl
/-- a branch's chain -/
theorem chain_if : stT (tkd c n) 10 (stE 3 0 (stS' S (stT (tkd c n) 9 (stE 2 0 (stS' S (stT (tkd c n) 28 (stS' S (stT (tkd c n) 8 (.ok (t, cs))))))))))  = (pIf1 (tkd c n) S t).bind fun y => .ok (y.1, cs ++ y.2.1.map cX ++ y.2.2.1.map cX ++ (2, 0) :: (y.2.2.2.map cX ++ [(3, 0)])) := by
  unfold stT stS' stE pIf1
  simp only [exb_as, exb_k, List.append_assoc, List.cons_append, List.nil_append]
end PLW
