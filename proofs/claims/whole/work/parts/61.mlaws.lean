/-! The reference's laws by its working row. -/
theorem mxp_iff {b B : Nat} {but : Option Nat} {w : Nat → Nat} : ∀ n, mxp b but w n ≤ B ↔ ∀ r, r < n → b.testBit r = true → some r ≠ but → w r ≤ B
  | 0 => by simp [mxp]
  | n + 1 => by
    have ih := mxp_iff (b := b) (B := B) (but := but) (w := w) n
    unfold mxp
    constructor
    · intro h r hr hb hne
      by_cases e : r = n
      · subst e
        split at h
        · exact h
        · rename_i hc
          exact Nat.le_trans (Nat.le_of_not_lt (fun q => hc ⟨hb, hne, q⟩)) h
      · refine ih.mp ?_ r (by omega) hb hne
        split at h
        · rename_i hc; omega
        · exact h
    · intro h
      split
      · rename_i hc; exact h n (by omega) hc.1 hc.2.1
      · exact ih.mpr (fun r hr => h r (by omega))
theorem nxt_iff {N f B : Nat} {ch : Option Nat} {w : Nat → Nat} : ∀ j, nxt N f w ch j ≤ B ↔ ∀ i, i < j → some (rdAt N f i) ≠ ch → w (rdAt N f i) ≤ B
  | 0 => by simp [nxt]
  | n + 1 => by
    have ih := nxt_iff (N := N) (f := f) (B := B) (ch := ch) (w := w) n
    unfold nxt
    constructor
    · intro h i hi hne
      by_cases e : i = n
      · subst e
        rw [if_neg hne] at h
        omega
      · refine ih.mp ?_ i (by omega) hne
        split at h
        · exact h
        · omega
    · intro h
      have h1 := ih.mpr (fun r hr => h r (by omega))
      split
      · exact h1
      · rename_i hc
        have := h n (by omega) hc
        omega
theorem sbs_bit {N f r : Nat} : ∀ j, (sbs N f j).testBit r = true ↔ ∃ i, i < j ∧ rdAt N f i = r
  | 0 => by simp [sbs]
  | n + 1 => by
    have ih := sbs_bit (N := N) (f := f) (r := r) n
    unfold sbs
    rw [Nat.testBit_or, Bool.or_eq_true, ih, Nat.testBit_two_pow, decide_eq_true_eq]
    constructor
    · rintro (⟨i, hi, e⟩ | e)
      · exact ⟨i, by omega, e⟩
      · exact ⟨n, by omega, e⟩
    · rintro ⟨i, hi, e⟩
      by_cases q : i = n
      · subst q; exact Or.inr e
      · exact Or.inl ⟨i, by omega, e⟩
theorem mxp_nxt {N f j : Nat} {w : Nat → Nat} {ch : Option Nat} (hN : 0 < N) : mxp (sbs N f j) ch w N = nxt N f w ch j := by
  apply Nat.le_antisymm
  · rw [mxp_iff]
    intro r hr hb hne
    obtain ⟨i, hi, e⟩ := (sbs_bit j).mp hb
    subst e
    exact (nxt_iff j).mp (Nat.le_refl _) i hi hne
  · rw [nxt_iff]
    intro i hi hne
    exact (mxp_iff N).mp (Nat.le_refl _) _ (rdAt_lt hN) ((sbs_bit j).mpr ⟨i, hi, rfl⟩) hne
theorem mxA_iff {B : Nat} {w : Nat → Nat} : ∀ n, mxA w n ≤ B ↔ ∀ r, r < n → w r ≤ B
  | 0 => by simp [mxA]
  | n + 1 => by
    have ih := mxA_iff (B := B) (w := w) n
    unfold mxA
    rw [Nat.max_le, ih]
    constructor
    · rintro ⟨h1, h2⟩ r hr
      by_cases e : r = n
      · subst e; exact h2
      · exact h1 r (by omega)
    · intro h
      exact ⟨fun r hr => h r (by omega), h n (by omega)⟩
theorem mxp_mxA {N : Nat} {w : Nat → Nat} (hN : N ≤ 6) : mxp 63 none w N = mxA w N := by
  have hb : ∀ r, r < 6 → Nat.testBit 63 r = true := by decide
  apply Nat.le_antisymm
  · rw [mxp_iff]
    intro r hr _ _
    exact mxA_ge hr
  · rw [mxA_iff]
    intro r hr
    exact (mxp_iff N).mp (Nat.le_refl _) r hr (hb r (by omega)) (by simp)
theorem cho_eqM {N K : Nat} {q : Row} {f : Nat → Int32} (hM : MR N K q f) {g : Nat} (hg : g < K) : chq N q g = some (cho N q g) ∧ cho N q g < N := by
  obtain ⟨-, h⟩ := hM
  obtain ⟨-, h1, -, h2, -⟩ := h g hg
  exact cho_eqR h1 h2
/-- cells of the reference that stay but for some rows and some fields -/
def Am (p fl : Nat → Prop) (m μ : Mem) : Prop := (∀ r, r ≠ 111 → ¬ p r → μ.1 r = m.1 r) ∧ (∀ k, ¬ fl k → μ.1 111 k = m.1 111 k) ∧ μ.2 = m.2
section AMM
variable {p fl p' fl' : Nat → Prop} {m m1 μ : Mem}
theorem Am.rf (m : Mem) : Am p fl m m := ⟨fun _ _ _ => rfl, fun _ _ => rfl, rfl⟩
theorem Am.tr (h1 : Am p fl m m1) (h2 : Am p fl m1 μ) : Am p fl m μ := ⟨fun r a b => (h2.1 r a b).trans (h1.1 r a b), fun k a => (h2.2.1 k a).trans (h1.2.1 k a), h2.2.2.trans h1.2.2⟩
theorem Am.mono (h : Am p fl m μ) (hp : ∀ r, p r → p' r) (hf : ∀ k, fl k → fl' k) : Am p' fl' m μ := ⟨fun r a b => h.1 r a (fun q => b (hp r q)), fun k a => h.2.1 k (fun q => a (hf k q)), h.2.2⟩
theorem Am.rw1 {r : Nat} {f : Nat → Int32} (h : Am p fl m μ) (hr : p r) (h1 : r ≠ 111) : Am p fl m (sI μ r f) := ⟨fun q a b => (sI_ne (fun e => b (by rw [e]; exact hr))).trans (h.1 q a b), fun k a => by rw [sI_ne (Ne.symm h1)]; exact h.2.1 k a, h.2.2⟩
theorem Am.fld {k : Nat} {v : Int32} (h : Am p fl m μ) (hk : fl k) : Am p fl m (sI μ 111 (upd (μ.1 111) k v)) := ⟨fun q a b => (sI_ne a).trans (h.1 q a b), fun j a => by rw [sI_eq, upd_ne (fun e => a (by rw [e]; exact hk))]; exact h.2.1 j a, h.2.2⟩
end AMM
/-- the law that holds if none is told -/
def pln (law : Nat) : List Br := [(none, [if law = 0 then (1, ii 0) else if law = 1 then (1, ii 4) else (0, ii 0)])]
theorem pln_0 (va : Nat → Int32) : lawv va (pln 0) = va 0 := rfl
theorem pln_1 (va : Nat → Int32) : lawv va (pln 1) = va 4 := rfl
theorem pln_2 (va : Nat → Int32) : lawv va (pln 2) = ii 0 := rfl
theorem pln_3 (va : Nat → Int32) : lawv va (pln 3) = ii 0 := rfl
/-- the reference's laws -/
def LWM (L : Nat) (bf : Nat → List Br) (m : Mem) : Prop := ∀ law, law < 4 → (∀ b, b ∈ bf law → BrO b) ∧ ∃ (b0 : Nat) (bs : List Br), m.1 129 (4 * L + law) = ii b0 ∧ m.1 130 (4 * L + law) = ii ((b0 + bs.length : Nat) : Int) ∧ LawM bs b0 m ∧ (bs = [] ∧ bf law = pln law ∨ bs ≠ [] ∧ bf law = bs)
theorem LWM.of {L : Nat} {bf : Nat → List Br} {m μ : Mem} (h : LWM L bf m) (e : ∀ r, 129 ≤ r → r ≤ 137 → μ.1 r = m.1 r) : LWM L bf μ := by
  unfold LWM LawM BrM TmM at h ⊢
  rw [e 129 (by omega) (by omega), e 130 (by omega) (by omega), e 131 (by omega) (by omega), e 132 (by omega) (by omega), e 133 (by omega) (by omega), e 134 (by omega) (by omega), e 135 (by omega) (by omega), e 136 (by omega) (by omega), e 137 (by omega) (by omega)]
  exact h
/-- the reference's text -/
def TM (L N K : Nat) (wd : Nat → Int32) (bf : Nat → List Br) (m : Mem) : Prop := MT L N K m ∧ (∀ r, r < N → m.1 122 (6 * L + r) = wd r) ∧ LWM L bf m
def LQ (r : Nat) : Prop := r = 139 ∨ r = 140
def LF (k : Nat) : Prop := k = 46
section TMM
variable {L N K : Nat} {wd : Nat → Int32} {bf : Nat → List Br} {q : Row} {cl : Option Nat} {p fl : Nat → Prop} {m μ : Mem}
theorem TM.am (h : TM L N K wd bf m) (a : Am p fl m μ) (hq : ∀ r, p r → r ≠ 121 ∧ r ≠ 122 ∧ r ≠ 123 ∧ (r < 129 ∨ 137 < r)) (hf : ∀ k, fl k → k ≠ 18) : TM L N K wd bf μ := by
  obtain ⟨⟨t0, t1, t2, t3, t4⟩, h2, h3⟩ := h
  refine ⟨⟨by rw [a.2.1 18 (fun x => hf _ x rfl)]; exact t0, t1, by rw [a.1 121 (by omega) (fun x => (hq _ x).1 rfl)]; exact t2, by rw [a.1 123 (by omega) (fun x => (hq _ x).2.2.1 rfl)]; exact t3, t4⟩, fun r hr => by rw [a.1 122 (by omega) (fun x => (hq _ x).2.1 rfl)]; exact h2 r hr, h3.of (fun r h1 h2 => a.1 r (by omega) (fun x => ?_))⟩
  have := (hq _ x).2.2.2
  omega
theorem MW.am (h : MW L N K q cl m) (a : Am p fl m μ) (hq : ∀ r, p r → r ≠ 121 ∧ r ≠ 123 ∧ r ≠ 142 ∧ r ≠ 143) (hf : ∀ k, fl k → k ≠ 18 ∧ k ≠ 51) : MW L N K q cl μ := by
  obtain ⟨⟨t0, t1, t2, t3, t4⟩, h2, h3, h4, h5⟩ := h
  refine ⟨⟨by rw [a.2.1 18 (fun x => (hf _ x).1 rfl)]; exact t0, t1, by rw [a.1 121 (by omega) (fun x => (hq _ x).1 rfl)]; exact t2, by rw [a.1 123 (by omega) (fun x => (hq _ x).2.1 rfl)]; exact t3, t4⟩, by rw [a.1 142 (by omega) (fun x => (hq _ x).2.2.1 rfl)]; exact h2, h3, by rw [a.2.1 51 (fun x => (hf _ x).2 rfl)]; exact h4, fun g hg => by rw [a.1 143 (by omega) (fun x => (hq _ x).2.2.2 rfl)]; exact h5 g hg⟩
theorem LQ.t {r : Nat} (h : LQ r) : r ≠ 121 ∧ r ≠ 122 ∧ r ≠ 123 ∧ (r < 129 ∨ 137 < r) := by unfold LQ at h; omega
theorem LQ.w {r : Nat} (h : LQ r) : r ≠ 121 ∧ r ≠ 123 ∧ r ≠ 142 ∧ r ≠ 143 := by unfold LQ at h; omega
theorem LF.t {k : Nat} (h : LF k) : k ≠ 18 := by unfold LF at h; omega
theorem LF.w {k : Nat} (h : LF k) : k ≠ 18 ∧ k ≠ 51 := by unfold LF at h; omega
theorem LwE.am (h : LwE m μ) : Am LQ LF m μ := ⟨fun r a b => h.row (fun e => b (Or.inr e)) a, fun k a => h.fld a, h.snd⟩
theorem w_M_law {law : Nat} {d : Int32} (hl : law < 4) (hT : TM L N K wd bf m) (hd : d = lawv (m.1 139) (pln law)) : ∃ μ, Am LQ LF m μ ∧ ∀ Q, wD D_M_lawTells [.ref 111, .int (ii law), .int d] (hp m) Q ↔ Q (some (.int (lawv (m.1 139) (bf law)))) (hp μ) := by
  obtain ⟨⟨t0, t1, t2⟩, -, h3⟩ := hT
  obtain ⟨-, b0, bs, e1, e2, e3, e4⟩ := h3 law hl
  obtain ⟨μ, a, e⟩ := w_M_lawTells (d := d) hl t1 t0 e1 e2 e3
  refine ⟨μ, a.am, fun Q => ?_⟩
  rw [wD_eq e]
  rcases e4 with ⟨rfl, e5⟩ | ⟨e5, e6⟩
  · rw [if_pos rfl, hd, e5]
  · rw [if_neg e5, e6]
theorem w_M_within {v a b : Int32} (Q : Option Value → Hp → Prop) : wD D_M_within [.int v, .int a, .int b] (hp m) Q ↔ Q (some (.int (if v < a then a else if b < v then b else v))) (hp m) := by
  apply wD_eq
  apply wD_out
  by_cases h1 : v < a
  · rw [if_pos h1]
    simp (disch := omega) only [D_M_within, F_M_within, h1, ↓wD_run, ↓wD_mV, ↓wS_seq, ↓wS_skip, ↓wS_brk, ↓wS_cnt, ↓wS_retV, ↓wS_put, ↓wS_putZ, ↓wS_fop, ↓wS_ast, ↓wS_astL, ↓wS_aop, ↓wS_if, ↓wS_blk, ↓wS_ret, ↓wS_retZ, ↓wS_call, ↓wS_sw, ↓wS_cpy, ↓wE_kI, ↓wE_kL, ↓wE_o1, ↓wE_o2, ↓wE_oD, ↓wE_oR, ↓wE_gI, ↓wE_gR, ↓wE_aI, ↓wE_aL, ↓wE_aR, ↓wE_lnX, ↓wE_iX, ↓wE_bX, ↓wE_cAnd, ↓wE_cOr, ↓wE_cNot, ↓wE_asV, ↓wA_nil, ↓wA_cons, ↓wE_cI, ↓wE_cL, ↓wE_cR, ↓wE_chX, ↓wE_idX, ↓xI_s, ↓xL_s, ↓xF_s, ↓lI_0, ↓lL_0, ↓lR_0, ↓lI_1, ↓lL_1, ↓lR_1, ↓lI_2, ↓lL_2, ↓lR_2, ↓lI_3, ↓lL_3, ↓lR_3, ↓lI_4, ↓lL_4, ↓lR_4, ↓lI_5, ↓lL_5, ↓lR_5, ↓lI_6, ↓lL_6, ↓lR_6, ↓lI_7, ↓lL_7, ↓lR_7, ↓lI_8, ↓lL_8, ↓lR_8, ↓lI_9, ↓lL_9, ↓lR_9, ↓lI_10, ↓lL_10, ↓lR_10, ↓lI_11, ↓lL_11, ↓lR_11, ↓lI_12, ↓lL_12, ↓lR_12, ↓lI_13, ↓lL_13, ↓lR_13, ↓lI_14, ↓lL_14, ↓lR_14, ↓lI_15, ↓lL_15, ↓lR_15, ↓lI_16, ↓lL_16, ↓lR_16, ↓st_0, ↓st_1, ↓st_2, ↓st_3, ↓st_4, ↓st_5, ↓st_6, ↓st_7, ↓st_8, ↓st_9, ↓st_10, ↓st_11, ↓st_12, ↓st_13, ↓st_14, ↓st_15, ↓st_16, ↓in_0, ↓in_1, ↓in_2, ↓in_3, ↓in_4, ↓in_5, ↓in_6, ↓in_7, ↓in_8, ↓in_9, ↓in_10, ↓in_11, ↓in_12, ↓in_13, ↓in_14, ↓in_15, ↓in_16, ↓dc_0, ↓dc_1, ↓dc_2, ↓dc_3, ↓dc_4, ↓dc_5, ↓dc_6, ↓dc_7, ↓dc_8, ↓dc_9, ↓dc_10, ↓dc_11, ↓dc_12, ↓dc_13, ↓dc_14, ↓dc_15, ↓dc_16, ↓bk_0_0, ↓bk_0_1, ↓bk_0_2, ↓bk_0_3, ↓bk_0_4, ↓bk_0_5, ↓bk_1_1, ↓bk_1_2, ↓bk_1_3, ↓bk_1_4, ↓bk_1_5, ↓bk_1_6, ↓bk_2_2, ↓bk_2_3, ↓bk_2_4, ↓bk_2_5, ↓bk_2_6, ↓bk_2_7, ↓bk_3_3, ↓bk_3_4, ↓bk_3_5, ↓bk_3_6, ↓bk_3_7, ↓bk_3_8, ↓bk_4_4, ↓bk_4_5, ↓bk_4_6, ↓bk_4_7, ↓bk_4_8, ↓bk_4_9, ↓bk_5_5, ↓bk_5_6, ↓bk_5_7, ↓bk_5_8, ↓bk_5_9, ↓bk_5_10, ↓bk_6_6, ↓bk_6_7, ↓bk_6_8, ↓bk_6_9, ↓bk_6_10, ↓bk_6_11, ↓bk_7_7, ↓bk_7_8, ↓bk_7_9, ↓bk_7_10, ↓bk_7_11, ↓bk_7_12, ↓bk_8_8, ↓bk_8_9, ↓bk_8_10, ↓bk_8_11, ↓bk_8_12, ↓bk_8_13, ↓bk_9_9, ↓bk_9_10, ↓bk_9_11, ↓bk_9_12, ↓bk_9_13, ↓bk_9_14, ↓bk_10_10, ↓bk_10_11, ↓bk_10_12, ↓bk_10_13, ↓bk_10_14, ↓bk_10_15, ↓bk_11_11, ↓bk_11_12, ↓bk_11_13, ↓bk_11_14, ↓bk_11_15, ↓bk_11_16, ↓bk_12_12, ↓bk_12_13, ↓bk_12_14, ↓bk_12_15, ↓bk_12_16, ↓bk_12_17, ↓bk_13_13, ↓bk_13_14, ↓bk_13_15, ↓bk_13_16, ↓bk_13_17, ↓bk_13_18, ↓bk_14_14, ↓bk_14_15, ↓bk_14_16, ↓bk_14_17, ↓bk_14_18, ↓bk_15_15, ↓bk_15_16, ↓bk_15_17, ↓bk_15_18, ↓bk_16_16, ↓bk_16_17, ↓bk_16_18, ↓tk_0_0, ↓tk_0_1, ↓tk_0_2, ↓tk_0_3, ↓tk_0_4, ↓tk_0_5, ↓tk_1_1, ↓tk_1_2, ↓tk_1_3, ↓tk_1_4, ↓tk_1_5, ↓tk_1_6, ↓tk_2_2, ↓tk_2_3, ↓tk_2_4, ↓tk_2_5, ↓tk_2_6, ↓tk_2_7, ↓tk_3_3, ↓tk_3_4, ↓tk_3_5, ↓tk_3_6, ↓tk_3_7, ↓tk_3_8, ↓tk_4_4, ↓tk_4_5, ↓tk_4_6, ↓tk_4_7, ↓tk_4_8, ↓tk_4_9, ↓tk_5_5, ↓tk_5_6, ↓tk_5_7, ↓tk_5_8, ↓tk_5_9, ↓tk_5_10, ↓tk_6_6, ↓tk_6_7, ↓tk_6_8, ↓tk_6_9, ↓tk_6_10, ↓tk_6_11, ↓tk_7_7, ↓tk_7_8, ↓tk_7_9, ↓tk_7_10, ↓tk_7_11, ↓tk_7_12, ↓tk_8_8, ↓tk_8_9, ↓tk_8_10, ↓tk_8_11, ↓tk_8_12, ↓tk_8_13, ↓tk_9_9, ↓tk_9_10, ↓tk_9_11, ↓tk_9_12, ↓tk_9_13, ↓tk_9_14, ↓tk_10_10, ↓tk_10_11, ↓tk_10_12, ↓tk_10_13, ↓tk_10_14, ↓tk_10_15, ↓tk_11_11, ↓tk_11_12, ↓tk_11_13, ↓tk_11_14, ↓tk_11_15, ↓tk_11_16, ↓tk_12_12, ↓tk_12_13, ↓tk_12_14, ↓tk_12_15, ↓tk_12_16, ↓tk_12_17, ↓tk_13_13, ↓tk_13_14, ↓tk_13_15, ↓tk_13_16, ↓tk_13_17, ↓tk_13_18, ↓tk_14_14, ↓tk_14_15, ↓tk_14_16, ↓tk_14_17, ↓tk_14_18, ↓tk_15_15, ↓tk_15_16, ↓tk_15_17, ↓tk_15_18, ↓tk_16_16, ↓tk_16_17, ↓tk_16_18, ↓bk_r1, ↓bk_r2, ↓bk_r3, ↓sw_t, ↓sw_f, ↓sw_n, decide_eq_true_eq, ↓reduceIte, ii_add, ii_sub, ii_mul, true_and, and_true, List.map_cons, List.map_nil, Value.category, ne_eq, gt_iff_lt, ge_iff_le, not_true_eq_false, not_false_eq_true, Bool.false_eq_true, true_or, or_true, false_or, or_false, okI_ii, ii_nat, ii_lt, ii_le, ii_inj, ii_lt0, ii_0lt, ii_0le, ii_le0, ii_eq0, Int.toNat_add, Int.toNat_natCast, Int.toNat_mul, Int.reduceToNat, Nat.zero_add, nrw_0, sI_eq, sI_ne, sI_2, sJ_1, sI_sI, sI_sw, io_111, ↓g_111_0, ↓p_111_0, ↓g_111_1, ↓g_111_2, ↓p_111_2, ↓g_111_3, ↓g_111_4, ↓p_111_4, ↓g_111_5, ↓g_111_6, ↓g_111_7, ↓g_111_8, ↓g_111_9, ↓g_111_10, ↓p_111_10, ↓g_111_11, ↓p_111_11, ↓g_111_12, ↓p_111_12, ↓g_111_13, ↓p_111_13, ↓g_111_14, ↓p_111_14, ↓g_111_15, ↓p_111_15, ↓g_111_16, ↓p_111_16, ↓g_111_17, ↓p_111_17, ↓g_111_18, ↓p_111_18, ↓g_111_19, ↓p_111_19, ↓g_111_20, ↓p_111_20, ↓g_111_21, ↓g_111_22, ↓g_111_23, ↓g_111_24, ↓g_111_25, ↓g_111_26, ↓g_111_27, ↓g_111_28, ↓g_111_29, ↓g_111_30, ↓g_111_31, ↓g_111_32, ↓g_111_33, ↓p_111_33, ↓g_111_34, ↓g_111_35, ↓g_111_36, ↓g_111_37, ↓g_111_38, ↓g_111_39, ↓p_111_39, ↓g_111_40, ↓g_111_41, ↓g_111_42, ↓g_111_43, ↓p_111_43, ↓g_111_44, ↓g_111_45, ↓g_111_46, ↓p_111_46, ↓g_111_47, ↓g_111_48, ↓g_111_49, ↓p_111_49, ↓g_111_50, ↓p_111_50, ↓g_111_51, ↓p_111_51, ↓g_111_52, ↓g_111_53, ↓g_111_54, ↓g_111_55, ↓g_111_56, ↓g_111_57, ↓p_111_57, ↓g_111_58, ↓g_111_59, ↓p_111_59, ↓g_111_60, ↓p_111_60, ↓g_111_61, ↓p_111_61, ↓g_111_62, ↓g_111_63, ↓g_111_64, ↓g_111_65, ↓g_111_66, ↓g_111_67, ↓p_111_67, ↓g_111_68, ↓g_111_69, ↓g_111_70, ↓g_111_71, ↓g_111_72, ↓b_112, ↓x_112, ↓b_113, ↓x_113, ↓b_114, ↓x_114, ↓b_115, ↓x_115, ↓b_116, ↓x_116, ↓b_117, ↓x_117, ↓b_118, ↓x_118, ↓b_119, ↓x_119, ↓b_120, ↓x_120, ↓b_121, ↓x_121, ↓b_122, ↓x_122, ↓b_123, ↓x_123, ↓b_124, ↓x_124, ↓b_125, ↓x_125, ↓b_126, ↓x_126, ↓b_127, ↓x_127, ↓b_128, ↓x_128, ↓b_129, ↓x_129, ↓b_130, ↓x_130, ↓b_131, ↓x_131, ↓b_132, ↓x_132, ↓b_133, ↓x_133, ↓b_134, ↓x_134, ↓b_135, ↓x_135, ↓b_136, ↓x_136, ↓b_137, ↓x_137, ↓b_138, ↓x_138, ↓b_139, ↓x_139, ↓b_140, ↓x_140, ↓b_141, ↓x_141, ↓b_142, ↓x_142, ↓b_143, ↓x_143, ↓b_144, ↓x_144, ↓b_145, ↓x_145, ↓b_146, ↓x_146, ↓b_147, ↓x_147, ↓b_148, ↓x_148, ↓b_149, ↓x_149, ↓b_150, ↓x_150, ↓b_151, ↓x_151, ↓b_152, ↓x_152, ↓b_153, ↓x_153, ↓b_154, ↓x_154, ↓b_155, ↓x_155, ↓b_156, ↓x_156, ↓b_157, ↓x_157, ↓b_158, ↓x_158]
  · rw [if_neg h1]
    by_cases h2 : b < v
    · rw [if_pos h2]
      simp (disch := omega) only [D_M_within, F_M_within, h1, h2, ↓wD_run, ↓wD_mV, ↓wS_seq, ↓wS_skip, ↓wS_brk, ↓wS_cnt, ↓wS_retV, ↓wS_put, ↓wS_putZ, ↓wS_fop, ↓wS_ast, ↓wS_astL, ↓wS_aop, ↓wS_if, ↓wS_blk, ↓wS_ret, ↓wS_retZ, ↓wS_call, ↓wS_sw, ↓wS_cpy, ↓wE_kI, ↓wE_kL, ↓wE_o1, ↓wE_o2, ↓wE_oD, ↓wE_oR, ↓wE_gI, ↓wE_gR, ↓wE_aI, ↓wE_aL, ↓wE_aR, ↓wE_lnX, ↓wE_iX, ↓wE_bX, ↓wE_cAnd, ↓wE_cOr, ↓wE_cNot, ↓wE_asV, ↓wA_nil, ↓wA_cons, ↓wE_cI, ↓wE_cL, ↓wE_cR, ↓wE_chX, ↓wE_idX, ↓xI_s, ↓xL_s, ↓xF_s, ↓lI_0, ↓lL_0, ↓lR_0, ↓lI_1, ↓lL_1, ↓lR_1, ↓lI_2, ↓lL_2, ↓lR_2, ↓lI_3, ↓lL_3, ↓lR_3, ↓lI_4, ↓lL_4, ↓lR_4, ↓lI_5, ↓lL_5, ↓lR_5, ↓lI_6, ↓lL_6, ↓lR_6, ↓lI_7, ↓lL_7, ↓lR_7, ↓lI_8, ↓lL_8, ↓lR_8, ↓lI_9, ↓lL_9, ↓lR_9, ↓lI_10, ↓lL_10, ↓lR_10, ↓lI_11, ↓lL_11, ↓lR_11, ↓lI_12, ↓lL_12, ↓lR_12, ↓lI_13, ↓lL_13, ↓lR_13, ↓lI_14, ↓lL_14, ↓lR_14, ↓lI_15, ↓lL_15, ↓lR_15, ↓lI_16, ↓lL_16, ↓lR_16, ↓st_0, ↓st_1, ↓st_2, ↓st_3, ↓st_4, ↓st_5, ↓st_6, ↓st_7, ↓st_8, ↓st_9, ↓st_10, ↓st_11, ↓st_12, ↓st_13, ↓st_14, ↓st_15, ↓st_16, ↓in_0, ↓in_1, ↓in_2, ↓in_3, ↓in_4, ↓in_5, ↓in_6, ↓in_7, ↓in_8, ↓in_9, ↓in_10, ↓in_11, ↓in_12, ↓in_13, ↓in_14, ↓in_15, ↓in_16, ↓dc_0, ↓dc_1, ↓dc_2, ↓dc_3, ↓dc_4, ↓dc_5, ↓dc_6, ↓dc_7, ↓dc_8, ↓dc_9, ↓dc_10, ↓dc_11, ↓dc_12, ↓dc_13, ↓dc_14, ↓dc_15, ↓dc_16, ↓bk_0_0, ↓bk_0_1, ↓bk_0_2, ↓bk_0_3, ↓bk_0_4, ↓bk_0_5, ↓bk_1_1, ↓bk_1_2, ↓bk_1_3, ↓bk_1_4, ↓bk_1_5, ↓bk_1_6, ↓bk_2_2, ↓bk_2_3, ↓bk_2_4, ↓bk_2_5, ↓bk_2_6, ↓bk_2_7, ↓bk_3_3, ↓bk_3_4, ↓bk_3_5, ↓bk_3_6, ↓bk_3_7, ↓bk_3_8, ↓bk_4_4, ↓bk_4_5, ↓bk_4_6, ↓bk_4_7, ↓bk_4_8, ↓bk_4_9, ↓bk_5_5, ↓bk_5_6, ↓bk_5_7, ↓bk_5_8, ↓bk_5_9, ↓bk_5_10, ↓bk_6_6, ↓bk_6_7, ↓bk_6_8, ↓bk_6_9, ↓bk_6_10, ↓bk_6_11, ↓bk_7_7, ↓bk_7_8, ↓bk_7_9, ↓bk_7_10, ↓bk_7_11, ↓bk_7_12, ↓bk_8_8, ↓bk_8_9, ↓bk_8_10, ↓bk_8_11, ↓bk_8_12, ↓bk_8_13, ↓bk_9_9, ↓bk_9_10, ↓bk_9_11, ↓bk_9_12, ↓bk_9_13, ↓bk_9_14, ↓bk_10_10, ↓bk_10_11, ↓bk_10_12, ↓bk_10_13, ↓bk_10_14, ↓bk_10_15, ↓bk_11_11, ↓bk_11_12, ↓bk_11_13, ↓bk_11_14, ↓bk_11_15, ↓bk_11_16, ↓bk_12_12, ↓bk_12_13, ↓bk_12_14, ↓bk_12_15, ↓bk_12_16, ↓bk_12_17, ↓bk_13_13, ↓bk_13_14, ↓bk_13_15, ↓bk_13_16, ↓bk_13_17, ↓bk_13_18, ↓bk_14_14, ↓bk_14_15, ↓bk_14_16, ↓bk_14_17, ↓bk_14_18, ↓bk_15_15, ↓bk_15_16, ↓bk_15_17, ↓bk_15_18, ↓bk_16_16, ↓bk_16_17, ↓bk_16_18, ↓tk_0_0, ↓tk_0_1, ↓tk_0_2, ↓tk_0_3, ↓tk_0_4, ↓tk_0_5, ↓tk_1_1, ↓tk_1_2, ↓tk_1_3, ↓tk_1_4, ↓tk_1_5, ↓tk_1_6, ↓tk_2_2, ↓tk_2_3, ↓tk_2_4, ↓tk_2_5, ↓tk_2_6, ↓tk_2_7, ↓tk_3_3, ↓tk_3_4, ↓tk_3_5, ↓tk_3_6, ↓tk_3_7, ↓tk_3_8, ↓tk_4_4, ↓tk_4_5, ↓tk_4_6, ↓tk_4_7, ↓tk_4_8, ↓tk_4_9, ↓tk_5_5, ↓tk_5_6, ↓tk_5_7, ↓tk_5_8, ↓tk_5_9, ↓tk_5_10, ↓tk_6_6, ↓tk_6_7, ↓tk_6_8, ↓tk_6_9, ↓tk_6_10, ↓tk_6_11, ↓tk_7_7, ↓tk_7_8, ↓tk_7_9, ↓tk_7_10, ↓tk_7_11, ↓tk_7_12, ↓tk_8_8, ↓tk_8_9, ↓tk_8_10, ↓tk_8_11, ↓tk_8_12, ↓tk_8_13, ↓tk_9_9, ↓tk_9_10, ↓tk_9_11, ↓tk_9_12, ↓tk_9_13, ↓tk_9_14, ↓tk_10_10, ↓tk_10_11, ↓tk_10_12, ↓tk_10_13, ↓tk_10_14, ↓tk_10_15, ↓tk_11_11, ↓tk_11_12, ↓tk_11_13, ↓tk_11_14, ↓tk_11_15, ↓tk_11_16, ↓tk_12_12, ↓tk_12_13, ↓tk_12_14, ↓tk_12_15, ↓tk_12_16, ↓tk_12_17, ↓tk_13_13, ↓tk_13_14, ↓tk_13_15, ↓tk_13_16, ↓tk_13_17, ↓tk_13_18, ↓tk_14_14, ↓tk_14_15, ↓tk_14_16, ↓tk_14_17, ↓tk_14_18, ↓tk_15_15, ↓tk_15_16, ↓tk_15_17, ↓tk_15_18, ↓tk_16_16, ↓tk_16_17, ↓tk_16_18, ↓bk_r1, ↓bk_r2, ↓bk_r3, ↓sw_t, ↓sw_f, ↓sw_n, decide_eq_true_eq, ↓reduceIte, ii_add, ii_sub, ii_mul, true_and, and_true, List.map_cons, List.map_nil, Value.category, ne_eq, gt_iff_lt, ge_iff_le, not_true_eq_false, not_false_eq_true, Bool.false_eq_true, true_or, or_true, false_or, or_false, okI_ii, ii_nat, ii_lt, ii_le, ii_inj, ii_lt0, ii_0lt, ii_0le, ii_le0, ii_eq0, Int.toNat_add, Int.toNat_natCast, Int.toNat_mul, Int.reduceToNat, Nat.zero_add, nrw_0, sI_eq, sI_ne, sI_2, sJ_1, sI_sI, sI_sw, io_111, ↓g_111_0, ↓p_111_0, ↓g_111_1, ↓g_111_2, ↓p_111_2, ↓g_111_3, ↓g_111_4, ↓p_111_4, ↓g_111_5, ↓g_111_6, ↓g_111_7, ↓g_111_8, ↓g_111_9, ↓g_111_10, ↓p_111_10, ↓g_111_11, ↓p_111_11, ↓g_111_12, ↓p_111_12, ↓g_111_13, ↓p_111_13, ↓g_111_14, ↓p_111_14, ↓g_111_15, ↓p_111_15, ↓g_111_16, ↓p_111_16, ↓g_111_17, ↓p_111_17, ↓g_111_18, ↓p_111_18, ↓g_111_19, ↓p_111_19, ↓g_111_20, ↓p_111_20, ↓g_111_21, ↓g_111_22, ↓g_111_23, ↓g_111_24, ↓g_111_25, ↓g_111_26, ↓g_111_27, ↓g_111_28, ↓g_111_29, ↓g_111_30, ↓g_111_31, ↓g_111_32, ↓g_111_33, ↓p_111_33, ↓g_111_34, ↓g_111_35, ↓g_111_36, ↓g_111_37, ↓g_111_38, ↓g_111_39, ↓p_111_39, ↓g_111_40, ↓g_111_41, ↓g_111_42, ↓g_111_43, ↓p_111_43, ↓g_111_44, ↓g_111_45, ↓g_111_46, ↓p_111_46, ↓g_111_47, ↓g_111_48, ↓g_111_49, ↓p_111_49, ↓g_111_50, ↓p_111_50, ↓g_111_51, ↓p_111_51, ↓g_111_52, ↓g_111_53, ↓g_111_54, ↓g_111_55, ↓g_111_56, ↓g_111_57, ↓p_111_57, ↓g_111_58, ↓g_111_59, ↓p_111_59, ↓g_111_60, ↓p_111_60, ↓g_111_61, ↓p_111_61, ↓g_111_62, ↓g_111_63, ↓g_111_64, ↓g_111_65, ↓g_111_66, ↓g_111_67, ↓p_111_67, ↓g_111_68, ↓g_111_69, ↓g_111_70, ↓g_111_71, ↓g_111_72, ↓b_112, ↓x_112, ↓b_113, ↓x_113, ↓b_114, ↓x_114, ↓b_115, ↓x_115, ↓b_116, ↓x_116, ↓b_117, ↓x_117, ↓b_118, ↓x_118, ↓b_119, ↓x_119, ↓b_120, ↓x_120, ↓b_121, ↓x_121, ↓b_122, ↓x_122, ↓b_123, ↓x_123, ↓b_124, ↓x_124, ↓b_125, ↓x_125, ↓b_126, ↓x_126, ↓b_127, ↓x_127, ↓b_128, ↓x_128, ↓b_129, ↓x_129, ↓b_130, ↓x_130, ↓b_131, ↓x_131, ↓b_132, ↓x_132, ↓b_133, ↓x_133, ↓b_134, ↓x_134, ↓b_135, ↓x_135, ↓b_136, ↓x_136, ↓b_137, ↓x_137, ↓b_138, ↓x_138, ↓b_139, ↓x_139, ↓b_140, ↓x_140, ↓b_141, ↓x_141, ↓b_142, ↓x_142, ↓b_143, ↓x_143, ↓b_144, ↓x_144, ↓b_145, ↓x_145, ↓b_146, ↓x_146, ↓b_147, ↓x_147, ↓b_148, ↓x_148, ↓b_149, ↓x_149, ↓b_150, ↓x_150, ↓b_151, ↓x_151, ↓b_152, ↓x_152, ↓b_153, ↓x_153, ↓b_154, ↓x_154, ↓b_155, ↓x_155, ↓b_156, ↓x_156, ↓b_157, ↓x_157, ↓b_158, ↓x_158]
    · rw [if_neg h2]
      simp (disch := omega) only [D_M_within, F_M_within, h1, h2, ↓wD_run, ↓wD_mV, ↓wS_seq, ↓wS_skip, ↓wS_brk, ↓wS_cnt, ↓wS_retV, ↓wS_put, ↓wS_putZ, ↓wS_fop, ↓wS_ast, ↓wS_astL, ↓wS_aop, ↓wS_if, ↓wS_blk, ↓wS_ret, ↓wS_retZ, ↓wS_call, ↓wS_sw, ↓wS_cpy, ↓wE_kI, ↓wE_kL, ↓wE_o1, ↓wE_o2, ↓wE_oD, ↓wE_oR, ↓wE_gI, ↓wE_gR, ↓wE_aI, ↓wE_aL, ↓wE_aR, ↓wE_lnX, ↓wE_iX, ↓wE_bX, ↓wE_cAnd, ↓wE_cOr, ↓wE_cNot, ↓wE_asV, ↓wA_nil, ↓wA_cons, ↓wE_cI, ↓wE_cL, ↓wE_cR, ↓wE_chX, ↓wE_idX, ↓xI_s, ↓xL_s, ↓xF_s, ↓lI_0, ↓lL_0, ↓lR_0, ↓lI_1, ↓lL_1, ↓lR_1, ↓lI_2, ↓lL_2, ↓lR_2, ↓lI_3, ↓lL_3, ↓lR_3, ↓lI_4, ↓lL_4, ↓lR_4, ↓lI_5, ↓lL_5, ↓lR_5, ↓lI_6, ↓lL_6, ↓lR_6, ↓lI_7, ↓lL_7, ↓lR_7, ↓lI_8, ↓lL_8, ↓lR_8, ↓lI_9, ↓lL_9, ↓lR_9, ↓lI_10, ↓lL_10, ↓lR_10, ↓lI_11, ↓lL_11, ↓lR_11, ↓lI_12, ↓lL_12, ↓lR_12, ↓lI_13, ↓lL_13, ↓lR_13, ↓lI_14, ↓lL_14, ↓lR_14, ↓lI_15, ↓lL_15, ↓lR_15, ↓lI_16, ↓lL_16, ↓lR_16, ↓st_0, ↓st_1, ↓st_2, ↓st_3, ↓st_4, ↓st_5, ↓st_6, ↓st_7, ↓st_8, ↓st_9, ↓st_10, ↓st_11, ↓st_12, ↓st_13, ↓st_14, ↓st_15, ↓st_16, ↓in_0, ↓in_1, ↓in_2, ↓in_3, ↓in_4, ↓in_5, ↓in_6, ↓in_7, ↓in_8, ↓in_9, ↓in_10, ↓in_11, ↓in_12, ↓in_13, ↓in_14, ↓in_15, ↓in_16, ↓dc_0, ↓dc_1, ↓dc_2, ↓dc_3, ↓dc_4, ↓dc_5, ↓dc_6, ↓dc_7, ↓dc_8, ↓dc_9, ↓dc_10, ↓dc_11, ↓dc_12, ↓dc_13, ↓dc_14, ↓dc_15, ↓dc_16, ↓bk_0_0, ↓bk_0_1, ↓bk_0_2, ↓bk_0_3, ↓bk_0_4, ↓bk_0_5, ↓bk_1_1, ↓bk_1_2, ↓bk_1_3, ↓bk_1_4, ↓bk_1_5, ↓bk_1_6, ↓bk_2_2, ↓bk_2_3, ↓bk_2_4, ↓bk_2_5, ↓bk_2_6, ↓bk_2_7, ↓bk_3_3, ↓bk_3_4, ↓bk_3_5, ↓bk_3_6, ↓bk_3_7, ↓bk_3_8, ↓bk_4_4, ↓bk_4_5, ↓bk_4_6, ↓bk_4_7, ↓bk_4_8, ↓bk_4_9, ↓bk_5_5, ↓bk_5_6, ↓bk_5_7, ↓bk_5_8, ↓bk_5_9, ↓bk_5_10, ↓bk_6_6, ↓bk_6_7, ↓bk_6_8, ↓bk_6_9, ↓bk_6_10, ↓bk_6_11, ↓bk_7_7, ↓bk_7_8, ↓bk_7_9, ↓bk_7_10, ↓bk_7_11, ↓bk_7_12, ↓bk_8_8, ↓bk_8_9, ↓bk_8_10, ↓bk_8_11, ↓bk_8_12, ↓bk_8_13, ↓bk_9_9, ↓bk_9_10, ↓bk_9_11, ↓bk_9_12, ↓bk_9_13, ↓bk_9_14, ↓bk_10_10, ↓bk_10_11, ↓bk_10_12, ↓bk_10_13, ↓bk_10_14, ↓bk_10_15, ↓bk_11_11, ↓bk_11_12, ↓bk_11_13, ↓bk_11_14, ↓bk_11_15, ↓bk_11_16, ↓bk_12_12, ↓bk_12_13, ↓bk_12_14, ↓bk_12_15, ↓bk_12_16, ↓bk_12_17, ↓bk_13_13, ↓bk_13_14, ↓bk_13_15, ↓bk_13_16, ↓bk_13_17, ↓bk_13_18, ↓bk_14_14, ↓bk_14_15, ↓bk_14_16, ↓bk_14_17, ↓bk_14_18, ↓bk_15_15, ↓bk_15_16, ↓bk_15_17, ↓bk_15_18, ↓bk_16_16, ↓bk_16_17, ↓bk_16_18, ↓tk_0_0, ↓tk_0_1, ↓tk_0_2, ↓tk_0_3, ↓tk_0_4, ↓tk_0_5, ↓tk_1_1, ↓tk_1_2, ↓tk_1_3, ↓tk_1_4, ↓tk_1_5, ↓tk_1_6, ↓tk_2_2, ↓tk_2_3, ↓tk_2_4, ↓tk_2_5, ↓tk_2_6, ↓tk_2_7, ↓tk_3_3, ↓tk_3_4, ↓tk_3_5, ↓tk_3_6, ↓tk_3_7, ↓tk_3_8, ↓tk_4_4, ↓tk_4_5, ↓tk_4_6, ↓tk_4_7, ↓tk_4_8, ↓tk_4_9, ↓tk_5_5, ↓tk_5_6, ↓tk_5_7, ↓tk_5_8, ↓tk_5_9, ↓tk_5_10, ↓tk_6_6, ↓tk_6_7, ↓tk_6_8, ↓tk_6_9, ↓tk_6_10, ↓tk_6_11, ↓tk_7_7, ↓tk_7_8, ↓tk_7_9, ↓tk_7_10, ↓tk_7_11, ↓tk_7_12, ↓tk_8_8, ↓tk_8_9, ↓tk_8_10, ↓tk_8_11, ↓tk_8_12, ↓tk_8_13, ↓tk_9_9, ↓tk_9_10, ↓tk_9_11, ↓tk_9_12, ↓tk_9_13, ↓tk_9_14, ↓tk_10_10, ↓tk_10_11, ↓tk_10_12, ↓tk_10_13, ↓tk_10_14, ↓tk_10_15, ↓tk_11_11, ↓tk_11_12, ↓tk_11_13, ↓tk_11_14, ↓tk_11_15, ↓tk_11_16, ↓tk_12_12, ↓tk_12_13, ↓tk_12_14, ↓tk_12_15, ↓tk_12_16, ↓tk_12_17, ↓tk_13_13, ↓tk_13_14, ↓tk_13_15, ↓tk_13_16, ↓tk_13_17, ↓tk_13_18, ↓tk_14_14, ↓tk_14_15, ↓tk_14_16, ↓tk_14_17, ↓tk_14_18, ↓tk_15_15, ↓tk_15_16, ↓tk_15_17, ↓tk_15_18, ↓tk_16_16, ↓tk_16_17, ↓tk_16_18, ↓bk_r1, ↓bk_r2, ↓bk_r3, ↓sw_t, ↓sw_f, ↓sw_n, decide_eq_true_eq, ↓reduceIte, ii_add, ii_sub, ii_mul, true_and, and_true, List.map_cons, List.map_nil, Value.category, ne_eq, gt_iff_lt, ge_iff_le, not_true_eq_false, not_false_eq_true, Bool.false_eq_true, true_or, or_true, false_or, or_false, okI_ii, ii_nat, ii_lt, ii_le, ii_inj, ii_lt0, ii_0lt, ii_0le, ii_le0, ii_eq0, Int.toNat_add, Int.toNat_natCast, Int.toNat_mul, Int.reduceToNat, Nat.zero_add, nrw_0, sI_eq, sI_ne, sI_2, sJ_1, sI_sI, sI_sw, io_111, ↓g_111_0, ↓p_111_0, ↓g_111_1, ↓g_111_2, ↓p_111_2, ↓g_111_3, ↓g_111_4, ↓p_111_4, ↓g_111_5, ↓g_111_6, ↓g_111_7, ↓g_111_8, ↓g_111_9, ↓g_111_10, ↓p_111_10, ↓g_111_11, ↓p_111_11, ↓g_111_12, ↓p_111_12, ↓g_111_13, ↓p_111_13, ↓g_111_14, ↓p_111_14, ↓g_111_15, ↓p_111_15, ↓g_111_16, ↓p_111_16, ↓g_111_17, ↓p_111_17, ↓g_111_18, ↓p_111_18, ↓g_111_19, ↓p_111_19, ↓g_111_20, ↓p_111_20, ↓g_111_21, ↓g_111_22, ↓g_111_23, ↓g_111_24, ↓g_111_25, ↓g_111_26, ↓g_111_27, ↓g_111_28, ↓g_111_29, ↓g_111_30, ↓g_111_31, ↓g_111_32, ↓g_111_33, ↓p_111_33, ↓g_111_34, ↓g_111_35, ↓g_111_36, ↓g_111_37, ↓g_111_38, ↓g_111_39, ↓p_111_39, ↓g_111_40, ↓g_111_41, ↓g_111_42, ↓g_111_43, ↓p_111_43, ↓g_111_44, ↓g_111_45, ↓g_111_46, ↓p_111_46, ↓g_111_47, ↓g_111_48, ↓g_111_49, ↓p_111_49, ↓g_111_50, ↓p_111_50, ↓g_111_51, ↓p_111_51, ↓g_111_52, ↓g_111_53, ↓g_111_54, ↓g_111_55, ↓g_111_56, ↓g_111_57, ↓p_111_57, ↓g_111_58, ↓g_111_59, ↓p_111_59, ↓g_111_60, ↓p_111_60, ↓g_111_61, ↓p_111_61, ↓g_111_62, ↓g_111_63, ↓g_111_64, ↓g_111_65, ↓g_111_66, ↓g_111_67, ↓p_111_67, ↓g_111_68, ↓g_111_69, ↓g_111_70, ↓g_111_71, ↓g_111_72, ↓b_112, ↓x_112, ↓b_113, ↓x_113, ↓b_114, ↓x_114, ↓b_115, ↓x_115, ↓b_116, ↓x_116, ↓b_117, ↓x_117, ↓b_118, ↓x_118, ↓b_119, ↓x_119, ↓b_120, ↓x_120, ↓b_121, ↓x_121, ↓b_122, ↓x_122, ↓b_123, ↓x_123, ↓b_124, ↓x_124, ↓b_125, ↓x_125, ↓b_126, ↓x_126, ↓b_127, ↓x_127, ↓b_128, ↓x_128, ↓b_129, ↓x_129, ↓b_130, ↓x_130, ↓b_131, ↓x_131, ↓b_132, ↓x_132, ↓b_133, ↓x_133, ↓b_134, ↓x_134, ↓b_135, ↓x_135, ↓b_136, ↓x_136, ↓b_137, ↓x_137, ↓b_138, ↓x_138, ↓b_139, ↓x_139, ↓b_140, ↓x_140, ↓b_141, ↓x_141, ↓b_142, ↓x_142, ↓b_143, ↓x_143, ↓b_144, ↓x_144, ↓b_145, ↓x_145, ↓b_146, ↓x_146, ↓b_147, ↓x_147, ↓b_148, ↓x_148, ↓b_149, ↓x_149, ↓b_150, ↓x_150, ↓b_151, ↓x_151, ↓b_152, ↓x_152, ↓b_153, ↓x_153, ↓b_154, ↓x_154, ↓b_155, ↓x_155, ↓b_156, ↓x_156, ↓b_157, ↓x_157, ↓b_158, ↓x_158]
theorem w_M_hld {v c : Int32} (Q : Option Value → Hp → Prop) : wD D_M_within [.int v, .int (ii 0), .int c] (hp m) Q ↔ Q (some (.int (hld v c))) (hp m) := w_M_within Q
theorem w_M_looks {g x : Nat} {k : Int32} (hT : TM L N K wd bf m) (hR : MR N K q (m.1 142)) (hg : g < K) (hx : x < N) : ∃ F, (∀ j, j < 9 → F j = vw N wd q g (rSight q g) x 0 k j) ∧ ∀ Q, wD D_M_looks [.ref 111, .int (ii g), .int (ii x), .int k] (hp m) Q ↔ Q none (hp (sI m 139 F)) := by
  have hT0 := hT.1
  obtain ⟨⟨tl, tL, t0, t1, tN, tK, tz⟩, h7, -⟩ := hT
  obtain ⟨c55, hc⟩ := hR
  obtain ⟨d1, d2, d3, d4, d5, -, -, -, d9, -, dw⟩ := hc g hg
  have q1 := fun Q => w_M_seesMany (m := m) (s := rSight q g) (by omega : g < 5) d3 d5 hT0 Q
  have e1 := (dw x hx).1
  have e7 := h7 x hx
  have i1 : 6 * (L : Int) + (x : Int) = ((6 * L + x : Nat) : Int) := by omega
  refine ⟨upd (upd (upd (upd (upd (upd (upd (upd (upd (m.1 139) 0 (ii ((min (rSight q g) N : Nat) : Int))) 1 (ii (rWant q g x))) 2 (ii 0)) 3 (wd x)) 4 k) 5 (rDay q)) 6 (ii g)) 7 (rStood q g)) 8 (ii N), fun j hj => ?_, fun Q => ?_⟩
  · rcases (show j = 0 ∨ j = 1 ∨ j = 2 ∨ j = 3 ∨ j = 4 ∨ j = 5 ∨ j = 6 ∨ j = 7 ∨ j = 8 by omega) with rfl | rfl | rfl | rfl | rfl | rfl | rfl | rfl | rfl <;> rfl
  · apply wD_eq
    apply wD_out
    simp (disch := omega) only [D_M_looks, F_M_looks, ↓q1, ↓w_M_wantAt, e1, tl, t0, i1, e7, c55, d9, ↓wD_run, ↓wD_mV, ↓wS_seq, ↓wS_skip, ↓wS_brk, ↓wS_cnt, ↓wS_retV, ↓wS_put, ↓wS_putZ, ↓wS_fop, ↓wS_ast, ↓wS_astL, ↓wS_aop, ↓wS_if, ↓wS_blk, ↓wS_ret, ↓wS_retZ, ↓wS_call, ↓wS_sw, ↓wS_cpy, ↓wE_kI, ↓wE_kL, ↓wE_o1, ↓wE_o2, ↓wE_oD, ↓wE_oR, ↓wE_gI, ↓wE_gR, ↓wE_aI, ↓wE_aL, ↓wE_aR, ↓wE_lnX, ↓wE_iX, ↓wE_bX, ↓wE_cAnd, ↓wE_cOr, ↓wE_cNot, ↓wE_asV, ↓wA_nil, ↓wA_cons, ↓wE_cI, ↓wE_cL, ↓wE_cR, ↓wE_chX, ↓wE_idX, ↓xI_s, ↓xL_s, ↓xF_s, ↓lI_0, ↓lL_0, ↓lR_0, ↓lI_1, ↓lL_1, ↓lR_1, ↓lI_2, ↓lL_2, ↓lR_2, ↓lI_3, ↓lL_3, ↓lR_3, ↓lI_4, ↓lL_4, ↓lR_4, ↓lI_5, ↓lL_5, ↓lR_5, ↓lI_6, ↓lL_6, ↓lR_6, ↓lI_7, ↓lL_7, ↓lR_7, ↓lI_8, ↓lL_8, ↓lR_8, ↓lI_9, ↓lL_9, ↓lR_9, ↓lI_10, ↓lL_10, ↓lR_10, ↓lI_11, ↓lL_11, ↓lR_11, ↓lI_12, ↓lL_12, ↓lR_12, ↓lI_13, ↓lL_13, ↓lR_13, ↓lI_14, ↓lL_14, ↓lR_14, ↓lI_15, ↓lL_15, ↓lR_15, ↓lI_16, ↓lL_16, ↓lR_16, ↓st_0, ↓st_1, ↓st_2, ↓st_3, ↓st_4, ↓st_5, ↓st_6, ↓st_7, ↓st_8, ↓st_9, ↓st_10, ↓st_11, ↓st_12, ↓st_13, ↓st_14, ↓st_15, ↓st_16, ↓in_0, ↓in_1, ↓in_2, ↓in_3, ↓in_4, ↓in_5, ↓in_6, ↓in_7, ↓in_8, ↓in_9, ↓in_10, ↓in_11, ↓in_12, ↓in_13, ↓in_14, ↓in_15, ↓in_16, ↓dc_0, ↓dc_1, ↓dc_2, ↓dc_3, ↓dc_4, ↓dc_5, ↓dc_6, ↓dc_7, ↓dc_8, ↓dc_9, ↓dc_10, ↓dc_11, ↓dc_12, ↓dc_13, ↓dc_14, ↓dc_15, ↓dc_16, ↓bk_0_0, ↓bk_0_1, ↓bk_0_2, ↓bk_0_3, ↓bk_0_4, ↓bk_0_5, ↓bk_1_1, ↓bk_1_2, ↓bk_1_3, ↓bk_1_4, ↓bk_1_5, ↓bk_1_6, ↓bk_2_2, ↓bk_2_3, ↓bk_2_4, ↓bk_2_5, ↓bk_2_6, ↓bk_2_7, ↓bk_3_3, ↓bk_3_4, ↓bk_3_5, ↓bk_3_6, ↓bk_3_7, ↓bk_3_8, ↓bk_4_4, ↓bk_4_5, ↓bk_4_6, ↓bk_4_7, ↓bk_4_8, ↓bk_4_9, ↓bk_5_5, ↓bk_5_6, ↓bk_5_7, ↓bk_5_8, ↓bk_5_9, ↓bk_5_10, ↓bk_6_6, ↓bk_6_7, ↓bk_6_8, ↓bk_6_9, ↓bk_6_10, ↓bk_6_11, ↓bk_7_7, ↓bk_7_8, ↓bk_7_9, ↓bk_7_10, ↓bk_7_11, ↓bk_7_12, ↓bk_8_8, ↓bk_8_9, ↓bk_8_10, ↓bk_8_11, ↓bk_8_12, ↓bk_8_13, ↓bk_9_9, ↓bk_9_10, ↓bk_9_11, ↓bk_9_12, ↓bk_9_13, ↓bk_9_14, ↓bk_10_10, ↓bk_10_11, ↓bk_10_12, ↓bk_10_13, ↓bk_10_14, ↓bk_10_15, ↓bk_11_11, ↓bk_11_12, ↓bk_11_13, ↓bk_11_14, ↓bk_11_15, ↓bk_11_16, ↓bk_12_12, ↓bk_12_13, ↓bk_12_14, ↓bk_12_15, ↓bk_12_16, ↓bk_12_17, ↓bk_13_13, ↓bk_13_14, ↓bk_13_15, ↓bk_13_16, ↓bk_13_17, ↓bk_13_18, ↓bk_14_14, ↓bk_14_15, ↓bk_14_16, ↓bk_14_17, ↓bk_14_18, ↓bk_15_15, ↓bk_15_16, ↓bk_15_17, ↓bk_15_18, ↓bk_16_16, ↓bk_16_17, ↓bk_16_18, ↓tk_0_0, ↓tk_0_1, ↓tk_0_2, ↓tk_0_3, ↓tk_0_4, ↓tk_0_5, ↓tk_1_1, ↓tk_1_2, ↓tk_1_3, ↓tk_1_4, ↓tk_1_5, ↓tk_1_6, ↓tk_2_2, ↓tk_2_3, ↓tk_2_4, ↓tk_2_5, ↓tk_2_6, ↓tk_2_7, ↓tk_3_3, ↓tk_3_4, ↓tk_3_5, ↓tk_3_6, ↓tk_3_7, ↓tk_3_8, ↓tk_4_4, ↓tk_4_5, ↓tk_4_6, ↓tk_4_7, ↓tk_4_8, ↓tk_4_9, ↓tk_5_5, ↓tk_5_6, ↓tk_5_7, ↓tk_5_8, ↓tk_5_9, ↓tk_5_10, ↓tk_6_6, ↓tk_6_7, ↓tk_6_8, ↓tk_6_9, ↓tk_6_10, ↓tk_6_11, ↓tk_7_7, ↓tk_7_8, ↓tk_7_9, ↓tk_7_10, ↓tk_7_11, ↓tk_7_12, ↓tk_8_8, ↓tk_8_9, ↓tk_8_10, ↓tk_8_11, ↓tk_8_12, ↓tk_8_13, ↓tk_9_9, ↓tk_9_10, ↓tk_9_11, ↓tk_9_12, ↓tk_9_13, ↓tk_9_14, ↓tk_10_10, ↓tk_10_11, ↓tk_10_12, ↓tk_10_13, ↓tk_10_14, ↓tk_10_15, ↓tk_11_11, ↓tk_11_12, ↓tk_11_13, ↓tk_11_14, ↓tk_11_15, ↓tk_11_16, ↓tk_12_12, ↓tk_12_13, ↓tk_12_14, ↓tk_12_15, ↓tk_12_16, ↓tk_12_17, ↓tk_13_13, ↓tk_13_14, ↓tk_13_15, ↓tk_13_16, ↓tk_13_17, ↓tk_13_18, ↓tk_14_14, ↓tk_14_15, ↓tk_14_16, ↓tk_14_17, ↓tk_14_18, ↓tk_15_15, ↓tk_15_16, ↓tk_15_17, ↓tk_15_18, ↓tk_16_16, ↓tk_16_17, ↓tk_16_18, ↓bk_r1, ↓bk_r2, ↓bk_r3, ↓sw_t, ↓sw_f, ↓sw_n, decide_eq_true_eq, ↓reduceIte, ii_add, ii_sub, ii_mul, true_and, and_true, List.map_cons, List.map_nil, Value.category, ne_eq, gt_iff_lt, ge_iff_le, not_true_eq_false, not_false_eq_true, Bool.false_eq_true, true_or, or_true, false_or, or_false, okI_ii, ii_nat, ii_lt, ii_le, ii_inj, ii_lt0, ii_0lt, ii_0le, ii_le0, ii_eq0, Int.toNat_add, Int.toNat_natCast, Int.toNat_mul, Int.reduceToNat, Nat.zero_add, nrw_0, sI_eq, sI_ne, sI_2, sJ_1, sI_sI, sI_sw, io_111, ↓g_111_0, ↓p_111_0, ↓g_111_1, ↓g_111_2, ↓p_111_2, ↓g_111_3, ↓g_111_4, ↓p_111_4, ↓g_111_5, ↓g_111_6, ↓g_111_7, ↓g_111_8, ↓g_111_9, ↓g_111_10, ↓p_111_10, ↓g_111_11, ↓p_111_11, ↓g_111_12, ↓p_111_12, ↓g_111_13, ↓p_111_13, ↓g_111_14, ↓p_111_14, ↓g_111_15, ↓p_111_15, ↓g_111_16, ↓p_111_16, ↓g_111_17, ↓p_111_17, ↓g_111_18, ↓p_111_18, ↓g_111_19, ↓p_111_19, ↓g_111_20, ↓p_111_20, ↓g_111_21, ↓g_111_22, ↓g_111_23, ↓g_111_24, ↓g_111_25, ↓g_111_26, ↓g_111_27, ↓g_111_28, ↓g_111_29, ↓g_111_30, ↓g_111_31, ↓g_111_32, ↓g_111_33, ↓p_111_33, ↓g_111_34, ↓g_111_35, ↓g_111_36, ↓g_111_37, ↓g_111_38, ↓g_111_39, ↓p_111_39, ↓g_111_40, ↓g_111_41, ↓g_111_42, ↓g_111_43, ↓p_111_43, ↓g_111_44, ↓g_111_45, ↓g_111_46, ↓p_111_46, ↓g_111_47, ↓g_111_48, ↓g_111_49, ↓p_111_49, ↓g_111_50, ↓p_111_50, ↓g_111_51, ↓p_111_51, ↓g_111_52, ↓g_111_53, ↓g_111_54, ↓g_111_55, ↓g_111_56, ↓g_111_57, ↓p_111_57, ↓g_111_58, ↓g_111_59, ↓p_111_59, ↓g_111_60, ↓p_111_60, ↓g_111_61, ↓p_111_61, ↓g_111_62, ↓g_111_63, ↓g_111_64, ↓g_111_65, ↓g_111_66, ↓g_111_67, ↓p_111_67, ↓g_111_68, ↓g_111_69, ↓g_111_70, ↓g_111_71, ↓g_111_72, ↓b_112, ↓x_112, ↓b_113, ↓x_113, ↓b_114, ↓x_114, ↓b_115, ↓x_115, ↓b_116, ↓x_116, ↓b_117, ↓x_117, ↓b_118, ↓x_118, ↓b_119, ↓x_119, ↓b_120, ↓x_120, ↓b_121, ↓x_121, ↓b_122, ↓x_122, ↓b_123, ↓x_123, ↓b_124, ↓x_124, ↓b_125, ↓x_125, ↓b_126, ↓x_126, ↓b_127, ↓x_127, ↓b_128, ↓x_128, ↓b_129, ↓x_129, ↓b_130, ↓x_130, ↓b_131, ↓x_131, ↓b_132, ↓x_132, ↓b_133, ↓x_133, ↓b_134, ↓x_134, ↓b_135, ↓x_135, ↓b_136, ↓x_136, ↓b_137, ↓x_137, ↓b_138, ↓x_138, ↓b_139, ↓x_139, ↓b_140, ↓x_140, ↓b_141, ↓x_141, ↓b_142, ↓x_142, ↓b_143, ↓x_143, ↓b_144, ↓x_144, ↓b_145, ↓x_145, ↓b_146, ↓x_146, ↓b_147, ↓x_147, ↓b_148, ↓x_148, ↓b_149, ↓x_149, ↓b_150, ↓x_150, ↓b_151, ↓x_151, ↓b_152, ↓x_152, ↓b_153, ↓x_153, ↓b_154, ↓x_154, ↓b_155, ↓x_155, ↓b_156, ↓x_156, ↓b_157, ↓x_157, ↓b_158, ↓x_158]
theorem w_M_looksBy {g : Nat} (hT : TM L N K wd bf m) (hW : MW L N K q none m) (hg : g < K) : ∃ F, (∀ j, j < 9 → F j = vnow N K wd q g j) ∧ ∀ Q, wD D_M_looksBy [.ref 111, .int (ii g)] (hp m) Q ↔ Q none (hp (sI m 139 F)) := by
  obtain ⟨c1, c2⟩ := cho_eqM hW.2.1 hg
  obtain ⟨w1, w2, -, w4, w5⟩ := id hW
  have tN := w1.2.2.2.2.1
  have tK := w1.2.2.2.2.2.1
  have hR := w2
  obtain ⟨c55, hc⟩ := w2
  obtain ⟨d1, d2, d3, d4, d5, -, -, -, d9, -, dw⟩ := hc g hg
  obtain ⟨F, hF, q1⟩ := w_M_looks (k := ii (cnt (chq N q) (cho N q g) K)) hT hR hg c2
  have hW' : MW L N K q none (sI m 139 F) := hW.am (p := LQ) (fl := LF) ((Am.rf m).rw1 (Or.inl rfl) (by decide)) (fun _ => LQ.w) (fun _ => LF.w)
  have e5 : m.1 143 g = ii (cho N q g) := by rw [w5 g hg]; show ii (eM (chq N q g)) = _; rw [c1]; rfl
  have q2 : ∀ Q, wD D_M_choosing [.ref 111, .int (ii (cho N q g))] (hp m) Q ↔ Q (some (.int (ii (cnt (chq N q) (cho N q g) K)))) (hp m) := fun Q => w_M_choosing (p := chq N q) w1 w5 (fun g hg x hx => by have := chc_lt hR (cl := none) hg x hx; omega) (by omega) Q
  obtain ⟨w1', w2', -, w4', w5'⟩ := id hW'
  obtain ⟨-, hc'⟩ := w2'
  obtain ⟨d1', -, d3', -, -, -, -, -, -, -, dw'⟩ := hc' g hg
  have q3 := fun Q => w_M_seenBits (m := sI m 139 F) (by omega : g < 5) d1' d2 d3' d5 w1' Q
  have q4 : ∀ Q, wD D_M_greatestWant [.ref 111, .int (ii g), .int (ii (sbs N (rFace q g) (min (rSight q g) N))), .int (ii (cho N q g))] (hp (sI m 139 F)) Q ↔ Q (some (.int (ii (mxp (sbs N (rFace q g) (min (rSight q g) N)) (some (cho N q g)) (rWant q g) N)))) (hp (sI m 139 F)) := fun Q => w_M_greatestWant (but := some (cho N q g)) (by omega : g < 5) (sbs_lt (by omega) tN _) (fun r hr => (dw' r hr).1) (fun r hr => (dw r hr).2) (fun x hx => by cases hx; exact c2) w1' Q
  rw [mxp_nxt (by omega)] at q4
  refine ⟨upd F 2 (nxq N q g (rSight q g) (cho N q g)), fun j hj => ?_, fun Q => ?_⟩
  · by_cases e : j = 2
    · subst e; rfl
    · rw [upd_ne e, hF j hj]
      rcases (show j = 0 ∨ j = 1 ∨ j = 3 ∨ j = 4 ∨ j = 5 ∨ j = 6 ∨ j = 7 ∨ j = 8 by omega) with rfl | rfl | rfl | rfl | rfl | rfl | rfl | rfl <;> rfl
  · apply wD_eq
    apply wD_out
    simp (disch := omega) only [D_M_looksBy, F_M_looksBy, e5, ↓q1, ↓q2, ↓q3, ↓q4, ↓wD_run, ↓wD_mV, ↓wS_seq, ↓wS_skip, ↓wS_brk, ↓wS_cnt, ↓wS_retV, ↓wS_put, ↓wS_putZ, ↓wS_fop, ↓wS_ast, ↓wS_astL, ↓wS_aop, ↓wS_if, ↓wS_blk, ↓wS_ret, ↓wS_retZ, ↓wS_call, ↓wS_sw, ↓wS_cpy, ↓wE_kI, ↓wE_kL, ↓wE_o1, ↓wE_o2, ↓wE_oD, ↓wE_oR, ↓wE_gI, ↓wE_gR, ↓wE_aI, ↓wE_aL, ↓wE_aR, ↓wE_lnX, ↓wE_iX, ↓wE_bX, ↓wE_cAnd, ↓wE_cOr, ↓wE_cNot, ↓wE_asV, ↓wA_nil, ↓wA_cons, ↓wE_cI, ↓wE_cL, ↓wE_cR, ↓wE_chX, ↓wE_idX, ↓xI_s, ↓xL_s, ↓xF_s, ↓lI_0, ↓lL_0, ↓lR_0, ↓lI_1, ↓lL_1, ↓lR_1, ↓lI_2, ↓lL_2, ↓lR_2, ↓lI_3, ↓lL_3, ↓lR_3, ↓lI_4, ↓lL_4, ↓lR_4, ↓lI_5, ↓lL_5, ↓lR_5, ↓lI_6, ↓lL_6, ↓lR_6, ↓lI_7, ↓lL_7, ↓lR_7, ↓lI_8, ↓lL_8, ↓lR_8, ↓lI_9, ↓lL_9, ↓lR_9, ↓lI_10, ↓lL_10, ↓lR_10, ↓lI_11, ↓lL_11, ↓lR_11, ↓lI_12, ↓lL_12, ↓lR_12, ↓lI_13, ↓lL_13, ↓lR_13, ↓lI_14, ↓lL_14, ↓lR_14, ↓lI_15, ↓lL_15, ↓lR_15, ↓lI_16, ↓lL_16, ↓lR_16, ↓st_0, ↓st_1, ↓st_2, ↓st_3, ↓st_4, ↓st_5, ↓st_6, ↓st_7, ↓st_8, ↓st_9, ↓st_10, ↓st_11, ↓st_12, ↓st_13, ↓st_14, ↓st_15, ↓st_16, ↓in_0, ↓in_1, ↓in_2, ↓in_3, ↓in_4, ↓in_5, ↓in_6, ↓in_7, ↓in_8, ↓in_9, ↓in_10, ↓in_11, ↓in_12, ↓in_13, ↓in_14, ↓in_15, ↓in_16, ↓dc_0, ↓dc_1, ↓dc_2, ↓dc_3, ↓dc_4, ↓dc_5, ↓dc_6, ↓dc_7, ↓dc_8, ↓dc_9, ↓dc_10, ↓dc_11, ↓dc_12, ↓dc_13, ↓dc_14, ↓dc_15, ↓dc_16, ↓bk_0_0, ↓bk_0_1, ↓bk_0_2, ↓bk_0_3, ↓bk_0_4, ↓bk_0_5, ↓bk_1_1, ↓bk_1_2, ↓bk_1_3, ↓bk_1_4, ↓bk_1_5, ↓bk_1_6, ↓bk_2_2, ↓bk_2_3, ↓bk_2_4, ↓bk_2_5, ↓bk_2_6, ↓bk_2_7, ↓bk_3_3, ↓bk_3_4, ↓bk_3_5, ↓bk_3_6, ↓bk_3_7, ↓bk_3_8, ↓bk_4_4, ↓bk_4_5, ↓bk_4_6, ↓bk_4_7, ↓bk_4_8, ↓bk_4_9, ↓bk_5_5, ↓bk_5_6, ↓bk_5_7, ↓bk_5_8, ↓bk_5_9, ↓bk_5_10, ↓bk_6_6, ↓bk_6_7, ↓bk_6_8, ↓bk_6_9, ↓bk_6_10, ↓bk_6_11, ↓bk_7_7, ↓bk_7_8, ↓bk_7_9, ↓bk_7_10, ↓bk_7_11, ↓bk_7_12, ↓bk_8_8, ↓bk_8_9, ↓bk_8_10, ↓bk_8_11, ↓bk_8_12, ↓bk_8_13, ↓bk_9_9, ↓bk_9_10, ↓bk_9_11, ↓bk_9_12, ↓bk_9_13, ↓bk_9_14, ↓bk_10_10, ↓bk_10_11, ↓bk_10_12, ↓bk_10_13, ↓bk_10_14, ↓bk_10_15, ↓bk_11_11, ↓bk_11_12, ↓bk_11_13, ↓bk_11_14, ↓bk_11_15, ↓bk_11_16, ↓bk_12_12, ↓bk_12_13, ↓bk_12_14, ↓bk_12_15, ↓bk_12_16, ↓bk_12_17, ↓bk_13_13, ↓bk_13_14, ↓bk_13_15, ↓bk_13_16, ↓bk_13_17, ↓bk_13_18, ↓bk_14_14, ↓bk_14_15, ↓bk_14_16, ↓bk_14_17, ↓bk_14_18, ↓bk_15_15, ↓bk_15_16, ↓bk_15_17, ↓bk_15_18, ↓bk_16_16, ↓bk_16_17, ↓bk_16_18, ↓tk_0_0, ↓tk_0_1, ↓tk_0_2, ↓tk_0_3, ↓tk_0_4, ↓tk_0_5, ↓tk_1_1, ↓tk_1_2, ↓tk_1_3, ↓tk_1_4, ↓tk_1_5, ↓tk_1_6, ↓tk_2_2, ↓tk_2_3, ↓tk_2_4, ↓tk_2_5, ↓tk_2_6, ↓tk_2_7, ↓tk_3_3, ↓tk_3_4, ↓tk_3_5, ↓tk_3_6, ↓tk_3_7, ↓tk_3_8, ↓tk_4_4, ↓tk_4_5, ↓tk_4_6, ↓tk_4_7, ↓tk_4_8, ↓tk_4_9, ↓tk_5_5, ↓tk_5_6, ↓tk_5_7, ↓tk_5_8, ↓tk_5_9, ↓tk_5_10, ↓tk_6_6, ↓tk_6_7, ↓tk_6_8, ↓tk_6_9, ↓tk_6_10, ↓tk_6_11, ↓tk_7_7, ↓tk_7_8, ↓tk_7_9, ↓tk_7_10, ↓tk_7_11, ↓tk_7_12, ↓tk_8_8, ↓tk_8_9, ↓tk_8_10, ↓tk_8_11, ↓tk_8_12, ↓tk_8_13, ↓tk_9_9, ↓tk_9_10, ↓tk_9_11, ↓tk_9_12, ↓tk_9_13, ↓tk_9_14, ↓tk_10_10, ↓tk_10_11, ↓tk_10_12, ↓tk_10_13, ↓tk_10_14, ↓tk_10_15, ↓tk_11_11, ↓tk_11_12, ↓tk_11_13, ↓tk_11_14, ↓tk_11_15, ↓tk_11_16, ↓tk_12_12, ↓tk_12_13, ↓tk_12_14, ↓tk_12_15, ↓tk_12_16, ↓tk_12_17, ↓tk_13_13, ↓tk_13_14, ↓tk_13_15, ↓tk_13_16, ↓tk_13_17, ↓tk_13_18, ↓tk_14_14, ↓tk_14_15, ↓tk_14_16, ↓tk_14_17, ↓tk_14_18, ↓tk_15_15, ↓tk_15_16, ↓tk_15_17, ↓tk_15_18, ↓tk_16_16, ↓tk_16_17, ↓tk_16_18, ↓bk_r1, ↓bk_r2, ↓bk_r3, ↓sw_t, ↓sw_f, ↓sw_n, decide_eq_true_eq, ↓reduceIte, ii_add, ii_sub, ii_mul, true_and, and_true, List.map_cons, List.map_nil, Value.category, ne_eq, gt_iff_lt, ge_iff_le, not_true_eq_false, not_false_eq_true, Bool.false_eq_true, true_or, or_true, false_or, or_false, okI_ii, ii_nat, ii_lt, ii_le, ii_inj, ii_lt0, ii_0lt, ii_0le, ii_le0, ii_eq0, Int.toNat_add, Int.toNat_natCast, Int.toNat_mul, Int.reduceToNat, Nat.zero_add, nrw_0, sI_eq, sI_ne, sI_2, sJ_1, sI_sI, sI_sw, io_111, ↓g_111_0, ↓p_111_0, ↓g_111_1, ↓g_111_2, ↓p_111_2, ↓g_111_3, ↓g_111_4, ↓p_111_4, ↓g_111_5, ↓g_111_6, ↓g_111_7, ↓g_111_8, ↓g_111_9, ↓g_111_10, ↓p_111_10, ↓g_111_11, ↓p_111_11, ↓g_111_12, ↓p_111_12, ↓g_111_13, ↓p_111_13, ↓g_111_14, ↓p_111_14, ↓g_111_15, ↓p_111_15, ↓g_111_16, ↓p_111_16, ↓g_111_17, ↓p_111_17, ↓g_111_18, ↓p_111_18, ↓g_111_19, ↓p_111_19, ↓g_111_20, ↓p_111_20, ↓g_111_21, ↓g_111_22, ↓g_111_23, ↓g_111_24, ↓g_111_25, ↓g_111_26, ↓g_111_27, ↓g_111_28, ↓g_111_29, ↓g_111_30, ↓g_111_31, ↓g_111_32, ↓g_111_33, ↓p_111_33, ↓g_111_34, ↓g_111_35, ↓g_111_36, ↓g_111_37, ↓g_111_38, ↓g_111_39, ↓p_111_39, ↓g_111_40, ↓g_111_41, ↓g_111_42, ↓g_111_43, ↓p_111_43, ↓g_111_44, ↓g_111_45, ↓g_111_46, ↓p_111_46, ↓g_111_47, ↓g_111_48, ↓g_111_49, ↓p_111_49, ↓g_111_50, ↓p_111_50, ↓g_111_51, ↓p_111_51, ↓g_111_52, ↓g_111_53, ↓g_111_54, ↓g_111_55, ↓g_111_56, ↓g_111_57, ↓p_111_57, ↓g_111_58, ↓g_111_59, ↓p_111_59, ↓g_111_60, ↓p_111_60, ↓g_111_61, ↓p_111_61, ↓g_111_62, ↓g_111_63, ↓g_111_64, ↓g_111_65, ↓g_111_66, ↓g_111_67, ↓p_111_67, ↓g_111_68, ↓g_111_69, ↓g_111_70, ↓g_111_71, ↓g_111_72, ↓b_112, ↓x_112, ↓b_113, ↓x_113, ↓b_114, ↓x_114, ↓b_115, ↓x_115, ↓b_116, ↓x_116, ↓b_117, ↓x_117, ↓b_118, ↓x_118, ↓b_119, ↓x_119, ↓b_120, ↓x_120, ↓b_121, ↓x_121, ↓b_122, ↓x_122, ↓b_123, ↓x_123, ↓b_124, ↓x_124, ↓b_125, ↓x_125, ↓b_126, ↓x_126, ↓b_127, ↓x_127, ↓b_128, ↓x_128, ↓b_129, ↓x_129, ↓b_130, ↓x_130, ↓b_131, ↓x_131, ↓b_132, ↓x_132, ↓b_133, ↓x_133, ↓b_134, ↓x_134, ↓b_135, ↓x_135, ↓b_136, ↓x_136, ↓b_137, ↓x_137, ↓b_138, ↓x_138, ↓b_139, ↓x_139, ↓b_140, ↓x_140, ↓b_141, ↓x_141, ↓b_142, ↓x_142, ↓b_143, ↓x_143, ↓b_144, ↓x_144, ↓b_145, ↓x_145, ↓b_146, ↓x_146, ↓b_147, ↓x_147, ↓b_148, ↓x_148, ↓b_149, ↓x_149, ↓b_150, ↓x_150, ↓b_151, ↓x_151, ↓b_152, ↓x_152, ↓b_153, ↓x_153, ↓b_154, ↓x_154, ↓b_155, ↓x_155, ↓b_156, ↓x_156, ↓b_157, ↓x_157, ↓b_158, ↓x_158]
    rfl
end TMM
