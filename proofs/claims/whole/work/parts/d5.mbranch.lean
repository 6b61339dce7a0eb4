/-! The reference's laws: a branch. -/
def BrC (L : Nat) (b : Br) (k a : Nat) (m : Mem) : Prop := ∃ a1 a2 a3 : Nat, (420 * L ≤ a1 ∧ 420 * L ≤ a3) ∧ m.1 134 k = ii a3 ∧ m.1 135 k = ii ((a3 + b.2.length : Nat) : Int) ∧ TmM b.2 a3 m ∧ a3 + b.2.length ≤ a ∧ match b.1 with
  | none => m.1 131 k = 0
  | some c => m.1 131 k = 1 ∧ m.1 132 k = ii a1 ∧ m.1 133 k = ii a2 ∧ a2 = a1 + c.1.length ∧ a3 = a2 + c.2.length ∧ TmM c.1 a1 m ∧ TmM c.2 a2 m
def LawC (L : Nat) (bs : List Br) (b0 a : Nat) (m : Mem) : Prop := ∀ i, i < bs.length → BrC L (bs.getD i (none, [])) (b0 + i) a m
section RBR
variable {m m1 m2 μ : Mem} {n L a b t w k a0 b0 law : Nat} {c : Nat → Int} {E : RXs} {G : LRs} {bs : List Br}
theorem TmO.up {ds : Tm} (h : TmO 30 ds) : TmO 400 ds := ⟨hkl_mono (by omega) h.1, h.2⟩
theorem BrC.mm {b : Br} (h : BrC L b k a m) (hO : BrO b) : BrM b k m := by
  obtain ⟨a1, a2, a3, x0, x1, x2, x3, x4, x5⟩ := h
  obtain ⟨o, t⟩ := b
  cases o with
  | none =>
    obtain ⟨y1, e1⟩ := ii_sur (m.1 132 k)
    obtain ⟨y2, e2⟩ := ii_sur (m.1 133 k)
    exact ⟨y1, y2, a3, _, e1, e2, x1, x2, rfl, x3, hO.1.up, x5⟩
  | some cc =>
    obtain ⟨z1, z2, z3, z4, z5, z6, z7⟩ := x5
    have := hO.2 cc rfl
    exact ⟨a1, a2, a3, _, z2, z3, x1, x2, rfl, x3, hO.1.up, z1, z4, z5, z6, z7, this.1.up, this.2.up⟩
theorem TmM.l {ds : Tm} {a1 b1 : Nat} (h : TmM ds a1 m) (hx : LFx L a b1 m μ) (hb : a1 + ds.length ≤ a) : TmM ds a1 μ := ⟨h.1, fun i hi => by rw [(hx.2.2.2.1 (a1 + i) (by omega)).1, (hx.2.2.2.1 (a1 + i) (by omega)).2]; exact h.2 i hi⟩
theorem BrC.l {b : Br} {a2 b2 L' : Nat} (h : BrC L' b k a m) (hx : LFx L a2 b2 m μ) (hk : k < b2) (ha : a ≤ a2) : BrC L' b k a μ := by
  obtain ⟨a1, a2', a3, x0, x1, x2, x3, x4, x5⟩ := h
  have e : ∀ r, 131 ≤ r → r ≤ 135 → μ.1 r k = m.1 r k := fun r h1 h2 => hx.2.2.2.2 r h1 h2 k (Or.inl hk)
  refine ⟨a1, a2', a3, x0, (e 134 (by decide) (by decide)).trans x1, (e 135 (by decide) (by decide)).trans x2, x3.l hx (by omega), x4, ?_⟩
  obtain ⟨o, t⟩ := b
  cases o with
  | none => exact (e 131 (by decide) (by decide)).trans x5
  | some cc =>
    obtain ⟨z1, z2, z3, z4, z5, z6, z7⟩ := x5
    dsimp only at z4 z5 x4
    exact ⟨(e 131 (by decide) (by decide)).trans z1, (e 132 (by decide) (by decide)).trans z2, (e 133 (by decide) (by decide)).trans z3, z4, z5, z6.l hx (by omega), z7.l hx (by omega)⟩
theorem BrC.up {b : Br} {a2 : Nat} (h : BrC L b k a m) (ha : a ≤ a2) : BrC L b k a2 m := by
  obtain ⟨a1, a2', a3, x0, x1, x2, x3, x4, x5⟩ := h
  exact ⟨a1, a2', a3, x0, x1, x2, x3, by omega, x5⟩
theorem LawC.app {bs : List Br} {b : Br} (h : LawC L bs b0 a m) (hb : BrC L b (b0 + bs.length) a m) : LawC L (bs ++ [b]) b0 a m := fun i hi => by
  rw [List.length_append] at hi
  have hi : i < bs.length + 1 := hi
  by_cases d : i = bs.length
  · subst d
    simp only [List.getD_eq_getElem?_getD, List.getElem?_append_right (Nat.le_refl _), Nat.sub_self, List.getElem?_cons_zero, Option.getD_some]
    exact hb
  · have := h i (by omega)
    simp only [List.getD_eq_getElem?_getD] at this ⊢
    rw [List.getElem?_append_left (by omega)]
    exact this
theorem RLX.go (h : RSX c n L a t m) (hw : tkd c n t = w) (hw2 : w ≤ 30) : ∃ μ, TFx m μ ∧ RLX c n L (rxT (tkd c n) w (.ok (t, a))) μ ∧ ∀ Q, wD D_M_goesOn [.ref 111] (hp m) Q ↔ Q none (hp μ) := by
  obtain ⟨hK, h12, h39, h1, h2⟩ := h
  obtain ⟨μ, A, P, q⟩ := w_goesG hK (by omega)
  rw [hw] at P
  refine ⟨μ, A, ?_, q⟩
  show RLX c n L ((adv (tkd c n) w t).bind fun x => .ok (x, a)) μ
  cases e : adv (tkd c n) w t with
  | error x => rw [e] at P; exact P
  | ok x =>
    rw [e] at P
    obtain ⟨_, _, rfl⟩ := adv_ok e
    exact ⟨P, by rw [A.2.2 12 (by decide) (by decide) (by decide)]; exact h12, by rw [A.2.2 39 (by decide) (by decide) (by decide)]; exact h39, h1, by dsimp only; omega⟩
theorem rx_le {a : Nat} : ∀ b, rxT (tkd c n) w E = .ok b → (∀ b, E = .ok b → a ≤ b.2) → a ≤ b.2 := fun b h hE => by
  obtain ⟨x, hx, h⟩ := exb_ok h
  obtain ⟨y, hy, h⟩ := exb_ok h
  cases h
  exact hE x hx
theorem rs_le {S : Nat → PRs} {a : Nat} : ∀ b, rxS S E = .ok b → (∀ b, E = .ok b → a ≤ b.2) → a ≤ b.2 := fun b h hE => by
  obtain ⟨x, hx, h⟩ := exb_ok h
  obtain ⟨y, hy, h⟩ := exb_ok h
  cases h
  have := hE x hx
  dsimp only
  omega
/-- a branch -/
theorem w_tlaw1 (hL : L ≤ 1) {j : Nat} (hj : j < 4) {x y : Int32} (h : RSX c n L a t m) (hk8 : tkd c n t = 8) (h33 : m.1 111 33 = ii k) (hk : 130 * L ≤ k) (hk2 : k < 130 * L + 130) : ∃ μ, LFx L a k m μ ∧ μ.1 111 33 = ii ((k + 1 : Nat) : Int) ∧ (match pIf1 (tkd c n) (pS0 c n) t with
    | .error e => MFX c n e.1 e.2 μ
    | .ok y => RSX c n L (a + y.2.1.length + y.2.2.1.length + y.2.2.2.length) y.1 μ ∧ BrC L (some (y.2.1, y.2.2.1), y.2.2.2) k (a + y.2.1.length + y.2.2.1.length + y.2.2.2.length) μ) ∧ ∀ Q : Rs → Ev → Hp → Prop, Q (0, none) [.ref 111, .int x, .int y, .int (ii ((j + 1 : Nat) : Int))] (hp μ) → wS Lb_M_tellLaw_1 [.ref 111, .int x, .int y, .int (ii j)] (hp m) Q := by
  have h13 := h.1.1
  obtain ⟨m1, T1, R1, q1⟩ := RLX.go h hk8 (by decide)
  obtain ⟨m3, e3⟩ : ∃ m3, m3 = sI (sI m1 131 (upd (m1.1 131) k (ii 1))) 132 (upd (m1.1 132) k (m1.1 111 39)) := ⟨_, rfl⟩
  have R3 : RLX c n L (rxT (tkd c n) 8 (.ok (t, a))) m3 := by
    rw [e3]
    exact (R1.cell (r := 131) (by decide) (by decide)).cell (r := 132) (by decide) (by decide)
  have F3 : LFx L a k m1 m3 := by
    have f1 := LFx_cell (L := L) (a := a) (m := m1) (r := 131) (x := ii 1) (by decide) (by decide) (Nat.le_refl k) hk2
    have f2 := LFx_cell (L := L) (a := a) (m := sI m1 131 (upd (m1.1 131) k (ii 1))) (r := 132) (x := m1.1 111 39) (by decide) (by decide) (Nat.le_refl k) hk2
    rw [sI_ne (by decide)] at f2
    rw [e3]
    exact f1.tr f2
  have l0 : ∀ b : Nat × Nat, (Except.ok (t, a) : RXs) = .ok b → a ≤ b.2 := fun b h => by cases h; exact Nat.le_refl _
  obtain ⟨m4, X4, R4, T4, q4⟩ := RLX.x (a0 := a) hL R3 (fun b hb => rx_le b hb l0)
  obtain ⟨m5, T5, R5, q5⟩ := R4.tk (w := 28) (by decide)
  obtain ⟨m6, e6⟩ : ∃ m6, m6 = sI m5 133 (upd (m5.1 133) k (m5.1 111 39)) := ⟨_, rfl⟩
  have R6 := R5.cell (r := 133) (f := upd (m5.1 133) k (m5.1 111 39)) (by decide) (by decide)
  rw [← e6] at R6
  have F6 : LFx L a k m5 m6 := by rw [e6]; exact LFx_cell (by decide) (by decide) (Nat.le_refl k) hk2
  have l6 := fun b hb => rx_le (E := rxS (pS0 c n) (rxT (tkd c n) 8 (.ok (t, a)))) (c := c) (n := n) (w := 28) b hb (fun b hb => rs_le b hb (fun b hb => rx_le b hb l0))
  obtain ⟨m7, X7, R7, T7, q7⟩ := RLX.g (a0 := a) hL R6 l6
  obtain ⟨m8, T8, R8, q8⟩ := R7.tk (w := 9) (by decide)
  have s1 : m1.1 111 33 = ii k := by rw [T1.2.2 33 (by decide) (by decide) (by decide)]; exact h33
  have s3 : m3.1 111 33 = ii k := by rw [e3, sI_ne (by decide), sI_ne (by decide)]; exact s1
  have s5 : m5.1 111 33 = ii k := by rw [T5.2.2 33 (by decide) (by decide) (by decide), X4.2.2.1 33 (by decide) (by decide) (by decide) (by decide) (by decide) (by decide)]; exact s3
  have s8 : m8.1 111 33 = ii k := by rw [T8.2.2 33 (by decide) (by decide) (by decide), X7.2.2.1 33 (by decide) (by decide) (by decide) (by decide) (by decide) (by decide), e6, sI_ne (by decide)]; exact s5
  have l8 := fun b hb => rx_le (c := c) (n := n) (w := 9) (E := rxS (pS0 c n) (rxT (tkd c n) 28 (rxS (pS0 c n) (rxT (tkd c n) 8 (.ok (t, a)))))) b hb (fun b hb => rs_le b hb l6)
  obtain ⟨m9, F9, R9, s9, r9, T9, q9⟩ := w_term (a0 := a) hL R8 l8 s8 hk hk2
  obtain ⟨m10, T10, R10, q10⟩ := R9.tk (w := 10) (by decide)
  refine ⟨m10, T1.l.tr (F3.tr (X4.l.tr (T5.l.tr (F6.tr (X7.l.tr (T8.l.tr (F9.tr T10.l))))))), by rw [T10.2.2 33 (by decide) (by decide) (by decide)]; exact s9, ?_, fun Q g => ?_⟩
  · have ec : rxT (tkd c n) 10 (rxS (pS0 c n) (rxT (tkd c n) 9 (rxS (pS0 c n) (rxT (tkd c n) 28 (rxS (pS0 c n) (rxT (tkd c n) 8 (.ok (t, a)))))))) = (pIf1 (tkd c n) (pS0 c n) t).bind fun y => .ok (y.1, a + y.2.1.length + y.2.2.1.length + y.2.2.2.length) := by
      unfold rxT rxS pIf1
      simp only [exb_as, exb_k]
    rw [ec] at R10
    cases ep : pIf1 (tkd c n) (pS0 c n) t with
    | error z => rw [ep] at R10; exact R10
    | ok z =>
      rw [ep] at R10
      refine ⟨R10, ?_⟩
      unfold pIf1 at ep
      obtain ⟨a1, b1, ep⟩ := exb_ok ep
      obtain ⟨a2, b2, ep⟩ := exb_ok ep
      obtain ⟨a3, b3, ep⟩ := exb_ok ep
      obtain ⟨a4, b4, ep⟩ := exb_ok ep
      obtain ⟨a5, b5, ep⟩ := exb_ok ep
      obtain ⟨a6, b6, ep⟩ := exb_ok ep
      obtain ⟨a7, b7, ep⟩ := exb_ok ep
      cases ep
      have E1 : rxT (tkd c n) 8 (.ok (t, a)) = .ok (a1, a) := by unfold rxT; simp only [exb_k, b1]
      have E2 : rxS (pS0 c n) (rxT (tkd c n) 8 (.ok (t, a))) = .ok (a2.1, a + a2.2.length) := by unfold rxS; simp only [E1, exb_k, b2]
      have E3 : rxT (tkd c n) 28 (rxS (pS0 c n) (rxT (tkd c n) 8 (.ok (t, a)))) = .ok (a3, a + a2.2.length) := by rw [E2]; unfold rxT; simp only [exb_k, b3]
      have E4 : rxS (pS0 c n) (rxT (tkd c n) 28 (rxS (pS0 c n) (rxT (tkd c n) 8 (.ok (t, a))))) = .ok (a4.1, a + a2.2.length + a4.2.length) := by rw [E3]; unfold rxS; simp only [exb_k, b4]
      have E5 : rxT (tkd c n) 9 (rxS (pS0 c n) (rxT (tkd c n) 28 (rxS (pS0 c n) (rxT (tkd c n) 8 (.ok (t, a)))))) = .ok (a5, a + a2.2.length + a4.2.length) := by rw [E4]; unfold rxT; simp only [exb_k, b5]
      obtain ⟨t4, x4⟩ := T4 _ _ E1 b2
      obtain ⟨t7, x7⟩ := T7 _ _ E3 b4
      obtain ⟨u1, u2, t9, f9⟩ := T9 _ _ E5 b6
      rw [E2] at R4
      rw [E3] at R5
      dsimp only at t4 x4 t7 x7 u1 u2 t9 f9 ⊢
      have v1 : m1.1 111 39 = ii a := by rw [T1.2.2 39 (by decide) (by decide) (by decide)]; exact h.2.2.1
      have v5 : m5.1 111 39 = ii ((a + a2.2.length : Nat) : Int) := R5.2.2.1
      have c10 : ∀ r, 131 ≤ r → r ≤ 135 → m10.1 r k = m9.1 r k := fun r h1 h2 => by rw [T10.2.1 r (by omega)]
      have c8 : ∀ r, 131 ≤ r → r ≤ 133 → m9.1 r k = m6.1 r k := fun r h1 h2 => by rw [r9 r h1 h2, T8.2.1 r (by omega), X7.2.1 r (by omega) (by omega) (by omega) (by omega)]
      have c5 : ∀ r, 131 ≤ r → r ≤ 133 → m5.1 r k = m3.1 r k := fun r h1 h2 => by rw [T5.2.1 r (by omega), X4.2.1 r (by omega) (by omega) (by omega) (by omega)]
      have hLa := h.2.2.2.1
      refine ⟨a, a + a2.2.length, a + a2.2.length + a4.2.length, ⟨hLa, by omega⟩, (c10 134 (by decide) (by decide)).trans u1, (c10 135 (by decide) (by decide)).trans u2, t9.l (T10.l (L := L) (a := a + a2.2.length + a4.2.length + a6.2.length) (b := k)) (Nat.le_refl _), Nat.le_refl _, ?_, ?_, ?_, rfl, rfl, ?_, ?_⟩
      · rw [c10 131 (by decide) (by decide), c8 131 (by decide) (by decide), e6, sI_ne (by decide), c5 131 (by decide) (by decide), e3, sI_ne (by decide), sI_eq, upd_eq]; rfl
      · rw [c10 132 (by decide) (by decide), c8 132 (by decide) (by decide), e6, sI_ne (by decide), c5 132 (by decide) (by decide), e3, sI_eq, upd_eq]; exact v1
      · rw [c10 133 (by decide) (by decide), c8 133 (by decide) (by decide), e6, sI_eq, upd_eq]; exact v5
      · have w1 := (t4.l (T5.l (L := L) (a := a + a2.2.length) (b := k)) (Nat.le_refl _))
        have F6' : LFx L (a + a2.2.length) k m5 m6 := by rw [e6]; exact LFx_cell (by decide) (by decide) (Nat.le_refl k) hk2
        exact ((((w1.l F6' (Nat.le_refl _)).x x7 (Nat.le_refl _)).l (T8.l (L := L) (a := a + a2.2.length) (b := k)) (Nat.le_refl _)).l f9 (by omega)).l (T10.l (L := L) (a := a + a2.2.length) (b := k)) (Nat.le_refl _)
      · exact ((t7.l (T8.l (L := L) (a := a + a2.2.length + a4.2.length) (b := k)) (Nat.le_refl _)).l f9 (Nat.le_refl _)).l (T10.l (L := L) (a := a + a2.2.length + a4.2.length) (b := k)) (Nat.le_refl _)
  · have q5 : ∀ Q, wD D_M_must [.ref 111, .int (ii 13)] (hp m4) Q ↔ Q none (hp m5) := q5
    have q8 : ∀ Q, wD D_M_must [.ref 111, .int (ii 29)] (hp m7) Q ↔ Q none (hp m8) := q8
    have q10 : ∀ Q, wD D_M_must [.ref 111, .int (ii 30)] (hp m9) Q ↔ Q none (hp m10) := q10
    have b1 : ¬ ((j : Int) = 4) := by omega
    have l1 : (j : Int) + 1 = ((j + 1 : Nat) : Int) := by omega
    have n31 : nrw 3 (ii 1) = ii 1 := by decide
    have e3' := e3.symm
    have e6' := e6.symm
    rcases q7 with ⟨g13, q7⟩ | ⟨f, f1, f2, g13, rfl⟩
    · simp (disch := omega) only [Lb_M_tellLaw_1, b1, h13, ↓q1, l1, s1, n31, e3', ↓q4, ↓q5, s5, e6', g13, ↓q7, ↓q8, ↓q9, ↓q10, Nat.reduceEqDiff, Int.reduceEq, Int.reduceLT, Int.reduceLE, Int.reduceNeg, List.length_cons, List.length_nil, ↓wD_run, ↓wD_mV, ↓wS_seq, ↓wS_skip, ↓wS_brk, ↓wS_cnt, ↓wS_retV, ↓wS_put, ↓wS_putZ, ↓wS_fop, ↓wS_ast, ↓wS_astL, ↓wS_aop, ↓wS_if, ↓wS_blk, ↓wS_ret, ↓wS_retZ, ↓wS_call, ↓wS_sw, ↓wS_cpy, ↓wE_kI, ↓wE_kL, ↓wE_o1, ↓wE_o2, ↓wE_oD, ↓wE_oR, ↓wE_gI, ↓wE_gR, ↓wE_aI, ↓wE_aL, ↓wE_aR, ↓wE_lnX, ↓wE_iX, ↓wE_bX, ↓wE_cAnd, ↓wE_cOr, ↓wE_cNot, ↓wE_asV, ↓wA_nil, ↓wA_cons, ↓wE_cI, ↓wE_cL, ↓wE_cR, ↓wE_chX, ↓wE_idX, ↓xI_s, ↓xL_s, ↓xF_s, ↓lI_0, ↓lL_0, ↓lR_0, ↓lI_1, ↓lL_1, ↓lR_1, ↓lI_2, ↓lL_2, ↓lR_2, ↓lI_3, ↓lL_3, ↓lR_3, ↓lI_4, ↓lL_4, ↓lR_4, ↓lI_5, ↓lL_5, ↓lR_5, ↓lI_6, ↓lL_6, ↓lR_6, ↓lI_7, ↓lL_7, ↓lR_7, ↓lI_8, ↓lL_8, ↓lR_8, ↓lI_9, ↓lL_9, ↓lR_9, ↓lI_10, ↓lL_10, ↓lR_10, ↓lI_11, ↓lL_11, ↓lR_11, ↓lI_12, ↓lL_12, ↓lR_12, ↓lI_13, ↓lL_13, ↓lR_13, ↓lI_14, ↓lL_14, ↓lR_14, ↓lI_15, ↓lL_15, ↓lR_15, ↓lI_16, ↓lL_16, ↓lR_16, ↓st_0, ↓st_1, ↓st_2, ↓st_3, ↓st_4, ↓st_5, ↓st_6, ↓st_7, ↓st_8, ↓st_9, ↓st_10, ↓st_11, ↓st_12, ↓st_13, ↓st_14, ↓st_15, ↓st_16, ↓in_0, ↓in_1, ↓in_2, ↓in_3, ↓in_4, ↓in_5, ↓in_6, ↓in_7, ↓in_8, ↓in_9, ↓in_10, ↓in_11, ↓in_12, ↓in_13, ↓in_14, ↓in_15, ↓in_16, ↓dc_0, ↓dc_1, ↓dc_2, ↓dc_3, ↓dc_4, ↓dc_5, ↓dc_6, ↓dc_7, ↓dc_8, ↓dc_9, ↓dc_10, ↓dc_11, ↓dc_12, ↓dc_13, ↓dc_14, ↓dc_15, ↓dc_16, ↓bk_0_0, ↓bk_0_1, ↓bk_0_2, ↓bk_0_3, ↓bk_0_4, ↓bk_0_5, ↓bk_1_1, ↓bk_1_2, ↓bk_1_3, ↓bk_1_4, ↓bk_1_5, ↓bk_1_6, ↓bk_2_2, ↓bk_2_3, ↓bk_2_4, ↓bk_2_5, ↓bk_2_6, ↓bk_2_7, ↓bk_3_3, ↓bk_3_4, ↓bk_3_5, ↓bk_3_6, ↓bk_3_7, ↓bk_3_8, ↓bk_4_4, ↓bk_4_5, ↓bk_4_6, ↓bk_4_7, ↓bk_4_8, ↓bk_4_9, ↓bk_5_5, ↓bk_5_6, ↓bk_5_7, ↓bk_5_8, ↓bk_5_9, ↓bk_5_10, ↓bk_6_6, ↓bk_6_7, ↓bk_6_8, ↓bk_6_9, ↓bk_6_10, ↓bk_6_11, ↓bk_7_7, ↓bk_7_8, ↓bk_7_9, ↓bk_7_10, ↓bk_7_11, ↓bk_7_12, ↓bk_8_8, ↓bk_8_9, ↓bk_8_10, ↓bk_8_11, ↓bk_8_12, ↓bk_8_13, ↓bk_9_9, ↓bk_9_10, ↓bk_9_11, ↓bk_9_12, ↓bk_9_13, ↓bk_9_14, ↓bk_10_10, ↓bk_10_11, ↓bk_10_12, ↓bk_10_13, ↓bk_10_14, ↓bk_10_15, ↓bk_11_11, ↓bk_11_12, ↓bk_11_13, ↓bk_11_14, ↓bk_11_15, ↓bk_11_16, ↓bk_12_12, ↓bk_12_13, ↓bk_12_14, ↓bk_12_15, ↓bk_12_16, ↓bk_12_17, ↓bk_13_13, ↓bk_13_14, ↓bk_13_15, ↓bk_13_16, ↓bk_13_17, ↓bk_13_18, ↓bk_14_14, ↓bk_14_15, ↓bk_14_16, ↓bk_14_17, ↓bk_14_18, ↓bk_15_15, ↓bk_15_16, ↓bk_15_17, ↓bk_15_18, ↓bk_16_16, ↓bk_16_17, ↓bk_16_18, ↓tk_0_0, ↓tk_0_1, ↓tk_0_2, ↓tk_0_3, ↓tk_0_4, ↓tk_0_5, ↓tk_1_1, ↓tk_1_2, ↓tk_1_3, ↓tk_1_4, ↓tk_1_5, ↓tk_1_6, ↓tk_2_2, ↓tk_2_3, ↓tk_2_4, ↓tk_2_5, ↓tk_2_6, ↓tk_2_7, ↓tk_3_3, ↓tk_3_4, ↓tk_3_5, ↓tk_3_6, ↓tk_3_7, ↓tk_3_8, ↓tk_4_4, ↓tk_4_5, ↓tk_4_6, ↓tk_4_7, ↓tk_4_8, ↓tk_4_9, ↓tk_5_5, ↓tk_5_6, ↓tk_5_7, ↓tk_5_8, ↓tk_5_9, ↓tk_5_10, ↓tk_6_6, ↓tk_6_7, ↓tk_6_8, ↓tk_6_9, ↓tk_6_10, ↓tk_6_11, ↓tk_7_7, ↓tk_7_8, ↓tk_7_9, ↓tk_7_10, ↓tk_7_11, ↓tk_7_12, ↓tk_8_8, ↓tk_8_9, ↓tk_8_10, ↓tk_8_11, ↓tk_8_12, ↓tk_8_13, ↓tk_9_9, ↓tk_9_10, ↓tk_9_11, ↓tk_9_12, ↓tk_9_13, ↓tk_9_14, ↓tk_10_10, ↓tk_10_11, ↓tk_10_12, ↓tk_10_13, ↓tk_10_14, ↓tk_10_15, ↓tk_11_11, ↓tk_11_12, ↓tk_11_13, ↓tk_11_14, ↓tk_11_15, ↓tk_11_16, ↓tk_12_12, ↓tk_12_13, ↓tk_12_14, ↓tk_12_15, ↓tk_12_16, ↓tk_12_17, ↓tk_13_13, ↓tk_13_14, ↓tk_13_15, ↓tk_13_16, ↓tk_13_17, ↓tk_13_18, ↓tk_14_14, ↓tk_14_15, ↓tk_14_16, ↓tk_14_17, ↓tk_14_18, ↓tk_15_15, ↓tk_15_16, ↓tk_15_17, ↓tk_15_18, ↓tk_16_16, ↓tk_16_17, ↓tk_16_18, ↓bk_r1, ↓bk_r2, ↓bk_r3, ↓sw_t, ↓sw_f, ↓sw_n, decide_eq_true_eq, ↓reduceIte, ii_add, ii_sub, ii_mul, true_and, and_true, List.map_cons, List.map_nil, Value.category, ne_eq, gt_iff_lt, ge_iff_le, not_true_eq_false, not_false_eq_true, Bool.false_eq_true, true_or, or_true, false_or, or_false, okI_ii, ii_nat, ii_lt, ii_le, ii_inj, ii_lt0, ii_0lt, ii_0le, ii_le0, ii_eq0, Int.toNat_add, Int.toNat_natCast, Int.toNat_mul, Int.reduceToNat, Nat.zero_add, nrw_0, sI_eq, sI_ne, sI_2, sJ_1, sI_sI, sI_sw, io_111, ↓g_111_0, ↓p_111_0, ↓g_111_1, ↓g_111_2, ↓p_111_2, ↓g_111_3, ↓g_111_4, ↓p_111_4, ↓g_111_5, ↓g_111_6, ↓g_111_7, ↓g_111_8, ↓g_111_9, ↓g_111_10, ↓p_111_10, ↓g_111_11, ↓p_111_11, ↓g_111_12, ↓p_111_12, ↓g_111_13, ↓p_111_13, ↓g_111_14, ↓p_111_14, ↓g_111_15, ↓p_111_15, ↓g_111_16, ↓p_111_16, ↓g_111_17, ↓p_111_17, ↓g_111_18, ↓p_111_18, ↓g_111_19, ↓p_111_19, ↓g_111_20, ↓p_111_20, ↓g_111_21, ↓g_111_22, ↓g_111_23, ↓g_111_24, ↓g_111_25, ↓g_111_26, ↓g_111_27, ↓g_111_28, ↓g_111_29, ↓g_111_30, ↓g_111_31, ↓g_111_32, ↓g_111_33, ↓p_111_33, ↓g_111_34, ↓g_111_35, ↓g_111_36, ↓g_111_37, ↓g_111_38, ↓g_111_39, ↓p_111_39, ↓g_111_40, ↓g_111_41, ↓g_111_42, ↓g_111_43, ↓p_111_43, ↓g_111_44, ↓g_111_45, ↓g_111_46, ↓p_111_46, ↓g_111_47, ↓g_111_48, ↓g_111_49, ↓p_111_49, ↓g_111_50, ↓p_111_50, ↓g_111_51, ↓p_111_51, ↓g_111_52, ↓g_111_53, ↓g_111_54, ↓g_111_55, ↓g_111_56, ↓g_111_57, ↓p_111_57, ↓g_111_58, ↓g_111_59, ↓p_111_59, ↓g_111_60, ↓p_111_60, ↓g_111_61, ↓p_111_61, ↓g_111_62, ↓g_111_63, ↓g_111_64, ↓g_111_65, ↓g_111_66, ↓g_111_67, ↓p_111_67, ↓g_111_68, ↓g_111_69, ↓g_111_70, ↓g_111_71, ↓g_111_72, ↓b_112, ↓x_112, ↓b_113, ↓x_113, ↓b_114, ↓x_114, ↓b_115, ↓x_115, ↓b_116, ↓x_116, ↓b_117, ↓x_117, ↓b_118, ↓x_118, ↓b_119, ↓x_119, ↓b_120, ↓x_120, ↓b_121, ↓x_121, ↓b_122, ↓x_122, ↓b_123, ↓x_123, ↓b_124, ↓x_124, ↓b_125, ↓x_125, ↓b_126, ↓x_126, ↓b_127, ↓x_127, ↓b_128, ↓x_128, ↓b_129, ↓x_129, ↓b_130, ↓x_130, ↓b_131, ↓x_131, ↓b_132, ↓x_132, ↓b_133, ↓x_133, ↓b_134, ↓x_134, ↓b_135, ↓x_135, ↓b_136, ↓x_136, ↓b_137, ↓x_137, ↓b_138, ↓x_138, ↓b_139, ↓x_139, ↓b_140, ↓x_140, ↓b_141, ↓x_141, ↓b_142, ↓x_142, ↓b_143, ↓x_143, ↓b_144, ↓x_144, ↓b_145, ↓x_145, ↓b_146, ↓x_146, ↓b_147, ↓x_147, ↓b_148, ↓x_148, ↓b_149, ↓x_149, ↓b_150, ↓x_150, ↓b_151, ↓x_151, ↓b_152, ↓x_152, ↓b_153, ↓x_153, ↓b_154, ↓x_154, ↓b_155, ↓x_155, ↓b_156, ↓x_156, ↓b_157, ↓x_157, ↓b_158, ↓x_158]
      exact g
    · have c1 : ¬ ((f : Int) = 0) := by omega
      simp (disch := omega) only [Lb_M_tellLaw_1, b1, h13, ↓q1, l1, s1, n31, e3', ↓q4, ↓q5, s5, e6', g13, c1, ↓q8, ↓q9, ↓q10, Nat.reduceEqDiff, Int.reduceEq, Int.reduceLT, Int.reduceLE, Int.reduceNeg, List.length_cons, List.length_nil, ↓wD_run, ↓wD_mV, ↓wS_seq, ↓wS_skip, ↓wS_brk, ↓wS_cnt, ↓wS_retV, ↓wS_put, ↓wS_putZ, ↓wS_fop, ↓wS_ast, ↓wS_astL, ↓wS_aop, ↓wS_if, ↓wS_blk, ↓wS_ret, ↓wS_retZ, ↓wS_call, ↓wS_sw, ↓wS_cpy, ↓wE_kI, ↓wE_kL, ↓wE_o1, ↓wE_o2, ↓wE_oD, ↓wE_oR, ↓wE_gI, ↓wE_gR, ↓wE_aI, ↓wE_aL, ↓wE_aR, ↓wE_lnX, ↓wE_iX, ↓wE_bX, ↓wE_cAnd, ↓wE_cOr, ↓wE_cNot, ↓wE_asV, ↓wA_nil, ↓wA_cons, ↓wE_cI, ↓wE_cL, ↓wE_cR, ↓wE_chX, ↓wE_idX, ↓xI_s, ↓xL_s, ↓xF_s, ↓lI_0, ↓lL_0, ↓lR_0, ↓lI_1, ↓lL_1, ↓lR_1, ↓lI_2, ↓lL_2, ↓lR_2, ↓lI_3, ↓lL_3, ↓lR_3, ↓lI_4, ↓lL_4, ↓lR_4, ↓lI_5, ↓lL_5, ↓lR_5, ↓lI_6, ↓lL_6, ↓lR_6, ↓lI_7, ↓lL_7, ↓lR_7, ↓lI_8, ↓lL_8, ↓lR_8, ↓lI_9, ↓lL_9, ↓lR_9, ↓lI_10, ↓lL_10, ↓lR_10, ↓lI_11, ↓lL_11, ↓lR_11, ↓lI_12, ↓lL_12, ↓lR_12, ↓lI_13, ↓lL_13, ↓lR_13, ↓lI_14, ↓lL_14, ↓lR_14, ↓lI_15, ↓lL_15, ↓lR_15, ↓lI_16, ↓lL_16, ↓lR_16, ↓st_0, ↓st_1, ↓st_2, ↓st_3, ↓st_4, ↓st_5, ↓st_6, ↓st_7, ↓st_8, ↓st_9, ↓st_10, ↓st_11, ↓st_12, ↓st_13, ↓st_14, ↓st_15, ↓st_16, ↓in_0, ↓in_1, ↓in_2, ↓in_3, ↓in_4, ↓in_5, ↓in_6, ↓in_7, ↓in_8, ↓in_9, ↓in_10, ↓in_11, ↓in_12, ↓in_13, ↓in_14, ↓in_15, ↓in_16, ↓dc_0, ↓dc_1, ↓dc_2, ↓dc_3, ↓dc_4, ↓dc_5, ↓dc_6, ↓dc_7, ↓dc_8, ↓dc_9, ↓dc_10, ↓dc_11, ↓dc_12, ↓dc_13, ↓dc_14, ↓dc_15, ↓dc_16, ↓bk_0_0, ↓bk_0_1, ↓bk_0_2, ↓bk_0_3, ↓bk_0_4, ↓bk_0_5, ↓bk_1_1, ↓bk_1_2, ↓bk_1_3, ↓bk_1_4, ↓bk_1_5, ↓bk_1_6, ↓bk_2_2, ↓bk_2_3, ↓bk_2_4, ↓bk_2_5, ↓bk_2_6, ↓bk_2_7, ↓bk_3_3, ↓bk_3_4, ↓bk_3_5, ↓bk_3_6, ↓bk_3_7, ↓bk_3_8, ↓bk_4_4, ↓bk_4_5, ↓bk_4_6, ↓bk_4_7, ↓bk_4_8, ↓bk_4_9, ↓bk_5_5, ↓bk_5_6, ↓bk_5_7, ↓bk_5_8, ↓bk_5_9, ↓bk_5_10, ↓bk_6_6, ↓bk_6_7, ↓bk_6_8, ↓bk_6_9, ↓bk_6_10, ↓bk_6_11, ↓bk_7_7, ↓bk_7_8, ↓bk_7_9, ↓bk_7_10, ↓bk_7_11, ↓bk_7_12, ↓bk_8_8, ↓bk_8_9, ↓bk_8_10, ↓bk_8_11, ↓bk_8_12, ↓bk_8_13, ↓bk_9_9, ↓bk_9_10, ↓bk_9_11, ↓bk_9_12, ↓bk_9_13, ↓bk_9_14, ↓bk_10_10, ↓bk_10_11, ↓bk_10_12, ↓bk_10_13, ↓bk_10_14, ↓bk_10_15, ↓bk_11_11, ↓bk_11_12, ↓bk_11_13, ↓bk_11_14, ↓bk_11_15, ↓bk_11_16, ↓bk_12_12, ↓bk_12_13, ↓bk_12_14, ↓bk_12_15, ↓bk_12_16, ↓bk_12_17, ↓bk_13_13, ↓bk_13_14, ↓bk_13_15, ↓bk_13_16, ↓bk_13_17, ↓bk_13_18, ↓bk_14_14, ↓bk_14_15, ↓bk_14_16, ↓bk_14_17, ↓bk_14_18, ↓bk_15_15, ↓bk_15_16, ↓bk_15_17, ↓bk_15_18, ↓bk_16_16, ↓bk_16_17, ↓bk_16_18, ↓tk_0_0, ↓tk_0_1, ↓tk_0_2, ↓tk_0_3, ↓tk_0_4, ↓tk_0_5, ↓tk_1_1, ↓tk_1_2, ↓tk_1_3, ↓tk_1_4, ↓tk_1_5, ↓tk_1_6, ↓tk_2_2, ↓tk_2_3, ↓tk_2_4, ↓tk_2_5, ↓tk_2_6, ↓tk_2_7, ↓tk_3_3, ↓tk_3_4, ↓tk_3_5, ↓tk_3_6, ↓tk_3_7, ↓tk_3_8, ↓tk_4_4, ↓tk_4_5, ↓tk_4_6, ↓tk_4_7, ↓tk_4_8, ↓tk_4_9, ↓tk_5_5, ↓tk_5_6, ↓tk_5_7, ↓tk_5_8, ↓tk_5_9, ↓tk_5_10, ↓tk_6_6, ↓tk_6_7, ↓tk_6_8, ↓tk_6_9, ↓tk_6_10, ↓tk_6_11, ↓tk_7_7, ↓tk_7_8, ↓tk_7_9, ↓tk_7_10, ↓tk_7_11, ↓tk_7_12, ↓tk_8_8, ↓tk_8_9, ↓tk_8_10, ↓tk_8_11, ↓tk_8_12, ↓tk_8_13, ↓tk_9_9, ↓tk_9_10, ↓tk_9_11, ↓tk_9_12, ↓tk_9_13, ↓tk_9_14, ↓tk_10_10, ↓tk_10_11, ↓tk_10_12, ↓tk_10_13, ↓tk_10_14, ↓tk_10_15, ↓tk_11_11, ↓tk_11_12, ↓tk_11_13, ↓tk_11_14, ↓tk_11_15, ↓tk_11_16, ↓tk_12_12, ↓tk_12_13, ↓tk_12_14, ↓tk_12_15, ↓tk_12_16, ↓tk_12_17, ↓tk_13_13, ↓tk_13_14, ↓tk_13_15, ↓tk_13_16, ↓tk_13_17, ↓tk_13_18, ↓tk_14_14, ↓tk_14_15, ↓tk_14_16, ↓tk_14_17, ↓tk_14_18, ↓tk_15_15, ↓tk_15_16, ↓tk_15_17, ↓tk_15_18, ↓tk_16_16, ↓tk_16_17, ↓tk_16_18, ↓bk_r1, ↓bk_r2, ↓bk_r3, ↓sw_t, ↓sw_f, ↓sw_n, decide_eq_true_eq, ↓reduceIte, ii_add, ii_sub, ii_mul, true_and, and_true, List.map_cons, List.map_nil, Value.category, ne_eq, gt_iff_lt, ge_iff_le, not_true_eq_false, not_false_eq_true, Bool.false_eq_true, true_or, or_true, false_or, or_false, okI_ii, ii_nat, ii_lt, ii_le, ii_inj, ii_lt0, ii_0lt, ii_0le, ii_le0, ii_eq0, Int.toNat_add, Int.toNat_natCast, Int.toNat_mul, Int.reduceToNat, Nat.zero_add, nrw_0, sI_eq, sI_ne, sI_2, sJ_1, sI_sI, sI_sw, io_111, ↓g_111_0, ↓p_111_0, ↓g_111_1, ↓g_111_2, ↓p_111_2, ↓g_111_3, ↓g_111_4, ↓p_111_4, ↓g_111_5, ↓g_111_6, ↓g_111_7, ↓g_111_8, ↓g_111_9, ↓g_111_10, ↓p_111_10, ↓g_111_11, ↓p_111_11, ↓g_111_12, ↓p_111_12, ↓g_111_13, ↓p_111_13, ↓g_111_14, ↓p_111_14, ↓g_111_15, ↓p_111_15, ↓g_111_16, ↓p_111_16, ↓g_111_17, ↓p_111_17, ↓g_111_18, ↓p_111_18, ↓g_111_19, ↓p_111_19, ↓g_111_20, ↓p_111_20, ↓g_111_21, ↓g_111_22, ↓g_111_23, ↓g_111_24, ↓g_111_25, ↓g_111_26, ↓g_111_27, ↓g_111_28, ↓g_111_29, ↓g_111_30, ↓g_111_31, ↓g_111_32, ↓g_111_33, ↓p_111_33, ↓g_111_34, ↓g_111_35, ↓g_111_36, ↓g_111_37, ↓g_111_38, ↓g_111_39, ↓p_111_39, ↓g_111_40, ↓g_111_41, ↓g_111_42, ↓g_111_43, ↓p_111_43, ↓g_111_44, ↓g_111_45, ↓g_111_46, ↓p_111_46, ↓g_111_47, ↓g_111_48, ↓g_111_49, ↓p_111_49, ↓g_111_50, ↓p_111_50, ↓g_111_51, ↓p_111_51, ↓g_111_52, ↓g_111_53, ↓g_111_54, ↓g_111_55, ↓g_111_56, ↓g_111_57, ↓p_111_57, ↓g_111_58, ↓g_111_59, ↓p_111_59, ↓g_111_60, ↓p_111_60, ↓g_111_61, ↓p_111_61, ↓g_111_62, ↓g_111_63, ↓g_111_64, ↓g_111_65, ↓g_111_66, ↓g_111_67, ↓p_111_67, ↓g_111_68, ↓g_111_69, ↓g_111_70, ↓g_111_71, ↓g_111_72, ↓b_112, ↓x_112, ↓b_113, ↓x_113, ↓b_114, ↓x_114, ↓b_115, ↓x_115, ↓b_116, ↓x_116, ↓b_117, ↓x_117, ↓b_118, ↓x_118, ↓b_119, ↓x_119, ↓b_120, ↓x_120, ↓b_121, ↓x_121, ↓b_122, ↓x_122, ↓b_123, ↓x_123, ↓b_124, ↓x_124, ↓b_125, ↓x_125, ↓b_126, ↓x_126, ↓b_127, ↓x_127, ↓b_128, ↓x_128, ↓b_129, ↓x_129, ↓b_130, ↓x_130, ↓b_131, ↓x_131, ↓b_132, ↓x_132, ↓b_133, ↓x_133, ↓b_134, ↓x_134, ↓b_135, ↓x_135, ↓b_136, ↓x_136, ↓b_137, ↓x_137, ↓b_138, ↓x_138, ↓b_139, ↓x_139, ↓b_140, ↓x_140, ↓b_141, ↓x_141, ↓b_142, ↓x_142, ↓b_143, ↓x_143, ↓b_144, ↓x_144, ↓b_145, ↓x_145, ↓b_146, ↓x_146, ↓b_147, ↓x_147, ↓b_148, ↓x_148, ↓b_149, ↓x_149, ↓b_150, ↓x_150, ↓b_151, ↓x_151, ↓b_152, ↓x_152, ↓b_153, ↓x_153, ↓b_154, ↓x_154, ↓b_155, ↓x_155, ↓b_156, ↓x_156, ↓b_157, ↓x_157, ↓b_158, ↓x_158]
      exact g
end RBR
