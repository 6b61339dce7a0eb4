/-! The reference's laws: a term of a law. -/
def LFx (L a b : Nat) (m μ : Mem) : Prop := μ.2 = m.2 ∧ (∀ r, r ≠ 111 → r < 131 ∨ 138 < r → μ.1 r = m.1 r) ∧ (∀ k, k ≠ 11 → k ≠ 12 → k ≠ 13 → k ≠ 14 → k ≠ 33 → k ≠ 39 → k ≠ 43 → μ.1 111 k = m.1 111 k) ∧ (∀ k, k < a ∨ 420 * L + 420 ≤ k → μ.1 136 k = m.1 136 k ∧ μ.1 137 k = m.1 137 k) ∧ ∀ r, 131 ≤ r → r ≤ 135 → ∀ k, k < b ∨ 130 * L + 130 ≤ k → μ.1 r k = m.1 r k
/-- no fault, codes from a on, at token t -/
def RSX (c : Nat → Int) (n L a t : Nat) (m : Mem) : Prop := MKX c n t m ∧ m.1 111 12 = ii 0 ∧ m.1 111 39 = ii a ∧ 420 * L ≤ a ∧ a ≤ 420 * L + t
abbrev RXs := Except (Nat × Nat) (Nat × Nat)
def RLX (c : Nat → Int) (n L : Nat) : RXs → Mem → Prop
  | .error e, μ => MFX c n e.1 e.2 μ
  | .ok b, μ => RSX c n L b.2 b.1 μ
def rxT (K : Nat → Nat) (w : Nat) (E : RXs) : RXs := E.bind fun b => (adv K w b.1).bind fun a => .ok (a, b.2)
def rxS (S : Nat → PRs) (E : RXs) : RXs := E.bind fun b => (S b.1).bind fun r => .ok (r.1, b.2 + r.2.length)
theorem ii_sur (x : Int32) : ∃ a : Nat, x = ii a := by
  refine ⟨(x.toInt % 4294967296).toNat, ?_⟩
  have h1 := Int32.minValue_le_toInt x
  have h2 := Int32.toInt_le x
  unfold ii
  apply Int32.toInt_inj.mp
  rw [Int32.toInt_ofInt]
  have e2 : (Int32.size : Int) = 4294967296 := rfl
  have e3 : Int32.minValue.toInt = -2147483648 := rfl
  have e4 : Int32.maxValue.toInt = 2147483647 := rfl
  simp only [Int.bmod_def, e2]
  omega
section RTM
variable {m m1 m2 μ : Mem} {n L a b t w k a0 : Nat} {c : Nat → Int} {E : RXs}
theorem LFx.rf (m : Mem) : LFx L a b m m := ⟨rfl, fun _ _ _ => rfl, fun _ _ _ _ _ _ _ _ => rfl, fun _ _ => ⟨rfl, rfl⟩, fun _ _ _ _ _ => rfl⟩
theorem LFx.tr (p : LFx L a b m m1) (q : LFx L a b m1 m2) : LFx L a b m m2 := ⟨q.1.trans p.1, fun r h1 h2 => (q.2.1 r h1 h2).trans (p.2.1 r h1 h2), fun k h1 h2 h3 h4 h5 h6 h7 => (q.2.2.1 k h1 h2 h3 h4 h5 h6 h7).trans (p.2.2.1 k h1 h2 h3 h4 h5 h6 h7), fun k h => ⟨(q.2.2.2.1 k h).1.trans (p.2.2.2.1 k h).1, (q.2.2.2.1 k h).2.trans (p.2.2.2.1 k h).2⟩, fun r h1 h2 k h => (q.2.2.2.2 r h1 h2 k h).trans (p.2.2.2.2 r h1 h2 k h)⟩
theorem LFx.mono {a2 b2 : Nat} (p : LFx L a b m m1) (h1 : a2 ≤ a) (h2 : b2 ≤ b) : LFx L a2 b2 m m1 := ⟨p.1, p.2.1, p.2.2.1, fun k h => p.2.2.2.1 k (by omega), fun r h3 h4 k h => p.2.2.2.2 r h3 h4 k (by omega)⟩
theorem TFx.l (h : TFx m μ) : LFx L a b m μ := ⟨h.1, fun r h1 _ => h.2.1 r h1, fun k h1 _ h3 h4 _ _ _ => h.2.2 k h1 h3 h4, fun k _ => ⟨by rw [h.2.1 136 (by decide)], by rw [h.2.1 137 (by decide)]⟩, fun r h1 h2 k _ => by rw [h.2.1 r (by omega)]⟩
theorem XAx.l (h : XAx L a m μ) : LFx L a b m μ := ⟨h.1, fun r h1 h2 => h.2.1 r h1 (by omega) (by omega) (by omega), fun k h1 h2 h3 h4 _ h6 h7 => h.2.2.1 k h1 h2 h3 h4 h6 h7, h.2.2.2, fun r h1 h2 k _ => by rw [h.2.1 r (by omega) (by omega) (by omega) (by omega)]⟩
/-- a cell of a branch -/
theorem LFx_cell {r : Nat} {x : Int32} (h1 : 131 ≤ r) (h2 : r ≤ 135) (hk : b ≤ k) (hk2 : k < 130 * L + 130) : LFx L a b m (sI m r (upd (m.1 r) k x)) := by
  refine ⟨rfl, fun q h3 h4 => sI_ne (by omega), fun q _ _ _ _ _ _ _ => by rw [sI_ne (by omega)], fun q _ => ⟨by rw [sI_ne (by omega)], by rw [sI_ne (by omega)]⟩, fun q h3 h4 i hi => ?_⟩
  by_cases d : q = r
  · subst d; rw [sI_eq, upd_ne (by omega)]
  · rw [sI_ne d]
theorem RLX.cell {r : Nat} {f : Nat → Int32} (h : RLX c n L E m) (h1 : 131 ≤ r) (h2 : r ≤ 135) : RLX c n L E (sI m r f) := by
  have e : (sI m r f).1 111 = m.1 111 := sI_ne (by omega)
  cases E with
  | error x =>
    show MFX c n x.1 x.2 _
    unfold MFX
    rw [e]
    exact h
  | ok x =>
    obtain ⟨hK, h12, h39, hb⟩ := h
    refine ⟨hK.of (by rw [e]) (by rw [e]) (fun q h3 h4 => sI_ne (by omega)) rfl, by rw [e]; exact h12, by rw [e]; exact h39, hb⟩
theorem RLX.tk (h : RLX c n L E m) (hw : w ≤ 30) : ∃ μ, TFx m μ ∧ RLX c n L (rxT (tkd c n) w E) μ ∧ ∀ Q, wD D_M_must [.ref 111, .int (ii (kM w))] (hp m) Q ↔ Q none (hp μ) := by
  cases E with
  | error e => exact ⟨m, TFx.rf m, h, fun Q => w_mustB h.1 ⟨h.2.1, by have := h.2.2.1; omega⟩ Q⟩
  | ok b =>
    obtain ⟨hK, h12, h39, h1, h2⟩ := h
    obtain ⟨μ, A, P, q⟩ := w_mustG (w := w) hK hw
    refine ⟨μ, A, ?_, q⟩
    show RLX c n L ((adv (tkd c n) w b.1).bind fun a => .ok (a, b.2)) μ
    cases e : adv (tkd c n) w b.1 with
    | error x => rw [e] at P; exact P
    | ok x =>
      rw [e] at P
      obtain ⟨_, _, rfl⟩ := adv_ok e
      exact ⟨P, by rw [A.2.2 12 (by decide) (by decide) (by decide)]; exact h12, by rw [A.2.2 39 (by decide) (by decide) (by decide)]; exact h39, h1, by dsimp only; omega⟩
theorem RLX.x (hL : L ≤ 1) (h : RLX c n L E m) (hA : ∀ b, E = .ok b → a0 ≤ b.2) : ∃ μ, XAx L a0 m μ ∧ RLX c n L (rxS (pS0 c n) E) μ ∧ (∀ b r, E = .ok b → pS0 c n b.1 = .ok r → TmM r.2 b.2 μ ∧ XAx L b.2 m μ) ∧ ∀ Q, wD D_M_expression [.ref 111] (hp m) Q ↔ Q none (hp μ) := by
  cases E with
  | error e =>
    obtain ⟨μ, A, P, q⟩ := w_expressionB (L := L) (a := a0) h rfl
    exact ⟨μ, A, P, (fun b r h => by cases h), q⟩
  | ok b =>
    obtain ⟨hK, h12, h39, h1, h2⟩ := h
    obtain ⟨μ, A, P, q⟩ := w_expression hL h1 h2 hK h12 h39
    have hb := hA b rfl
    refine ⟨μ, ⟨A.1, A.2.1, A.2.2.1, fun k hk => A.2.2.2 k (by omega)⟩, ?_, fun b' r e1 e2 => ?_, q⟩
    · show RLX c n L ((pS0 c n b.1).bind fun r => .ok (r.1, b.2 + r.2.length)) μ
      cases e : pS0 c n b.1 with
      | error x => rw [e] at P; exact P
      | ok x =>
        rw [e] at P
        obtain ⟨p1, p2, p3, p4⟩ := P
        exact ⟨p1, p2, p3.1, by dsimp only; omega, p4⟩
    · cases e1
      rw [e2] at P
      exact ⟨P.2.2.1.2, A⟩
/-- if no fault: an expression; then S -/
theorem RLX.g (hL : L ≤ 1) (h : RLX c n L E m) (hA : ∀ b, E = .ok b → a0 ≤ b.2) : ∃ μ, XAx L a0 m μ ∧ RLX c n L (rxS (pS0 c n) E) μ ∧ (∀ b r, E = .ok b → pS0 c n b.1 = .ok r → TmM r.2 b.2 μ ∧ XAx L b.2 m μ) ∧ (m.1 111 13 = ii 0 ∧ (∀ Q, wD D_M_expression [.ref 111] (hp m) Q ↔ Q none (hp μ)) ∨ ∃ f : Nat, 0 < f ∧ f ≤ 2 ∧ m.1 111 13 = ii f ∧ μ = m) := by
  cases E with
  | error e => exact ⟨m, XAx.rf m, h, (fun b r h => by cases h), Or.inr ⟨e.1, h.2.1, h.2.2.1, h.1, rfl⟩⟩
  | ok b =>
    obtain ⟨μ, A, P, F, q⟩ := RLX.x hL h hA
    exact ⟨μ, A, P, F, Or.inl ⟨h.1.1, q⟩⟩
theorem TmM.x {ds : Tm} {a1 : Nat} (h : TmM ds a1 m) (hx : XAx L a m μ) (hb : a1 + ds.length ≤ a) : TmM ds a1 μ := ⟨h.1, fun i hi => by rw [(hx.2.2.2 (a1 + i) (by omega)).1, (hx.2.2.2 (a1 + i) (by omega)).2]; exact h.2 i hi⟩
theorem w_term (hL : L ≤ 1) (h : RLX c n L E m) (hA : ∀ b, E = .ok b → a0 ≤ b.2) (h33 : m.1 111 33 = ii k) (hk : 130 * L ≤ k) (hk2 : k < 130 * L + 130) : ∃ μ, LFx L a0 k m μ ∧ RLX c n L (rxS (pS0 c n) E) μ ∧ μ.1 111 33 = ii ((k + 1 : Nat) : Int) ∧ (∀ r, 131 ≤ r → r ≤ 133 → μ.1 r = m.1 r) ∧ (∀ b r, E = .ok b → pS0 c n b.1 = .ok r → μ.1 134 k = ii b.2 ∧ μ.1 135 k = ii ((b.2 + r.2.length : Nat) : Int) ∧ TmM r.2 b.2 μ ∧ LFx L b.2 k m μ) ∧ ∀ Q, wD D_M_term [.ref 111] (hp m) Q ↔ Q none (hp μ) := by
  obtain ⟨m1, e1⟩ : ∃ m1, m1 = sI m 134 (upd (m.1 134) k (m.1 111 39)) := ⟨_, rfl⟩
  have R1 : RLX c n L E m1 := by rw [e1]; exact h.cell (by decide) (by decide)
  have F1 : ∀ a, LFx L a k m m1 := fun a => by rw [e1]; exact LFx_cell (by decide) (by decide) (Nat.le_refl _) hk2
  obtain ⟨m2, X2, R2, T2, q2⟩ := RLX.g hL R1 hA
  have g33 : m2.1 111 33 = ii k := by rw [X2.2.2.1 33 (by decide) (by decide) (by decide) (by decide) (by decide) (by decide), e1, sI_ne (by decide)]; exact h33
  obtain ⟨m3, e3⟩ : ∃ m3, m3 = sI (sI m2 135 (upd (m2.1 135) k (m2.1 111 39))) 111 (upd (m2.1 111) 33 (ii ((k + 1 : Nat) : Int))) := ⟨_, rfl⟩
  have F3 : ∀ a, LFx L a k m2 m3 := fun a => by
    refine (LFx_cell (r := 135) (x := m2.1 111 39) (m := m2) (by decide) (by decide) (Nat.le_refl k) hk2).tr ?_
    rw [e3]
    exact ⟨rfl, fun r h1 _ => sI_ne h1, fun q _ _ _ _ h5 _ _ => by rw [sI_eq, upd_ne h5, sI_ne (by decide)], fun q _ => ⟨by rw [sI_ne (by decide)], by rw [sI_ne (by decide)]⟩, fun r h1 h2 q _ => by rw [sI_ne (by omega)]⟩
  have R3 : RLX c n L (rxS (pS0 c n) E) m3 := by
    have R4 := R2.cell (r := 135) (f := upd (m2.1 135) k (m2.1 111 39)) (by decide) (by decide)
    have ef : ∀ q, q ≠ 33 → m3.1 111 q = m2.1 111 q := fun q hq => by rw [e3, sI_eq, upd_ne hq]
    cases eE : rxS (pS0 c n) E with
    | error x =>
      rw [eE] at R2
      exact MFX.of R2 (ef 11 (by decide)) (ef 13 (by decide)) (ef 14 (by decide))
    | ok x =>
      rw [eE] at R2
      obtain ⟨hK, y12, y39, y⟩ := R2
      exact ⟨hK.of (ef 11 (by decide)) (ef 13 (by decide)) (fun r h1 h2 => by rw [e3, sI_ne (by omega), sI_ne (by omega)]) (by rw [e3]; rfl), (ef 12 (by decide)).trans y12, (ef 39 (by decide)).trans y39, y⟩
  refine ⟨m3, (F1 a0).tr (X2.l.tr (F3 a0)), R3, by rw [e3, sI_eq, upd_eq], fun r h1 h2 => ?_, fun b r eb er => ?_, fun Q => wD_eq (wD_out ?_) Q⟩
  · rw [e3, sI_ne (by omega), sI_ne (by omega), X2.2.1 r (by omega) (by omega) (by omega) (by omega), e1, sI_ne (by omega)]
  · obtain ⟨t1, t2⟩ := T2 b r eb er
    have R2' : RLX c n L (.ok (r.1, b.2 + r.2.length)) m2 := by
      have := R2
      rw [eb] at this
      unfold rxS at this
      rw [exb_k, er] at this
      exact this
    have h39 : m.1 111 39 = ii b.2 := by rw [eb] at h; exact h.2.2.1
    refine ⟨?_, ?_, ?_, (F1 b.2).tr (t2.l.tr (F3 b.2))⟩
    · rw [e3, sI_ne (by decide), sI_ne (by decide), X2.2.1 134 (by decide) (by decide) (by decide) (by decide), e1, sI_eq, upd_eq]; exact h39
    · rw [e3, sI_ne (by decide), sI_eq, upd_eq]; exact R2'.2.2.1
    · refine ⟨t1.1, fun i hi => ?_⟩
      rw [e3, sI_ne (by decide), sI_ne (by decide), sI_ne (by decide), sI_ne (by decide)]
      exact t1.2 i hi
  · have l1 : (k : Int) + 1 = ((k + 1 : Nat) : Int) := by omega
    have e1' := e1.symm
    have e3' := e3.symm
    rcases q2 with ⟨h13, q2⟩ | ⟨f, f1, f2, h13, rfl⟩
    · simp (disch := omega) only [D_M_term, F_M_term, h33, e1', h13, ↓q2, g33, l1, e3', Nat.reduceEqDiff, Int.reduceEq, Int.reduceLT, Int.reduceLE, Int.reduceNeg, List.length_cons, List.length_nil, ↓wD_run, ↓wD_mV, ↓wS_seq, ↓wS_skip, ↓wS_brk, ↓wS_cnt, ↓wS_retV, ↓wS_put, ↓wS_putZ, ↓wS_fop, ↓wS_ast, ↓wS_astL, ↓wS_aop, ↓wS_if, ↓wS_blk, ↓wS_ret, ↓wS_retZ, ↓wS_call, ↓wS_sw, ↓wS_cpy, ↓wE_kI, ↓wE_kL, ↓wE_o1, ↓wE_o2, ↓wE_oD, ↓wE_oR, ↓wE_gI, ↓wE_gR, ↓wE_aI, ↓wE_aL, ↓wE_aR, ↓wE_lnX, ↓wE_iX, ↓wE_bX, ↓wE_cAnd, ↓wE_cOr, ↓wE_cNot, ↓wE_asV, ↓wA_nil, ↓wA_cons, ↓wE_cI, ↓wE_cL, ↓wE_cR, ↓wE_chX, ↓wE_idX, ↓xI_s, ↓xL_s, ↓xF_s, ↓lI_0, ↓lL_0, ↓lR_0, ↓lI_1, ↓lL_1, ↓lR_1, ↓lI_2, ↓lL_2, ↓lR_2, ↓lI_3, ↓lL_3, ↓lR_3, ↓lI_4, ↓lL_4, ↓lR_4, ↓lI_5, ↓lL_5, ↓lR_5, ↓lI_6, ↓lL_6, ↓lR_6, ↓lI_7, ↓lL_7, ↓lR_7, ↓lI_8, ↓lL_8, ↓lR_8, ↓lI_9, ↓lL_9, ↓lR_9, ↓lI_10, ↓lL_10, ↓lR_10, ↓lI_11, ↓lL_11, ↓lR_11, ↓lI_12, ↓lL_12, ↓lR_12, ↓lI_13, ↓lL_13, ↓lR_13, ↓lI_14, ↓lL_14, ↓lR_14, ↓lI_15, ↓lL_15, ↓lR_15, ↓lI_16, ↓lL_16, ↓lR_16, ↓st_0, ↓st_1, ↓st_2, ↓st_3, ↓st_4, ↓st_5, ↓st_6, ↓st_7, ↓st_8, ↓st_9, ↓st_10, ↓st_11, ↓st_12, ↓st_13, ↓st_14, ↓st_15, ↓st_16, ↓in_0, ↓in_1, ↓in_2, ↓in_3, ↓in_4, ↓in_5, ↓in_6, ↓in_7, ↓in_8, ↓in_9, ↓in_10, ↓in_11, ↓in_12, ↓in_13, ↓in_14, ↓in_15, ↓in_16, ↓dc_0, ↓dc_1, ↓dc_2, ↓dc_3, ↓dc_4, ↓dc_5, ↓dc_6, ↓dc_7, ↓dc_8, ↓dc_9, ↓dc_10, ↓dc_11, ↓dc_12, ↓dc_13, ↓dc_14, ↓dc_15, ↓dc_16, ↓bk_0_0, ↓bk_0_1, ↓bk_0_2, ↓bk_0_3, ↓bk_0_4, ↓bk_0_5, ↓bk_1_1, ↓bk_1_2, ↓bk_1_3, ↓bk_1_4, ↓bk_1_5, ↓bk_1_6, ↓bk_2_2, ↓bk_2_3, ↓bk_2_4, ↓bk_2_5, ↓bk_2_6, ↓bk_2_7, ↓bk_3_3, ↓bk_3_4, ↓bk_3_5, ↓bk_3_6, ↓bk_3_7, ↓bk_3_8, ↓bk_4_4, ↓bk_4_5, ↓bk_4_6, ↓bk_4_7, ↓bk_4_8, ↓bk_4_9, ↓bk_5_5, ↓bk_5_6, ↓bk_5_7, ↓bk_5_8, ↓bk_5_9, ↓bk_5_10, ↓bk_6_6, ↓bk_6_7, ↓bk_6_8, ↓bk_6_9, ↓bk_6_10, ↓bk_6_11, ↓bk_7_7, ↓bk_7_8, ↓bk_7_9, ↓bk_7_10, ↓bk_7_11, ↓bk_7_12, ↓bk_8_8, ↓bk_8_9, ↓bk_8_10, ↓bk_8_11, ↓bk_8_12, ↓bk_8_13, ↓bk_9_9, ↓bk_9_10, ↓bk_9_11, ↓bk_9_12, ↓bk_9_13, ↓bk_9_14, ↓bk_10_10, ↓bk_10_11, ↓bk_10_12, ↓bk_10_13, ↓bk_10_14, ↓bk_10_15, ↓bk_11_11, ↓bk_11_12, ↓bk_11_13, ↓bk_11_14, ↓bk_11_15, ↓bk_11_16, ↓bk_12_12, ↓bk_12_13, ↓bk_12_14, ↓bk_12_15, ↓bk_12_16, ↓bk_12_17, ↓bk_13_13, ↓bk_13_14, ↓bk_13_15, ↓bk_13_16, ↓bk_13_17, ↓bk_13_18, ↓bk_14_14, ↓bk_14_15, ↓bk_14_16, ↓bk_14_17, ↓bk_14_18, ↓bk_15_15, ↓bk_15_16, ↓bk_15_17, ↓bk_15_18, ↓bk_16_16, ↓bk_16_17, ↓bk_16_18, ↓tk_0_0, ↓tk_0_1, ↓tk_0_2, ↓tk_0_3, ↓tk_0_4, ↓tk_0_5, ↓tk_1_1, ↓tk_1_2, ↓tk_1_3, ↓tk_1_4, ↓tk_1_5, ↓tk_1_6, ↓tk_2_2, ↓tk_2_3, ↓tk_2_4, ↓tk_2_5, ↓tk_2_6, ↓tk_2_7, ↓tk_3_3, ↓tk_3_4, ↓tk_3_5, ↓tk_3_6, ↓tk_3_7, ↓tk_3_8, ↓tk_4_4, ↓tk_4_5, ↓tk_4_6, ↓tk_4_7, ↓tk_4_8, ↓tk_4_9, ↓tk_5_5, ↓tk_5_6, ↓tk_5_7, ↓tk_5_8, ↓tk_5_9, ↓tk_5_10, ↓tk_6_6, ↓tk_6_7, ↓tk_6_8, ↓tk_6_9, ↓tk_6_10, ↓tk_6_11, ↓tk_7_7, ↓tk_7_8, ↓tk_7_9, ↓tk_7_10, ↓tk_7_11, ↓tk_7_12, ↓tk_8_8, ↓tk_8_9, ↓tk_8_10, ↓tk_8_11, ↓tk_8_12, ↓tk_8_13, ↓tk_9_9, ↓tk_9_10, ↓tk_9_11, ↓tk_9_12, ↓tk_9_13, ↓tk_9_14, ↓tk_10_10, ↓tk_10_11, ↓tk_10_12, ↓tk_10_13, ↓tk_10_14, ↓tk_10_15, ↓tk_11_11, ↓tk_11_12, ↓tk_11_13, ↓tk_11_14, ↓tk_11_15, ↓tk_11_16, ↓tk_12_12, ↓tk_12_13, ↓tk_12_14, ↓tk_12_15, ↓tk_12_16, ↓tk_12_17, ↓tk_13_13, ↓tk_13_14, ↓tk_13_15, ↓tk_13_16, ↓tk_13_17, ↓tk_13_18, ↓tk_14_14, ↓tk_14_15, ↓tk_14_16, ↓tk_14_17, ↓tk_14_18, ↓tk_15_15, ↓tk_15_16, ↓tk_15_17, ↓tk_15_18, ↓tk_16_16, ↓tk_16_17, ↓tk_16_18, ↓bk_r1, ↓bk_r2, ↓bk_r3, ↓sw_t, ↓sw_f, ↓sw_n, decide_eq_true_eq, ↓reduceIte, ii_add, ii_sub, ii_mul, true_and, and_true, List.map_cons, List.map_nil, Value.category, ne_eq, gt_iff_lt, ge_iff_le, not_true_eq_false, not_false_eq_true, Bool.false_eq_true, true_or, or_true, false_or, or_false, okI_ii, ii_nat, ii_lt, ii_le, ii_inj, ii_lt0, ii_0lt, ii_0le, ii_le0, ii_eq0, Int.toNat_add, Int.toNat_natCast, Int.toNat_mul, Int.reduceToNat, Nat.zero_add, nrw_0, sI_eq, sI_ne, sI_2, sJ_1, sI_sI, sI_sw, io_111, ↓g_111_0, ↓p_111_0, ↓g_111_1, ↓g_111_2, ↓p_111_2, ↓g_111_3, ↓g_111_4, ↓p_111_4, ↓g_111_5, ↓g_111_6, ↓g_111_7, ↓g_111_8, ↓g_111_9, ↓g_111_10, ↓p_111_10, ↓g_111_11, ↓p_111_11, ↓g_111_12, ↓p_111_12, ↓g_111_13, ↓p_111_13, ↓g_111_14, ↓p_111_14, ↓g_111_15, ↓p_111_15, ↓g_111_16, ↓p_111_16, ↓g_111_17, ↓p_111_17, ↓g_111_18, ↓p_111_18, ↓g_111_19, ↓p_111_19, ↓g_111_20, ↓p_111_20, ↓g_111_21, ↓g_111_22, ↓g_111_23, ↓g_111_24, ↓g_111_25, ↓g_111_26, ↓g_111_27, ↓g_111_28, ↓g_111_29, ↓g_111_30, ↓g_111_31, ↓g_111_32, ↓g_111_33, ↓p_111_33, ↓g_111_34, ↓g_111_35, ↓g_111_36, ↓g_111_37, ↓g_111_38, ↓g_111_39, ↓p_111_39, ↓g_111_40, ↓g_111_41, ↓g_111_42, ↓g_111_43, ↓p_111_43, ↓g_111_44, ↓g_111_45, ↓g_111_46, ↓p_111_46, ↓g_111_47, ↓g_111_48, ↓g_111_49, ↓p_111_49, ↓g_111_50, ↓p_111_50, ↓g_111_51, ↓p_111_51, ↓g_111_52, ↓g_111_53, ↓g_111_54, ↓g_111_55, ↓g_111_56, ↓g_111_57, ↓p_111_57, ↓g_111_58, ↓g_111_59, ↓p_111_59, ↓g_111_60, ↓p_111_60, ↓g_111_61, ↓p_111_61, ↓g_111_62, ↓g_111_63, ↓g_111_64, ↓g_111_65, ↓g_111_66, ↓g_111_67, ↓p_111_67, ↓g_111_68, ↓g_111_69, ↓g_111_70, ↓g_111_71, ↓g_111_72, ↓b_112, ↓x_112, ↓b_113, ↓x_113, ↓b_114, ↓x_114, ↓b_115, ↓x_115, ↓b_116, ↓x_116, ↓b_117, ↓x_117, ↓b_118, ↓x_118, ↓b_119, ↓x_119, ↓b_120, ↓x_120, ↓b_121, ↓x_121, ↓b_122, ↓x_122, ↓b_123, ↓x_123, ↓b_124, ↓x_124, ↓b_125, ↓x_125, ↓b_126, ↓x_126, ↓b_127, ↓x_127, ↓b_128, ↓x_128, ↓b_129, ↓x_129, ↓b_130, ↓x_130, ↓b_131, ↓x_131, ↓b_132, ↓x_132, ↓b_133, ↓x_133, ↓b_134, ↓x_134, ↓b_135, ↓x_135, ↓b_136, ↓x_136, ↓b_137, ↓x_137, ↓b_138, ↓x_138, ↓b_139, ↓x_139, ↓b_140, ↓x_140, ↓b_141, ↓x_141, ↓b_142, ↓x_142, ↓b_143, ↓x_143, ↓b_144, ↓x_144, ↓b_145, ↓x_145, ↓b_146, ↓x_146, ↓b_147, ↓x_147, ↓b_148, ↓x_148, ↓b_149, ↓x_149, ↓b_150, ↓x_150, ↓b_151, ↓x_151, ↓b_152, ↓x_152, ↓b_153, ↓x_153, ↓b_154, ↓x_154, ↓b_155, ↓x_155, ↓b_156, ↓x_156, ↓b_157, ↓x_157, ↓b_158, ↓x_158]
    · have c1 : ¬ ((f : Int) = 0) := by omega
      simp (disch := omega) only [D_M_term, F_M_term, h33, e1', h13, c1, g33, l1, e3', Nat.reduceEqDiff, Int.reduceEq, Int.reduceLT, Int.reduceLE, Int.reduceNeg, List.length_cons, List.length_nil, ↓wD_run, ↓wD_mV, ↓wS_seq, ↓wS_skip, ↓wS_brk, ↓wS_cnt, ↓wS_retV, ↓wS_put, ↓wS_putZ, ↓wS_fop, ↓wS_ast, ↓wS_astL, ↓wS_aop, ↓wS_if, ↓wS_blk, ↓wS_ret, ↓wS_retZ, ↓wS_call, ↓wS_sw, ↓wS_cpy, ↓wE_kI, ↓wE_kL, ↓wE_o1, ↓wE_o2, ↓wE_oD, ↓wE_oR, ↓wE_gI, ↓wE_gR, ↓wE_aI, ↓wE_aL, ↓wE_aR, ↓wE_lnX, ↓wE_iX, ↓wE_bX, ↓wE_cAnd, ↓wE_cOr, ↓wE_cNot, ↓wE_asV, ↓wA_nil, ↓wA_cons, ↓wE_cI, ↓wE_cL, ↓wE_cR, ↓wE_chX, ↓wE_idX, ↓xI_s, ↓xL_s, ↓xF_s, ↓lI_0, ↓lL_0, ↓lR_0, ↓lI_1, ↓lL_1, ↓lR_1, ↓lI_2, ↓lL_2, ↓lR_2, ↓lI_3, ↓lL_3, ↓lR_3, ↓lI_4, ↓lL_4, ↓lR_4, ↓lI_5, ↓lL_5, ↓lR_5, ↓lI_6, ↓lL_6, ↓lR_6, ↓lI_7, ↓lL_7, ↓lR_7, ↓lI_8, ↓lL_8, ↓lR_8, ↓lI_9, ↓lL_9, ↓lR_9, ↓lI_10, ↓lL_10, ↓lR_10, ↓lI_11, ↓lL_11, ↓lR_11, ↓lI_12, ↓lL_12, ↓lR_12, ↓lI_13, ↓lL_13, ↓lR_13, ↓lI_14, ↓lL_14, ↓lR_14, ↓lI_15, ↓lL_15, ↓lR_15, ↓lI_16, ↓lL_16, ↓lR_16, ↓st_0, ↓st_1, ↓st_2, ↓st_3, ↓st_4, ↓st_5, ↓st_6, ↓st_7, ↓st_8, ↓st_9, ↓st_10, ↓st_11, ↓st_12, ↓st_13, ↓st_14, ↓st_15, ↓st_16, ↓in_0, ↓in_1, ↓in_2, ↓in_3, ↓in_4, ↓in_5, ↓in_6, ↓in_7, ↓in_8, ↓in_9, ↓in_10, ↓in_11, ↓in_12, ↓in_13, ↓in_14, ↓in_15, ↓in_16, ↓dc_0, ↓dc_1, ↓dc_2, ↓dc_3, ↓dc_4, ↓dc_5, ↓dc_6, ↓dc_7, ↓dc_8, ↓dc_9, ↓dc_10, ↓dc_11, ↓dc_12, ↓dc_13, ↓dc_14, ↓dc_15, ↓dc_16, ↓bk_0_0, ↓bk_0_1, ↓bk_0_2, ↓bk_0_3, ↓bk_0_4, ↓bk_0_5, ↓bk_1_1, ↓bk_1_2, ↓bk_1_3, ↓bk_1_4, ↓bk_1_5, ↓bk_1_6, ↓bk_2_2, ↓bk_2_3, ↓bk_2_4, ↓bk_2_5, ↓bk_2_6, ↓bk_2_7, ↓bk_3_3, ↓bk_3_4, ↓bk_3_5, ↓bk_3_6, ↓bk_3_7, ↓bk_3_8, ↓bk_4_4, ↓bk_4_5, ↓bk_4_6, ↓bk_4_7, ↓bk_4_8, ↓bk_4_9, ↓bk_5_5, ↓bk_5_6, ↓bk_5_7, ↓bk_5_8, ↓bk_5_9, ↓bk_5_10, ↓bk_6_6, ↓bk_6_7, ↓bk_6_8, ↓bk_6_9, ↓bk_6_10, ↓bk_6_11, ↓bk_7_7, ↓bk_7_8, ↓bk_7_9, ↓bk_7_10, ↓bk_7_11, ↓bk_7_12, ↓bk_8_8, ↓bk_8_9, ↓bk_8_10, ↓bk_8_11, ↓bk_8_12, ↓bk_8_13, ↓bk_9_9, ↓bk_9_10, ↓bk_9_11, ↓bk_9_12, ↓bk_9_13, ↓bk_9_14, ↓bk_10_10, ↓bk_10_11, ↓bk_10_12, ↓bk_10_13, ↓bk_10_14, ↓bk_10_15, ↓bk_11_11, ↓bk_11_12, ↓bk_11_13, ↓bk_11_14, ↓bk_11_15, ↓bk_11_16, ↓bk_12_12, ↓bk_12_13, ↓bk_12_14, ↓bk_12_15, ↓bk_12_16, ↓bk_12_17, ↓bk_13_13, ↓bk_13_14, ↓bk_13_15, ↓bk_13_16, ↓bk_13_17, ↓bk_13_18, ↓bk_14_14, ↓bk_14_15, ↓bk_14_16, ↓bk_14_17, ↓bk_14_18, ↓bk_15_15, ↓bk_15_16, ↓bk_15_17, ↓bk_15_18, ↓bk_16_16, ↓bk_16_17, ↓bk_16_18, ↓tk_0_0, ↓tk_0_1, ↓tk_0_2, ↓tk_0_3, ↓tk_0_4, ↓tk_0_5, ↓tk_1_1, ↓tk_1_2, ↓tk_1_3, ↓tk_1_4, ↓tk_1_5, ↓tk_1_6, ↓tk_2_2, ↓tk_2_3, ↓tk_2_4, ↓tk_2_5, ↓tk_2_6, ↓tk_2_7, ↓tk_3_3, ↓tk_3_4, ↓tk_3_5, ↓tk_3_6, ↓tk_3_7, ↓tk_3_8, ↓tk_4_4, ↓tk_4_5, ↓tk_4_6, ↓tk_4_7, ↓tk_4_8, ↓tk_4_9, ↓tk_5_5, ↓tk_5_6, ↓tk_5_7, ↓tk_5_8, ↓tk_5_9, ↓tk_5_10, ↓tk_6_6, ↓tk_6_7, ↓tk_6_8, ↓tk_6_9, ↓tk_6_10, ↓tk_6_11, ↓tk_7_7, ↓tk_7_8, ↓tk_7_9, ↓tk_7_10, ↓tk_7_11, ↓tk_7_12, ↓tk_8_8, ↓tk_8_9, ↓tk_8_10, ↓tk_8_11, ↓tk_8_12, ↓tk_8_13, ↓tk_9_9, ↓tk_9_10, ↓tk_9_11, ↓tk_9_12, ↓tk_9_13, ↓tk_9_14, ↓tk_10_10, ↓tk_10_11, ↓tk_10_12, ↓tk_10_13, ↓tk_10_14, ↓tk_10_15, ↓tk_11_11, ↓tk_11_12, ↓tk_11_13, ↓tk_11_14, ↓tk_11_15, ↓tk_11_16, ↓tk_12_12, ↓tk_12_13, ↓tk_12_14, ↓tk_12_15, ↓tk_12_16, ↓tk_12_17, ↓tk_13_13, ↓tk_13_14, ↓tk_13_15, ↓tk_13_16, ↓tk_13_17, ↓tk_13_18, ↓tk_14_14, ↓tk_14_15, ↓tk_14_16, ↓tk_14_17, ↓tk_14_18, ↓tk_15_15, ↓tk_15_16, ↓tk_15_17, ↓tk_15_18, ↓tk_16_16, ↓tk_16_17, ↓tk_16_18, ↓bk_r1, ↓bk_r2, ↓bk_r3, ↓sw_t, ↓sw_f, ↓sw_n, decide_eq_true_eq, ↓reduceIte, ii_add, ii_sub, ii_mul, true_and, and_true, List.map_cons, List.map_nil, Value.category, ne_eq, gt_iff_lt, ge_iff_le, not_true_eq_false, not_false_eq_true, Bool.false_eq_true, true_or, or_true, false_or, or_false, okI_ii, ii_nat, ii_lt, ii_le, ii_inj, ii_lt0, ii_0lt, ii_0le, ii_le0, ii_eq0, Int.toNat_add, Int.toNat_natCast, Int.toNat_mul, Int.reduceToNat, Nat.zero_add, nrw_0, sI_eq, sI_ne, sI_2, sJ_1, sI_sI, sI_sw, io_111, ↓g_111_0, ↓p_111_0, ↓g_111_1, ↓g_111_2, ↓p_111_2, ↓g_111_3, ↓g_111_4, ↓p_111_4, ↓g_111_5, ↓g_111_6, ↓g_111_7, ↓g_111_8, ↓g_111_9, ↓g_111_10, ↓p_111_10, ↓g_111_11, ↓p_111_11, ↓g_111_12, ↓p_111_12, ↓g_111_13, ↓p_111_13, ↓g_111_14, ↓p_111_14, ↓g_111_15, ↓p_111_15, ↓g_111_16, ↓p_111_16, ↓g_111_17, ↓p_111_17, ↓g_111_18, ↓p_111_18, ↓g_111_19, ↓p_111_19, ↓g_111_20, ↓p_111_20, ↓g_111_21, ↓g_111_22, ↓g_111_23, ↓g_111_24, ↓g_111_25, ↓g_111_26, ↓g_111_27, ↓g_111_28, ↓g_111_29, ↓g_111_30, ↓g_111_31, ↓g_111_32, ↓g_111_33, ↓p_111_33, ↓g_111_34, ↓g_111_35, ↓g_111_36, ↓g_111_37, ↓g_111_38, ↓g_111_39, ↓p_111_39, ↓g_111_40, ↓g_111_41, ↓g_111_42, ↓g_111_43, ↓p_111_43, ↓g_111_44, ↓g_111_45, ↓g_111_46, ↓p_111_46, ↓g_111_47, ↓g_111_48, ↓g_111_49, ↓p_111_49, ↓g_111_50, ↓p_111_50, ↓g_111_51, ↓p_111_51, ↓g_111_52, ↓g_111_53, ↓g_111_54, ↓g_111_55, ↓g_111_56, ↓g_111_57, ↓p_111_57, ↓g_111_58, ↓g_111_59, ↓p_111_59, ↓g_111_60, ↓p_111_60, ↓g_111_61, ↓p_111_61, ↓g_111_62, ↓g_111_63, ↓g_111_64, ↓g_111_65, ↓g_111_66, ↓g_111_67, ↓p_111_67, ↓g_111_68, ↓g_111_69, ↓g_111_70, ↓g_111_71, ↓g_111_72, ↓b_112, ↓x_112, ↓b_113, ↓x_113, ↓b_114, ↓x_114, ↓b_115, ↓x_115, ↓b_116, ↓x_116, ↓b_117, ↓x_117, ↓b_118, ↓x_118, ↓b_119, ↓x_119, ↓b_120, ↓x_120, ↓b_121, ↓x_121, ↓b_122, ↓x_122, ↓b_123, ↓x_123, ↓b_124, ↓x_124, ↓b_125, ↓x_125, ↓b_126, ↓x_126, ↓b_127, ↓x_127, ↓b_128, ↓x_128, ↓b_129, ↓x_129, ↓b_130, ↓x_130, ↓b_131, ↓x_131, ↓b_132, ↓x_132, ↓b_133, ↓x_133, ↓b_134, ↓x_134, ↓b_135, ↓x_135, ↓b_136, ↓x_136, ↓b_137, ↓x_137, ↓b_138, ↓x_138, ↓b_139, ↓x_139, ↓b_140, ↓x_140, ↓b_141, ↓x_141, ↓b_142, ↓x_142, ↓b_143, ↓x_143, ↓b_144, ↓x_144, ↓b_145, ↓x_145, ↓b_146, ↓x_146, ↓b_147, ↓x_147, ↓b_148, ↓x_148, ↓b_149, ↓x_149, ↓b_150, ↓x_150, ↓b_151, ↓x_151, ↓b_152, ↓x_152, ↓b_153, ↓x_153, ↓b_154, ↓x_154, ↓b_155, ↓x_155, ↓b_156, ↓x_156, ↓b_157, ↓x_157, ↓b_158, ↓x_158]
end RTM
