/-! The reference: a tell. -/
/-- the laws of the side that is being told: branches below b, codes below a -/
def LWB (L : Nat) (bf : Nat → List Br) (b a : Nat) (m : Mem) : Prop := ∀ law, law < 4 → ∃ (b0 : Nat) (bs : List Br), m.1 129 (4 * L + law) = ii b0 ∧ m.1 130 (4 * L + law) = ii ((b0 + bs.length : Nat) : Int) ∧ (bs = [] ∨ 130 * L ≤ b0) ∧ b0 + bs.length ≤ b ∧ LawC L bs b0 a m ∧ (bs = [] ∧ bf law = pln law ∨ bs ≠ [] ∧ bf law = bs)
def MLX (c : Nat → Int) (n L t nr ng nw : Nat) (E : Except (Nat × Nat) Smt) (bf : Nat → List Br) (a b : Nat) (m : Mem) : Prop := RSX c n L a t m ∧ WSX c n t (erW E) m ∧ RNX L nr ng nw E m ∧ m.1 111 33 = ii b ∧ 130 * L ≤ b ∧ 4 * b ≤ 520 * L + t ∧ LWB L bf b a m
def RTx (L : Nat) (m μ : Mem) : Prop := (∀ r, r ≠ 119 → μ.2 r = m.2 r) ∧ (∀ r, r ≠ 111 → r < 120 ∨ 138 < r → μ.1 r = m.1 r) ∧ (∀ k, k < 11 ∨ 16 < k → k ≠ 20 → k ≠ 33 → k ≠ 39 → k ≠ 43 → μ.1 111 k = m.1 111 k) ∧ (∀ i, i ≠ L → μ.1 121 i = m.1 121 i ∧ μ.1 123 i = m.1 123 i ∧ μ.1 128 i = m.1 128 i) ∧ (∀ i, i < 6 * L ∨ 6 * L + 6 ≤ i → μ.1 122 i = m.1 122 i) ∧ (∀ i, i < 4 * L ∨ 4 * L + 4 ≤ i → μ.1 129 i = m.1 129 i ∧ μ.1 130 i = m.1 130 i) ∧ (∀ r, 131 ≤ r → r ≤ 135 → ∀ k, k < 130 * L ∨ 130 * L + 130 ≤ k → μ.1 r k = m.1 r k) ∧ ∀ k, k < 420 * L ∨ 420 * L + 420 ≤ k → μ.1 136 k = m.1 136 k ∧ μ.1 137 k = m.1 137 k
def MLO (c : Nat → Int) (n L nr ng nw : Nat) (E : Except (Nat × Nat) Smt) (bf : Nat → List Br) : Except (Nat × Nat) (Nat × Option (Nat × List Br)) → Mem → Prop
  | .error e, μ => MFX c n e.1 e.2 μ
  | .ok x, μ => ∃ a b, MLX c n L x.1 nr ng nw E (lwU bf x.2) a b μ
section MTL
variable {m m1 m2 μ : Mem} {n t L nr ng nw a b a0 law : Nat} {c : Nat → Int} {E : Except (Nat × Nat) Smt} {S T : Smt} {bf : Nat → List Br}
theorem RTx.rf (m : Mem) : RTx L m m := ⟨fun _ _ => rfl, fun _ _ _ => rfl, fun _ _ _ _ _ _ => rfl, fun _ _ => ⟨rfl, rfl, rfl⟩, fun _ _ => rfl, fun _ _ => ⟨rfl, rfl⟩, fun _ _ _ _ _ => rfl, fun _ _ => ⟨rfl, rfl⟩⟩
theorem RTx.tr (p : RTx L m m1) (q : RTx L m1 m2) : RTx L m m2 := ⟨fun r h => (q.1 r h).trans (p.1 r h), fun r h1 h2 => (q.2.1 r h1 h2).trans (p.2.1 r h1 h2), fun k h1 h2 h3 h4 h5 => (q.2.2.1 k h1 h2 h3 h4 h5).trans (p.2.2.1 k h1 h2 h3 h4 h5), fun i h => ⟨(q.2.2.2.1 i h).1.trans (p.2.2.2.1 i h).1, (q.2.2.2.1 i h).2.1.trans (p.2.2.2.1 i h).2.1, (q.2.2.2.1 i h).2.2.trans (p.2.2.2.1 i h).2.2⟩, fun i h => (q.2.2.2.2.1 i h).trans (p.2.2.2.2.1 i h), fun i h => ⟨(q.2.2.2.2.2.1 i h).1.trans (p.2.2.2.2.2.1 i h).1, (q.2.2.2.2.2.1 i h).2.trans (p.2.2.2.2.2.1 i h).2⟩, fun r h1 h2 k h => (q.2.2.2.2.2.2.1 r h1 h2 k h).trans (p.2.2.2.2.2.2.1 r h1 h2 k h), fun k h => ⟨(q.2.2.2.2.2.2.2 k h).1.trans (p.2.2.2.2.2.2.2 k h).1, (q.2.2.2.2.2.2.2 k h).2.trans (p.2.2.2.2.2.2.2 k h).2⟩⟩
theorem NTx.rt (h : NTx L m μ) : RTx L m μ := ⟨h.1, fun r h1 h2 => h.2.1 r h1 (by omega), fun k h1 h2 _ _ _ => h.2.2.1 k (by omega) h2, h.2.2.2.1, h.2.2.2.2, fun i _ => ⟨by rw [h.2.1 129 (by decide) (by decide)], by rw [h.2.1 130 (by decide) (by decide)]⟩, fun r h1 h2 k _ => by rw [h.2.1 r (by omega) (by omega)], fun k _ => ⟨by rw [h.2.1 136 (by decide) (by decide)], by rw [h.2.1 137 (by decide) (by decide)]⟩⟩
theorem TLx.rt (h : TLx L a b law m μ) (hl : law < 4) (ha : 420 * L ≤ a) (hb : 130 * L ≤ b) : RTx L m μ := ⟨fun r _ => by rw [h.1], fun r h1 h2 => h.2.1 r h1 (by omega), fun k h1 h2 h3 h4 h5 => h.2.2.1 k (by omega) (by omega) (by omega) (by omega) h3 h4 h5, fun i _ => ⟨by rw [h.2.1 121 (by decide) (by decide)], by rw [h.2.1 123 (by decide) (by decide)], by rw [h.2.1 128 (by decide) (by decide)]⟩, fun i _ => by rw [h.2.1 122 (by decide) (by decide)], fun i hi => h.2.2.2.2.2 i (by omega), fun r h1 h2 k hk => h.2.2.2.2.1 r h1 h2 k (by omega), fun k hk => h.2.2.2.1 k (by omega)⟩
theorem LWB.of (h : LWB L bf b a m) (e : ∀ r, 129 ≤ r → r ≤ 137 → μ.1 r = m.1 r) : LWB L bf b a μ := by
  unfold LWB LawC BrC TmM at h ⊢
  rw [e 129 (by omega) (by omega), e 130 (by omega) (by omega), e 131 (by omega) (by omega), e 132 (by omega) (by omega), e 133 (by omega) (by omega), e 134 (by omega) (by omega), e 135 (by omega) (by omega), e 136 (by omega) (by omega), e 137 (by omega) (by omega)]
  exact h
/-- a tell of names and numbers -/
theorem MLX.nt {nr2 ng2 nw2 : Nat} {E2 : Except (Nat × Nat) Smt} {X : Except (Nat × Nat) Nat} (h : MLX c n L t nr ng nw E bf a b m) (A : NTx L m μ) (hX : ∀ x, X = .ok x → t ≤ x) (P : NTO c n L nr2 ng2 nw2 E2 X μ) : MLO c n L nr2 ng2 nw2 E2 bf (X.bind fun x => .ok (x, none)) μ := by
  obtain ⟨⟨hK, h12, h39, b1, b2⟩, hW, hR, h33, b3, b4, hB⟩ := h
  cases X with
  | error e => exact P
  | ok x =>
    have := hX x rfl
    obtain ⟨p1, p2, p3⟩ := P
    refine ⟨a, b, ⟨p1, by rw [A.2.2.1 12 (by decide) (by decide)]; exact h12, by rw [A.2.2.1 39 (by decide) (by decide)]; exact h39, b1, by dsimp only; omega⟩, p2, p3, by rw [A.2.2.1 33 (by decide) (by decide)]; exact h33, b3, by dsimp only; omega, hB.of (fun r h1 h2 => A.2.1 r (by omega) (by omega))⟩
theorem pNm_le {full : Bool} {ws : List Nat} {x : Nat} (h : pNm (tkd c n) full ws t = .ok x) : t ≤ x := by
  unfold pNm at h
  cases full with
  | true => rw [if_pos rfl] at h; cases h
  | false =>
    rw [if_neg (by decide)] at h
    have := (advs_ok h).1
    omega
theorem MWX.rs {z : Nat × List Br} {b0 : Nat} (h : MWX c n L a0 b0 law (.ok z) μ) : ∃ a, a0 ≤ a ∧ RSX c n L a z.1 μ ∧ LawC L z.2 b0 a μ ∧ μ.1 111 33 = ii ((b0 + z.2.length : Nat) : Int) ∧ μ.1 129 (4 * L + law) = ii b0 ∧ μ.1 130 (4 * L + law) = ii ((b0 + z.2.length : Nat) : Int) := h
theorem BrC.tlx {br : Br} {k L' : Nat} {a2 b2 : Nat} (h : BrC L' br k a m) (hx : TLx L a2 b2 law m μ) (hk : k < b2) (ha : a ≤ a2) : BrC L' br k a μ := by
  obtain ⟨a1, a2', a3, x0, x1, x2, x3, x4, x5⟩ := h
  have tm : ∀ {ds : Tm} {z : Nat}, TmM ds z m → z + ds.length ≤ a → TmM ds z μ := fun {ds z} hz hb => ⟨hz.1, fun i hi => by rw [(hx.2.2.2.1 (z + i) (by omega)).1, (hx.2.2.2.1 (z + i) (by omega)).2]; exact hz.2 i hi⟩
  have e : ∀ r, 131 ≤ r → r ≤ 135 → μ.1 r k = m.1 r k := fun r h1 h2 => hx.2.2.2.2.1 r h1 h2 k (Or.inl hk)
  refine ⟨a1, a2', a3, x0, (e 134 (by decide) (by decide)).trans x1, (e 135 (by decide) (by decide)).trans x2, tm x3 x4, x4, ?_⟩
  obtain ⟨o, t⟩ := br
  cases o with
  | none => exact (e 131 (by decide) (by decide)).trans x5
  | some cc =>
    obtain ⟨z1, z2, z3, z4, z5, z6, z7⟩ := x5
    dsimp only at z4 z5 x4
    exact ⟨(e 131 (by decide) (by decide)).trans z1, (e 132 (by decide) (by decide)).trans z2, (e 133 (by decide) (by decide)).trans z3, z4, z5, tm z6 (by omega), tm z7 (by omega)⟩
theorem RNX.tl (h : RNX L nr ng nw E m) (x : TLx L a b law m μ) : RNX L nr ng nw E μ := by
  obtain ⟨r19, r20, r121, r123, r126, lr, lg, lw, av, hav, hS⟩ := h
  have e : ∀ r, r ≠ 111 → r < 129 → μ.1 r = m.1 r := fun r h1 h2 => x.2.1 r h1 (Or.inl h2)
  refine ⟨by rw [x.2.2.1 19 (by decide) (by decide) (by decide) (by decide) (by decide) (by decide) (by decide)]; exact r19, by rw [x.2.2.1 20 (by decide) (by decide) (by decide) (by decide) (by decide) (by decide) (by decide)]; exact r20, by rw [e 121 (by decide) (by decide)]; exact r121, by rw [e 123 (by decide) (by decide)]; exact r123, by rw [e 126 (by decide) (by decide)]; exact r126, lr, lg, lw, av, fun k hk => by rw [e 120 (by decide) (by decide)]; exact hav k hk, fun S hS0 => ?_⟩
  unfold SmV
  rw [x.1, e 122 (by decide) (by decide), e 124 (by decide) (by decide), e 125 (by decide) (by decide), e 127 (by decide) (by decide), e 128 (by decide) (by decide)]
  exact hS S hS0
theorem w_tellALaw (hL : L ≤ 1) (h : MLX c n L t nr ng nw E bf a b m) (hl : law < 4) (hk : tkd c n t = 3 + law) : ∃ μ, RTx L m μ ∧ MLO c n L nr ng nw E bf ((pLw (tkd c n) (pS0 c n) law t).bind fun z => .ok (z.1, some (law, z.2))) μ ∧ ∀ Q, wD D_M_tellOne [.ref 111] (hp m) Q ↔ Q none (hp μ) := by
  obtain ⟨hS, hW, hR, h33, b3, b4, hB⟩ := h
  obtain ⟨hK, h12, h39, b1, b2⟩ := id hS
  have h11 := hK.2.1
  have h13 := hK.1
  have z := tkz_le (c := c) (n := n)
  have tz := hK.2.2.1
  have h114 : m.1 114 t = ii ((23 + law : Nat) : Int) := by
    rw [hK.k, hk]
    unfold kM
    rw [if_pos (by omega), show 20 + (3 + law) = 23 + law by omega]
  obtain ⟨m1, T1, R1, q1⟩ := RLX.go hS hk (by omega)
  have s33 : m1.1 111 33 = ii b := by rw [T1.2.2 33 (by decide) (by decide) (by decide)]; exact h33
  have s19 : m1.1 111 19 = ii L := by rw [T1.2.2 19 (by decide) (by decide) (by decide)]; exact hR.1
  have l0 : ∀ y : Nat × Nat, (Except.ok (t, a) : RXs) = .ok y → a ≤ y.2 := fun y h => by cases h; exact Nat.le_refl _
  obtain ⟨m2, T2, P2, q2⟩ := w_tellLaw (a0 := a) hL hl s19 R1 (fun y hy => rx_le y hy l0) s33 b3 (by omega)
  have F := (T1.l (L := L) (a := a) (b := b)).tl (law := law) |>.tr T2
  have ec : ((rxT (tkd c n) (3 + law) (.ok (t, a))).bind fun y => (adv (tkd c n) 23 y.1).bind fun x => pIfs (tkd c n) (pS0 c n) 4 x) = pLw (tkd c n) (pS0 c n) law t := by
    unfold rxT pLw
    simp only [exb_as, exb_k]
  rw [ec] at P2
  refine ⟨m2, F.rt hl b1 b3, ?_, fun Q => wD_eq (wD_out ?_) Q⟩
  · cases ep : pLw (tkd c n) (pS0 c n) law t with
    | error e => rw [ep] at P2; exact P2
    | ok y =>
      rw [ep] at P2
      obtain ⟨_, y2, y3, y4, y5, y6, y7, y8⟩ := pLw_good ep
      obtain ⟨a', ha, S2, C2, g33, g129, g130⟩ := P2.rs
      refine ⟨a', b + y.2.length, S2, ?_, hR.tl F, g33, by omega, by dsimp only; omega, fun k hk4 => ?_⟩
      · exact (hW.of (F.2.2.1 15 (by decide) (by decide) (by decide) (by decide) (by decide) (by decide) (by decide)) (F.2.2.1 16 (by decide) (by decide) (by decide) (by decide) (by decide) (by decide) (by decide))).up (by dsimp only; omega)
      · show ∃ (b0 : Nat) (bs : List Br), _ ∧ _ ∧ _ ∧ _ ∧ _ ∧ (bs = [] ∧ (if k = law then y.2 else bf k) = pln k ∨ bs ≠ [] ∧ (if k = law then y.2 else bf k) = bs)
        by_cases d : k = law
        · subst d
          refine ⟨b, y.2, g129, g130, Or.inr b3, Nat.le_refl _, C2, Or.inr ⟨fun e0 => ?_, by rw [if_pos rfl]⟩⟩
          rw [e0] at y6
          exact y6
        · obtain ⟨b0, bs, x1, x2, x3, x4, x5, x6⟩ := hB k hk4
          refine ⟨b0, bs, by rw [(F.2.2.2.2.2 _ (by omega)).1]; exact x1, by rw [(F.2.2.2.2.2 _ (by omega)).2]; exact x2, x3, by omega, fun i hi => ((x5 i hi).tlx F (by omega) (Nat.le_refl _)).up ha, by rw [if_neg d]; exact x6⟩
  · have c1 : ((23 + law : Nat) : Int) - 23 = (law : Int) := by omega
    have c2 : ¬ ((law : Int) < 0) := by omega
    have c3 : ¬ (26 < ((23 + law : Nat) : Int)) := by omega
    have d0 : ¬ (((23 + law : Nat) : Int) = 20) := by omega
    have d1 : ¬ (((23 + law : Nat) : Int) = 21) := by omega
    have d2 : ¬ (((23 + law : Nat) : Int) = 22) := by omega
    have d3 : ¬ (((23 + law : Nat) : Int) = 27) := by omega
    simp (disch := omega) only [D_M_tellOne, F_M_tellOne, h11, h114, d0, d1, d2, d3, c1, c2, c3, h13, ↓q1, ↓q2, Nat.reduceEqDiff, Int.reduceEq, Int.reduceLT, Int.reduceLE, Int.reduceNeg, List.length_cons, List.length_nil, ↓wD_run, ↓wD_mV, ↓wS_seq, ↓wS_skip, ↓wS_brk, ↓wS_cnt, ↓wS_retV, ↓wS_put, ↓wS_putZ, ↓wS_fop, ↓wS_ast, ↓wS_astL, ↓wS_aop, ↓wS_if, ↓wS_blk, ↓wS_ret, ↓wS_retZ, ↓wS_call, ↓wS_sw, ↓wS_cpy, ↓wE_kI, ↓wE_kL, ↓wE_o1, ↓wE_o2, ↓wE_oD, ↓wE_oR, ↓wE_gI, ↓wE_gR, ↓wE_aI, ↓wE_aL, ↓wE_aR, ↓wE_lnX, ↓wE_iX, ↓wE_bX, ↓wE_cAnd, ↓wE_cOr, ↓wE_cNot, ↓wE_asV, ↓wA_nil, ↓wA_cons, ↓wE_cI, ↓wE_cL, ↓wE_cR, ↓wE_chX, ↓wE_idX, ↓xI_s, ↓xL_s, ↓xF_s, ↓lI_0, ↓lL_0, ↓lR_0, ↓lI_1, ↓lL_1, ↓lR_1, ↓lI_2, ↓lL_2, ↓lR_2, ↓lI_3, ↓lL_3, ↓lR_3, ↓lI_4, ↓lL_4, ↓lR_4, ↓lI_5, ↓lL_5, ↓lR_5, ↓lI_6, ↓lL_6, ↓lR_6, ↓lI_7, ↓lL_7, ↓lR_7, ↓lI_8, ↓lL_8, ↓lR_8, ↓lI_9, ↓lL_9, ↓lR_9, ↓lI_10, ↓lL_10, ↓lR_10, ↓lI_11, ↓lL_11, ↓lR_11, ↓lI_12, ↓lL_12, ↓lR_12, ↓lI_13, ↓lL_13, ↓lR_13, ↓lI_14, ↓lL_14, ↓lR_14, ↓lI_15, ↓lL_15, ↓lR_15, ↓lI_16, ↓lL_16, ↓lR_16, ↓st_0, ↓st_1, ↓st_2, ↓st_3, ↓st_4, ↓st_5, ↓st_6, ↓st_7, ↓st_8, ↓st_9, ↓st_10, ↓st_11, ↓st_12, ↓st_13, ↓st_14, ↓st_15, ↓st_16, ↓in_0, ↓in_1, ↓in_2, ↓in_3, ↓in_4, ↓in_5, ↓in_6, ↓in_7, ↓in_8, ↓in_9, ↓in_10, ↓in_11, ↓in_12, ↓in_13, ↓in_14, ↓in_15, ↓in_16, ↓dc_0, ↓dc_1, ↓dc_2, ↓dc_3, ↓dc_4, ↓dc_5, ↓dc_6, ↓dc_7, ↓dc_8, ↓dc_9, ↓dc_10, ↓dc_11, ↓dc_12, ↓dc_13, ↓dc_14, ↓dc_15, ↓dc_16, ↓bk_0_0, ↓bk_0_1, ↓bk_0_2, ↓bk_0_3, ↓bk_0_4, ↓bk_0_5, ↓bk_1_1, ↓bk_1_2, ↓bk_1_3, ↓bk_1_4, ↓bk_1_5, ↓bk_1_6, ↓bk_2_2, ↓bk_2_3, ↓bk_2_4, ↓bk_2_5, ↓bk_2_6, ↓bk_2_7, ↓bk_3_3, ↓bk_3_4, ↓bk_3_5, ↓bk_3_6, ↓bk_3_7, ↓bk_3_8, ↓bk_4_4, ↓bk_4_5, ↓bk_4_6, ↓bk_4_7, ↓bk_4_8, ↓bk_4_9, ↓bk_5_5, ↓bk_5_6, ↓bk_5_7, ↓bk_5_8, ↓bk_5_9, ↓bk_5_10, ↓bk_6_6, ↓bk_6_7, ↓bk_6_8, ↓bk_6_9, ↓bk_6_10, ↓bk_6_11, ↓bk_7_7, ↓bk_7_8, ↓bk_7_9, ↓bk_7_10, ↓bk_7_11, ↓bk_7_12, ↓bk_8_8, ↓bk_8_9, ↓bk_8_10, ↓bk_8_11, ↓bk_8_12, ↓bk_8_13, ↓bk_9_9, ↓bk_9_10, ↓bk_9_11, ↓bk_9_12, ↓bk_9_13, ↓bk_9_14, ↓bk_10_10, ↓bk_10_11, ↓bk_10_12, ↓bk_10_13, ↓bk_10_14, ↓bk_10_15, ↓bk_11_11, ↓bk_11_12, ↓bk_11_13, ↓bk_11_14, ↓bk_11_15, ↓bk_11_16, ↓bk_12_12, ↓bk_12_13, ↓bk_12_14, ↓bk_12_15, ↓bk_12_16, ↓bk_12_17, ↓bk_13_13, ↓bk_13_14, ↓bk_13_15, ↓bk_13_16, ↓bk_13_17, ↓bk_13_18, ↓bk_14_14, ↓bk_14_15, ↓bk_14_16, ↓bk_14_17, ↓bk_14_18, ↓bk_15_15, ↓bk_15_16, ↓bk_15_17, ↓bk_15_18, ↓bk_16_16, ↓bk_16_17, ↓bk_16_18, ↓tk_0_0, ↓tk_0_1, ↓tk_0_2, ↓tk_0_3, ↓tk_0_4, ↓tk_0_5, ↓tk_1_1, ↓tk_1_2, ↓tk_1_3, ↓tk_1_4, ↓tk_1_5, ↓tk_1_6, ↓tk_2_2, ↓tk_2_3, ↓tk_2_4, ↓tk_2_5, ↓tk_2_6, ↓tk_2_7, ↓tk_3_3, ↓tk_3_4, ↓tk_3_5, ↓tk_3_6, ↓tk_3_7, ↓tk_3_8, ↓tk_4_4, ↓tk_4_5, ↓tk_4_6, ↓tk_4_7, ↓tk_4_8, ↓tk_4_9, ↓tk_5_5, ↓tk_5_6, ↓tk_5_7, ↓tk_5_8, ↓tk_5_9, ↓tk_5_10, ↓tk_6_6, ↓tk_6_7, ↓tk_6_8, ↓tk_6_9, ↓tk_6_10, ↓tk_6_11, ↓tk_7_7, ↓tk_7_8, ↓tk_7_9, ↓tk_7_10, ↓tk_7_11, ↓tk_7_12, ↓tk_8_8, ↓tk_8_9, ↓tk_8_10, ↓tk_8_11, ↓tk_8_12, ↓tk_8_13, ↓tk_9_9, ↓tk_9_10, ↓tk_9_11, ↓tk_9_12, ↓tk_9_13, ↓tk_9_14, ↓tk_10_10, ↓tk_10_11, ↓tk_10_12, ↓tk_10_13, ↓tk_10_14, ↓tk_10_15, ↓tk_11_11, ↓tk_11_12, ↓tk_11_13, ↓tk_11_14, ↓tk_11_15, ↓tk_11_16, ↓tk_12_12, ↓tk_12_13, ↓tk_12_14, ↓tk_12_15, ↓tk_12_16, ↓tk_12_17, ↓tk_13_13, ↓tk_13_14, ↓tk_13_15, ↓tk_13_16, ↓tk_13_17, ↓tk_13_18, ↓tk_14_14, ↓tk_14_15, ↓tk_14_16, ↓tk_14_17, ↓tk_14_18, ↓tk_15_15, ↓tk_15_16, ↓tk_15_17, ↓tk_15_18, ↓tk_16_16, ↓tk_16_17, ↓tk_16_18, ↓bk_r1, ↓bk_r2, ↓bk_r3, ↓sw_t, ↓sw_f, ↓sw_n, decide_eq_true_eq, ↓reduceIte, ii_add, ii_sub, ii_mul, true_and, and_true, List.map_cons, List.map_nil, Value.category, ne_eq, gt_iff_lt, ge_iff_le, not_true_eq_false, not_false_eq_true, Bool.false_eq_true, true_or, or_true, false_or, or_false, okI_ii, ii_nat, ii_lt, ii_le, ii_inj, ii_lt0, ii_0lt, ii_0le, ii_le0, ii_eq0, Int.toNat_add, Int.toNat_natCast, Int.toNat_mul, Int.reduceToNat, Nat.zero_add, nrw_0, sI_eq, sI_ne, sI_2, sJ_1, sI_sI, sI_sw, io_111, ↓g_111_0, ↓p_111_0, ↓g_111_1, ↓g_111_2, ↓p_111_2, ↓g_111_3, ↓g_111_4, ↓p_111_4, ↓g_111_5, ↓g_111_6, ↓g_111_7, ↓g_111_8, ↓g_111_9, ↓g_111_10, ↓p_111_10, ↓g_111_11, ↓p_111_11, ↓g_111_12, ↓p_111_12, ↓g_111_13, ↓p_111_13, ↓g_111_14, ↓p_111_14, ↓g_111_15, ↓p_111_15, ↓g_111_16, ↓p_111_16, ↓g_111_17, ↓p_111_17, ↓g_111_18, ↓p_111_18, ↓g_111_19, ↓p_111_19, ↓g_111_20, ↓p_111_20, ↓g_111_21, ↓g_111_22, ↓g_111_23, ↓g_111_24, ↓g_111_25, ↓g_111_26, ↓g_111_27, ↓g_111_28, ↓g_111_29, ↓g_111_30, ↓g_111_31, ↓g_111_32, ↓g_111_33, ↓p_111_33, ↓g_111_34, ↓g_111_35, ↓g_111_36, ↓g_111_37, ↓g_111_38, ↓g_111_39, ↓p_111_39, ↓g_111_40, ↓g_111_41, ↓g_111_42, ↓g_111_43, ↓p_111_43, ↓g_111_44, ↓g_111_45, ↓g_111_46, ↓p_111_46, ↓g_111_47, ↓g_111_48, ↓g_111_49, ↓p_111_49, ↓g_111_50, ↓p_111_50, ↓g_111_51, ↓p_111_51, ↓g_111_52, ↓g_111_53, ↓g_111_54, ↓g_111_55, ↓g_111_56, ↓g_111_57, ↓p_111_57, ↓g_111_58, ↓g_111_59, ↓p_111_59, ↓g_111_60, ↓p_111_60, ↓g_111_61, ↓p_111_61, ↓g_111_62, ↓g_111_63, ↓g_111_64, ↓g_111_65, ↓g_111_66, ↓g_111_67, ↓p_111_67, ↓g_111_68, ↓g_111_69, ↓g_111_70, ↓g_111_71, ↓g_111_72, ↓b_112, ↓x_112, ↓b_113, ↓x_113, ↓b_114, ↓x_114, ↓b_115, ↓x_115, ↓b_116, ↓x_116, ↓b_117, ↓x_117, ↓b_118, ↓x_118, ↓b_119, ↓x_119, ↓b_120, ↓x_120, ↓b_121, ↓x_121, ↓b_122, ↓x_122, ↓b_123, ↓x_123, ↓b_124, ↓x_124, ↓b_125, ↓x_125, ↓b_126, ↓x_126, ↓b_127, ↓x_127, ↓b_128, ↓x_128, ↓b_129, ↓x_129, ↓b_130, ↓x_130, ↓b_131, ↓x_131, ↓b_132, ↓x_132, ↓b_133, ↓x_133, ↓b_134, ↓x_134, ↓b_135, ↓x_135, ↓b_136, ↓x_136, ↓b_137, ↓x_137, ↓b_138, ↓x_138, ↓b_139, ↓x_139, ↓b_140, ↓x_140, ↓b_141, ↓x_141, ↓b_142, ↓x_142, ↓b_143, ↓x_143, ↓b_144, ↓x_144, ↓b_145, ↓x_145, ↓b_146, ↓x_146, ↓b_147, ↓x_147, ↓b_148, ↓x_148, ↓b_149, ↓x_149, ↓b_150, ↓x_150, ↓b_151, ↓x_151, ↓b_152, ↓x_152, ↓b_153, ↓x_153, ↓b_154, ↓x_154, ↓b_155, ↓x_155, ↓b_156, ↓x_156, ↓b_157, ↓x_157, ↓b_158, ↓x_158]
theorem w_tellBad (hK : MKX c n t m) (hk : 8 ≤ tkd c n t) : ∃ μ, RTx L m μ ∧ MFX c n 1 t μ ∧ ∀ Q, wD D_M_tellOne [.ref 111] (hp m) Q ↔ Q none (hp μ) := by
  have h11 := hK.2.1
  have h13 := hK.1
  have z := tkz_le (c := c) (n := n)
  have tz := hK.2.2.1
  have kb : tkd c n t ≤ 32 := tkk_le
  have h114 := hK.k
  have kk : (28 ≤ kM (tkd c n t) ∨ kM (tkd c n t) ≤ 15) ∧ kM (tkd c n t) ≤ 39 := by
    have : ∀ k, k < 33 → 8 ≤ k → (28 ≤ kM k ∨ kM k ≤ 15) ∧ kM k ≤ 39 := by decide +kernel
    exact this _ (by omega) hk
  generalize kM (tkd c n t) = y at h114 kk
  have q1 : ∀ Q, wD D_M_fail [.ref 111, .int (ii 1)] (hp m) Q ↔ Q none (hp (mfl m 1 (m.1 115 t))) := fun Q => w_M_fail (f := 1) h13 h11 (by omega) Q
  have F1 := mfl_b (f := 1) hK (by decide)
  have T1 : TFx m (mfl m 1 (m.1 115 t)) := TFx_mfl
  obtain ⟨m1, e1⟩ : ∃ m1, m1 = mfl m 1 (m.1 115 t) := ⟨_, rfl⟩
  rw [← e1] at q1 F1 T1
  have g13 : m1.1 111 13 = ii 1 := F1.1
  refine ⟨m1, T1.wf.nt.rt, F1, fun Q => wD_eq (wD_out ?_) Q⟩
  have d0 : ¬ ((y : Int) = 20) := by omega
  have d1 : ¬ ((y : Int) = 21) := by omega
  have d2 : ¬ ((y : Int) = 22) := by omega
  have d3 : ¬ ((y : Int) = 27) := by omega
  by_cases c2 : (y : Int) - 23 < 0
  · simp (disch := omega) only [D_M_tellOne, F_M_tellOne, h11, h114, d0, d1, d2, d3, c2, ↓q1, g13, Nat.reduceEqDiff, Int.reduceEq, Int.reduceLT, Int.reduceLE, Int.reduceNeg, List.length_cons, List.length_nil, ↓wD_run, ↓wD_mV, ↓wS_seq, ↓wS_skip, ↓wS_brk, ↓wS_cnt, ↓wS_retV, ↓wS_put, ↓wS_putZ, ↓wS_fop, ↓wS_ast, ↓wS_astL, ↓wS_aop, ↓wS_if, ↓wS_blk, ↓wS_ret, ↓wS_retZ, ↓wS_call, ↓wS_sw, ↓wS_cpy, ↓wE_kI, ↓wE_kL, ↓wE_o1, ↓wE_o2, ↓wE_oD, ↓wE_oR, ↓wE_gI, ↓wE_gR, ↓wE_aI, ↓wE_aL, ↓wE_aR, ↓wE_lnX, ↓wE_iX, ↓wE_bX, ↓wE_cAnd, ↓wE_cOr, ↓wE_cNot, ↓wE_asV, ↓wA_nil, ↓wA_cons, ↓wE_cI, ↓wE_cL, ↓wE_cR, ↓wE_chX, ↓wE_idX, ↓xI_s, ↓xL_s, ↓xF_s, ↓lI_0, ↓lL_0, ↓lR_0, ↓lI_1, ↓lL_1, ↓lR_1, ↓lI_2, ↓lL_2, ↓lR_2, ↓lI_3, ↓lL_3, ↓lR_3, ↓lI_4, ↓lL_4, ↓lR_4, ↓lI_5, ↓lL_5, ↓lR_5, ↓lI_6, ↓lL_6, ↓lR_6, ↓lI_7, ↓lL_7, ↓lR_7, ↓lI_8, ↓lL_8, ↓lR_8, ↓lI_9, ↓lL_9, ↓lR_9, ↓lI_10, ↓lL_10, ↓lR_10, ↓lI_11, ↓lL_11, ↓lR_11, ↓lI_12, ↓lL_12, ↓lR_12, ↓lI_13, ↓lL_13, ↓lR_13, ↓lI_14, ↓lL_14, ↓lR_14, ↓lI_15, ↓lL_15, ↓lR_15, ↓lI_16, ↓lL_16, ↓lR_16, ↓st_0, ↓st_1, ↓st_2, ↓st_3, ↓st_4, ↓st_5, ↓st_6, ↓st_7, ↓st_8, ↓st_9, ↓st_10, ↓st_11, ↓st_12, ↓st_13, ↓st_14, ↓st_15, ↓st_16, ↓in_0, ↓in_1, ↓in_2, ↓in_3, ↓in_4, ↓in_5, ↓in_6, ↓in_7, ↓in_8, ↓in_9, ↓in_10, ↓in_11, ↓in_12, ↓in_13, ↓in_14, ↓in_15, ↓in_16, ↓dc_0, ↓dc_1, ↓dc_2, ↓dc_3, ↓dc_4, ↓dc_5, ↓dc_6, ↓dc_7, ↓dc_8, ↓dc_9, ↓dc_10, ↓dc_11, ↓dc_12, ↓dc_13, ↓dc_14, ↓dc_15, ↓dc_16, ↓bk_0_0, ↓bk_0_1, ↓bk_0_2, ↓bk_0_3, ↓bk_0_4, ↓bk_0_5, ↓bk_1_1, ↓bk_1_2, ↓bk_1_3, ↓bk_1_4, ↓bk_1_5, ↓bk_1_6, ↓bk_2_2, ↓bk_2_3, ↓bk_2_4, ↓bk_2_5, ↓bk_2_6, ↓bk_2_7, ↓bk_3_3, ↓bk_3_4, ↓bk_3_5, ↓bk_3_6, ↓bk_3_7, ↓bk_3_8, ↓bk_4_4, ↓bk_4_5, ↓bk_4_6, ↓bk_4_7, ↓bk_4_8, ↓bk_4_9, ↓bk_5_5, ↓bk_5_6, ↓bk_5_7, ↓bk_5_8, ↓bk_5_9, ↓bk_5_10, ↓bk_6_6, ↓bk_6_7, ↓bk_6_8, ↓bk_6_9, ↓bk_6_10, ↓bk_6_11, ↓bk_7_7, ↓bk_7_8, ↓bk_7_9, ↓bk_7_10, ↓bk_7_11, ↓bk_7_12, ↓bk_8_8, ↓bk_8_9, ↓bk_8_10, ↓bk_8_11, ↓bk_8_12, ↓bk_8_13, ↓bk_9_9, ↓bk_9_10, ↓bk_9_11, ↓bk_9_12, ↓bk_9_13, ↓bk_9_14, ↓bk_10_10, ↓bk_10_11, ↓bk_10_12, ↓bk_10_13, ↓bk_10_14, ↓bk_10_15, ↓bk_11_11, ↓bk_11_12, ↓bk_11_13, ↓bk_11_14, ↓bk_11_15, ↓bk_11_16, ↓bk_12_12, ↓bk_12_13, ↓bk_12_14, ↓bk_12_15, ↓bk_12_16, ↓bk_12_17, ↓bk_13_13, ↓bk_13_14, ↓bk_13_15, ↓bk_13_16, ↓bk_13_17, ↓bk_13_18, ↓bk_14_14, ↓bk_14_15, ↓bk_14_16, ↓bk_14_17, ↓bk_14_18, ↓bk_15_15, ↓bk_15_16, ↓bk_15_17, ↓bk_15_18, ↓bk_16_16, ↓bk_16_17, ↓bk_16_18, ↓tk_0_0, ↓tk_0_1, ↓tk_0_2, ↓tk_0_3, ↓tk_0_4, ↓tk_0_5, ↓tk_1_1, ↓tk_1_2, ↓tk_1_3, ↓tk_1_4, ↓tk_1_5, ↓tk_1_6, ↓tk_2_2, ↓tk_2_3, ↓tk_2_4, ↓tk_2_5, ↓tk_2_6, ↓tk_2_7, ↓tk_3_3, ↓tk_3_4, ↓tk_3_5, ↓tk_3_6, ↓tk_3_7, ↓tk_3_8, ↓tk_4_4, ↓tk_4_5, ↓tk_4_6, ↓tk_4_7, ↓tk_4_8, ↓tk_4_9, ↓tk_5_5, ↓tk_5_6, ↓tk_5_7, ↓tk_5_8, ↓tk_5_9, ↓tk_5_10, ↓tk_6_6, ↓tk_6_7, ↓tk_6_8, ↓tk_6_9, ↓tk_6_10, ↓tk_6_11, ↓tk_7_7, ↓tk_7_8, ↓tk_7_9, ↓tk_7_10, ↓tk_7_11, ↓tk_7_12, ↓tk_8_8, ↓tk_8_9, ↓tk_8_10, ↓tk_8_11, ↓tk_8_12, ↓tk_8_13, ↓tk_9_9, ↓tk_9_10, ↓tk_9_11, ↓tk_9_12, ↓tk_9_13, ↓tk_9_14, ↓tk_10_10, ↓tk_10_11, ↓tk_10_12, ↓tk_10_13, ↓tk_10_14, ↓tk_10_15, ↓tk_11_11, ↓tk_11_12, ↓tk_11_13, ↓tk_11_14, ↓tk_11_15, ↓tk_11_16, ↓tk_12_12, ↓tk_12_13, ↓tk_12_14, ↓tk_12_15, ↓tk_12_16, ↓tk_12_17, ↓tk_13_13, ↓tk_13_14, ↓tk_13_15, ↓tk_13_16, ↓tk_13_17, ↓tk_13_18, ↓tk_14_14, ↓tk_14_15, ↓tk_14_16, ↓tk_14_17, ↓tk_14_18, ↓tk_15_15, ↓tk_15_16, ↓tk_15_17, ↓tk_15_18, ↓tk_16_16, ↓tk_16_17, ↓tk_16_18, ↓bk_r1, ↓bk_r2, ↓bk_r3, ↓sw_t, ↓sw_f, ↓sw_n, decide_eq_true_eq, ↓reduceIte, ii_add, ii_sub, ii_mul, true_and, and_true, List.map_cons, List.map_nil, Value.category, ne_eq, gt_iff_lt, ge_iff_le, not_true_eq_false, not_false_eq_true, Bool.false_eq_true, true_or, or_true, false_or, or_false, okI_ii, ii_nat, ii_lt, ii_le, ii_inj, ii_lt0, ii_0lt, ii_0le, ii_le0, ii_eq0, Int.toNat_add, Int.toNat_natCast, Int.toNat_mul, Int.reduceToNat, Nat.zero_add, nrw_0, sI_eq, sI_ne, sI_2, sJ_1, sI_sI, sI_sw, io_111, ↓g_111_0, ↓p_111_0, ↓g_111_1, ↓g_111_2, ↓p_111_2, ↓g_111_3, ↓g_111_4, ↓p_111_4, ↓g_111_5, ↓g_111_6, ↓g_111_7, ↓g_111_8, ↓g_111_9, ↓g_111_10, ↓p_111_10, ↓g_111_11, ↓p_111_11, ↓g_111_12, ↓p_111_12, ↓g_111_13, ↓p_111_13, ↓g_111_14, ↓p_111_14, ↓g_111_15, ↓p_111_15, ↓g_111_16, ↓p_111_16, ↓g_111_17, ↓p_111_17, ↓g_111_18, ↓p_111_18, ↓g_111_19, ↓p_111_19, ↓g_111_20, ↓p_111_20, ↓g_111_21, ↓g_111_22, ↓g_111_23, ↓g_111_24, ↓g_111_25, ↓g_111_26, ↓g_111_27, ↓g_111_28, ↓g_111_29, ↓g_111_30, ↓g_111_31, ↓g_111_32, ↓g_111_33, ↓p_111_33, ↓g_111_34, ↓g_111_35, ↓g_111_36, ↓g_111_37, ↓g_111_38, ↓g_111_39, ↓p_111_39, ↓g_111_40, ↓g_111_41, ↓g_111_42, ↓g_111_43, ↓p_111_43, ↓g_111_44, ↓g_111_45, ↓g_111_46, ↓p_111_46, ↓g_111_47, ↓g_111_48, ↓g_111_49, ↓p_111_49, ↓g_111_50, ↓p_111_50, ↓g_111_51, ↓p_111_51, ↓g_111_52, ↓g_111_53, ↓g_111_54, ↓g_111_55, ↓g_111_56, ↓g_111_57, ↓p_111_57, ↓g_111_58, ↓g_111_59, ↓p_111_59, ↓g_111_60, ↓p_111_60, ↓g_111_61, ↓p_111_61, ↓g_111_62, ↓g_111_63, ↓g_111_64, ↓g_111_65, ↓g_111_66, ↓g_111_67, ↓p_111_67, ↓g_111_68, ↓g_111_69, ↓g_111_70, ↓g_111_71, ↓g_111_72, ↓b_112, ↓x_112, ↓b_113, ↓x_113, ↓b_114, ↓x_114, ↓b_115, ↓x_115, ↓b_116, ↓x_116, ↓b_117, ↓x_117, ↓b_118, ↓x_118, ↓b_119, ↓x_119, ↓b_120, ↓x_120, ↓b_121, ↓x_121, ↓b_122, ↓x_122, ↓b_123, ↓x_123, ↓b_124, ↓x_124, ↓b_125, ↓x_125, ↓b_126, ↓x_126, ↓b_127, ↓x_127, ↓b_128, ↓x_128, ↓b_129, ↓x_129, ↓b_130, ↓x_130, ↓b_131, ↓x_131, ↓b_132, ↓x_132, ↓b_133, ↓x_133, ↓b_134, ↓x_134, ↓b_135, ↓x_135, ↓b_136, ↓x_136, ↓b_137, ↓x_137, ↓b_138, ↓x_138, ↓b_139, ↓x_139, ↓b_140, ↓x_140, ↓b_141, ↓x_141, ↓b_142, ↓x_142, ↓b_143, ↓x_143, ↓b_144, ↓x_144, ↓b_145, ↓x_145, ↓b_146, ↓x_146, ↓b_147, ↓x_147, ↓b_148, ↓x_148, ↓b_149, ↓x_149, ↓b_150, ↓x_150, ↓b_151, ↓x_151, ↓b_152, ↓x_152, ↓b_153, ↓x_153, ↓b_154, ↓x_154, ↓b_155, ↓x_155, ↓b_156, ↓x_156, ↓b_157, ↓x_157, ↓b_158, ↓x_158]
  · have c3 : 26 < (y : Int) := by omega
    simp (disch := omega) only [D_M_tellOne, F_M_tellOne, h11, h114, d0, d1, d2, d3, c2, c3, ↓q1, g13, Nat.reduceEqDiff, Int.reduceEq, Int.reduceLT, Int.reduceLE, Int.reduceNeg, List.length_cons, List.length_nil, ↓wD_run, ↓wD_mV, ↓wS_seq, ↓wS_skip, ↓wS_brk, ↓wS_cnt, ↓wS_retV, ↓wS_put, ↓wS_putZ, ↓wS_fop, ↓wS_ast, ↓wS_astL, ↓wS_aop, ↓wS_if, ↓wS_blk, ↓wS_ret, ↓wS_retZ, ↓wS_call, ↓wS_sw, ↓wS_cpy, ↓wE_kI, ↓wE_kL, ↓wE_o1, ↓wE_o2, ↓wE_oD, ↓wE_oR, ↓wE_gI, ↓wE_gR, ↓wE_aI, ↓wE_aL, ↓wE_aR, ↓wE_lnX, ↓wE_iX, ↓wE_bX, ↓wE_cAnd, ↓wE_cOr, ↓wE_cNot, ↓wE_asV, ↓wA_nil, ↓wA_cons, ↓wE_cI, ↓wE_cL, ↓wE_cR, ↓wE_chX, ↓wE_idX, ↓xI_s, ↓xL_s, ↓xF_s, ↓lI_0, ↓lL_0, ↓lR_0, ↓lI_1, ↓lL_1, ↓lR_1, ↓lI_2, ↓lL_2, ↓lR_2, ↓lI_3, ↓lL_3, ↓lR_3, ↓lI_4, ↓lL_4, ↓lR_4, ↓lI_5, ↓lL_5, ↓lR_5, ↓lI_6, ↓lL_6, ↓lR_6, ↓lI_7, ↓lL_7, ↓lR_7, ↓lI_8, ↓lL_8, ↓lR_8, ↓lI_9, ↓lL_9, ↓lR_9, ↓lI_10, ↓lL_10, ↓lR_10, ↓lI_11, ↓lL_11, ↓lR_11, ↓lI_12, ↓lL_12, ↓lR_12, ↓lI_13, ↓lL_13, ↓lR_13, ↓lI_14, ↓lL_14, ↓lR_14, ↓lI_15, ↓lL_15, ↓lR_15, ↓lI_16, ↓lL_16, ↓lR_16, ↓st_0, ↓st_1, ↓st_2, ↓st_3, ↓st_4, ↓st_5, ↓st_6, ↓st_7, ↓st_8, ↓st_9, ↓st_10, ↓st_11, ↓st_12, ↓st_13, ↓st_14, ↓st_15, ↓st_16, ↓in_0, ↓in_1, ↓in_2, ↓in_3, ↓in_4, ↓in_5, ↓in_6, ↓in_7, ↓in_8, ↓in_9, ↓in_10, ↓in_11, ↓in_12, ↓in_13, ↓in_14, ↓in_15, ↓in_16, ↓dc_0, ↓dc_1, ↓dc_2, ↓dc_3, ↓dc_4, ↓dc_5, ↓dc_6, ↓dc_7, ↓dc_8, ↓dc_9, ↓dc_10, ↓dc_11, ↓dc_12, ↓dc_13, ↓dc_14, ↓dc_15, ↓dc_16, ↓bk_0_0, ↓bk_0_1, ↓bk_0_2, ↓bk_0_3, ↓bk_0_4, ↓bk_0_5, ↓bk_1_1, ↓bk_1_2, ↓bk_1_3, ↓bk_1_4, ↓bk_1_5, ↓bk_1_6, ↓bk_2_2, ↓bk_2_3, ↓bk_2_4, ↓bk_2_5, ↓bk_2_6, ↓bk_2_7, ↓bk_3_3, ↓bk_3_4, ↓bk_3_5, ↓bk_3_6, ↓bk_3_7, ↓bk_3_8, ↓bk_4_4, ↓bk_4_5, ↓bk_4_6, ↓bk_4_7, ↓bk_4_8, ↓bk_4_9, ↓bk_5_5, ↓bk_5_6, ↓bk_5_7, ↓bk_5_8, ↓bk_5_9, ↓bk_5_10, ↓bk_6_6, ↓bk_6_7, ↓bk_6_8, ↓bk_6_9, ↓bk_6_10, ↓bk_6_11, ↓bk_7_7, ↓bk_7_8, ↓bk_7_9, ↓bk_7_10, ↓bk_7_11, ↓bk_7_12, ↓bk_8_8, ↓bk_8_9, ↓bk_8_10, ↓bk_8_11, ↓bk_8_12, ↓bk_8_13, ↓bk_9_9, ↓bk_9_10, ↓bk_9_11, ↓bk_9_12, ↓bk_9_13, ↓bk_9_14, ↓bk_10_10, ↓bk_10_11, ↓bk_10_12, ↓bk_10_13, ↓bk_10_14, ↓bk_10_15, ↓bk_11_11, ↓bk_11_12, ↓bk_11_13, ↓bk_11_14, ↓bk_11_15, ↓bk_11_16, ↓bk_12_12, ↓bk_12_13, ↓bk_12_14, ↓bk_12_15, ↓bk_12_16, ↓bk_12_17, ↓bk_13_13, ↓bk_13_14, ↓bk_13_15, ↓bk_13_16, ↓bk_13_17, ↓bk_13_18, ↓bk_14_14, ↓bk_14_15, ↓bk_14_16, ↓bk_14_17, ↓bk_14_18, ↓bk_15_15, ↓bk_15_16, ↓bk_15_17, ↓bk_15_18, ↓bk_16_16, ↓bk_16_17, ↓bk_16_18, ↓tk_0_0, ↓tk_0_1, ↓tk_0_2, ↓tk_0_3, ↓tk_0_4, ↓tk_0_5, ↓tk_1_1, ↓tk_1_2, ↓tk_1_3, ↓tk_1_4, ↓tk_1_5, ↓tk_1_6, ↓tk_2_2, ↓tk_2_3, ↓tk_2_4, ↓tk_2_5, ↓tk_2_6, ↓tk_2_7, ↓tk_3_3, ↓tk_3_4, ↓tk_3_5, ↓tk_3_6, ↓tk_3_7, ↓tk_3_8, ↓tk_4_4, ↓tk_4_5, ↓tk_4_6, ↓tk_4_7, ↓tk_4_8, ↓tk_4_9, ↓tk_5_5, ↓tk_5_6, ↓tk_5_7, ↓tk_5_8, ↓tk_5_9, ↓tk_5_10, ↓tk_6_6, ↓tk_6_7, ↓tk_6_8, ↓tk_6_9, ↓tk_6_10, ↓tk_6_11, ↓tk_7_7, ↓tk_7_8, ↓tk_7_9, ↓tk_7_10, ↓tk_7_11, ↓tk_7_12, ↓tk_8_8, ↓tk_8_9, ↓tk_8_10, ↓tk_8_11, ↓tk_8_12, ↓tk_8_13, ↓tk_9_9, ↓tk_9_10, ↓tk_9_11, ↓tk_9_12, ↓tk_9_13, ↓tk_9_14, ↓tk_10_10, ↓tk_10_11, ↓tk_10_12, ↓tk_10_13, ↓tk_10_14, ↓tk_10_15, ↓tk_11_11, ↓tk_11_12, ↓tk_11_13, ↓tk_11_14, ↓tk_11_15, ↓tk_11_16, ↓tk_12_12, ↓tk_12_13, ↓tk_12_14, ↓tk_12_15, ↓tk_12_16, ↓tk_12_17, ↓tk_13_13, ↓tk_13_14, ↓tk_13_15, ↓tk_13_16, ↓tk_13_17, ↓tk_13_18, ↓tk_14_14, ↓tk_14_15, ↓tk_14_16, ↓tk_14_17, ↓tk_14_18, ↓tk_15_15, ↓tk_15_16, ↓tk_15_17, ↓tk_15_18, ↓tk_16_16, ↓tk_16_17, ↓tk_16_18, ↓bk_r1, ↓bk_r2, ↓bk_r3, ↓sw_t, ↓sw_f, ↓sw_n, decide_eq_true_eq, ↓reduceIte, ii_add, ii_sub, ii_mul, true_and, and_true, List.map_cons, List.map_nil, Value.category, ne_eq, gt_iff_lt, ge_iff_le, not_true_eq_false, not_false_eq_true, Bool.false_eq_true, true_or, or_true, false_or, or_false, okI_ii, ii_nat, ii_lt, ii_le, ii_inj, ii_lt0, ii_0lt, ii_0le, ii_le0, ii_eq0, Int.toNat_add, Int.toNat_natCast, Int.toNat_mul, Int.reduceToNat, Nat.zero_add, nrw_0, sI_eq, sI_ne, sI_2, sJ_1, sI_sI, sI_sw, io_111, ↓g_111_0, ↓p_111_0, ↓g_111_1, ↓g_111_2, ↓p_111_2, ↓g_111_3, ↓g_111_4, ↓p_111_4, ↓g_111_5, ↓g_111_6, ↓g_111_7, ↓g_111_8, ↓g_111_9, ↓g_111_10, ↓p_111_10, ↓g_111_11, ↓p_111_11, ↓g_111_12, ↓p_111_12, ↓g_111_13, ↓p_111_13, ↓g_111_14, ↓p_111_14, ↓g_111_15, ↓p_111_15, ↓g_111_16, ↓p_111_16, ↓g_111_17, ↓p_111_17, ↓g_111_18, ↓p_111_18, ↓g_111_19, ↓p_111_19, ↓g_111_20, ↓p_111_20, ↓g_111_21, ↓g_111_22, ↓g_111_23, ↓g_111_24, ↓g_111_25, ↓g_111_26, ↓g_111_27, ↓g_111_28, ↓g_111_29, ↓g_111_30, ↓g_111_31, ↓g_111_32, ↓g_111_33, ↓p_111_33, ↓g_111_34, ↓g_111_35, ↓g_111_36, ↓g_111_37, ↓g_111_38, ↓g_111_39, ↓p_111_39, ↓g_111_40, ↓g_111_41, ↓g_111_42, ↓g_111_43, ↓p_111_43, ↓g_111_44, ↓g_111_45, ↓g_111_46, ↓p_111_46, ↓g_111_47, ↓g_111_48, ↓g_111_49, ↓p_111_49, ↓g_111_50, ↓p_111_50, ↓g_111_51, ↓p_111_51, ↓g_111_52, ↓g_111_53, ↓g_111_54, ↓g_111_55, ↓g_111_56, ↓g_111_57, ↓p_111_57, ↓g_111_58, ↓g_111_59, ↓p_111_59, ↓g_111_60, ↓p_111_60, ↓g_111_61, ↓p_111_61, ↓g_111_62, ↓g_111_63, ↓g_111_64, ↓g_111_65, ↓g_111_66, ↓g_111_67, ↓p_111_67, ↓g_111_68, ↓g_111_69, ↓g_111_70, ↓g_111_71, ↓g_111_72, ↓b_112, ↓x_112, ↓b_113, ↓x_113, ↓b_114, ↓x_114, ↓b_115, ↓x_115, ↓b_116, ↓x_116, ↓b_117, ↓x_117, ↓b_118, ↓x_118, ↓b_119, ↓x_119, ↓b_120, ↓x_120, ↓b_121, ↓x_121, ↓b_122, ↓x_122, ↓b_123, ↓x_123, ↓b_124, ↓x_124, ↓b_125, ↓x_125, ↓b_126, ↓x_126, ↓b_127, ↓x_127, ↓b_128, ↓x_128, ↓b_129, ↓x_129, ↓b_130, ↓x_130, ↓b_131, ↓x_131, ↓b_132, ↓x_132, ↓b_133, ↓x_133, ↓b_134, ↓x_134, ↓b_135, ↓x_135, ↓b_136, ↓x_136, ↓b_137, ↓x_137, ↓b_138, ↓x_138, ↓b_139, ↓x_139, ↓b_140, ↓x_140, ↓b_141, ↓x_141, ↓b_142, ↓x_142, ↓b_143, ↓x_143, ↓b_144, ↓x_144, ↓b_145, ↓x_145, ↓b_146, ↓x_146, ↓b_147, ↓x_147, ↓b_148, ↓x_148, ↓b_149, ↓x_149, ↓b_150, ↓x_150, ↓b_151, ↓x_151, ↓b_152, ↓x_152, ↓b_153, ↓x_153, ↓b_154, ↓x_154, ↓b_155, ↓x_155, ↓b_156, ↓x_156, ↓b_157, ↓x_157, ↓b_158, ↓x_158]
theorem und_n (h0 : tkd c n t ≠ 0) (h1 : tkd c n t ≠ 1) (h2 : tkd c n t ≠ 2) (h7 : tkd c n t ≠ 7) (S : Smt) : und c n t S = .ok S := by
  unfold und
  rw [if_neg h0, if_neg h1, if_neg h2, if_neg h7]
theorem w_tellOne (hn : n ≤ 2000) (hL : L ≤ 1) (h : MLX c n L t nr ng nw E bf a b m) : ∃ μ, RTx L m μ ∧ MLO c n L (nr + cnI (tkd c n t = 0)) (ng + cnI (tkd c n t = 1)) (nw + cnI (tkd c n t = 2)) (E.bind (und c n t)) bf (pTl (tkd c n) (pS0 c n) nr ng nw t) μ ∧ ∀ Q, wD D_M_tellOne [.ref 111] (hp m) Q ↔ Q none (hp μ) := by
  have hK := h.1.1
  have hW := h.2.1
  have hR := h.2.2.1
  have bi : ∀ (y : Except (Nat × Nat) Smt), (∀ S, und c n t S = .ok S) → y.bind (und c n t) = y := fun y hy => by
    cases y with
    | error e => rfl
    | ok S => exact hy S
  unfold pTl cnI
  by_cases k0 : tkd c n t = 0
  · rw [if_pos k0, if_pos k0, if_neg (by omega), if_neg (by omega)]
    obtain ⟨μ, A, P, q⟩ := w_tellRoad hn hL hK hW hR k0
    exact ⟨μ, A.rt, h.nt A (fun x hx => pNm_le hx) P, q⟩
  · rw [if_neg k0, if_neg k0]
    by_cases k1 : tkd c n t = 1
    · rw [if_pos k1, if_pos k1, if_neg (by omega)]
      obtain ⟨μ, A, P, q⟩ := w_tellGoer hn hL hK hW hR k1
      exact ⟨μ, A.rt, h.nt A (fun x hx => pNm_le hx) P, q⟩
    · rw [if_neg k1, if_neg k1]
      by_cases k2 : tkd c n t = 2
      · rw [if_pos k2, if_pos k2]
        obtain ⟨μ, A, P, q⟩ := w_tellWants hn hL hK hW hR k2
        exact ⟨μ, A.rt, h.nt A (fun x hx => pNm_le hx) P, q⟩
      · rw [if_neg k2, if_neg k2]
        by_cases k7 : tkd c n t = 7
        · rw [if_pos k7]
          obtain ⟨μ, A, P, q⟩ := w_tellSeed hn hL hK hW hR k7
          exact ⟨μ, A.rt, h.nt A (fun x hx => pNm_le hx) P, q⟩
        · rw [if_neg k7, bi E (und_n k0 k1 k2 k7)]
          by_cases k4 : 3 ≤ tkd c n t ∧ tkd c n t ≤ 6
          · rw [if_pos k4]
            obtain ⟨μ, A, P, q⟩ := w_tellALaw (law := tkd c n t - 3) hL h (by omega) (by omega)
            exact ⟨μ, A, P, q⟩
          · rw [if_neg k4]
            obtain ⟨μ, A, P, q⟩ := w_tellBad (L := L) hK (by omega)
            exact ⟨μ, A, P, q⟩
end MTL
