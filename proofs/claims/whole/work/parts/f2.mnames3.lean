/-! The reference's names against those of a text's meaning; a road is told. -/
def SmP (S : Smt) (nr ng : Nat) (av : Nat → Nat) (nf : Nat → Int64) : Prop := tN_ S = nr ∧ tK_ S = ng ∧ (∀ k, k < nr + ng → (av k < 10 → av k < nr ∧ nf k = tRn_ S (av k)) ∧ (10 ≤ av k → av k < 10 + ng ∧ nf k = tGn_ S (av k - 10))) ∧ (∀ r, r < nr → ∃ k, k < nr + ng ∧ av k = r) ∧ (∀ g, g < ng → ∃ k, k < nr + ng ∧ av k = 10 + g) ∧ (∀ i j, i < nr → j < nr → tRn_ S i = tRn_ S j → i = j) ∧ ∀ i j, i < ng → j < ng → tGn_ S i = tGn_ S j → i = j
def SmV (S : Smt) (L nr ng : Nat) (m : Mem) : Prop := (∀ r, r < nr → m.1 122 (6 * L + r) = tWd_ S r) ∧ (∀ g, g < ng → m.1 124 (5 * L + g) = ii (tFc_ S g) ∧ m.1 125 (5 * L + g) = ii (tSg_ S g)) ∧ (∀ i, i < 30 → m.1 127 (30 * L + i) = ii (tWt_ S i)) ∧ m.1 128 L = tSd_ S
def RNX (L nr ng nw : Nat) (E : Except (Nat × Nat) Smt) (m : Mem) : Prop := m.1 111 19 = ii L ∧ m.1 111 20 = ii ((nr + ng : Nat) : Int) ∧ m.1 121 L = ii nr ∧ m.1 123 L = ii ng ∧ m.1 126 L = ii nw ∧ nr ≤ 6 ∧ ng ≤ 5 ∧ nw ≤ 30 ∧ ∃ av : Nat → Nat, (∀ k, k < nr + ng → m.1 120 k = ii (av k) ∧ (av k < 6 ∨ 10 ≤ av k ∧ av k < 15)) ∧ ∀ S, E = .ok S → SmP S nr ng av (m.2 119) ∧ SmV S L nr ng m
def erW : Except (Nat × Nat) Smt → Option (Nat × Nat)
  | .error e => some e
  | .ok _ => none
/-- cells that a tell of names and numbers leaves -/
def NTx (L : Nat) (m μ : Mem) : Prop := (∀ r, r ≠ 119 → μ.2 r = m.2 r) ∧ (∀ r, r ≠ 111 → r < 120 ∨ 128 < r → μ.1 r = m.1 r) ∧ (∀ k, k < 11 ∨ k = 12 ∨ 16 < k → k ≠ 20 → μ.1 111 k = m.1 111 k) ∧ (∀ i, i ≠ L → μ.1 121 i = m.1 121 i ∧ μ.1 123 i = m.1 123 i ∧ μ.1 128 i = m.1 128 i) ∧ ∀ i, i < 6 * L ∨ 6 * L + 6 ≤ i → μ.1 122 i = m.1 122 i
def NTO (c : Nat → Int) (n L nr ng nw : Nat) (E : Except (Nat × Nat) Smt) : Except (Nat × Nat) Nat → Mem → Prop
  | .error e, μ => MFX c n e.1 e.2 μ
  | .ok a, μ => MKX c n a μ ∧ WSX c n a (erW E) μ ∧ RNX L nr ng nw E μ
section SMP
variable {m m1 m2 μ : Mem} {n t i f w a k L nr ng nw : Nat} {c : Nat → Int} {W : Option (Nat × Nat)} {X : Except (Nat × Nat) Nat} {S : Smt} {av : Nat → Nat} {nf : Nat → Int64} {x : Int64} {E : Except (Nat × Nat) Smt}
theorem fnd_iff {g : Nat → Int64} : fnd g k x < k ↔ ∃ i, i < k ∧ g i = x := by
  constructor
  · intro h
    exact ⟨_, h, of_decide_eq_true (frs_hit (p := fun i => decide (g i = x)) k 0 (show fnd g k x < 0 + k by omega))⟩
  · rintro ⟨i, h1, h2⟩
    rcases Nat.lt_or_ge (fnd g k x) k with d | d
    · exact d
    · have := frs_no (p := fun i => decide (g i = x)) k 0 i (Nat.zero_le i) (show i < fnd g k x by omega)
      exact absurd h2 (of_decide_eq_false this)
theorem fnd_v {g : Nat → Int64} (h : fnd g k x < k) : g (fnd g k x) = x := of_decide_eq_true (frs_hit (p := fun i => decide (g i = x)) k 0 (show fnd g k x < 0 + k by omega))
theorem SmP.td (hN : nr ≤ 6) (h : SmP S nr ng av nf) : anyb (fun j => decide (nf j = x)) (nr + ng) = isTd S x := by
  obtain ⟨h1, h2, h3, h4, h5, _⟩ := h
  have : anyb (fun j => decide (nf j = x)) (nr + ng) = true ↔ isTd S x = true := by
    rw [anyb_iff]
    unfold isTd
    rw [Bool.or_eq_true, decide_eq_true_eq, decide_eq_true_eq, fnd_iff, fnd_iff, h1, h2]
    constructor
    · rintro ⟨j, hj, e⟩
      have e := of_decide_eq_true e
      obtain ⟨a1, a2⟩ := h3 j hj
      by_cases d : av j < 10
      · obtain ⟨b1, b2⟩ := a1 d
        exact Or.inl ⟨_, b1, b2 ▸ e⟩
      · obtain ⟨b1, b2⟩ := a2 (by omega)
        exact Or.inr ⟨av j - 10, by omega, b2 ▸ e⟩
    · rintro (⟨r, hr, e⟩ | ⟨g, hg, e⟩)
      · obtain ⟨j, hj, ej⟩ := h4 r hr
        obtain ⟨b1, b2⟩ := (h3 j hj).1 (by omega)
        exact ⟨j, hj, decide_eq_true (by rw [b2, ej]; exact e)⟩
      · obtain ⟨j, hj, ej⟩ := h5 g hg
        obtain ⟨b1, b2⟩ := (h3 j hj).2 (by omega)
        exact ⟨j, hj, decide_eq_true (by rw [b2, ej, show 10 + g - 10 = g by omega]; exact e)⟩
  exact Bool.eq_iff_iff.mpr this
theorem kwp_i {lo j : Nat} : kwp m x av lo j = true ↔ m.2 119 j = x ∧ lo ≤ av j ∧ av j < lo + 10 := by
  unfold kwp
  rw [Bool.and_eq_true, decide_eq_true_eq, decide_eq_true_eq]
theorem SmP.kr (hN : nr ≤ 6) (h : SmP S nr ng av (m.2 119)) : anyb (kwp m x av 0) (nr + ng) = decide (fnd (tRn_ S) (tN_ S) x < tN_ S) ∧ ∀ j, j < nr + ng → kwp m x av 0 j = true → av j = fnd (tRn_ S) (tN_ S) x := by
  obtain ⟨h1, h2, h3, h4, h5, h6, h7⟩ := h
  constructor
  · apply Bool.eq_iff_iff.mpr
    rw [anyb_iff, decide_eq_true_eq, fnd_iff, h1]
    constructor
    · rintro ⟨j, hj, e⟩
      obtain ⟨e1, e2, e3⟩ := kwp_i.1 e
      obtain ⟨b1, b2⟩ := (h3 j hj).1 (by omega)
      exact ⟨_, b1, b2 ▸ e1⟩
    · rintro ⟨r, hr, e⟩
      obtain ⟨j, hj, ej⟩ := h4 r hr
      obtain ⟨b1, b2⟩ := (h3 j hj).1 (by omega)
      exact ⟨j, hj, kwp_i.2 ⟨by rw [b2, ej]; exact e, by omega, by omega⟩⟩
  · intro j hj e
    obtain ⟨e1, e2, e3⟩ := kwp_i.1 e
    obtain ⟨b1, b2⟩ := (h3 j hj).1 (by omega)
    have b3 : tRn_ S (av j) = x := b2 ▸ e1
    have lt : fnd (tRn_ S) (tN_ S) x < tN_ S := fnd_iff.2 ⟨av j, by omega, b3⟩
    exact h6 _ _ b1 (by omega) (b3.trans (fnd_v lt).symm)
theorem SmP.kg (hN : nr ≤ 6) (hG : ng ≤ 5) (h : SmP S nr ng av (m.2 119)) : anyb (kwp m x av 10) (nr + ng) = decide (fnd (tGn_ S) (tK_ S) x < tK_ S) ∧ ∀ j, j < nr + ng → kwp m x av 10 j = true → av j = 10 + fnd (tGn_ S) (tK_ S) x := by
  obtain ⟨h1, h2, h3, h4, h5, h6, h7⟩ := h
  constructor
  · apply Bool.eq_iff_iff.mpr
    rw [anyb_iff, decide_eq_true_eq, fnd_iff, h2]
    constructor
    · rintro ⟨j, hj, e⟩
      obtain ⟨e1, e2, e3⟩ := kwp_i.1 e
      obtain ⟨b1, b2⟩ := (h3 j hj).2 (by omega)
      exact ⟨av j - 10, by omega, b2 ▸ e1⟩
    · rintro ⟨g, hg, e⟩
      obtain ⟨j, hj, ej⟩ := h5 g hg
      obtain ⟨b1, b2⟩ := (h3 j hj).2 (by omega)
      exact ⟨j, hj, kwp_i.2 ⟨by rw [b2, ej, show 10 + g - 10 = g by omega]; exact e, by omega, by omega⟩⟩
  · intro j hj e
    obtain ⟨e1, e2, e3⟩ := kwp_i.1 e
    obtain ⟨b1, b2⟩ := (h3 j hj).2 (by omega)
    have b3 : tGn_ S (av j - 10) = x := b2 ▸ e1
    have lt : fnd (tGn_ S) (tK_ S) x < tK_ S := fnd_iff.2 ⟨av j - 10, by omega, b3⟩
    have := h7 _ _ (show av j - 10 < ng by omega) (show fnd (tGn_ S) (tK_ S) x < ng by omega) (b3.trans (fnd_v lt).symm)
    omega
theorem NOX.row {r : Nat} {g : Nat → Int32} (h : NOX c n X W m) (h1 : r ≠ 111) (h2 : r < 114 ∨ 117 < r) : NOX c n X W (sI m r g) := by
  have e : (sI m r g).1 111 = m.1 111 := sI_ne (Ne.symm h1)
  cases X with
  | error e' => exact MFX.of h (by rw [e]) (by rw [e]) (by rw [e])
  | ok t => exact ⟨h.1.of (by rw [e]) (by rw [e]) (fun q h3 h4 => sI_ne (by omega)) rfl, h.2.of (by rw [e]) (by rw [e])⟩
theorem exb_i {α : Type} {y : Except (Nat × Nat) α} : (y.bind fun a => .ok a) = y := by cases y <;> rfl
/-- a road's name more -/
theorem SmP.ar (hN : nr ≤ 6) (h : SmP S nr ng av nf) (ht : isTd S x = false) (wd : Nat → Int32) : SmP (tN_ S + 1, tK_ S, vp_updL (tRn_ S) (tN_ S) x, tGn_ S, wd, tFc_ S, tSg_ S, tWt_ S, tSd_ S) (nr + 1) ng (upn av (nr + ng) nr) (vp_updL nf (nr + ng) x) := by
  obtain ⟨h1, h2, h3, h4, h5, h6, h7⟩ := h
  have hx : ∀ r, r < nr → tRn_ S r ≠ x := fun r hr e => by
    unfold isTd at ht
    rw [Bool.or_eq_false_iff] at ht
    exact (of_decide_eq_false ht.1) (fnd_iff.2 ⟨r, by omega, e⟩)
  have ne : ∀ k, k ≠ nr + ng → upn av (nr + ng) nr k = av k ∧ vp_updL nf (nr + ng) x k = nf k := fun k hk => ⟨upn_ne hk, uL_ne hk⟩
  refine ⟨by show tN_ S + 1 = nr + 1; omega, h2, fun k hk => ?_, fun r hr => ?_, fun g hg => ?_, fun i j hi hj e => ?_, h7⟩
  · show (upn av (nr + ng) nr k < 10 → upn av (nr + ng) nr k < nr + 1 ∧ vp_updL nf (nr + ng) x k = vp_updL (tRn_ S) (tN_ S) x (upn av (nr + ng) nr k)) ∧ (10 ≤ upn av (nr + ng) nr k → upn av (nr + ng) nr k < 10 + ng ∧ vp_updL nf (nr + ng) x k = tGn_ S (upn av (nr + ng) nr k - 10))
    by_cases d : k = nr + ng
    · subst d
      rw [upn_eq, uL_eq]
      exact ⟨fun _ => ⟨by omega, by rw [h1, uL_eq]⟩, fun y => by omega⟩
    · rw [(ne k d).1, (ne k d).2]
      obtain ⟨a1, a2⟩ := h3 k (by omega)
      refine ⟨fun y => ?_, a2⟩
      obtain ⟨b1, b2⟩ := a1 y
      exact ⟨by omega, by rw [uL_ne (by omega)]; exact b2⟩
  · by_cases d : r = nr
    · exact ⟨nr + ng, by omega, by rw [upn_eq, d]⟩
    · obtain ⟨k, b1, b2⟩ := h4 r (by omega)
      exact ⟨k, by omega, by rw [(ne k (by omega)).1]; exact b2⟩
  · obtain ⟨k, b1, b2⟩ := h5 g hg
    exact ⟨k, by omega, by rw [(ne k (by omega)).1]; exact b2⟩
  · have e : vp_updL (tRn_ S) (tN_ S) x i = vp_updL (tRn_ S) (tN_ S) x j := e
    rw [h1] at e
    by_cases d1 : i = nr
    · by_cases d2 : j = nr
      · omega
      · rw [d1, uL_eq, uL_ne d2] at e; exact absurd e.symm (hx j (by omega))
    · by_cases d2 : j = nr
      · rw [d2, uL_eq, uL_ne d1] at e; exact absurd e (hx i (by omega))
      · rw [uL_ne d1, uL_ne d2] at e; exact h6 i j (by omega) (by omega) e
theorem SmP.ag (hN : nr ≤ 6) (h : SmP S nr ng av nf) (ht : isTd S x = false) (fc sg : Nat → Nat) : SmP (tN_ S, tK_ S + 1, tRn_ S, vp_updL (tGn_ S) (tK_ S) x, tWd_ S, fc, sg, tWt_ S, tSd_ S) nr (ng + 1) (upn av (nr + ng) (10 + ng)) (vp_updL nf (nr + ng) x) := by
  obtain ⟨h1, h2, h3, h4, h5, h6, h7⟩ := h
  have hx : ∀ r, r < ng → tGn_ S r ≠ x := fun r hr e => by
    unfold isTd at ht
    rw [Bool.or_eq_false_iff] at ht
    exact (of_decide_eq_false ht.2) (fnd_iff.2 ⟨r, by omega, e⟩)
  have ne : ∀ k, k ≠ nr + ng → upn av (nr + ng) (10 + ng) k = av k ∧ vp_updL nf (nr + ng) x k = nf k := fun k hk => ⟨upn_ne hk, uL_ne hk⟩
  refine ⟨h1, by show tK_ S + 1 = ng + 1; omega, fun k hk => ?_, fun r hr => ?_, fun g hg => ?_, h6, fun i j hi hj e => ?_⟩
  · show (upn av (nr + ng) (10 + ng) k < 10 → upn av (nr + ng) (10 + ng) k < nr ∧ vp_updL nf (nr + ng) x k = tRn_ S (upn av (nr + ng) (10 + ng) k)) ∧ (10 ≤ upn av (nr + ng) (10 + ng) k → upn av (nr + ng) (10 + ng) k < 10 + (ng + 1) ∧ vp_updL nf (nr + ng) x k = vp_updL (tGn_ S) (tK_ S) x (upn av (nr + ng) (10 + ng) k - 10))
    by_cases d : k = nr + ng
    · subst d
      rw [upn_eq, uL_eq]
      exact ⟨fun y => by omega, fun _ => ⟨by omega, by rw [h2, show 10 + ng - 10 = ng by omega, uL_eq]⟩⟩
    · rw [(ne k d).1, (ne k d).2]
      obtain ⟨a1, a2⟩ := h3 k (by omega)
      refine ⟨a1, fun y => ?_⟩
      obtain ⟨b1, b2⟩ := a2 y
      exact ⟨by omega, by rw [uL_ne (by omega)]; exact b2⟩
  · obtain ⟨k, b1, b2⟩ := h4 r hr
    exact ⟨k, by omega, by rw [(ne k (by omega)).1]; exact b2⟩
  · by_cases d : g = ng
    · exact ⟨nr + ng, by omega, by rw [upn_eq, d]⟩
    · obtain ⟨k, b1, b2⟩ := h5 g (by omega)
      exact ⟨k, by omega, by rw [(ne k (by omega)).1]; exact b2⟩
  · have e : vp_updL (tGn_ S) (tK_ S) x i = vp_updL (tGn_ S) (tK_ S) x j := e
    rw [h2] at e
    by_cases d1 : i = ng
    · by_cases d2 : j = ng
      · omega
      · rw [d1, uL_eq, uL_ne d2] at e; exact absurd e.symm (hx j (by omega))
    · by_cases d2 : j = ng
      · rw [d2, uL_eq, uL_ne d1] at e; exact absurd e (hx i (by omega))
      · rw [uL_ne d1, uL_ne d2] at e; exact h7 i j (by omega) (by omega) e
theorem NTx.rf (m : Mem) : NTx L m m := ⟨fun _ _ => rfl, fun _ _ _ => rfl, fun _ _ _ => rfl, fun _ _ => ⟨rfl, rfl, rfl⟩, fun _ _ => rfl⟩
theorem NTx.tr (p : NTx L m m1) (q : NTx L m1 m2) : NTx L m m2 := ⟨fun r h => (q.1 r h).trans (p.1 r h), fun r h1 h2 => (q.2.1 r h1 h2).trans (p.2.1 r h1 h2), fun k h1 h2 => (q.2.2.1 k h1 h2).trans (p.2.2.1 k h1 h2), fun i h => ⟨(q.2.2.2.1 i h).1.trans (p.2.2.2.1 i h).1, (q.2.2.2.1 i h).2.1.trans (p.2.2.2.1 i h).2.1, (q.2.2.2.1 i h).2.2.trans (p.2.2.2.1 i h).2.2⟩, fun i h => (q.2.2.2.2 i h).trans (p.2.2.2.2 i h)⟩
theorem WFx.nt (h : WFx m μ) : NTx L m μ := ⟨fun r _ => by rw [h.1], fun r h1 _ => h.2.1 r h1, fun k h1 _ => h.2.2 k h1, fun i _ => ⟨by rw [h.2.1 121 (by decide)], by rw [h.2.1 123 (by decide)], by rw [h.2.1 128 (by decide)]⟩, fun i _ => by rw [h.2.1 122 (by decide)]⟩
theorem NMx.nt {z : Int64} {y : Int32} (h : NMx k z y m μ) : NTx L m μ := ⟨h.2.1, fun r h1 h2 => h.2.2.2.1 r h1 (by omega), fun j h1 h2 => h.2.2.2.2.2 j h1 h2, fun i _ => ⟨by rw [h.2.2.2.1 121 (by decide) (by decide)], by rw [h.2.2.2.1 123 (by decide) (by decide)], by rw [h.2.2.2.1 128 (by decide) (by decide)]⟩, fun i _ => by rw [h.2.2.2.1 122 (by decide) (by decide)]⟩
/-- one cell of the side's rows -/
theorem NTx_row {r : Nat} {y : Int32} (hr : r = 121 ∨ r = 123 ∨ r = 128) : NTx L m (sI m r (upd (m.1 r) L y)) := by
  refine ⟨fun _ _ => rfl, fun q h1 h2 => sI_ne (by omega), fun k _ _ => by rw [sI_ne (by omega)], fun i hi => ?_, fun i _ => by rw [sI_ne (by omega)]⟩
  have e : ∀ q, (sI m r (upd (m.1 r) L y)).1 q i = m.1 q i := fun q => by
    by_cases d : q = r
    · subst d; rw [sI_eq, upd_ne hi]
    · rw [sI_ne d]
  exact ⟨e 121, e 123, e 128⟩
theorem NTx_any {r : Nat} {g : Nat → Int32} (hr : r = 124 ∨ r = 125 ∨ r = 126 ∨ r = 127) : NTx L m (sI m r g) := ⟨fun _ _ => rfl, fun q h1 h2 => sI_ne (by omega), fun k _ _ => by rw [sI_ne (by omega)], fun i _ => ⟨by rw [sI_ne (by omega)], by rw [sI_ne (by omega)], by rw [sI_ne (by omega)]⟩, fun i _ => by rw [sI_ne (by omega)]⟩
theorem NTx_122 {j : Nat} {y : Int32} (h1 : 6 * L ≤ j) (h2 : j < 6 * L + 6) : NTx L m (sI m 122 (upd (m.1 122) j y)) := ⟨fun _ _ => rfl, fun q _ h2 => sI_ne (by omega), fun k _ _ => by rw [sI_ne (by omega)], fun i _ => ⟨by rw [sI_ne (by omega)], by rw [sI_ne (by omega)], by rw [sI_ne (by omega)]⟩, fun i hi => by rw [sI_eq, upd_ne (by omega)]⟩
end SMP
