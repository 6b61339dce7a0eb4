/-! feed, back, read agree. -/
section RDP
variable {N K L n o ver len cn k : Nat} {wd : Nat → Int32} {bf : Nat → List Br} {q q' : Row} {seed : Int32} {u v u' v' : Nat → Row} {hl hl' : Nat → Bool} {tm tb : Nat → Nat} {ts : Nat → Bool} {m m1 μ ν : Mem}
theorem StX.of (h : StX N K wd bf q seed n u hl v o tm tb ts m) (e : ∀ r, 6 ≤ r → r < 111 → ¬ (14 ≤ r ∧ r ≤ 24) → ¬ CRo r → μ.1 r = m.1 r) : StX N K wd bf q seed n u hl v o tm tb ts μ := by
  have a : Ag (fun r => r < 6 ∨ 14 ≤ r ∧ r ≤ 24 ∨ CRo r ∨ 111 ≤ r) m (μ.1, m.2) := fun r hr => by
    have h1 : ¬ r < 6 := fun x => hr (Or.inl x)
    have h2 : ¬ (14 ≤ r ∧ r ≤ 24) := fun x => hr (Or.inr (Or.inl x))
    have h3 : ¬ CRo r := fun x => hr (Or.inr (Or.inr (Or.inl x)))
    have h4 : ¬ 111 ≤ r := fun x => hr (Or.inr (Or.inr (Or.inr x)))
    exact ⟨e r (by omega) (by omega) h2 h3, rfl⟩
  obtain ⟨h1, h2, h3, h4, h5, h6, h7, h8⟩ := h
  have : StX N K wd bf q seed n u hl v o tm tb ts (μ.1, m.2) := ⟨h1.ag a (fun r hr => by unfold CRo at hr; omega), by rw [(a 6 (fun x => by unfold CRo at x; omega)).1]; exact h2, h3.ag a (fun r hr => by unfold CRo at hr; omega), h4.ag a (fun r hr => by unfold CRo at hr; omega), h5.ag a (fun r hr => by unfold CRo at hr; omega), h6.ag a (fun r hr => by unfold CRo at hr; omega), h7.ag a (fun r hr => by unfold CRo at hr; omega), h8.ag a (fun r hr => by unfold CRo at hr; omega)⟩
  exact this
theorem VrX.of (h : VrX ver m) (e25 : μ.1 25 = m.1 25) (e37 : μ.1 37 = m.1 37) (e44 : μ.1 44 = m.1 44) : VrX ver μ := by
  unfold VrX
  rw [e25, e37, e44]
  exact h
theorem StM.of (h : StM L N K wd bf q seed n u hl v o tm tb ts m) (e : ∀ r, 118 ≤ r → μ.1 r = m.1 r) (f : ∀ k, 18 ≤ k → μ.1 111 k = m.1 111 k) (j : μ.2 118 = m.2 118) : StM L N K wd bf q seed n u hl v o tm tb ts μ := by
  obtain ⟨h1, h2, h3, h4, h5, h6, h7⟩ := h
  obtain ⟨⟨t0, t1, t2, t3, t4⟩, g2, g3, g4⟩ := h1
  refine ⟨⟨⟨by rw [f 18 (by omega)]; exact t0, t1, by rw [e 121 (by omega)]; exact t2, by rw [e 123 (by omega)]; exact t3, t4⟩, by rw [e 122 (by omega)]; exact g2, g3.of (fun r h1 h2 => e r (by omega)), g4⟩, by rw [e 128 (by omega)]; exact h2, by rw [e 141 (by omega)]; exact h3, ?_, ?_, ?_, by rw [j]; exact h7⟩
  · unfold HM; rw [f 57 (by omega), e 148 (by omega)]; exact h4
  · unfold KM; rw [e 157 (by omega), e 158 (by omega)]; exact h5
  · unfold ToM; rw [f 67 (by omega), e 154 (by omega), e 155 (by omega), e 156 (by omega)]; exact h6
theorem g_feed : Agree (Inv (cn + 1)) (Inv cn) D_X_feed D_M_feed 5 (fun _ => True) := by
  intro vs hvs _ h hh
  obtain ⟨m, rfl, hI⟩ := hh
  obtain ⟨a, b, c, d, e, rfl⟩ := len5 hvs
  obtain ⟨N, K, wd, bf, q, seed, n, u, hl, v, o, tm, tb, ts, L, ver, len, hX, hV, hM, hT, h14, hb⟩ := hI
  show Ag2 cn D_X_feed D_M_feed [.int a, .int b, .int c, .int d, .int e] m
  by_cases z : len + 20 ≤ 2000
  · have e1 := fun Q => w_X_feed (a := a) (b := b) (c := c) (d := d) (e := e) z hT.1 Q
    obtain ⟨μ, eμ⟩ : ∃ μ, μ = fX m (fed (m.1 2) len a b c d e) (len + 20) := ⟨_, rfl⟩
    rw [← eμ] at e1
    have kμ : ∀ r, r ≠ 1 → r ≠ 2 → μ.1 r = m.1 r := fun r h1 h2 => by rw [eμ]; unfold fX; rw [sI_ne h1, sI_ne h2]
    have jμ : μ.2 = m.2 := by rw [eμ]; rfl
    have x1 : μ.1 1 1 = ii ((len + 20 : Nat) : Int) := by rw [eμ]; exact fX_n
    have x2 : μ.1 2 = fed (m.1 2) len a b c d e := by rw [eμ]; unfold fX; rw [sI_ne (by decide), sI_eq]
    have e2 := fun Q => w_M_feed (m := μ) (a := a) (b := b) (c := c) (d := d) (e := e) z (by rw [kμ 111 (by decide) (by decide)]; exact hT.2.1) Q
    obtain ⟨ν, eν⟩ : ∃ ν, ν = fM μ (fed (μ.1 112) len a b c d e) (len + 20) := ⟨_, rfl⟩
    rw [← eν] at e2
    have kν : ∀ r, r ≠ 111 → r ≠ 112 → ν.1 r = μ.1 r := fun r h1 h2 => by rw [eν]; unfold fM; rw [sI_ne h1, sI_ne h2]
    have fν : ∀ k, k ≠ 2 → ν.1 111 k = μ.1 111 k := fun k hk => by rw [eν]; unfold fM; rw [sI_eq, upd_ne hk]
    have jν : ν.2 = μ.2 := by rw [eν]; rfl
    have y1 : ν.1 111 2 = ii ((len + 20 : Nat) : Int) := by rw [eν]; exact fM_n
    have y2 : ν.1 112 = fed (m.1 112) len a b c d e := by rw [eν]; unfold fM; rw [sI_ne (by decide), sI_eq, kμ 112 (by decide) (by decide)]
    have kk : ∀ r, r ≠ 1 → r ≠ 2 → r ≠ 111 → r ≠ 112 → ν.1 r = m.1 r := fun r h1 h2 h3 h4 => by rw [kν r h3 h4, kμ r h1 h2]
    have ff : ∀ k, k ≠ 2 → ν.1 111 k = m.1 111 k := fun k hk => by rw [fν k hk, kμ 111 (by decide) (by decide)]
    refine ag2_of e1 e2 ⟨N, K, wd, bf, q, seed, n, u, hl, v, o, tm, tb, ts, L, ver, len + 20, hX.of (fun r h1 h2 _ _ => kk r (by omega) (by omega) (by omega) (by omega)), hV.of (kk 25 (by decide) (by decide) (by decide) (by decide)) (kk 37 (by decide) (by decide) (by decide) (by decide)) (kk 44 (by decide) (by decide) (by decide) (by decide)), hM.of (fun r hr => kk r (by omega) (by omega) (by omega) (by omega)) (fun k hk => ff k (by omega)) (by rw [jν, jμ]), ⟨?_, y1, z, ?_⟩, ?_, by omega⟩
    · rw [kν 1 (by decide) (by decide)]; exact x1
    · rw [kν 2 (by decide) (by decide), x2, y2]
      exact fed_ok a b c d e hT.2.2.2
    · rw [kk 14 (by decide) (by decide) (by decide) (by decide), ff 17 (by decide)]; exact h14
  · exact fin_ro hX hV hM hT h14 hb ⟨m, Ag.rf m, fun Q => w_X_feedN hT.2.2.1 hT.1 z Q⟩ (fun μ _ hT _ => ⟨μ, Am.rf μ, fun Q => w_M_feedN hT.2.2.1 hT.2.1 z Q⟩)
theorem g_back : Agree (Inv (cn + 1)) (Inv cn) D_X_back D_M_back 1 (fun _ => True) := by
  intro vs hvs _ h hh
  obtain ⟨m, rfl, hI⟩ := hh
  obtain ⟨a0, rfl⟩ := len1 hvs
  obtain ⟨x, rx, rfl⟩ := i32 a0
  obtain ⟨N, K, wd, bf, q, seed, n, u, hl, v, o, tm, tb, ts, L, ver, len, hX, hV, hM, hT, h14, hb⟩ := hI
  show Ag2 cn D_X_back D_M_back [.int (ii x)] m
  by_cases d : 0 ≤ x ∧ x ≤ len
  · obtain ⟨k, rfl⟩ : ∃ k : Nat, x = (k : Int) := ⟨x.toNat, by omega⟩
    have e1 := fun Q => w_X_back (k := k) hT.2.2.1 hT.1 (by omega) Q
    obtain ⟨μ, eμ⟩ : ∃ μ, μ = sI m 1 (upd (m.1 1) 1 (ii ((len - k : Nat) : Int))) := ⟨_, rfl⟩
    rw [← eμ] at e1
    have kμ : ∀ r, r ≠ 1 → μ.1 r = m.1 r := fun r h1 => by rw [eμ, sI_ne h1]
    have jμ : μ.2 = m.2 := by rw [eμ]; rfl
    have x1 : μ.1 1 1 = ii ((len - k : Nat) : Int) := by rw [eμ, sI_eq, upd_eq]
    have e2 := fun Q => w_M_back (m := μ) (k := k) hT.2.2.1 (by rw [kμ 111 (by decide)]; exact hT.2.1) (by omega) Q
    obtain ⟨ν, eν⟩ : ∃ ν, ν = sI μ 111 (upd (μ.1 111) 2 (ii ((len - k : Nat) : Int))) := ⟨_, rfl⟩
    rw [← eν] at e2
    have kν : ∀ r, r ≠ 111 → ν.1 r = μ.1 r := fun r h1 => by rw [eν, sI_ne h1]
    have jν : ν.2 = μ.2 := by rw [eν]; rfl
    have kk : ∀ r, r ≠ 1 → r ≠ 111 → ν.1 r = m.1 r := fun r h1 h3 => by rw [kν r h3, kμ r h1]
    have ff : ∀ k, k ≠ 2 → ν.1 111 k = m.1 111 k := fun k hk => by rw [eν, sI_eq, upd_ne hk, kμ 111 (by decide)]
    refine ag2_of e1 e2 ⟨N, K, wd, bf, q, seed, n, u, hl, v, o, tm, tb, ts, L, ver, len - k, hX.of (fun r h1 h2 _ _ => kk r (by omega) (by omega)), hV.of (kk 25 (by decide) (by decide)) (kk 37 (by decide) (by decide)) (kk 44 (by decide) (by decide)), hM.of (fun r hr => kk r (by omega) (by omega)) (fun k hk => ff k (by omega)) (by rw [jν, jμ]), ⟨?_, ?_, ?_, fun p hp' => ?_⟩, ?_, by omega⟩
    · rw [kν 1 (by decide)]; exact x1
    · rw [eν, sI_eq, upd_eq]
    · have := hT.2.2.1; omega
    · rw [kk 2 (by decide) (by decide), kk 112 (by decide) (by decide)]; exact hT.2.2.2 p (by omega)
    · rw [kk 14 (by decide) (by decide), ff 17 (by decide)]; exact h14
  · exact fin_ro hX hV hM hT h14 hb ⟨m, Ag.rf m, fun Q => w_X_backN rx hT.2.2.1 hT.1 d Q⟩ (fun μ _ hT _ => ⟨μ, Am.rf μ, fun Q => w_M_backN rx hT.2.2.1 hT.2.1 d Q⟩)
/-- the side that lives stays while the other is told -/
theorem BrC.rm {br : Br} {L2 i : Nat} (h : BrC L br i (420 * L + 420) m) (a : RMx L2 m μ) (hL : L ≤ 1) (hne : L2 = 1 - L) (h1 : 130 * L ≤ i) (h2 : i < 130 * L + 130) : BrC L br i (420 * L + 420) μ := by
  obtain ⟨a1, a2', a3, x0, x1, x2, x3, x4, x5⟩ := h
  have tm : ∀ {ds : Tm} {z : Nat}, TmM ds z m → 420 * L ≤ z → z + ds.length ≤ 420 * L + 420 → TmM ds z μ := fun {ds z} hz hb hc => ⟨hz.1, fun i hi => by rw [(a.2.2.2.2.2.2.2 (z + i) (by omega)).1, (a.2.2.2.2.2.2.2 (z + i) (by omega)).2]; exact hz.2 i hi⟩
  have e : ∀ r, 131 ≤ r → r ≤ 135 → μ.1 r i = m.1 r i := fun r h3 h4 => a.2.2.2.2.2.2.1 r h3 h4 i (by omega)
  refine ⟨a1, a2', a3, x0, (e 134 (by decide) (by decide)).trans x1, (e 135 (by decide) (by decide)).trans x2, tm x3 x0.2 x4, x4, ?_⟩
  obtain ⟨o, t⟩ := br
  cases o with
  | none => exact (e 131 (by decide) (by decide)).trans x5
  | some cc =>
    obtain ⟨z1, z2, z3, z4, z5, z6, z7⟩ := x5
    dsimp only at z4 z5 x4
    exact ⟨(e 131 (by decide) (by decide)).trans z1, (e 132 (by decide) (by decide)).trans z2, (e 133 (by decide) (by decide)).trans z3, z4, z5, tm z6 x0.1 (by omega), tm z7 (by omega) (by omega)⟩
theorem StM.rm {L2 : Nat} (h : StM L N K wd bf q seed n u hl v o tm tb ts m) (a : RMx L2 m μ) (hne : L2 = 1 - L) : StM L N K wd bf q seed n u hl v o tm tb ts μ := by
  obtain ⟨h1, h2, h3, h4, h5, h6, h7⟩ := h
  obtain ⟨⟨t0, t1, t2, t3, t4, t5, t6⟩, g2, g3, g4⟩ := h1
  have sd := a.2.2.2.1 L (by omega)
  refine ⟨⟨⟨by rw [a.2.2.1 18 (Or.inl rfl)]; exact t0, t1, by rw [sd.1]; exact t2, by rw [sd.2.1]; exact t3, t4, t5, t6⟩, fun r hr => by rw [a.2.2.2.2.1 _ (by omega)]; exact g2 r hr, fun law hl => ?_, g4⟩, by rw [sd.2.2]; exact h2, by rw [a.1 141 (by omega)]; exact h3, ?_, ?_, ?_, by rw [a.2.1 118 (Or.inr rfl)]; exact h7⟩
  · obtain ⟨b0, bs, x1, x2, x3, x4, x5, x6⟩ := g3 law hl
    refine ⟨b0, bs, by rw [(a.2.2.2.2.2.1 _ (by omega)).1]; exact x1, by rw [(a.2.2.2.2.2.1 _ (by omega)).2]; exact x2, x3, x4, fun i hi => ?_, x6⟩
    rcases x3 with e | e
    · rw [e] at hi; exact absurd hi (Nat.not_lt_zero i)
    · exact (x5 i hi).rm a (by omega) hne (by omega) (by omega)
  · unfold HM; rw [a.2.2.1 57 (by omega), a.1 148 (by omega)]; exact h4
  · unfold KM; rw [a.1 157 (by omega), a.1 158 (by omega)]; exact h5
  · unfold ToM; rw [a.2.2.1 67 (by omega), a.1 154 (by omega), a.1 155 (by omega), a.1 156 (by omega)]; exact h6
theorem g_read : Agree (Inv (cn + 1)) (Inv cn) D_X_read D_M_read 0 (fun _ => True) := by
  intro vs hvs _ h hh
  obtain ⟨m, rfl, hI⟩ := hh
  have hvs := len0 hvs
  subst hvs
  obtain ⟨N, K, wd, bf, q, seed, n, u, hl, v, o, tm, tb, ts, L, ver, len, hX, hV, hM, hT, h14, hb⟩ := hI
  show Ag2 cn D_X_read D_M_read [] m
  obtain ⟨t1, t2, t3, t4⟩ := hT
  obtain ⟨c, ec⟩ : ∃ c : Nat → Int, c = fun p => (m.1 112 p).toInt := ⟨_, rfl⟩
  have hc : ∀ p, p < len → m.1 112 p = ii (c p) ∧ -128 ≤ c p ∧ c p ≤ 127 := fun p hp' => by
    obtain ⟨_, y2, y3⟩ := t4 p hp'
    rw [ec]
    exact ⟨by unfold ii; rw [Int32.ofInt_toInt], y2, y3⟩
  have hTX : TPX len c m := ⟨t3, t1, fun p hp' => ⟨by rw [(t4 p hp').1]; exact (hc p hp').1, (hc p hp').2⟩⟩
  obtain ⟨r1, μ, R1, j1, e1⟩ := w_X_read hTX hX.2.2.2.1
  have up : ∀ r, 111 ≤ r → μ.1 r = m.1 r := fun r hr => by
    cases eg : rdG c len with
    | error e => rw [eg] at R1; exact R1.2.2.2 r (by omega)
    | ok x => rw [eg] at R1; exact R1.2.2.2.2.2.2.2.2.2 r (by omega) (by omega) (by omega) (by omega)
  have j118 : μ.2 118 = m.2 118 := j1 118 (by decide) (by decide) (by decide) (by decide) (by decide) (by decide)
  have hM1 := hM.of (μ := μ) (fun r hr => up r (by omega)) (fun k _ => by rw [up 111 (by omega)]) j118
  have hL : L ≤ 1 := by have := hM.1.1.2.1; omega
  obtain ⟨r2, ν, R2, lo, k118, e2⟩ := w_M_read (m := μ) (n := len) (c := c) (L' := L) ⟨t3, by rw [up 111 (by omega)]; exact t2, fun p hp' => by rw [up 112 (by omega)]; exact hc p hp'⟩ hM1.2.2.2.2.2.2 hM1.1.1.1 hL
  cases eg : rdG c len with
  | error e =>
    rw [eg] at R1 R2
    obtain ⟨rfl, p1, p2, p3⟩ := R1
    obtain ⟨rfl, s1, s2, s3⟩ := R2
    have kk : ∀ r, 6 ≤ r ∧ r < 14 ∨ 22 < r ∧ r < 111 → ν.1 r = m.1 r := fun r hr => by rw [(lo r (by omega)).1]; exact p3 r (by omega)
    refine ag2_of e1 e2 ⟨N, K, wd, bf, q, seed, n, u, hl, v, o, tm, tb, ts, L, ver, 0, hX.of (fun r h1 h2 h3 _ => kk r (by omega)), hV.of (kk 25 (by omega)) (kk 37 (by omega)) (kk 44 (by omega)), hM1.rm s3 rfl, ⟨?_, s2, by decide, fun p hp' => absurd hp' (Nat.not_lt_zero p)⟩, ?_, by omega⟩
    · rw [(lo 1 (by omega)).1]; exact p2
    · rw [(lo 14 (by omega)).1, p1, s1]
  | ok x =>
    rw [eg] at R1 R2
    obtain ⟨hG, hW⟩ := rdG_ok eg
    obtain ⟨rfl, p1, p2, p3, p4, p5, p6, p7, p8, p9⟩ := R1
    obtain ⟨rfl, s1, s2, s3, s4, s5, s6, s7⟩ := R2
    obtain ⟨c1, c2⟩ := gv_no (k := 1) hV (by omega) (by omega) p6 (p9 44 (by omega) (by omega) (by omega) (by omega)) (p9 37 (by omega) (by omega) (by omega) (by omega)) (tN_ x.2) (tK_ x.2) (tWd_ x.2) x.1 (rw0 x.2)
    have X1 : StX (tN_ x.2) (tK_ x.2) (tWd_ x.2) x.1 (rw0 x.2) (tSd_ x.2) 0 u (fun _ => false) v 0 tm tb ts μ := ⟨p3, p4, p5, (p7 _ _ u v).1, (p7 _ _ u v).2, ⟨Nat.zero_le _, p8, fun i hi => absurd hi (Nat.not_lt_zero i)⟩, c1, c2⟩
    have V1 : VrX (ver + 1) μ := hV.up (k := 1) p6 (p9 44 (by omega) (by omega) (by omega) (by omega)) (p9 37 (by omega) (by omega) (by omega) (by omega))
    obtain ⟨m1, m2, m3, m4⟩ := s3
    refine ag2_of e1 e2 ⟨tN_ x.2, tK_ x.2, tWd_ x.2, x.1, rw0 x.2, tSd_ x.2, 0, u, fun _ => false, v, 0, tm, tb, ts, 1 - L, ver + 1, 0, X1.of (fun r h1 h2 _ _ => (lo r h2).1), V1.of (lo 25 (by omega)).1 (lo 37 (by omega)).1 (lo 44 (by omega)).1, ⟨⟨m1, m2, m3, fun law hl => (hG law hl).2⟩, m4, s4, ⟨Nat.zero_le _, s5, fun i hi => absurd hi (Nat.not_lt_zero i)⟩, fun s hs => ⟨s6 s hs, fun h => absurd h Bool.false_ne_true⟩, ⟨Nat.zero_le _, s7, fun i hi => absurd hi (Nat.not_lt_zero i)⟩, by rw [k118, j118]; exact hM.2.2.2.2.2.2⟩, ⟨?_, s2, by decide, fun p hp' => absurd hp' (Nat.not_lt_zero p)⟩, ?_, by omega⟩
    · rw [(lo 1 (by omega)).1]; exact p2
    · rw [(lo 14 (by omega)).1, p1, s1]
/-- all calls agree -/
theorem pure_ops : ∀ n, PureOps (Inv (n + 1)) (Inv n) := fun n => ⟨g_feed, g_back, g_read, g_place, g_road, g_goer, g_gained, g_want, g_crowds, g_flap, g_turn, g_wish, g_days, g_undo, g_plan, g_rests, g_bestRest, g_bestGiving, g_settles, g_oneEach, g_closing, g_search, g_bar, g_enough, g_open, g_crowded, g_same, g_then, g_gainedIn, g_year, g_tell, g_forget, g_who, g_look, g_hold, g_restore, g_count⟩
theorem inv_mono : ∀ n h, Inv (n + 1) h → Inv n h := fun n h hh => by
  obtain ⟨m, rfl, N, K, wd, bf, q, seed, n', u, hl, v, o, tm, tb, ts, L, ver, len, hX, hV, hM, hT, h14, hb⟩ := hh
  exact ⟨m, rfl, N, K, wd, bf, q, seed, n', u, hl, v, o, tm, tb, ts, L, ver, len, hX, hV, hM, hT, h14, by omega⟩
end RDP
