/-! Calls that change what is. -/
section MOP
variable {N K L n o ver len cn : Nat} {wd : Nat → Int32} {bf : Nat → List Br} {q q' : Row} {seed : Int32} {u v u' v' : Nat → Row} {hl hl' : Nat → Bool} {tm tb : Nat → Nat} {ts : Nat → Bool} {m m1 μ ν : Mem} {p p' fl : Nat → Prop} {DX DM : Dn} {as : Ev} {w : Int32} {n' k o' : Nat} {tm' tb' : Nat → Nat} {ts' : Nat → Bool}
theorem VrX.up (hV : VrX ver m) (e25 : μ.1 25 3 = m.1 25 3 + ii k) (e44 : μ.1 44 = m.1 44) (e37 : μ.1 37 = m.1 37) : VrX (ver + k) μ := by
  obtain ⟨h1, x, y, z, h2, h3, h4, b1, b2, b3⟩ := hV
  refine ⟨?_, x, y, z, by rw [e44]; exact h2, by rw [e44]; exact h3, by rw [e37]; exact h4, by omega, by omega, by omega, by omega⟩
  rw [e25, h1, ii_add, show ((ver + k : Nat) : Int) = (ver : Int) + (k : Int) by omega]
/-- what was kept speaks of another version -/
theorem gv_no (hV : VrX ver m) (hk : 1 ≤ k ∧ k ≤ 60) (hb : ver + 60 ≤ 1000000) (e25 : μ.1 25 3 = m.1 25 3 + ii k) (e44 : μ.1 44 = m.1 44) (e37 : μ.1 37 = m.1 37) (N K : Nat) (wd : Nat → Int32) (bf : Nat → List Br) (q : Row) : GvC N K wd bf q μ ∧ PlC N K wd bf q μ := by
  obtain ⟨h1, x, y, z, h2, h3, h4, b1, b2, b3⟩ := hV
  have e : μ.1 25 3 = ii ((ver : Int) + (k : Int)) := by rw [e25, h1, ii_add]
  have no : ∀ t : Int, -1 ≤ t → t ≤ ver → ii t ≠ ii ((ver : Int) + (k : Int)) := fun t t1 t2 h => by
    rw [ii_inj (by omega) (by omega) (by omega) (by omega)] at h
    omega
  refine ⟨⟨fun h => ?_, fun h => ?_⟩, fun h => ?_⟩
  · rw [e44, h2, e] at h; exact absurd h (no x b1.1 b1.2)
  · rw [e44, h3, e] at h; exact absurd h (no y b2.1 b2.2)
  · rw [e37, h4, e] at h; exact absurd h (no z b3.1 b3.2)
theorem StX.mut (h : StX N K wd bf q seed n u hl v o tm tb ts m) (hV : VrX ver m) (a : Ag p m μ) (hq : ∀ r, p r → 25 ≤ r ∧ r ≤ 31 ∨ r = 64 ∨ 66 ≤ r ∧ r ≤ 105) (hS : SX N K q' 25 μ) (hH : HX N K n' u' μ) (e : μ.1 25 3 = m.1 25 3 + ii k) (hk : 1 ≤ k ∧ k ≤ 60) (hb : ver + 60 ≤ 1000000) : StX N K wd bf q' seed n' u' hl v o tm tb ts μ ∧ VrX (ver + k) μ := by
  obtain ⟨h1, h2, h3, h4, h5, h6, h7, h8⟩ := h
  have e44 : μ.1 44 = m.1 44 := (a 44 (fun x => by have := hq _ x; omega)).1
  have e37 : μ.1 37 = m.1 37 := (a 37 (fun x => by have := hq _ x; omega)).1
  obtain ⟨c1, c2⟩ := gv_no hV hk hb e e44 e37 N K wd bf q'
  exact ⟨⟨h1.ag a (fun r hr => by have := hq r hr; omega), by rw [(a 6 (fun x => by have := hq 6 x; omega)).1]; exact h2, hS, hH, h5.ag a (fun r hr => by have := hq r hr; omega), h6.ag a (fun r hr => by have := hq r hr; omega), c1, c2⟩, hV.up e e44 e37⟩
theorem StM.mut (h : StM L N K wd bf q seed n u hl v o tm tb ts m) (a : Am p fl m μ) (hq : ∀ r, p r → r = 141 ∨ r = 148 ∨ RS r) (hf : ∀ k, fl k → RF k ∨ k = 57) (hY : YQ N K q' (μ.1 141)) (hH : HM N K n' u' μ) : StM L N K wd bf q' seed n' u' hl v o tm tb ts μ := by
  obtain ⟨h1, h2, h3, h4, h5, h6, h7⟩ := h
  unfold RS at hq
  unfold RF at hf
  exact ⟨h1.am a (fun r hr => by have := hq r hr; omega) (fun k hk => by have := hf k hk; omega), by rw [a.1 128 (by omega) (fun x => by have := hq _ x; omega)]; exact h2, hY, hH, h5.am a (fun r hr => by have := hq r hr; omega), h6.am a (fun r hr => by have := hq r hr; omega) (fun k hk => by have := hf k hk; omega), by rw [a.2.2]; exact h7⟩
theorem fin_m (hX : StX N K wd bf q seed n u hl v o tm tb ts μ) (hV : VrX ver μ) (hM : StM L N K wd bf q seed n u hl v o tm tb ts ν) (hT : TAP m len) (h14 : m.1 14 1 = m.1 111 17) (hb : ver + 60 * cn ≤ 1000000) (a : Ag p m μ) (hq : ∀ r, p r → 14 < r ∧ r < 111) (b : Am p' fl μ ν) (hq' : ∀ r, p' r → 112 < r) (hf : ∀ k, fl k → k ≠ 2 ∧ k ≠ 17) (e1 : ∀ Q, wD DX (.ref 0 :: as) (hp m) Q ↔ Q (some (.int w)) (hp μ)) (e2 : ∀ Q, wD DM (.ref 111 :: as) (hp μ) Q ↔ Q (some (.int w)) (hp ν)) : Ag2 cn DX DM as m := by
  have hT1 := hT.ag a (fun r hr => by have := hq r hr; omega)
  have e14 : μ.1 14 1 = μ.1 111 17 := by rw [(a 14 (fun x => by have := hq _ x; omega)).1, (a 111 (fun x => by have := hq _ x; omega)).1]; exact h14
  have bh := b.hi (fun r hr => by have := hq' r hr; omega)
  refine ag2_of e1 e2 ⟨N, K, wd, bf, q, seed, n, u, hl, v, o, tm, tb, ts, L, ver, len, hX.ag bh (fun r hr => Or.inr hr), hV.ag bh (fun r hr => by omega), hM, hT1.am b hq' (fun k hk => (hf k hk).1), ?_, hb⟩
  rw [b.1 14 (by omega) (fun x => by have := hq' _ x; omega), b.2.1 17 (fun x => (hf _ x).2 rfl)]
  exact e14
theorem FP.rws {r : Nat} (h : FP r) : 25 ≤ r ∧ r ≤ 31 ∨ r = 64 ∨ 66 ≤ r ∧ r ≤ 105 := by unfold FP HP DP at h; omega
theorem UP.rws {r : Nat} (h : UP r) : 25 ≤ r ∧ r ≤ 31 ∨ r = 64 ∨ 66 ≤ r ∧ r ≤ 105 := by unfold UP at h; omega
theorem HS.rws {r : Nat} (h : HS r) : r = 141 ∨ r = 148 ∨ RS r := by unfold HS at h; rcases h with h | h | h; exact Or.inr (Or.inr h); exact Or.inl h; exact Or.inr (Or.inl h)
theorem HS.hgh {r : Nat} (h : HS r) : 112 < r := by unfold HS RS at h; omega
theorem HF.nof {k : Nat} (h : HF k) : k ≠ 2 ∧ k ≠ 17 := by unfold HF RF at h; omega
theorem StX.kx (h : StX N K wd bf q seed n u hl v o tm tb ts m) (a : Ag KP m μ) (hK : KX N K hl' v' μ) : StX N K wd bf q seed n u hl' v' o tm tb ts μ := by
  obtain ⟨h1, h2, h3, h4, h5, h6, h7, h8⟩ := h
  have hq : ∀ r, KP r → r = 110 ∨ 107 ≤ r ∧ r ≤ 109 := fun r hr => hr
  exact ⟨h1.ag a (fun r hr => by have := hq r hr; omega), by rw [(a 6 (fun x => by have := hq 6 x; omega)).1]; exact h2, h3.ag a (fun r hr => by have := hq r hr; omega), h4.ag a (fun r hr => by have := hq r hr; omega), hK, h6.ag a (fun r hr => by have := hq r hr; omega), h7.ag a (fun r hr => by have := hq r hr; omega), h8.ag a (fun r hr => by have := hq r hr; omega)⟩
theorem StX.to (h : StX N K wd bf q seed n u hl v o tm tb ts m) (a : Ag (fun r => 60 ≤ r ∧ r ≤ 63) m μ) (hO : ToX o' tm' tb' ts' μ) : StX N K wd bf q seed n u hl v o' tm' tb' ts' μ := by
  obtain ⟨h1, h2, h3, h4, h5, h6, h7, h8⟩ := h
  exact ⟨h1.ag a (fun r hr => by omega), by rw [(a 6 (by omega)).1]; exact h2, h3.ag a (fun r hr => by omega), h4.ag a (fun r hr => by omega), h5.ag a (fun r hr => by omega), hO, h7.ag a (fun r hr => by omega), h8.ag a (fun r hr => by omega)⟩
theorem StM.km (h : StM L N K wd bf q seed n u hl v o tm tb ts m) (a : Am (fun r => r = 157 ∨ r = 158) (fun _ => False) m μ) (hK : KM N K hl' v' μ) : StM L N K wd bf q seed n u hl' v' o tm tb ts μ := by
  obtain ⟨h1, h2, h3, h4, h5, h6, h7⟩ := h
  exact ⟨h1.am a (fun r hr => by omega) (fun k hk => hk.elim), by rw [a.1 128 (by omega) (by omega)]; exact h2, by rw [a.1 141 (by omega) (by omega)]; exact h3, h4.am a (fun r hr => by omega) (fun k hk => hk.elim), hK, h6.am a (fun r hr => by omega) (fun k hk => hk.elim), by rw [a.2.2]; exact h7⟩
theorem StM.to (h : StM L N K wd bf q seed n u hl v o tm tb ts m) (a : Am (fun r => 154 ≤ r ∧ r ≤ 156) (fun k => k = 67) m μ) (hO : ToM o' tm' tb' ts' μ) : StM L N K wd bf q seed n u hl v o' tm' tb' ts' μ := by
  obtain ⟨h1, h2, h3, h4, h5, h6, h7⟩ := h
  exact ⟨h1.am a (fun r hr => by omega) (fun k hk => by omega), by rw [a.1 128 (by omega) (by omega)]; exact h2, by rw [a.1 141 (by omega) (by omega)]; exact h3, h4.am a (fun r hr => by omega) (fun k hk => by omega), h5.am a (fun r hr => by omega), hO, by rw [a.2.2]; exact h7⟩
theorem g_flap : Agree (Inv (cn + 1)) (Inv cn) D_X_flap D_M_flap 2 (fun _ => True) := by
  intro vs hvs _ h hh
  obtain ⟨m, rfl, hI⟩ := hh
  obtain ⟨a0, a1, rfl⟩ := len2 hvs
  obtain ⟨x, rx, rfl⟩ := i32 a0
  obtain ⟨y, ry, rfl⟩ := i32 a1
  obtain ⟨N, K, wd, bf, q, seed, n, u, hl, v, o, tm, tb, ts, L, ver, len, hX, hV, hM, hT, h14, hb⟩ := hI
  have hC : CR N K q (m.1 26) := hX.2.2.1.1
  show Ag2 cn D_X_flap D_M_flap [.int (ii x), .int (ii y)] m
  by_cases d : (0 ≤ x ∧ x < K) ∧ (1 ≤ y ∧ y ≤ 6) ∧ ¬ ((rSight q x.toNat : Int) = y ∧ (rSet q x.toNat : Int) = y)
  · obtain ⟨g, rfl⟩ : ∃ g : Nat, x = (g : Int) := ⟨x.toNat, by omega⟩
    obtain ⟨s, rfl⟩ : ∃ s : Nat, y = (s : Int) := ⟨y.toNat, by omega⟩
    have d3 : ¬ (rSight q g = s ∧ rSet q g = s) := fun h => d.2.2 ⟨by rw [Int.toNat_natCast, h.1], by rw [Int.toNat_natCast, h.2]⟩
    obtain ⟨μ, a, hS, hH, e, e1⟩ := w_X_flap (g := g) (s := s) hX.1.1 hC hX.2.2.2.1 (by omega) (by omega) (by omega) d3
    obtain ⟨hX2, hV2⟩ := hX.mut (k := 1) hV a (fun r hr => hr.rws) hS hH e (by omega) (by omega)
    have hM1 := hM.lo a (fun r hr => by have := hr.rws; omega)
    obtain ⟨ν, b, hY, hH2, e2⟩ := w_M_flap (g := g) (s := s) hM1.1.toM hM1.2.2.1 hM1.2.2.2.1 (by omega) (by omega) (by omega) d3
    exact fin_m hX2 hV2 (hM1.mut b (fun r hr => hr.rws) (fun k hk => hk) hY hH2) hT h14 (by omega) a (fun r hr => by have := hr.rws; omega) b (fun r hr => hr.hgh) (fun k hk => hk.nof) e1 e2
  · exact fin_ro hX hV hM hT h14 hb ⟨m, Ag.rf m, fun Q => w_X_flapN rx ry hX.1.1 hC d Q⟩ (fun μ hM _ _ => ⟨μ, Am.rf μ, fun Q => w_M_flapN rx ry hM.1.1 hM.2.2.1.1 d Q⟩)
theorem g_turn : Agree (Inv (cn + 1)) (Inv cn) D_X_turn D_M_turn 2 (fun _ => True) := by
  intro vs hvs _ h hh
  obtain ⟨m, rfl, hI⟩ := hh
  obtain ⟨a0, a1, rfl⟩ := len2 hvs
  obtain ⟨x, rx, rfl⟩ := i32 a0
  obtain ⟨y, ry, rfl⟩ := i32 a1
  obtain ⟨N, K, wd, bf, q, seed, n, u, hl, v, o, tm, tb, ts, L, ver, len, hX, hV, hM, hT, h14, hb⟩ := hI
  have hC : CR N K q (m.1 26) := hX.2.2.1.1
  show Ag2 cn D_X_turn D_M_turn [.int (ii x), .int (ii y)] m
  by_cases d : (0 ≤ x ∧ x < K) ∧ (0 ≤ y ∧ y < N) ∧ ¬ ((rFace q x.toNat : Int) = y)
  · obtain ⟨g, rfl⟩ : ∃ g : Nat, x = (g : Int) := ⟨x.toNat, by omega⟩
    obtain ⟨r, rfl⟩ : ∃ r : Nat, y = (r : Int) := ⟨y.toNat, by omega⟩
    have d3 : ¬ rFace q g = r := fun h => d.2.2 (by rw [Int.toNat_natCast, h])
    obtain ⟨μ, a, hS, hH, e, e1⟩ := w_X_turn (g := g) (r := r) hX.1.1 hC hX.2.2.2.1 (by omega) (by omega) d3
    obtain ⟨hX2, hV2⟩ := hX.mut (k := 1) hV a (fun r hr => hr.rws) hS hH e (by omega) (by omega)
    have hM1 := hM.lo a (fun r hr => by have := hr.rws; omega)
    obtain ⟨ν, b, hY, hH2, e2⟩ := w_M_turn (g := g) (r := r) hM1.1.toM hM1.2.2.1 hM1.2.2.2.1 (by omega) (by omega) d3
    exact fin_m hX2 hV2 (hM1.mut b (fun r hr => hr.rws) (fun k hk => hk) hY hH2) hT h14 (by omega) a (fun r hr => by have := hr.rws; omega) b (fun r hr => hr.hgh) (fun k hk => hk.nof) e1 e2
  · exact fin_ro hX hV hM hT h14 hb ⟨m, Ag.rf m, fun Q => w_X_turnN rx ry hX.1.1 hC d Q⟩ (fun μ hM _ _ => ⟨μ, Am.rf μ, fun Q => w_M_turnN rx ry hM.1.1 hM.2.2.1.1 d Q⟩)
theorem g_wish : Agree (Inv (cn + 1)) (Inv cn) D_X_wish D_M_wish 3 (fun _ => True) := by
  intro vs hvs _ h hh
  obtain ⟨m, rfl, hI⟩ := hh
  obtain ⟨a0, a1, a2, rfl⟩ := len3 hvs
  obtain ⟨x, rx, rfl⟩ := i32 a0
  obtain ⟨y, ry, rfl⟩ := i32 a1
  obtain ⟨z, rz, rfl⟩ := i32 a2
  obtain ⟨N, K, wd, bf, q, seed, n, u, hl, v, o, tm, tb, ts, L, ver, len, hX, hV, hM, hT, h14, hb⟩ := hI
  have hC : CR N K q (m.1 26) := hX.2.2.1.1
  show Ag2 cn D_X_wish D_M_wish [.int (ii x), .int (ii y), .int (ii z)] m
  by_cases d : (0 ≤ x ∧ x < K) ∧ (0 ≤ y ∧ y < N) ∧ (0 ≤ z ∧ z ≤ 99) ∧ ¬ ((rWant q x.toNat y.toNat : Int) = z)
  · obtain ⟨g, rfl⟩ : ∃ g : Nat, x = (g : Int) := ⟨x.toNat, by omega⟩
    obtain ⟨r, rfl⟩ : ∃ r : Nat, y = (r : Int) := ⟨y.toNat, by omega⟩
    obtain ⟨s, rfl⟩ : ∃ s : Nat, z = (s : Int) := ⟨z.toNat, by omega⟩
    have d3 : ¬ rWant q g r = s := fun h => d.2.2.2 (by rw [Int.toNat_natCast, Int.toNat_natCast, h])
    obtain ⟨μ, a, hS, hH, e, e1⟩ := w_X_wish (g := g) (r := r) (w := s) hX.1.1 hC hX.2.2.2.1 (by omega) (by omega) (by omega) d3
    obtain ⟨hX2, hV2⟩ := hX.mut (k := 1) hV a (fun r hr => hr.rws) hS hH e (by omega) (by omega)
    have hM1 := hM.lo a (fun r hr => by have := hr.rws; omega)
    obtain ⟨ν, b, hY, hH2, e2⟩ := w_M_wish (g := g) (r := r) (w := s) hM1.1.toM hM1.2.2.1 hM1.2.2.2.1 (by omega) (by omega) (by omega) d3
    exact fin_m hX2 hV2 (hM1.mut b (fun r hr => hr.rws) (fun k hk => hk) hY hH2) hT h14 (by omega) a (fun r hr => by have := hr.rws; omega) b (fun r hr => hr.hgh) (fun k hk => hk.nof) e1 e2
  · exact fin_ro hX hV hM hT h14 hb ⟨m, Ag.rf m, fun Q => w_X_wishN rx ry rz hX.1.1 hC d Q⟩ (fun μ hM _ _ => ⟨μ, Am.rf μ, fun Q => w_M_wishN rx ry rz hM.1.1 hM.2.2.1.1 d Q⟩)
theorem g_days : Agree (Inv (cn + 1)) (Inv cn) D_X_days D_M_days 1 (fun _ => True) := by
  intro vs hvs _ h hh
  obtain ⟨m, rfl, hI⟩ := hh
  obtain ⟨a0, rfl⟩ := len1 hvs
  obtain ⟨x, rx, rfl⟩ := i32 a0
  obtain ⟨N, K, wd, bf, q, seed, n, u, hl, v, o, tm, tb, ts, L, ver, len, hX, hV, hM, hT, h14, hb⟩ := hI
  have hC : CR N K q (m.1 26) := hX.2.2.1.1
  show Ag2 cn D_X_days D_M_days [.int (ii x)] m
  by_cases d : 0 ≤ x ∧ x ≤ 60
  · by_cases z : x = 0
    · subst z
      exact fin_ro hX hV hM hT h14 hb ⟨m, Ag.rf m, fun Q => w_X_days0 hC Q⟩ (fun μ hM _ _ => ⟨μ, Am.rf μ, fun Q => w_M_days0 hM.2.2.1.1 Q⟩)
    · obtain ⟨k, rfl⟩ : ∃ k : Nat, x = (k : Int) := ⟨x.toNat, by omega⟩
      obtain ⟨μ, a, hS, hH, e, e1⟩ := w_X_days (k := k) (by omega) (by omega) hX.1 hX.2.1 hX.2.2.1 hX.2.2.2.1
      obtain ⟨hX2, hV2⟩ := hX.mut (k := k) hV a (fun r hr => hr.rws) hS hH e (by omega) (by omega)
      have hM1 := hM.lo a (fun r hr => by have := hr.rws; omega)
      obtain ⟨ν, b, hY, hH2, e2⟩ := w_M_days (k := k) (by omega) (by omega) hM1.1.toM hM1.2.1 hM1.2.2.1 hM1.2.2.2.1
      exact fin_m hX2 hV2 (hM1.mut b (fun r hr => hr.rws) (fun k hk => hk) hY hH2) hT h14 (by omega) a (fun r hr => by have := hr.rws; omega) b (fun r hr => hr.hgh) (fun k hk => hk.nof) e1 e2
  · exact fin_ro hX hV hM hT h14 hb ⟨m, Ag.rf m, fun Q => w_X_daysN rx d Q⟩ (fun μ hM _ _ => ⟨μ, Am.rf μ, fun Q => w_M_daysN rx d Q⟩)
theorem g_undo : Agree (Inv (cn + 1)) (Inv cn) D_X_undo D_M_undo 0 (fun _ => True) := by
  intro vs hvs _ h hh
  obtain ⟨m, rfl, hI⟩ := hh
  have hvs := len0 hvs
  subst hvs
  obtain ⟨N, K, wd, bf, q, seed, n, u, hl, v, o, tm, tb, ts, L, ver, len, hX, hV, hM, hT, h14, hb⟩ := hI
  have hC : CR N K q (m.1 26) := hX.2.2.1.1
  show Ag2 cn D_X_undo D_M_undo [] m
  cases n with
  | zero => exact fin_ro hX hV hM hT h14 hb ⟨m, Ag.rf m, fun Q => w_X_undoNone hX.2.2.2.1 Q⟩ (fun μ hM _ _ => ⟨μ, Am.rf μ, fun Q => w_M_undoNone hM.2.2.2.1 Q⟩)
  | succ n =>
    obtain ⟨μ, a, hS, hH, e, e1⟩ := w_X_undo hX.1.1 hX.2.2.2.1
    obtain ⟨hX2, hV2⟩ := hX.mut (k := 1) hV a (fun r hr => hr.rws) hS hH e (by omega) (by omega)
    have hM1 := hM.lo a (fun r hr => by have := hr.rws; omega)
    obtain ⟨ν, b, hH2, hY, e2⟩ := w_M_undo hM1.1.1.2.2.2.2.1 hM1.1.1.2.2.2.2.2.1 hM1.2.2.2.1
    exact fin_m hX2 hV2 (hM1.mut b (fun r hr => Or.inl hr) (fun k hk => Or.inr hk) hY hH2) hT h14 (by omega) a (fun r hr => by have := hr.rws; omega) b (fun r hr => by omega) (fun k hk => by omega) e1 e2
theorem g_restore : Agree (Inv (cn + 1)) (Inv cn) D_X_restore D_M_restore 1 (fun _ => True) := by
  intro vs hvs _ h hh
  obtain ⟨m, rfl, hI⟩ := hh
  obtain ⟨a0, rfl⟩ := len1 hvs
  obtain ⟨x, rx, rfl⟩ := i32 a0
  obtain ⟨N, K, wd, bf, q, seed, n, u, hl, v, o, tm, tb, ts, L, ver, len, hX, hV, hM, hT, h14, hb⟩ := hI
  have hC : CR N K q (m.1 26) := hX.2.2.1.1
  show Ag2 cn D_X_restore D_M_restore [.int (ii x)] m
  by_cases d : 0 ≤ x ∧ x < 3 ∧ hl x.toNat = true
  · obtain ⟨s, rfl⟩ : ∃ s : Nat, x = (s : Int) := ⟨x.toNat, by omega⟩
    have d3 : hl s = true := by have := d.2.2; rw [Int.toNat_natCast] at this; exact this
    obtain ⟨μ, a, hS, hH, e, e1⟩ := w_X_restore (s := s) hX.1.1 (by omega) hX.2.2.2.2.1 d3 hX.2.2.2.1
    obtain ⟨hX2, hV2⟩ := hX.mut (k := 1) hV a (fun r hr => hr.rws) hS hH e (by omega) (by omega)
    have hM1 := hM.lo a (fun r hr => by have := hr.rws; omega)
    obtain ⟨ν, b, hH2, hY, e2⟩ := w_M_restore (s := s) hM1.1.1.2.2.2.2.1 hM1.1.1.2.2.2.2.2.1 (by omega) hM1.2.2.2.2.1 d3
    exact fin_m hX2 hV2 (hM1.mut b (fun r hr => Or.inl hr) (fun k hk => Or.inr hk) hY (hH2 u)) hT h14 (by omega) a (fun r hr => by have := hr.rws; omega) b (fun r hr => by omega) (fun k hk => by omega) e1 e2
  · exact fin_ro hX hV hM hT h14 hb ⟨m, Ag.rf m, fun Q => w_X_restoreNo rx hX.2.2.2.2.1 d Q⟩ (fun μ hM _ _ => ⟨μ, Am.rf μ, fun Q => w_M_restoreNo rx.1 rx.2 hM.2.2.2.2.1 d Q⟩)
theorem g_hold : Agree (Inv (cn + 1)) (Inv cn) D_X_hold D_M_hold 1 (fun _ => True) := by
  intro vs hvs _ h hh
  obtain ⟨m, rfl, hI⟩ := hh
  obtain ⟨a0, rfl⟩ := len1 hvs
  obtain ⟨x, rx, rfl⟩ := i32 a0
  obtain ⟨N, K, wd, bf, q, seed, n, u, hl, v, o, tm, tb, ts, L, ver, len, hX, hV, hM, hT, h14, hb⟩ := hI
  have hC : CR N K q (m.1 26) := hX.2.2.1.1
  show Ag2 cn D_X_hold D_M_hold [.int (ii x)] m
  by_cases d : 0 ≤ x ∧ x < 3
  · obtain ⟨s, rfl⟩ : ∃ s : Nat, x = (s : Int) := ⟨x.toNat, by omega⟩
    obtain ⟨μ, a, hK, e1⟩ := w_X_hold (s := s) hX.1.1 (by omega) hC hX.2.2.2.2.1
    have hq : ∀ r, KP r → r = 110 ∨ 107 ≤ r ∧ r ≤ 109 := fun r hr => hr
    have hM1 := hM.lo a (fun r hr => by have := hq r hr; omega)
    obtain ⟨ν, b, hK2, e2⟩ := w_M_hold (s := s) hM1.1.1.2.2.2.2.1 hM1.1.1.2.2.2.2.2.1 (by omega) hM1.2.2.1 hM1.2.2.2.2.1
    exact fin_m (hX.kx a hK) (hV.ag a (fun r hr => by have := hq r hr; omega)) (hM1.km b hK2) hT h14 (by omega) a (fun r hr => by have := hq r hr; omega) b (fun r hr => by omega) (fun k hk => hk.elim) e1 e2
  · exact fin_ro hX hV hM hT h14 hb ⟨m, Ag.rf m, fun Q => w_X_holdNo rx d Q⟩ (fun μ hM _ _ => ⟨μ, Am.rf μ, fun Q => w_M_holdNo rx.1 rx.2 d Q⟩)
theorem g_forget : Agree (Inv (cn + 1)) (Inv cn) D_X_forget D_M_forget 0 (fun _ => True) := by
  intro vs hvs _ h hh
  obtain ⟨m, rfl, hI⟩ := hh
  have hvs := len0 hvs
  subst hvs
  obtain ⟨N, K, wd, bf, q, seed, n, u, hl, v, o, tm, tb, ts, L, ver, len, hX, hV, hM, hT, h14, hb⟩ := hI
  have hC : CR N K q (m.1 26) := hX.2.2.1.1
  show Ag2 cn D_X_forget D_M_forget [] m
  obtain ⟨μ, a, hO, e1⟩ := w_X_forget hX.2.2.2.2.2.1
  have hM1 := hM.lo a (fun r hr => by omega)
  obtain ⟨ν, b, hO2, e2⟩ := w_M_forget hM1.2.2.2.2.2.1
  exact fin_m (hX.to a (hO tm tb ts)) (hV.ag a (fun r hr => by omega)) (hM1.to b (hO2 tm tb ts)) hT h14 (by omega) a (fun r hr => by omega) b (fun r hr => by omega) (fun k hk => by omega) e1 e2
theorem g_tell : Agree (Inv (cn + 1)) (Inv cn) D_X_tell D_M_tell 3 (fun vs => vs[2]? = some 0 ∨ vs[2]? = some 1) := by
  intro vs hvs hok h hh
  obtain ⟨m, rfl, hI⟩ := hh
  obtain ⟨a0, a1, so, rfl⟩ := len3 hvs
  have hso : so = 0 ∨ so = 1 := by
    rcases hok with e | e
    · exact Or.inl (Option.some.inj e)
    · exact Or.inr (Option.some.inj e)
  obtain ⟨x, rx, rfl⟩ := i32 a0
  obtain ⟨y, ry, rfl⟩ := i32 a1
  obtain ⟨N, K, wd, bf, q, seed, n, u, hl, v, o, tm, tb, ts, L, ver, len, hX, hV, hM, hT, h14, hb⟩ := hI
  show Ag2 cn D_X_tell D_M_tell [.int (ii x), .int (ii y), .int so] m
  by_cases d : o < 20 ∧ (0 ≤ x ∧ x < 5) ∧ 0 ≤ y ∧ y ≤ 99
  · obtain ⟨a, rfl⟩ : ∃ a : Nat, x = (a : Int) := ⟨x.toNat, by omega⟩
    obtain ⟨b, rfl⟩ : ∃ b : Nat, y = (b : Int) := ⟨y.toNat, by omega⟩
    obtain ⟨μ, c, hO, e1⟩ := w_X_tell (a := a) (b := b) hX.2.2.2.2.2.1 d.1 (by omega) (by omega) hso
    have hM1 := hM.lo c (fun r hr => by omega)
    obtain ⟨ν, f, hO2, e2⟩ := w_M_tell (a := a) (b := b) hM1.2.2.2.2.2.1 d.1 (by omega) (by omega) hso
    exact fin_m (hX.to c hO) (hV.ag c (fun r hr => by omega)) (hM1.to f hO2) hT h14 (by omega) c (fun r hr => by omega) f (fun r hr => by omega) (fun k hk => by omega) e1 e2
  · exact fin_ro hX hV hM hT h14 hb ⟨m, Ag.rf m, fun Q => w_X_tellN rx ry hX.2.2.2.2.2.1 d Q⟩ (fun μ hM _ _ => ⟨μ, Am.rf μ, fun Q => w_M_tellN rx ry hM.2.2.2.2.2.1 d Q⟩)
end MOP
