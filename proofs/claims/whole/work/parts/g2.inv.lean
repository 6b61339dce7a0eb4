/-! What holds between calls. -/
def StX (N K : Nat) (wd : Nat → Int32) (bf : Nat → List Br) (q : Row) (seed : Int32) (n : Nat) (u : Nat → Row) (hl : Nat → Bool) (v : Nat → Row) (o : Nat) (tm tb : Nat → Nat) (ts : Nat → Bool) (m : Mem) : Prop := TX N K wd bf m ∧ m.1 6 2 = seed ∧ SX N K q 25 m ∧ HX N K n u m ∧ KX N K hl v m ∧ ToX o tm tb ts m ∧ GvC N K wd bf q m ∧ PlC N K wd bf q m
/-- the scene's version and those of what is kept -/
def VrX (ver : Nat) (m : Mem) : Prop := m.1 25 3 = ii ver ∧ ∃ a b c : Int, m.1 44 13 = ii a ∧ m.1 44 14 = ii b ∧ m.1 37 13 = ii c ∧ (-1 ≤ a ∧ a ≤ ver) ∧ (-1 ≤ b ∧ b ≤ ver) ∧ -1 ≤ c ∧ c ≤ ver
def TMC (L N K : Nat) (wd : Nat → Int32) (bf : Nat → List Br) (m : Mem) : Prop := MT L N K m ∧ (∀ r, r < N → m.1 122 (6 * L + r) = wd r) ∧ LWB L bf (130 * L + 130) (420 * L + 420) m ∧ ∀ law, law < 4 → ∀ b, b ∈ bf law → BrO b
def StM (L N K : Nat) (wd : Nat → Int32) (bf : Nat → List Br) (q : Row) (seed : Int32) (n : Nat) (u : Nat → Row) (hl : Nat → Bool) (v : Nat → Row) (o : Nat) (tm tb : Nat → Nat) (ts : Nat → Bool) (m : Mem) : Prop := TMC L N K wd bf m ∧ m.1 128 L = seed ∧ YQ N K q (m.1 141) ∧ HM N K n u m ∧ KM N K hl v m ∧ ToM o tm tb ts m ∧ ∀ w, w < 20 → m.2 118 w = kyl w
def Inm (cn : Nat) (m : Mem) : Prop := ∃ (N K : Nat) (wd : Nat → Int32) (bf : Nat → List Br) (q : Row) (seed : Int32) (n : Nat) (u : Nat → Row) (hl : Nat → Bool) (v : Nat → Row) (o : Nat) (tm tb : Nat → Nat) (ts : Nat → Bool) (L ver len : Nat), StX N K wd bf q seed n u hl v o tm tb ts m ∧ VrX ver m ∧ StM L N K wd bf q seed n u hl v o tm tb ts m ∧ TAP m len ∧ m.1 14 1 = m.1 111 17 ∧ ver + 60 * cn ≤ 1000000
def Inv (cn : Nat) (h : Hp) : Prop := ∃ m, h = hp m ∧ Inm cn m
/-- rows of the class that nothing rests on between calls -/
def CRo (r : Nat) : Prop := r = 30 ∨ r = 31 ∨ 33 ≤ r ∧ r ≤ 36 ∨ 52 ≤ r ∧ r ≤ 59
def Ag2 (cn : Nat) (DX DM : Dn) (as : Ev) (m : Mem) : Prop := ∃ (w : Int32) (h1 h2 : Hp), mV 0 DX (.ref 0 :: as) (hp m) = some (some (.int w), h1) ∧ mV 12 DM (.ref 111 :: as) h1 = some (some (.int w), h2) ∧ Inv cn h2
section INV
variable {N K L n o ver len cn : Nat} {wd : Nat → Int32} {bf : Nat → List Br} {q : Row} {seed : Int32} {u v : Nat → Row} {hl : Nat → Bool} {tm tb : Nat → Nat} {ts : Nat → Bool} {m m1 μ ν : Mem} {p fl : Nat → Prop} {DX DM : Dn} {as : Ev} {w : Int32}
theorem TMC.toM (h : TMC L N K wd bf m) : TM L N K wd bf m := by
  obtain ⟨h1, h2, h3, h4⟩ := h
  refine ⟨h1, h2, fun law hl => ⟨h4 law hl, ?_⟩⟩
  obtain ⟨b0, bs, x1, x2, x3, x4, x5, x6⟩ := h3 law hl
  have hL := h1.2.1
  refine ⟨b0, bs, x1, x2, ⟨by omega, fun i hi => ?_⟩, x6⟩
  refine (x5 i hi).mm ?_
  rcases x6 with ⟨e, _⟩ | ⟨_, e⟩
  · rw [e] at hi; exact absurd hi (Nat.not_lt_zero i)
  · refine h4 law hl _ ?_
    rw [e, List.getD_eq_getElem?_getD, List.getElem?_eq_getElem hi]
    exact List.getElem_mem hi
theorem TMC.am (h : TMC L N K wd bf m) (a : Am p fl m μ) (hq : ∀ r, p r → r ≠ 121 ∧ r ≠ 122 ∧ r ≠ 123 ∧ (r < 129 ∨ 137 < r)) (hf : ∀ k, fl k → k ≠ 18) : TMC L N K wd bf μ := by
  obtain ⟨⟨t0, t1, t2, t3, t4⟩, h2, h3, h4⟩ := h
  refine ⟨⟨by rw [a.2.1 18 (fun x => hf _ x rfl)]; exact t0, t1, by rw [a.1 121 (by omega) (fun x => (hq _ x).1 rfl)]; exact t2, by rw [a.1 123 (by omega) (fun x => (hq _ x).2.2.1 rfl)]; exact t3, t4⟩, fun r hr => by rw [a.1 122 (by omega) (fun x => (hq _ x).2.1 rfl)]; exact h2 r hr, h3.of (fun r h1 h2 => a.1 r (by omega) (fun x => ?_)), h4⟩
  have := (hq _ x).2.2.2
  omega
theorem KM.am (h : KM N K hl v m) (a : Am p fl m μ) (hq : ∀ r, p r → r ≠ 157 ∧ r ≠ 158) : KM N K hl v μ := fun s hs => by
  rw [a.1 157 (by omega) (fun x => (hq _ x).1 rfl), a.1 158 (by omega) (fun x => (hq _ x).2 rfl)]
  exact h s hs
theorem StM.rs (h : StM L N K wd bf q seed n u hl v o tm tb ts m) (a : Am RS RF m μ) : StM L N K wd bf q seed n u hl v o tm tb ts μ := by
  obtain ⟨h1, h2, h3, h4, h5, h6, h7⟩ := h
  refine ⟨h1.am a (fun r hr => by unfold RS at hr; omega) (fun k hk => by unfold RF at hk; omega), by rw [a.1 128 (by omega) (by unfold RS; omega)]; exact h2, by rw [a.1 141 (by omega) (by unfold RS; omega)]; exact h3, h4.am a (fun r hr => by unfold RS at hr; omega) (fun k hk => by unfold RF at hk; omega), h5.am a (fun r hr => by unfold RS at hr; omega), h6.am a (fun r hr => by unfold RS at hr; omega) (fun k hk => by unfold RF at hk; omega), by rw [a.2.2]; exact h7⟩
/-- the class's calls leave the reference's cells -/
theorem StM.lo (h : StM L N K wd bf q seed n u hl v o tm tb ts m) (a : Ag p m μ) (hq : ∀ r, p r → r < 111) : StM L N K wd bf q seed n u hl v o tm tb ts μ := by
  have e : ∀ r, 111 ≤ r → μ.1 r = m.1 r := fun r hr => (a r (fun x => by have := hq r x; omega)).1
  obtain ⟨h1, h2, h3, h4, h5, h6, h7⟩ := h
  obtain ⟨⟨t0, t1, t2, t3, t4⟩, g2, g3, g4⟩ := h1
  refine ⟨⟨⟨by rw [e 111 (by omega)]; exact t0, t1, by rw [e 121 (by omega)]; exact t2, by rw [e 123 (by omega)]; exact t3, t4⟩, by rw [e 122 (by omega)]; exact g2, g3.of (fun r h1 h2 => e r (by omega)), g4⟩, by rw [e 128 (by omega)]; exact h2, by rw [e 141 (by omega)]; exact h3, ?_, ?_, ?_, ?_⟩
  · unfold HM; rw [e 111 (by omega), e 148 (by omega)]; exact h4
  · unfold KM; rw [e 157 (by omega), e 158 (by omega)]; exact h5
  · unfold ToM; rw [e 111 (by omega), e 154 (by omega), e 155 (by omega), e 156 (by omega)]; exact h6
  · rw [(a 118 (fun x => by have := hq 118 x; omega)).2]; exact h7
theorem KX.ag (h : KX N K hl v m) (a : Ag p m μ) (hq : ∀ r, p r → r < 107 ∨ 110 < r) : KX N K hl v μ := fun s hs => by
  rw [(a 110 (fun x => by have := hq _ x; omega)).1, (a (107 + s) (fun x => by have := hq _ x; omega)).1]
  exact h s hs
theorem GvC.ag (h : GvC N K wd bf q m) (a : Ag p m μ) (hq : ∀ r, p r → r ≠ 25 ∧ (r < 44 ∨ 48 < r)) : GvC N K wd bf q μ := by
  have e : ∀ r, r = 25 ∨ 44 ≤ r ∧ r ≤ 48 → μ.1 r = m.1 r := fun r hr => (a r (fun x => by have := hq r x; omega)).1
  unfold GvC GnX WtX
  rw [e 25 (by omega), e 44 (by omega), e 45 (by omega), e 46 (by omega), e 47 (by omega), e 48 (by omega)]
  exact h
theorem PlC.ag (h : PlC N K wd bf q m) (a : Ag p m μ) (hq : ∀ r, p r → r ≠ 25 ∧ (r < 37 ∨ 41 < r)) : PlC N K wd bf q μ := by
  have e : ∀ r, r = 25 ∨ 37 ≤ r ∧ r ≤ 41 → μ.1 r = m.1 r := fun r hr => (a r (fun x => by have := hq r x; omega)).1
  unfold PlC PlD PlE PlX
  rw [e 25 (by omega), e 37 (by omega), e 38 (by omega), e 39 (by omega), e 40 (by omega), e 41 (by omega)]
  exact h
theorem StX.ag (h : StX N K wd bf q seed n u hl v o tm tb ts m) (a : Ag p m μ) (hq : ∀ r, p r → CRo r ∨ 111 ≤ r) : StX N K wd bf q seed n u hl v o tm tb ts μ := by
  obtain ⟨h1, h2, h3, h4, h5, h6, h7, h8⟩ := h
  unfold CRo at hq
  exact ⟨h1.ag a (fun r hr => by have := hq r hr; omega), by rw [(a 6 (fun x => by have := hq 6 x; omega)).1]; exact h2, h3.ag a (fun r hr => by have := hq r hr; omega), h4.ag a (fun r hr => by have := hq r hr; omega), h5.ag a (fun r hr => by have := hq r hr; omega), h6.ag a (fun r hr => by have := hq r hr; omega), h7.ag a (fun r hr => by have := hq r hr; omega), h8.ag a (fun r hr => by have := hq r hr; omega)⟩
theorem VrX.ag (h : VrX ver m) (a : Ag p m μ) (hq : ∀ r, p r → r ≠ 25 ∧ r ≠ 37 ∧ r ≠ 44) : VrX ver μ := by
  unfold VrX
  rw [(a 25 (fun x => (hq _ x).1 rfl)).1, (a 37 (fun x => (hq _ x).2.1 rfl)).1, (a 44 (fun x => (hq _ x).2.2 rfl)).1]
  exact h
/-- what the reference's calls leave -/
theorem Am.hi (a : Am p fl m μ) (hq : ∀ r, p r → 111 ≤ r) : Ag (fun r => 111 ≤ r) m μ := fun r hr => ⟨a.1 r (by omega) (fun x => by have := hq r x; omega), by rw [a.2.2]⟩
theorem wD_get {D : Dn} {h h' : Hp} {r : Option Value} (e : ∀ Q, wD D as h Q ↔ Q r h') : D as h = some (r, h') := wD_out ((e (fun r1 h1 => r1 = r ∧ h1 = h')).2 ⟨rfl, rfl⟩)
theorem ag2_of (e1 : ∀ Q, wD DX (.ref 0 :: as) (hp m) Q ↔ Q (some (.int w)) (hp μ)) (e2 : ∀ Q, wD DM (.ref 111 :: as) (hp μ) Q ↔ Q (some (.int w)) (hp ν)) (hJ : Inm cn ν) : Ag2 cn DX DM as m := by
  refine ⟨w, hp μ, hp ν, ?_, ?_, ν, rfl, hJ⟩
  · unfold mV
    rw [if_pos (io_0 m as)]
    exact wD_get e1
  · unfold mV
    rw [if_pos (io_111 μ as)]
    exact wD_get e2
theorem TAP.ag (h : TAP m len) (a : Ag p m μ) (hq : ∀ r, p r → r ≠ 1 ∧ r ≠ 2 ∧ r < 111) : TAP μ len := by
  unfold TAP
  rw [(a 1 (fun x => (hq _ x).1 rfl)).1, (a 2 (fun x => (hq _ x).2.1 rfl)).1, (a 111 (fun x => by have := (hq _ x).2.2; omega)).1, (a 112 (fun x => by have := (hq _ x).2.2; omega)).1]
  exact h
theorem TAP.am (h : TAP m len) (a : Am p fl m μ) (hq : ∀ r, p r → 112 < r) (hf : ∀ k, fl k → k ≠ 2) : TAP μ len := by
  unfold TAP
  rw [a.1 1 (by omega) (fun x => by have := hq _ x; omega), a.1 2 (by omega) (fun x => by have := hq _ x; omega), a.2.1 2 (fun x => hf _ x rfl), a.1 112 (by omega) (fun x => by have := hq _ x; omega)]
  exact h
/-- the class leaves all but what it keeps; the reference leaves all but rows to reckon with -/
theorem fin_g (hX : StX N K wd bf q seed n u hl v o tm tb ts μ) (hV : VrX ver μ) (hM : StM L N K wd bf q seed n u hl v o tm tb ts m) (hT : TAP m len) (h14 : m.1 14 1 = m.1 111 17) (hb : ver + 60 * (cn + 1) ≤ 1000000) (a : Ag p m μ) (hq : ∀ r, p r → 14 < r ∧ r < 111) (e1 : ∀ Q, wD DX (.ref 0 :: as) (hp m) Q ↔ Q (some (.int w)) (hp μ)) (cM : StM L N K wd bf q seed n u hl v o tm tb ts μ → TAP μ len → μ.1 14 1 = μ.1 111 17 → ∃ ν, Am RS RF μ ν ∧ ∀ Q, wD DM (.ref 111 :: as) (hp μ) Q ↔ Q (some (.int w)) (hp ν)) : Ag2 cn DX DM as m := by
  have hM1 := hM.lo a (fun r hr => (hq r hr).2)
  have hT1 := hT.ag a (fun r hr => by have := hq r hr; omega)
  have e14 : μ.1 14 1 = μ.1 111 17 := by rw [(a 14 (fun x => by have := hq _ x; omega)).1, (a 111 (fun x => by have := hq _ x; omega)).1]; exact h14
  obtain ⟨ν, b, e2⟩ := cM hM1 hT1 e14
  have bh := b.hi (fun r hr => by unfold RS at hr; omega)
  refine ag2_of e1 e2 ⟨N, K, wd, bf, q, seed, n, u, hl, v, o, tm, tb, ts, L, ver, len, hX.ag bh (fun r hr => Or.inr hr), hV.ag bh (fun r hr => by omega), hM1.rs b, hT1.am b (fun r hr => by unfold RS at hr; omega) (fun k hk => by unfold RF at hk; omega), ?_, by omega⟩
  rw [b.1 14 (by omega) (by unfold RS; omega), b.2.1 17 (by unfold RF; omega)]
  exact e14
theorem fin_ro (hX : StX N K wd bf q seed n u hl v o tm tb ts m) (hV : VrX ver m) (hM : StM L N K wd bf q seed n u hl v o tm tb ts m) (hT : TAP m len) (h14 : m.1 14 1 = m.1 111 17) (hb : ver + 60 * (cn + 1) ≤ 1000000) (cX : ∃ μ, Ag CRo m μ ∧ ∀ Q, wD DX (.ref 0 :: as) (hp m) Q ↔ Q (some (.int w)) (hp μ)) (cM : ∀ μ, StM L N K wd bf q seed n u hl v o tm tb ts μ → TAP μ len → μ.1 14 1 = μ.1 111 17 → ∃ ν, Am RS RF μ ν ∧ ∀ Q, wD DM (.ref 111 :: as) (hp μ) Q ↔ Q (some (.int w)) (hp ν)) : Ag2 cn DX DM as m := by
  obtain ⟨μ, a, e1⟩ := cX
  exact fin_g (hX.ag a (fun r hr => Or.inl hr)) (hV.ag a (fun r hr => by unfold CRo at hr; omega)) hM hT h14 hb a (fun r hr => by unfold CRo at hr; omega) e1 (cM μ)
theorem i32 (a : Int32) : ∃ x : Int, rg x ∧ a = ii x := by
  refine ⟨a.toInt, ⟨?_, ?_⟩, ?_⟩
  · have := Int32.minValue_le_toInt a
    have e3 : Int32.minValue.toInt = -2147483648 := rfl
    omega
  · have := Int32.toInt_le a
    have e4 : Int32.maxValue.toInt = 2147483647 := rfl
    omega
  · unfold ii
    rw [Int32.ofInt_toInt]
theorem len0 {vs : List Int32} (h : vs.length = 0) : vs = [] := List.length_eq_zero_iff.mp h
theorem len1 {vs : List Int32} (h : vs.length = 1) : ∃ a, vs = [a] := List.length_eq_one_iff.mp h
theorem len2 {vs : List Int32} (h : vs.length = 2) : ∃ a b, vs = [a, b] := by
  cases vs with
  | nil => cases h
  | cons a t =>
    obtain ⟨b, rfl⟩ := len1 (vs := t) (by rw [List.length_cons] at h; omega)
    exact ⟨a, b, rfl⟩
theorem len3 {vs : List Int32} (h : vs.length = 3) : ∃ a b c, vs = [a, b, c] := by
  cases vs with
  | nil => cases h
  | cons a t =>
    obtain ⟨b, c, rfl⟩ := len2 (vs := t) (by rw [List.length_cons] at h; omega)
    exact ⟨a, b, c, rfl⟩
theorem len4 {vs : List Int32} (h : vs.length = 4) : ∃ a b c d, vs = [a, b, c, d] := by
  cases vs with
  | nil => cases h
  | cons a t =>
    obtain ⟨b, c, d, rfl⟩ := len3 (vs := t) (by rw [List.length_cons] at h; omega)
    exact ⟨a, b, c, d, rfl⟩
theorem len5 {vs : List Int32} (h : vs.length = 5) : ∃ a b c d e, vs = [a, b, c, d, e] := by
  cases vs with
  | nil => cases h
  | cons a t =>
    obtain ⟨b, c, d, e, rfl⟩ := len4 (vs := t) (by rw [List.length_cons] at h; omega)
    exact ⟨a, b, c, d, e, rfl⟩
end INV
