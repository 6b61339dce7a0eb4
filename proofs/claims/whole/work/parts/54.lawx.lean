/-! Laws: the class's machine tells what a law comes to. -/
/-- heights, with the height in the end -/
def hkg (B : Nat) : Tm → Nat → Nat → Prop
  | [], h, e => h = e
  | c :: t, h, e => if c.1 < 2 then h < B ∧ hkg B t (h + 1) e else 2 ≤ h ∧ hkg B t (h - 1) e
theorem hkl_up {B c : Nat} : ∀ {t : Tm} {h : Nat}, hkl B t h → hkg (B + c) t (h + c) (1 + c)
  | [], _, p => congrArg (· + c) p
  | d :: t, h, p => by
    unfold hkl at p
    unfold hkg
    by_cases q : d.1 < 2
    · rw [if_pos q] at p ⊢
      exact ⟨by omega, by rw [show h + c + 1 = h + 1 + c by omega]; exact hkl_up p.2⟩
    · rw [if_neg q] at p ⊢
      exact ⟨by omega, by rw [show h + c - 1 = h - 1 + c by omega]; exact hkl_up p.2⟩
/-- a term's end leaves what was below -/
theorem ptl_base {va : Nat → Int32} {B : Nat} {bb : List Int32} : ∀ {t : Tm} {st : List Int32}, hkl B t st.length → ptl va t (st ++ bb) = (ptl va t st).map (· ++ bb)
  | [], _, _ => rfl
  | (k, x) :: t, st, p => by
    unfold hkl at p
    unfold ptl
    by_cases k0 : k = 0
    · rw [if_pos (by dsimp only; omega)] at p
      rw [if_pos k0, if_pos k0]
      exact ptl_base (st := x :: st) p.2
    · rw [if_neg k0, if_neg k0]
      by_cases k1 : k = 1
      · rw [if_pos (by dsimp only; omega)] at p
        rw [if_pos k1, if_pos k1]
        exact ptl_base (st := _ :: st) p.2
      · rw [if_neg (by dsimp only; omega)] at p
        rw [if_neg k1, if_neg k1]
        match st, p with
        | [], p => exact absurd p.1 (by show ¬ (2 ≤ 0); omega)
        | [_], p => exact absurd p.1 (by show ¬ (2 ≤ 1); omega)
        | r :: l :: st, p =>
          dsimp only [List.cons_append]
          by_cases q : k = 5 ∧ r = 0
          · rw [if_pos q, if_pos q]; rfl
          · rw [if_neg q, if_neg q]
            exact ptl_base (st := cm2 k l r :: st) p.2
/-- a good term leaves one number -/
theorem ptl_one {va : Nat → Int32} {B : Nat} : ∀ {t : Tm} {st st' : List Int32}, hkl B t st.length → ptl va t st = some st' → st'.length = 1
  | [], st, st', p, e => by
    have e : some st = some st' := e
    cases e
    exact p
  | (k, x) :: t, st, st', p, e => by
    unfold hkl at p
    unfold ptl at e
    by_cases k0 : k = 0
    · rw [if_pos (by dsimp only; omega)] at p
      rw [if_pos k0] at e
      exact ptl_one (st := x :: st) p.2 e
    · rw [if_neg k0] at e
      by_cases k1 : k = 1
      · rw [if_pos (by dsimp only; omega)] at p
        rw [if_pos k1] at e
        exact ptl_one (st := _ :: st) p.2 e
      · rw [if_neg (by dsimp only; omega)] at p
        rw [if_neg k1] at e
        match st, p, e with
        | [], p, e => exact absurd p.1 (by show ¬ (2 ≤ 0); omega)
        | [_], p, e => exact absurd p.1 (by show ¬ (2 ≤ 1); omega)
        | r :: l :: st, p, e =>
          dsimp only at e
          by_cases q : k = 5 ∧ r = 0
          · rw [if_pos q] at e; cases e
          · rw [if_neg q] at e
            exact ptl_one (st := cm2 k l r :: st) p.2 e
theorem tv_some {va : Nat → Int32} {B : Nat} {t : Tm} {x : Int32} (h : hkl B t 0) (e : tv va t = some x) : ptl va t [] = some [x] := by
  unfold tv at e
  cases q : ptl va t [] with
  | none => rw [q] at e; cases e
  | some st =>
    rw [q] at e
    have l := ptl_one (st := []) h q
    match st, l, e with
    | [y], _, e => cases e; rfl
theorem tv_none {va : Nat → Int32} {t : Tm} (e : tv va t = none) : ptl va t [] = none := by
  unfold tv at e
  cases q : ptl va t [] with
  | none => rfl
  | some st => rw [q] at e; cases e
/-- the class's number of an instruction -/
def xop (k : Nat) : Nat := if k < 2 then k else k + 2
theorem cmb_2 {k : Nat} {l r : Int32} (h2 : 2 ≤ k) (h5 : k ≤ 5) (h : ¬ (k = 5 ∧ r = 0)) : cmb (k + 2) l r = cm2 k l r := by
  rcases (show k = 2 ∨ k = 3 ∨ k = 4 ∨ k = 5 by omega) with rfl | rfl | rfl | rfl
  · rfl
  · rfl
  · rfl
  · exact if_neg (fun q => h ⟨rfl, q⟩)
/-- a term stands in the class's code -/
def TmX (o : Nat → Nat) (ar : Nat → Int32) (t : Tm) (a : Nat) : Prop := ∀ i, i < t.length → o (a + i) = xop (t.getD i (0, 0)).1 ∧ ((t.getD i (0, 0)).1 < 2 → ar (a + i) = (t.getD i (0, 0)).2)
theorem cvl_term {o : Nat → Nat} {ar va : Nat → Int32} {sz n e : Nat} : ∀ {t : Tm} {a : Nat} {st : List Int32}, TmX o ar t a → (∀ c, c ∈ t → c.1 ≤ 5) → a + t.length ≤ sz → hkg 31 t st.length e → st.length ≤ 31 → cvl o ar va sz (n + t.length) a st = match ptl va t st with
    | some st' => cvl o ar va sz n (a + t.length) st'
    | none => 0
  | [], _, _, _, _, _, _, _ => rfl
  | (k, x) :: t, a, st, hX, h5, hs, hh, hl => by
    have h0 := hX 0 (by rw [List.length_cons]; omega)
    have e1 : o a = xop k := h0.1
    have e2 : k < 2 → ar a = x := h0.2
    have k5 : k ≤ 5 := h5 (k, x) List.mem_cons_self
    rw [List.length_cons] at hs ⊢
    have ih : ∀ st : List Int32, hkg 31 t st.length e → st.length ≤ 31 → cvl o ar va sz (n + t.length) (a + 1) st = match ptl va t st with
        | some st' => cvl o ar va sz n (a + 1 + t.length) st'
        | none => 0 := fun st q1 q2 => cvl_term (fun i hi => by
      have := hX (i + 1) (by rw [List.length_cons]; omega)
      rw [show a + (i + 1) = a + 1 + i by omega] at this
      exact this) (fun c hc => h5 c (List.mem_cons_of_mem _ hc)) (by omega) q1 q2
    rw [show a + (t.length + 1) = a + 1 + t.length by omega, show n + (t.length + 1) = (n + t.length) + 1 by omega]
    unfold hkg at hh
    conv => lhs; unfold cvl
    conv => rhs; unfold ptl
    rw [if_neg (fun q => q ⟨by omega, by omega⟩), e1]
    unfold xop
    by_cases k2 : k < 2
    · rw [if_pos k2] at hh
      rw [if_pos k2, e2 k2, if_neg (by omega)]
      by_cases k0 : k = 0
      · rw [if_pos k0, if_pos k0]
        exact ih (x :: st) hh.2 (by rw [List.length_cons]; omega)
      · rw [if_neg k0, if_neg k0, if_pos (by omega), if_pos (by omega)]
        exact ih (_ :: st) hh.2 (by rw [List.length_cons]; omega)
    · rw [if_neg k2] at hh
      rw [if_neg k2, if_neg (by omega), if_neg (by omega), if_neg (by omega), if_neg (by omega), if_neg (by omega)]
      match st, hh, hl with
      | [], p, _ => exact absurd p.1 (by show ¬ (2 ≤ 0); omega)
      | [_], p, _ => exact absurd p.1 (by show ¬ (2 ≤ 1); omega)
      | r :: l :: st, p, hl =>
        dsimp only
        rw [if_neg (by omega)]
        by_cases q : k = 5 ∧ r = 0
        · rw [if_pos q, if_pos ⟨by omega, q.2⟩]
        · rw [if_neg q, if_neg (fun q' => q ⟨by omega, q'.2⟩), cmb_2 (by omega) k5 q]
          exact ih (cm2 k l r :: st) p.2 (by rw [List.length_cons, List.length_cons] at hl; rw [List.length_cons]; omega)
