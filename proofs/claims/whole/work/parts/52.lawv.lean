/-! Laws: what both sides mean: lists of branches. -/
/-- a term in postfix: 0 a number, 1 what is told, 2 + 3 - 4 * 5 / -/
abbrev Tm : Type := List (Nat × Int32)
def ptl (va : Nat → Int32) : Tm → List Int32 → Option (List Int32)
  | [], st => some st
  | (k, x) :: t, st => if k = 0 then ptl va t (x :: st) else if k = 1 then ptl va t (va x.toNatClampNeg :: st)
    else match st with
      | r :: l :: st' => if k = 5 ∧ r = 0 then none else ptl va t (cm2 k l r :: st')
      | _ => none
/-- a term's worth; none: something over 0 -/
def tv (va : Nat → Int32) (t : Tm) : Option Int32 := (ptl va t []).map (fun st => st.headD 0)
def hkl (B : Nat) : Tm → Nat → Prop
  | [], h => h = 1
  | c :: t, h => if c.1 < 2 then h < B ∧ hkl B t (h + 1) else 2 ≤ h ∧ hkl B t (h - 1)
/-- a good term: its instructions, the height of its stack -/
def TmO (B : Nat) (t : Tm) : Prop := hkl B t 0 ∧ ∀ c, c ∈ t → c.1 ≤ 5 ∧ (c.1 = 1 → ∃ v : Nat, v < 9 ∧ c.2 = ii v)
theorem hkl_mono {B C : Nat} (hB : B ≤ C) : ∀ {t : Tm} {h : Nat}, hkl B t h → hkl C t h
  | [], _, p => p
  | c :: t, h, p => by
    unfold hkl at p ⊢
    by_cases q : c.1 < 2
    · rw [if_pos q] at p ⊢; exact ⟨by omega, hkl_mono hB p.2⟩
    · rw [if_neg q] at p ⊢; exact ⟨p.1, hkl_mono hB p.2⟩
theorem pt_list {o : Nat → Nat} {ar va : Nat → Int32} : ∀ {t : Tm} {a : Nat} {st : List Int32}, (∀ i, i < t.length → o (a + i) = (t.getD i (0, 0)).1 ∧ ar (a + i) = (t.getD i (0, 0)).2) → pt o ar va t.length a st = ptl va t st
  | [], _, _, _ => rfl
  | (k, x) :: t, a, st, h => by
    have h0 := h 0 (by rw [List.length_cons]; omega)
    have e1 : o a = k := h0.1
    have e2 : ar a = x := h0.2
    have ih : ∀ st, pt o ar va t.length (a + 1) st = ptl va t st := fun st => pt_list (fun i hi => by
      have := h (i + 1) (by rw [List.length_cons]; omega)
      rw [show a + (i + 1) = a + 1 + i by omega] at this
      exact this)
    rw [List.length_cons]
    unfold pt ptl
    rw [e1, e2]
    by_cases k0 : k = 0
    · rw [if_pos k0, if_pos k0, ih]
    · rw [if_neg k0, if_neg k0]
      by_cases k1 : k = 1
      · rw [if_pos k1, if_pos k1, ih]
      · rw [if_neg k1, if_neg k1]
        match st with
        | [] => rfl
        | [_] => rfl
        | r :: l :: st => dsimp only; rw [ih]
theorem hok_list {o : Nat → Nat} {B : Nat} : ∀ {t : Tm} {a h : Nat}, (∀ i, i < t.length → o (a + i) = (t.getD i (0, 0)).1) → hkl B t h → hok o B t.length a h
  | [], _, _, _, p => p
  | c :: t, a, h, q, p => by
    have e1 : o a = c.1 := q 0 (by rw [List.length_cons]; omega)
    have ih : ∀ h, hkl B t h → hok o B t.length (a + 1) h := fun h p => hok_list (fun i hi => by
      have := q (i + 1) (by rw [List.length_cons]; omega)
      rw [show a + (i + 1) = a + 1 + i by omega] at this
      exact this) p
    rw [List.length_cons]
    unfold hok
    unfold hkl at p
    rw [e1]
    by_cases d : c.1 < 2
    · rw [if_pos d] at p ⊢; exact ⟨p.1, ih _ p.2⟩
    · rw [if_neg d] at p ⊢; exact ⟨p.1, ih _ p.2⟩
/-- a term stands in the reference's cells -/
def TmM (t : Tm) (a : Nat) (m : Mem) : Prop := a + t.length ≤ 840 ∧ ∀ i, i < t.length → m.1 136 (a + i) = ii (t.getD i (0, 0)).1 ∧ m.1 137 (a + i) = (t.getD i (0, 0)).2
abbrev Br : Type := Option (Tm × Tm) × Tm
/-- what a law comes to -/
def lawv (va : Nat → Int32) : List Br → Int32
  | [] => 0
  | (none, t) :: _ => (tv va t).getD 0
  | (some (l, r), t) :: bs => match tv va l, tv va r with
    | some x, some y => if x < y then (tv va t).getD 0 else lawv va bs
    | _, _ => 0
section LWL
variable {m : Mem}
theorem w_M_term {t : Tm} {a e : Nat} (he : e = a + t.length) (hA : TmM t a m) (hO : TmO 400 t) : ∃ f, D_M_termOf [.ref 111, .int (ii a), .int (ii e)] (hp m) = match tv (m.1 139) t with
    | some x => some (some (.int x), hp (sI m 140 f))
    | none => some (some (.int 0), hp (sI (sI m 140 f) 111 (upd (m.1 111) 46 1))) := by
  subst he
  have ho : ∀ i, i < t.length → (fun k => (t.getD (k - a) (0, 0)).1) (a + i) = (t.getD i (0, 0)).1 := fun i hi => by
    show (t.getD (a + i - a) (0, 0)).1 = _
    rw [show a + i - a = i by omega]
  obtain ⟨f, e⟩ := w_M_termOf (m := m) (a := a) (n := t.length) (o := fun k => (t.getD (k - a) (0, 0)).1) ⟨hA.1, fun k h1 h2 => by
    have h3 := hA.2 (k - a) (by omega)
    rw [show a + (k - a) = k by omega] at h3
    have hm : t.getD (k - a) (0, 0) ∈ t := by
      rw [List.getD_eq_getElem?_getD, List.getElem?_eq_getElem (by omega)]
      exact List.getElem_mem _
    refine ⟨h3.1, (hO.2 _ hm).1, fun q => ?_⟩
    rw [h3.2]
    exact (hO.2 _ hm).2 q⟩ (hok_list ho hO.1)
  refine ⟨f, e.trans ?_⟩
  rw [pt_list (t := t) (fun i hi => ⟨ho i hi, (hA.2 i hi).2⟩)]
  unfold tv
  cases ptl (m.1 139) t [] with
  | none => rfl
  | some st => rfl
end LWL
