/-! The class's codes tell the laws. -/
section LXE
variable {ar : Nat → Int32} {cs A B : Tm} {t : Tm}
theorem gd_at {x : Nat × Int32} (h : cs = A ++ x :: B) : cs.getD A.length (0, 0) = x ∧ A.length < cs.length := by
  subst h
  constructor
  · simp only [List.getD_eq_getElem?_getD, List.getElem?_append_right (Nat.le_refl _), Nat.sub_self, List.getElem?_cons_zero, Option.getD_some]
  · rw [List.length_append, List.length_cons]; omega
theorem gd_in {D : Tm} {i : Nat} (h : cs = A ++ D ++ B) (hi : i < D.length) : cs.getD (A.length + i) (0, 0) = D.getD i (0, 0) ∧ A.length + i < cs.length := by
  subst h
  constructor
  · simp only [List.getD_eq_getElem?_getD, List.append_assoc]
    rw [List.getElem?_append_right (by omega), show A.length + i - A.length = i by omega, List.getElem?_append_left hi]
  · rw [List.length_append, List.length_append]; omega
theorem tmx_at (har : ∀ k, k < cs.length → ar k = (cs.getD k (0, 0)).2) (h : cs = A ++ t.map cX ++ B) {a : Nat} (ha : a = A.length) : TmX (fun k => (cs.getD k (0, 0)).1) ar t a := fun i hi => by
  subst ha
  obtain ⟨e1, e2⟩ := gd_in (i := i) h (by rw [List.length_map]; exact hi)
  have e3 : (t.map cX).getD i (0, 0) = cX (t.getD i (0, 0)) := by
    simp only [List.getD_eq_getElem?_getD, List.getElem?_map]
    rw [List.getElem?_eq_getElem hi]
    rfl
  rw [e3] at e1
  refine ⟨?_, fun _ => ?_⟩
  · show (cs.getD (A.length + i) (0, 0)).1 = _
    rw [e1]; rfl
  · rw [har _ e2, e1]; rfl
theorem lawX_enc (har : ∀ k, k < cs.length → ar k = (cs.getD k (0, 0)).2) : ∀ {bs : List Br} {A B : Tm} {a : Nat}, LwS bs → a = A.length → cs = A ++ encs a bs ++ B → LawX (fun k => (cs.getD k (0, 0)).1) ar cs.length bs a
  | [], _, _, _, h, _, _ => h.elim
  | (none, t) :: bs, A, B, a, h, ha, e => by
    have h : bs = [] := h
    subst h
    have e : cs = A ++ (t.map cX ++ [(3, 0)] ++ []) ++ B := e
    have e1 : cs = A ++ t.map cX ++ ((3, 0) :: B) := by rw [e]; simp only [List.append_assoc, List.append_nil, List.cons_append, List.nil_append]
    obtain ⟨g1, g2⟩ := gd_at (A := A ++ t.map cX) e1
    rw [List.length_append, List.length_map, ← ha] at g1 g2
    refine ⟨rfl, tmx_at har e1 ha, ?_, g2⟩
    show (cs.getD (a + t.length) (0, 0)).1 = 3
    rw [g1]
  | (some (l, r), t) :: bs, A, B, a, h, ha, e => by
    have h : LwS bs := h
    obtain ⟨T, eT⟩ : ∃ T, T = encs (a + (enb a (some (l, r), t)).length) bs := ⟨_, rfl⟩
    have e : cs = A ++ (enb a (some (l, r), t) ++ encs (a + (enb a (some (l, r), t)).length) bs) ++ B := e
    rw [← eT] at e
    have le : (enb a (some (l, r), t)).length = l.length + r.length + 1 + t.length + 1 := by
      simp only [enb, List.length_append, List.length_map, List.length_cons, List.length_nil]
    obtain ⟨J, eJ⟩ : ∃ J, J = ii ((a + l.length + r.length + 1 + t.length + 1 : Nat) : Int) := ⟨_, rfl⟩
    have en : enb a (some (l, r), t) = l.map cX ++ r.map cX ++ [(2, J)] ++ t.map cX ++ [(3, 0)] := by rw [eJ]; rfl
    have e0 := e
    rw [en] at e
    have x1 : cs = A ++ l.map cX ++ (r.map cX ++ (2, J) :: (t.map cX ++ (3, 0) :: (T ++ B))) := by rw [e]; simp only [List.append_assoc, List.cons_append, List.nil_append]
    have x2 : cs = (A ++ l.map cX) ++ r.map cX ++ ((2, J) :: (t.map cX ++ (3, 0) :: (T ++ B))) := by rw [e]; simp only [List.append_assoc, List.cons_append, List.nil_append]
    have x3 : cs = (A ++ l.map cX ++ r.map cX) ++ (2, J) :: (t.map cX ++ (3, 0) :: (T ++ B)) := by rw [e]; simp only [List.append_assoc, List.cons_append, List.nil_append]
    have x4 : cs = (A ++ l.map cX ++ r.map cX ++ [(2, J)]) ++ t.map cX ++ ((3, 0) :: (T ++ B)) := by rw [e]; simp only [List.append_assoc, List.cons_append, List.nil_append]
    have x5 : cs = (A ++ l.map cX ++ r.map cX ++ [(2, J)] ++ t.map cX) ++ (3, 0) :: (T ++ B) := by rw [e]; simp only [List.append_assoc, List.cons_append, List.nil_append]
    obtain ⟨g1, g2⟩ := gd_at x3
    obtain ⟨g3, g4⟩ := gd_at x5
    simp only [List.length_append, List.length_map, List.length_cons, List.length_nil, ← ha] at g1 g2 g3 g4
    refine ⟨tmx_at har x1 ha, tmx_at har x2 (by simp only [List.length_append, List.length_map]; omega), ?_, ?_, tmx_at har x4 (by simp only [List.length_append, List.length_map, List.length_cons, List.length_nil]; omega), ?_, ?_, ?_⟩
    · show (cs.getD (a + l.length + r.length) (0, 0)).1 = 2
      rw [g1]
    · rw [har _ g2, g1]; exact eJ
    · show (cs.getD (a + l.length + r.length + 1 + t.length) (0, 0)).1 = 3
      rw [show a + l.length + r.length + 1 + t.length = a + l.length + r.length + (0 + 1) + t.length by omega, g3]
    · omega
    · refine lawX_enc har (A := A ++ enb a (some (l, r), t)) (B := B) h ?_ ?_
      · rw [List.length_append, le]; omega
      · rw [e0, eT, le, show a + (l.length + r.length + 1 + t.length + 1) = a + l.length + r.length + 1 + t.length + 1 by omega, List.append_assoc, List.append_assoc, List.append_assoc, List.append_assoc]
theorem lxs_enc : ∀ {bs : List Br} {a : Nat}, LwS bs → lxs bs = (encs a bs).length
  | [], _, h => h.elim
  | (none, t) :: bs, a, h => by
    have h : bs = [] := h
    subst h
    show t.length + 1 = (t.map cX ++ [(3, 0)] ++ []).length
    simp only [List.length_append, List.length_map, List.length_cons, List.length_nil]
  | (some (l, r), t) :: bs, a, h => by
    have h : LwS bs := h
    show l.length + r.length + 1 + t.length + 1 + lxs bs = (enb a (some (l, r), t) ++ encs _ bs).length
    rw [List.length_append, ← lxs_enc h]
    simp only [enb, List.length_append, List.length_map, List.length_cons, List.length_nil]
end LXE
/-- laws that are good -/
def LwG (bf : Nat → List Br) : Prop := ∀ law, law < 4 → LwS (bf law) ∧ ∀ b, b ∈ bf law → BrO b
theorem lwx_of {cs : Tm} {bf : Nat → List Br} {m : Mem} (h10 : m.1 6 10 = ii cs.length) (hs : cs.length ≤ 408) (hc : ∀ i, i < cs.length → m.1 12 i = ii (cs.getD i (0, 0)).1 ∧ m.1 13 i = (cs.getD i (0, 0)).2) (hO : CsO cs) (hG : LwG bf) (hL : ∀ law, law < 4 → ∃ A B, cs = A ++ encs A.length (bf law) ++ B ∧ m.1 11 law = ii A.length) : LWX bf m := by
  have mem : ∀ k, k < cs.length → cs.getD k (0, 0) ∈ cs := fun k hk => by
    rw [List.getD_eq_getElem?_getD, List.getElem?_eq_getElem hk]
    exact List.getElem_mem hk
  refine ⟨fun k => (cs.getD k (0, 0)).1, cs.length, fun law => if hl : law < 4 then (Classical.choose (hL law hl)).length else 0, ⟨h10, hs, fun k hk => ?_⟩, fun law hl => ?_⟩
  · obtain ⟨o1, o2, o3⟩ := hO _ (mem k hk)
    rw [(hc k hk).2]
    exact ⟨(hc k hk).1, o1, o2, o3⟩
  · have sp := Classical.choose_spec (hL law hl)
    obtain ⟨B, e1, e2⟩ := sp
    obtain ⟨g1, g2⟩ := hG law hl
    have el : cs.length = (Classical.choose (hL law hl)).length + (encs (Classical.choose (hL law hl)).length (bf law)).length + B.length := by
      conv => lhs; rw [e1]
      rw [List.length_append, List.length_append]
    dsimp only
    rw [dif_pos hl]
    refine ⟨e2, by omega, lawX_enc (fun k hk => (hc k hk).2) g1 rfl e1, g2, ?_⟩
    rw [lxs_enc (a := (Classical.choose (hL law hl)).length) g1]
    omega
