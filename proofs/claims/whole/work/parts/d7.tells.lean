/-! Tells: what holds of one that is well formed. -/
def LwS : List Br → Prop
  | [] => False
  | (none, _) :: bs => bs = []
  | (some _, _) :: bs => LwS bs
section TLP
variable {c : Nat → Int} {n t k : Nat}
theorem tpl_up (h : tkd c n t ≤ 30) : tpl c n t < tpl c n (t + 1) := by
  show tpl c n t < skp c n (tke c n (tpl c n t))
  have hl : tpl c n t < n := by
    rcases Nat.lt_or_ge (tpl c n t) n with d | d
    · exact d
    · unfold tkd at h; rw [(tk_e (by omega)).1] at h; omega
  have h1 : tpl c n t < tke c n (tpl c n t) := by
    cases r2 : ltq (c (tpl c n t)) with
    | true => rw [(tk_w hl r2).2.2]; have := rnl_pos (P := ltq) hl r2; omega
    | false =>
      cases r3 : dtq (c (tpl c n t)) with
      | true => rw [(tk_d hl r2 r3).2.2]; have := rnl_pos (P := dtq) hl r3; omega
      | false => rw [(tk_s hl r2 r3).2.2]; omega
  have h2 : tke c n (tpl c n t) ≤ skp c n (tke c n (tpl c n t)) := Nat.le_add_right _ _
  omega
theorem tpl_mono {i j : Nat} (hij : i < j) (h : ∀ x, i ≤ x → x < j → tkd c n x ≤ 30) : tpl c n i < tpl c n j := by
  induction j with
  | zero => omega
  | succ j ih =>
    by_cases d : i = j
    · subst d; exact tpl_up (h i (Nat.le_refl _) (by omega))
    · have := ih (by omega) (fun x h1 h2 => h x h1 (by omega))
      have := tpl_up (h j (by omega) (by omega))
      omega
theorem pIf1_good {y : Nat × Tm × Tm × Tm} (h : pIf1 (tkd c n) (pS0 c n) t = .ok y) : t + 7 ≤ y.1 ∧ y.1 ≤ 400 ∧ (∀ i, t ≤ i → i < y.1 → 8 ≤ tkd c n i) ∧ BrO (some (y.2.1, y.2.2.1), y.2.2.2) := by
  unfold pIf1 at h
  obtain ⟨a1, b1, h⟩ := exb_ok h
  obtain ⟨a2, b2, h⟩ := exb_ok h
  obtain ⟨a3, b3, h⟩ := exb_ok h
  obtain ⟨a4, b4, h⟩ := exb_ok h
  obtain ⟨a5, b5, h⟩ := exb_ok h
  obtain ⟨a6, b6, h⟩ := exb_ok h
  obtain ⟨a7, b7, h⟩ := exb_ok h
  cases h
  obtain ⟨k1, l1, e1⟩ := adv_ok b1
  obtain ⟨k3, l3, e3⟩ := adv_ok b3
  obtain ⟨k5, l5, e5⟩ := adv_ok b5
  obtain ⟨k7, l7, e7⟩ := adv_ok b7
  have g2 := pS0_good b2
  have g4 := pS0_good b4
  have g6 := pS0_good b6
  have := g2.1
  have := g4.1
  have := g6.1
  refine ⟨by dsimp only; omega, by dsimp only; omega, fun i h1 h2 => ?_, g6.tmo, fun cc hc => ?_⟩
  · dsimp only at h2
    by_cases d1 : i = t
    · rw [d1, k1]; decide
    · by_cases d2 : i < a2.1
      · exact g2.2.2.2.2.2 i (by omega) d2
      · by_cases d3 : i = a2.1
        · rw [d3, k3]; decide
        · by_cases d4 : i < a4.1
          · exact g4.2.2.2.2.2 i (by omega) d4
          · by_cases d5 : i = a4.1
            · rw [d5, k5]; decide
            · by_cases d6 : i < a6.1
              · exact g6.2.2.2.2.2 i (by omega) d6
              · rw [show i = a6.1 by omega, k7]; decide
  · cases hc
    exact ⟨g2.tmo, g4.tmo⟩
theorem pEnd_good {z : Nat × List Br} (h : pEnd (tkd c n) (pS0 c n) t = .ok z) : t + 2 ≤ z.1 ∧ z.1 ≤ 400 ∧ (∀ i, t ≤ i → i < z.1 → 8 ≤ tkd c n i) ∧ LwS z.2 ∧ z.2.length = 1 ∧ (∀ b, b ∈ z.2 → BrO b) := by
  unfold pEnd at h
  obtain ⟨a1, b1, h⟩ := exb_ok h
  obtain ⟨a2, b2, h⟩ := exb_ok h
  cases h
  obtain ⟨k2, l2, e2⟩ := adv_ok b2
  have g1 := pS0_good b1
  have := g1.1
  refine ⟨by dsimp only; omega, by dsimp only; omega, fun i h1 h2 => ?_, rfl, rfl, fun b hb => ?_⟩
  · dsimp only at h2
    by_cases d : i < a1.1
    · exact g1.2.2.2.2.2 i h1 d
    · rw [show i = a1.1 by omega, k2]; decide
  · rcases List.mem_singleton.mp hb with rfl
    exact ⟨g1.tmo, fun cc hc => by cases hc⟩
theorem pIfs_good : ∀ f t z, pIfs (tkd c n) (pS0 c n) f t = .ok z → t + 4 * z.2.length ≤ z.1 + 2 ∧ t < z.1 ∧ z.1 ≤ 400 ∧ (∀ i, t ≤ i → i < z.1 → 8 ≤ tkd c n i) ∧ LwS z.2 ∧ z.2.length ≤ f + 1 ∧ ∀ b, b ∈ z.2 → BrO b := by
  have base : ∀ f t z, pEnd (tkd c n) (pS0 c n) t = .ok z → t + 4 * z.2.length ≤ z.1 + 2 ∧ t < z.1 ∧ z.1 ≤ 400 ∧ (∀ i, t ≤ i → i < z.1 → 8 ≤ tkd c n i) ∧ LwS z.2 ∧ z.2.length ≤ f + 1 ∧ ∀ b, b ∈ z.2 → BrO b := fun f t z h => by
    obtain ⟨g1, g2, g3, g4, g5, g6⟩ := pEnd_good h
    exact ⟨by omega, by omega, g2, g3, g4, by omega, g6⟩
  intro f
  induction f with
  | zero =>
    intro t z h
    rw [pIfs] at h
    by_cases d : tkd c n t = 8
    · rw [if_pos d] at h; cases h
    · rw [if_neg d] at h; exact base 0 t z h
  | succ f ih =>
    intro t z h
    rw [pIfs] at h
    by_cases d : tkd c n t = 8
    · rw [if_pos d] at h
      obtain ⟨y, hy, h⟩ := exb_ok h
      obtain ⟨v, hv, h⟩ := exb_ok h
      cases h
      obtain ⟨p1, p2, p3, p4⟩ := pIf1_good hy
      obtain ⟨i1, i2, i3, i4, i5, i6, i7⟩ := ih _ _ hv
      refine ⟨by rw [List.length_cons]; dsimp only; omega, by dsimp only; omega, i3, fun i h1 h2 => ?_, i5, by rw [List.length_cons]; omega, fun b hb => ?_⟩
      · by_cases d2 : i < y.1
        · exact p3 i h1 d2
        · exact i4 i (by omega) h2
      · rcases List.mem_cons.mp hb with rfl | x
        · exact p4
        · exact i7 b x
    · rw [if_neg d] at h; exact base (f + 1) t z h
theorem pLw_good {z : Nat × List Br} (h : pLw (tkd c n) (pS0 c n) k t = .ok z) : tkd c n t = 3 + k ∧ t + 4 * z.2.length ≤ z.1 ∧ t < z.1 ∧ z.1 ≤ 400 ∧ (∀ i, t < i → i < z.1 → 8 ≤ tkd c n i) ∧ LwS z.2 ∧ z.2.length ≤ 5 ∧ ∀ b, b ∈ z.2 → BrO b := by
  unfold pLw at h
  obtain ⟨a1, b1, h⟩ := exb_ok h
  obtain ⟨a2, b2, h⟩ := exb_ok h
  obtain ⟨k1, l1, e1⟩ := adv_ok b1
  obtain ⟨k2, l2, e2⟩ := adv_ok b2
  obtain ⟨i1, i2, i3, i4, i5, i6, i7⟩ := pIfs_good _ _ _ h
  refine ⟨k1, by omega, by omega, i3, fun i h1 h2 => ?_, i5, i6, i7⟩
  by_cases d : i = t + 1
  · rw [d, ← e1, k2]; decide
  · exact i4 i (by omega) h2
theorem advs_ok {ws : List Nat} {a : Nat} : ∀ {t : Nat}, advs (tkd c n) ws t = .ok a → a = t + ws.length ∧ (∀ i, i < ws.length → tkd c n (t + i) = ws.getD i 0) ∧ (ws ≠ [] → a ≤ 400) := by
  induction ws with
  | nil => intro t h; cases h; exact ⟨rfl, fun i hi => absurd hi (Nat.not_lt_zero i), fun x => absurd rfl x⟩
  | cons w ws ih =>
    intro t h
    obtain ⟨x, hx, h⟩ := exb_ok h
    obtain ⟨k1, l1, e1⟩ := adv_ok hx
    obtain ⟨i1, i2, i3⟩ := ih h
    subst e1
    refine ⟨by rw [List.length_cons]; omega, fun i hi => ?_, fun _ => ?_⟩
    · cases i with
      | zero => exact k1
      | succ i =>
        rw [List.length_cons] at hi
        have := i2 i (by omega)
        rw [show t + (i + 1) = t + 1 + i by omega]
        exact this
    · cases ws with
      | nil => rw [i1]; show t + 1 + 0 ≤ 400; omega
      | cons _ _ => exact i3 (by simp)
/-- what a well formed tell is -/
def TlG (c : Nat → Int) (n nr ng nw t a : Nat) (o : Option (Nat × List Br)) : Prop := t < a ∧ a ≤ 400 ∧ (∀ i, t < i → i < a → 8 ≤ tkd c n i) ∧ tkd c n t ≤ 7 ∧
  (tkd c n t = 0 → nr < 6 ∧ a = t + 4 ∧ tkd c n (t + 1) = 20 ∧ tkd c n (t + 2) = 21 ∧ tkd c n (t + 3) = 22 ∧ o = none) ∧
  (tkd c n t = 1 → ng < 5 ∧ a = t + 5 ∧ tkd c n (t + 1) = 20 ∧ tkd c n (t + 2) = 20 ∧ tkd c n (t + 3) = 21 ∧ tkd c n (t + 4) = 22 ∧ o = none) ∧
  (tkd c n t = 2 → nw < 30 ∧ a = t + 5 ∧ tkd c n (t + 1) = 20 ∧ tkd c n (t + 2) = 20 ∧ tkd c n (t + 3) = 21 ∧ tkd c n (t + 4) = 22 ∧ o = none) ∧
  (tkd c n t = 7 → a = t + 3 ∧ tkd c n (t + 1) = 21 ∧ tkd c n (t + 2) = 22 ∧ o = none) ∧
  (3 ≤ tkd c n t ∧ tkd c n t ≤ 6 → ∃ bs, o = some (tkd c n t - 3, bs) ∧ t + 4 * bs.length ≤ a ∧ LwS bs ∧ bs.length ≤ 5 ∧ ∀ b, b ∈ bs → BrO b)
theorem pNm_ok {full : Bool} {ws : List Nat} {x : Nat × Option (Nat × List Br)} (h : ((pNm (tkd c n) full ws t).bind fun a => .ok (a, none)) = .ok x) : full = false ∧ x.2 = none ∧ advs (tkd c n) ws t = .ok x.1 := by
  obtain ⟨a, ha, h⟩ := exb_ok h
  cases h
  unfold pNm at ha
  cases full with
  | true => rw [if_pos rfl] at ha; cases ha
  | false => rw [if_neg (by decide)] at ha; exact ⟨rfl, rfl, ha⟩
theorem pTl_good {nr ng nw : Nat} {x : Nat × Option (Nat × List Br)} (h : pTl (tkd c n) (pS0 c n) nr ng nw t = .ok x) : TlG c n nr ng nw t x.1 x.2 := by
  unfold pTl at h
  by_cases a0 : tkd c n t = 0
  · rw [if_pos a0] at h
    obtain ⟨f, e, h⟩ := pNm_ok h
    obtain ⟨i1, i2, i3⟩ := advs_ok h
    have := of_decide_eq_false f
    have j1 : tkd c n (t + 1) = 20 := i2 1 (by decide)
    have j2 : tkd c n (t + 2) = 21 := i2 2 (by decide)
    have j3 : tkd c n (t + 3) = 22 := i2 3 (by decide)
    have i1 : x.1 = t + 4 := i1
    refine ⟨by omega, i3 (by simp), fun i h1 h2 => ?_, by omega, fun _ => ⟨by omega, i1, j1, j2, j3, e⟩, fun _ => by omega, fun _ => by omega, fun _ => by omega, fun _ => by omega⟩
    rcases (show i = t + 1 ∨ i = t + 2 ∨ i = t + 3 by omega) with rfl | rfl | rfl <;> omega
  · rw [if_neg a0] at h
    by_cases a1 : tkd c n t = 1
    · rw [if_pos a1] at h
      obtain ⟨f, e, h⟩ := pNm_ok h
      obtain ⟨i1, i2, i3⟩ := advs_ok h
      have := of_decide_eq_false f
      have j1 : tkd c n (t + 1) = 20 := i2 1 (by decide)
      have j2 : tkd c n (t + 2) = 20 := i2 2 (by decide)
      have j3 : tkd c n (t + 3) = 21 := i2 3 (by decide)
      have j4 : tkd c n (t + 4) = 22 := i2 4 (by decide)
      have i1 : x.1 = t + 5 := i1
      refine ⟨by omega, i3 (by simp), fun i h1 h2 => ?_, by omega, fun _ => by omega, fun _ => ⟨by omega, i1, j1, j2, j3, j4, e⟩, fun _ => by omega, fun _ => by omega, fun _ => by omega⟩
      rcases (show i = t + 1 ∨ i = t + 2 ∨ i = t + 3 ∨ i = t + 4 by omega) with rfl | rfl | rfl | rfl <;> omega
    · rw [if_neg a1] at h
      by_cases a2 : tkd c n t = 2
      · rw [if_pos a2] at h
        obtain ⟨f, e, h⟩ := pNm_ok h
        obtain ⟨i1, i2, i3⟩ := advs_ok h
        have := of_decide_eq_false f
        have j1 : tkd c n (t + 1) = 20 := i2 1 (by decide)
        have j2 : tkd c n (t + 2) = 20 := i2 2 (by decide)
        have j3 : tkd c n (t + 3) = 21 := i2 3 (by decide)
        have j4 : tkd c n (t + 4) = 22 := i2 4 (by decide)
        have i1 : x.1 = t + 5 := i1
        refine ⟨by omega, i3 (by simp), fun i h1 h2 => ?_, by omega, fun _ => by omega, fun _ => by omega, fun _ => ⟨by omega, i1, j1, j2, j3, j4, e⟩, fun _ => by omega, fun _ => by omega⟩
        rcases (show i = t + 1 ∨ i = t + 2 ∨ i = t + 3 ∨ i = t + 4 by omega) with rfl | rfl | rfl | rfl <;> omega
      · rw [if_neg a2] at h
        by_cases a3 : tkd c n t = 7
        · rw [if_pos a3] at h
          obtain ⟨f, e, h⟩ := pNm_ok h
          obtain ⟨i1, i2, i3⟩ := advs_ok h
          have j1 : tkd c n (t + 1) = 21 := i2 1 (by decide)
          have j2 : tkd c n (t + 2) = 22 := i2 2 (by decide)
          have i1 : x.1 = t + 3 := i1
          refine ⟨by omega, i3 (by simp), fun i h1 h2 => ?_, by omega, fun _ => by omega, fun _ => by omega, fun _ => by omega, fun _ => ⟨i1, j1, j2, e⟩, fun _ => by omega⟩
          rcases (show i = t + 1 ∨ i = t + 2 by omega) with rfl | rfl <;> omega
        · rw [if_neg a3] at h
          by_cases a4 : 3 ≤ tkd c n t ∧ tkd c n t ≤ 6
          · rw [if_pos a4] at h
            obtain ⟨z, hz, h⟩ := exb_ok h
            cases h
            obtain ⟨k1, l1, l2, l3, l4, l5, l6, l7⟩ := pLw_good hz
            exact ⟨l2, l3, l4, by omega, fun _ => by omega, fun _ => by omega, fun _ => by omega, fun _ => by omega, fun _ => ⟨z.2, rfl, l1, l5, l6, l7⟩⟩
          · rw [if_neg a4] at h; cases h
end TLP
