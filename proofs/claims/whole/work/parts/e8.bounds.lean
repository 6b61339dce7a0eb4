/-! A text without a fault is within its bounds. -/
section SMW
variable {n i : Nat} {c : Nat → Int} {S : Smt}
theorem und_w (h : SmW S) {T : Smt} (e : und c n i S = .ok T) : SmW T := by
  obtain ⟨w1, w2, w3, w4⟩ := id h
  unfold und at e
  split at e
  · split at e
    · cases e
    · split at e
      · cases e
      · split at e
        · rename_i x6
          cases e
          refine ⟨by show tN_ S + 1 ≤ 6; omega, w2, fun g hg => ?_, w4⟩
          obtain ⟨a, b⟩ := w3 g hg
          exact ⟨by show tFc_ S g < tN_ S + 1; omega, b⟩
        · cases e; exact h
  · split at e
    · split at e
      · cases e
      · split at e
        · cases e
        · rename_i x4
          split at e
          · cases e
          · rename_i x5
            split at e
            · rename_i x6
              cases e
              have x4 : fnd (tRn_ S) (tN_ S) (nam c n (i + 2)) < tN_ S := Classical.byContradiction x4
              have x5 : 1 ≤ tvn c n (i + 3) ∧ tvn c n (i + 3) ≤ 6 := Classical.byContradiction x5
              refine ⟨w1, by show tK_ S + 1 ≤ 5; omega, fun g hg => ?_, w4⟩
              have hg : g < tK_ S + 1 := hg
              show upn (tFc_ S) (tK_ S) _ g < tN_ S ∧ 1 ≤ upn (tSg_ S) (tK_ S) _ g ∧ upn (tSg_ S) (tK_ S) _ g ≤ 6
              by_cases d : g = tK_ S
              · rw [d, upn_eq, upn_eq]; exact ⟨x4, by omega, by omega⟩
              · rw [upn_ne d, upn_ne d]; exact w3 g (by omega)
            · cases e; exact h
    · split at e
      · split at e
        · cases e
        · split at e
          · cases e
          · split at e
            · cases e
            · rename_i x5
              cases e
              have x5 : 0 ≤ tvn c n (i + 3) ∧ tvn c n (i + 3) ≤ 99 := Classical.byContradiction x5
              refine ⟨w1, w2, w3, fun k => ?_⟩
              show upn (tWt_ S) _ _ k ≤ 99
              by_cases d : k = 6 * fnd (tGn_ S) (tK_ S) (nam c n (i + 1)) + fnd (tRn_ S) (tN_ S) (nam c n (i + 2))
              · rw [d, upn_eq]; omega
              · rw [upn_ne d]; exact w4 k
      · split at e
        · cases e; exact h
        · cases e; exact h
theorem usc_w : ∀ f i S T, SmW S → usc c n f i S = .ok T → SmW T := by
  intro f
  induction f with
  | zero => intro i S T h e; cases e; exact h
  | succ f ih =>
    intro i S T h e
    rw [usc] at e
    obtain ⟨U, hU, e⟩ := exb_ok e
    exact ih _ _ _ (und_w h hU) e
theorem pln_t {k : Nat} {x : Int32} (hk : k < 2) (h : k = 1 → ∃ v : Nat, v < 9 ∧ x = ii v) : BrO (none, [(k, x)]) := by
  refine ⟨⟨?_, fun d hd => ?_⟩, fun cc hc => by cases hc⟩
  · show (if k < 2 then 0 < 30 ∧ hkl 30 [] (0 + 1) else _)
    rw [if_pos hk]
    exact ⟨by omega, rfl⟩
  · rcases List.mem_singleton.mp hd with rfl
    exact ⟨by dsimp only; omega, h⟩
theorem pln_g : LwG pln := fun law hl => by
  refine ⟨rfl, fun b hb => ?_⟩
  rcases List.mem_singleton.mp hb with rfl
  rcases (show law = 0 ∨ law = 1 ∨ law = 2 ∨ law = 3 by omega) with rfl | rfl | rfl | rfl
  · exact pln_t (k := 1) (x := ii 0) (by decide) (fun _ => ⟨0, by decide, rfl⟩)
  · exact pln_t (k := 1) (x := ii 4) (by decide) (fun _ => ⟨4, by decide, rfl⟩)
  · exact pln_t (k := 0) (x := ii 0) (by decide) (fun q => by cases q)
  · exact pln_t (k := 0) (x := ii 0) (by decide) (fun q => by cases q)
theorem pAl_g : ∀ f t nr ng nw bf x, LwG bf → pAl c n f t nr ng nw bf = .ok x → LwG x.2 := by
  intro f
  induction f with
  | zero => intro t nr ng nw bf x _ h; cases h
  | succ f ih =>
    intro t nr ng nw bf x hb h
    rw [pAl] at h
    by_cases d : tkd c n t = 31
    · rw [if_pos d] at h; cases h; exact hb
    · rw [if_neg d] at h
      obtain ⟨y, hy, h⟩ := exb_ok h
      have gd := pTl_good hy
      obtain ⟨a, o⟩ := y
      refine ih _ _ _ _ _ _ ?_ h
      cases o with
      | none => exact hb
      | some v =>
        obtain ⟨kk, bs⟩ := v
        have ly : 3 ≤ tkd c n t ∧ tkd c n t ≤ 6 := by
          by_cases y : 3 ≤ tkd c n t ∧ tkd c n t ≤ 6
          · exact y
          · have g4 := gd.2.2.2.1
            rcases (show tkd c n t = 0 ∨ tkd c n t = 1 ∨ tkd c n t = 2 ∨ tkd c n t = 7 by omega) with w | w | w | w
            · have := (gd.2.2.2.2.1 w).2.2.2.2.2; cases this
            · have := (gd.2.2.2.2.2.1 w).2.2.2.2.2.2; cases this
            · have := (gd.2.2.2.2.2.2.1 w).2.2.2.2.2.2; cases this
            · have := (gd.2.2.2.2.2.2.2.1 w).2.2.2; cases this
        obtain ⟨bs', e, _, l1, _, hbo⟩ := gd.2.2.2.2.2.2.2.2 ly
        have eb : bs' = bs := by cases e; rfl
        rw [eb] at hbo l1
        intro law hl
        show LwS (if law = kk then bs else bf law) ∧ ∀ b, b ∈ (if law = kk then bs else bf law) → BrO b
        by_cases d2 : law = kk
        · rw [if_pos d2]; exact ⟨l1, hbo⟩
        · rw [if_neg d2]; exact hb law hl
theorem rdG_ok {x : (Nat → List Br) × Smt} (h : rdG c n = .ok x) : LwG x.1 ∧ SmW x.2 := by
  obtain ⟨y, hy, h⟩ := exb_ok h
  obtain ⟨T, hT, h⟩ := exb_ok h
  cases h
  refine ⟨pAl_g _ _ _ _ _ _ _ pln_g hy, usc_w _ _ _ _ ?_ hT⟩
  exact ⟨Nat.zero_le _, Nat.zero_le _, fun g hg => absurd hg (Nat.not_lt_zero g), fun k => Nat.zero_le _⟩
end SMW
