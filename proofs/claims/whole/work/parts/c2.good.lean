/-! The descent: what it reads is good; where it stops. -/
section GDS
variable {K : Nat → Nat} {V : Nat → Int32} {U : Nat → PRs} {W w k : Nat}
def CkO (ds : Tm) : Prop := ∀ c, c ∈ ds → c.1 ≤ 5 ∧ (c.1 = 1 → ∃ v : Nat, v < 9 ∧ c.2 = ii v)
/-- good: from token t to token e these codes, of this width -/
def GDR (K : Nat → Nat) (W t e : Nat) (ds : Tm) : Prop := t < e ∧ e ≤ 400 ∧ (∀ h, hkg (h + W) ds h (h + 1)) ∧ CkO ds ∧ ds.length + t ≤ e ∧ ∀ i, t ≤ i → i < e → 8 ≤ K i
def GDU (K : Nat → Nat) (W : Nat) (U : Nat → PRs) : Prop := ∀ t b, U t = .ok b → GDR K W t b.1 b.2
theorem hkg_up {B C : Nat} (hB : B ≤ C) : ∀ {t : Tm} {h e : Nat}, hkg B t h e → hkg C t h e
  | [], _, _, p => p
  | c :: t, h, e, p => by
    unfold hkg at p ⊢
    by_cases q : c.1 < 2
    · rw [if_pos q] at p ⊢; exact ⟨by omega, hkg_up hB p.2⟩
    · rw [if_neg q] at p ⊢; exact ⟨p.1, hkg_up hB p.2⟩
theorem hkg_app {B : Nat} : ∀ {a b : Tm} {h e f : Nat}, hkg B a h e → hkg B b e f → hkg B (a ++ b) h f
  | [], b, h, e, f, p, q => by have p : h = e := p; subst p; exact q
  | c :: a, b, h, e, f, p, q => by
    show hkg B (c :: (a ++ b)) h f
    unfold hkg at p ⊢
    by_cases d : c.1 < 2
    · rw [if_pos d] at p ⊢; exact ⟨p.1, hkg_app p.2 q⟩
    · rw [if_neg d] at p ⊢; exact ⟨p.1, hkg_app p.2 q⟩
theorem hkg_hkl {B : Nat} : ∀ {t : Tm} {h : Nat}, hkg B t h 1 → hkl B t h
  | [], _, p => p
  | c :: t, h, p => by
    unfold hkg at p
    unfold hkl
    by_cases q : c.1 < 2
    · rw [if_pos q] at p ⊢; exact ⟨p.1, hkg_hkl p.2⟩
    · rw [if_neg q] at p ⊢; exact ⟨p.1, hkg_hkl p.2⟩
theorem CkO.app {a b : Tm} (h1 : CkO a) (h2 : CkO b) : CkO (a ++ b) := fun c hc => by
  rcases List.mem_append.mp hc with x | x
  · exact h1 c x
  · exact h2 c x
theorem adv_ok {t a : Nat} (h : adv K w t = .ok a) : K t = w ∧ t < 400 ∧ a = t + 1 := by
  unfold adv at h
  by_cases d : K t = w
  · rw [if_pos d] at h
    by_cases e : t < 400
    · rw [if_pos e] at h; cases h; exact ⟨d, e, rfl⟩
    · rw [if_neg e] at h; cases h
  · rw [if_neg d] at h; cases h
theorem exb_ok {α β ε : Type} {x : Except ε α} {f : α → Except ε β} {b : β} (h : x.bind f = .ok b) : ∃ a, x = .ok a ∧ f a = .ok b := by
  cases x with
  | error e => cases h
  | ok a => exact ⟨a, rfl, h⟩
theorem pLp_good (hw : 24 ≤ w) (hk : 2 ≤ k ∧ k ≤ 4) (hW : 1 ≤ W) (hU : GDU K (W - 1) U) {t0 : Nat} : ∀ f t cs b, GDR K W t0 t cs → pLp K U w k f t cs = .ok b → t ≤ b.1 ∧ GDR K W t0 b.1 b.2 ∧ (401 ≤ f + t → ¬ (K b.1 = w ∨ K b.1 = w + 1)) := by
  intro f
  induction f with
  | zero =>
    intro t cs b g h
    have h : Except.ok (t, cs) = Except.ok b := h
    cases h
    exact ⟨Nat.le_refl _, g, fun x => by have := g.2.1; omega⟩
  | succ f ih =>
    intro t cs b g h
    rw [pLp] at h
    by_cases d : K t = w ∨ K t = w + 1
    · rw [if_pos d] at h
      obtain ⟨a, ha, q1⟩ := exb_ok h
      obtain ⟨y, hy, q2⟩ := exb_ok q1
      obtain ⟨-, t4, rfl⟩ := adv_ok ha
      obtain ⟨u1, u2, u3, u4, u5, u6⟩ := hU _ _ hy
      obtain ⟨g1, g2, g3, g4, g5, g6⟩ := g
      have h2 : GDR K W t0 y.1 (cs ++ y.2 ++ [(if K t = w then k else k + 1, 0)]) := by
        have kk : ∀ z, z = (if K t = w then k else k + 1) → 2 ≤ z ∧ z ≤ 5 := fun z hz => by
          by_cases q : K t = w
          · rw [if_pos q] at hz; omega
          · rw [if_neg q] at hz; omega
        obtain ⟨k1, k2⟩ := kk _ rfl
        refine ⟨by omega, u2, fun x => ?_, (g4.app u4).app (fun c hc => ?_), ?_, fun i h1 h2 => ?_⟩
        · refine hkg_app (hkg_app (g3 x) (e := x + 1) (f := x + 2) ?_) (e := x + 2) ?_
          · have := u3 (x + 1)
            rw [show x + 1 + (W - 1) = x + W by omega] at this
            exact this
          · unfold hkg
            rw [if_neg (by dsimp only; omega)]
            exact ⟨by omega, rfl⟩
        · rcases List.mem_singleton.mp hc with rfl
          exact ⟨k2, fun q => by dsimp only at q; omega⟩
        · rw [List.length_append, List.length_append]
          show cs.length + y.2.length + 1 + t0 ≤ y.1
          omega
        · by_cases q : i < t
          · exact g6 i h1 q
          · by_cases q2 : i = t
            · subst q2; omega
            · exact u6 i (by omega) h2
      obtain ⟨r1, r2, r3⟩ := ih _ _ _ h2 q2
      exact ⟨by omega, r2, fun x => r3 (by omega)⟩
    · rw [if_neg d] at h
      cases h
      exact ⟨Nat.le_refl _, g, fun _ => d⟩
theorem GDR.wd {t e : Nat} {ds : Tm} {W2 : Nat} (h : GDR K W t e ds) (hW : W ≤ W2) : GDR K W2 t e ds := ⟨h.1, h.2.1, fun x => hkg_up (by omega) (h.2.2.1 x), h.2.2.2⟩
theorem pPr_good (hU : GDU K W U) : GDU K (W + 1) (pPr K U) := fun t b h => by
  obtain ⟨a, ha, h⟩ := exb_ok h
  exact (pLp_good (W := W + 1) (by decide) (by decide) (by omega) hU _ _ _ _ ((hU _ _ ha).wd (by omega)) h).2.1
theorem pPr_stop (hU : GDU K W U) {t : Nat} {b : Nat × Tm} (h : pPr K U t = .ok b) : ¬ (K b.1 = 26 ∨ K b.1 = 27) := by
  obtain ⟨a, ha, h⟩ := exb_ok h
  have g := (hU _ _ ha)
  exact (pLp_good (W := W + 1) (by decide) (by decide) (by omega) hU _ _ _ _ (g.wd (by omega)) h).2.2 (by have := g.1; omega)
theorem pSm_good (hU : GDU K W U) : GDU K (W + 2) (pSm K U) := fun t b h => by
  obtain ⟨a, ha, h⟩ := exb_ok h
  exact (pLp_good (W := W + 2) (by decide) (by decide) (by omega) (pPr_good hU) _ _ _ _ ((pPr_good hU _ _ ha).wd (by omega)) h).2.1
/-- behind a product's loop no sign of its own; so behind the sum's -/
theorem pLp_stop (hU : GDU K W U) : ∀ f t cs b, ¬ (K t = 26 ∨ K t = 27) → pLp K (pPr K U) 24 2 f t cs = .ok b → ¬ (K b.1 = 26 ∨ K b.1 = 27) := by
  intro f
  induction f with
  | zero => intro t cs b g h; have h : Except.ok (t, cs) = Except.ok b := h; cases h; exact g
  | succ f ih =>
    intro t cs b g h
    rw [pLp] at h
    by_cases d : K t = 24 ∨ K t = 24 + 1
    · rw [if_pos d] at h
      obtain ⟨a, ha, h⟩ := exb_ok h
      obtain ⟨y, hy, h⟩ := exb_ok h
      exact ih _ _ _ (pPr_stop hU hy) h
    · rw [if_neg d] at h
      cases h
      exact g
theorem pSm_stop (hU : GDU K W U) {t : Nat} {b : Nat × Tm} (h : pSm K U t = .ok b) : ¬ (24 ≤ K b.1 ∧ K b.1 ≤ 27) := by
  obtain ⟨a, ha, h⟩ := exb_ok h
  have g := (pPr_good hU _ _ ha)
  have s1 := (pLp_good (W := W + 2) (by decide) (by decide) (by omega) (pPr_good hU) _ _ _ _ (g.wd (by omega)) h).2.2 (by have := g.1; omega)
  have s2 := pLp_stop hU _ _ _ _ (pPr_stop hU ha) h
  omega
theorem pUn_good {S : Nat → PRs} {room : Bool} (hW : 1 ≤ W) (hS : room = true → GDU K W S) : GDU K W (pUn K V S room) := fun t b h => by
  unfold pUn at h
  by_cases a1 : K t = 21
  · rw [if_pos a1] at h
    obtain ⟨a, ha, h⟩ := exb_ok h
    obtain ⟨-, t4, rfl⟩ := adv_ok ha
    cases h
    refine ⟨by dsimp only; omega, t4, fun x => ?_, fun c hc => ?_, by show 1 + t ≤ t + 1; omega, fun i h1 h2 => ?_⟩
    · unfold hkg; rw [if_pos (show (_ : Nat) < 2 by dsimp only; omega)]; exact ⟨by omega, rfl⟩
    · rcases List.mem_singleton.mp hc with rfl
      exact ⟨by dsimp only; omega, fun q => by cases q⟩
    · dsimp only at h2; rw [show i = t by omega, a1]; decide
  · rw [if_neg a1] at h
    by_cases a2 : 11 ≤ K t ∧ K t ≤ 19
    · rw [if_pos a2] at h
      obtain ⟨a, ha, h⟩ := exb_ok h
      obtain ⟨-, t4, rfl⟩ := adv_ok ha
      cases h
      refine ⟨by dsimp only; omega, t4, fun x => ?_, fun c hc => ?_, by show 1 + t ≤ t + 1; omega, fun i h1 h2 => ?_⟩
      · unfold hkg; rw [if_pos (show (_ : Nat) < 2 by dsimp only; omega)]; exact ⟨by omega, rfl⟩
      · rcases List.mem_singleton.mp hc with rfl
        exact ⟨by dsimp only; omega, fun q => ⟨K t - 11, by omega, rfl⟩⟩
      · dsimp only at h2; rw [show i = t by omega]; omega
    · rw [if_neg a2] at h
      by_cases a3 : K t = 29
      · rw [if_neg (fun x => x a3)] at h
        cases room with
        | false => rw [if_pos rfl] at h; cases h
        | true =>
          rw [if_neg (by decide)] at h
          obtain ⟨a, ha, h⟩ := exb_ok h
          obtain ⟨y, hy, h⟩ := exb_ok h
          obtain ⟨z, hz, h⟩ := exb_ok h
          obtain ⟨-, t4, rfl⟩ := adv_ok ha
          obtain ⟨k30, t5, rfl⟩ := adv_ok hz
          cases h
          obtain ⟨u1, u2, u3, u4, u5, u6⟩ := hS rfl _ _ hy
          refine ⟨by dsimp only; omega, by dsimp only; omega, u3, u4, by dsimp only; omega, fun i h1 h2 => ?_⟩
          dsimp only at h2
          by_cases q1 : i = t
          · rw [q1, a3]; decide
          · by_cases q2 : i = y.1
            · rw [q2, k30]; decide
            · exact u6 i (by omega) (by omega)
      · rw [if_pos a3] at h; cases h
theorem pUd_good : ∀ d, GDU K (2 * d + 1) (pUd K V d)
  | 0 => pUn_good (by omega) (fun h => by cases h)
  | d + 1 => pUn_good (by omega) (fun _ => pSm_good (pUd_good d))
end GDS
theorem pS0_good {c : Nat → Int} {n t : Nat} {b : Nat × Tm} (h : pS0 c n t = .ok b) : GDR (tkd c n) 15 t b.1 b.2 := pSm_good (pUd_good 6) _ _ h
theorem GDR.tmo {K : Nat → Nat} {t e : Nat} {ds : Tm} (h : GDR K 15 t e ds) : TmO 30 ds := ⟨hkg_hkl (hkg_up (by omega) (h.2.2.1 0)), h.2.2.2.1⟩
theorem pS0_stop {c : Nat → Int} {n t : Nat} {b : Nat × Tm} (h : pS0 c n t = .ok b) : ¬ (24 ≤ tkd c n b.1 ∧ tkd c n b.1 ≤ 27) := pSm_stop (pUd_good 6) h
