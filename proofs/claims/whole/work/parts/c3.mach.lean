/-! The reference's way through a term: a stack of signs that wait; it is the descent. -/
/-- comesOut -/
def pops (s : Bool) : List Nat → Tm → List Nat × Tm
  | [], cs => ([], cs)
  | w :: st, cs => if w = 29 ∨ s = true ∧ (w = 24 ∨ w = 25) then (w :: st, cs) else pops s st (cs ++ [(w - 22, 0)])
def nop : List Nat → Nat
  | [] => 0
  | w :: st => (if w = 29 then 1 else 0) + nop st
def mch (K : Nat → Nat) (V : Nat → Int32) (ph : Bool) (t : Nat) (st : List Nat) (cs : Tm) : PRs :=
  if ph = true then
    if K t = 29 then if nop st = 6 then .error (2, t) else if t < 400 then mch K V true (t + 1) (29 :: st) cs else .error (2, t)
    else if K t = 21 then if t < 400 then mch K V false (t + 1) st (cs ++ [(0, V t)]) else .error (2, t)
    else if 11 ≤ K t ∧ K t ≤ 19 then if t < 400 then mch K V false (t + 1) st (cs ++ [(1, ii ((K t - 11 : Nat) : Int))]) else .error (2, t)
    else .error (1, t)
  else if K t = 30 ∧ 0 < nop st then if t < 400 then mch K V false (t + 1) (pops false st cs).1.tail (pops false st cs).2 else .error (2, t)
  else if 24 ≤ K t ∧ K t ≤ 27 then if t < 400 then mch K V true (t + 1) (K t :: (pops (decide (26 ≤ K t)) st cs).1) (pops (decide (26 ≤ K t)) st cs).2 else .error (2, t)
  else if 0 < nop st then .error (1, t) else .ok (t, (pops false st cs).2)
termination_by 400 - t
section MCH
variable {K : Nat → Nat} {V : Nat → Int32} {t : Nat} {st : List Nat} {cs : Tm}
theorem mchA : mch K V true t st cs = if K t = 29 then if nop st = 6 then .error (2, t) else if t < 400 then mch K V true (t + 1) (29 :: st) cs else .error (2, t)
    else if K t = 21 then if t < 400 then mch K V false (t + 1) st (cs ++ [(0, V t)]) else .error (2, t)
    else if 11 ≤ K t ∧ K t ≤ 19 then if t < 400 then mch K V false (t + 1) st (cs ++ [(1, ii ((K t - 11 : Nat) : Int))]) else .error (2, t)
    else .error (1, t) := by
  rw [mch, if_pos rfl]
theorem mchB : mch K V false t st cs = if K t = 30 ∧ 0 < nop st then if t < 400 then mch K V false (t + 1) (pops false st cs).1.tail (pops false st cs).2 else .error (2, t)
  else if 24 ≤ K t ∧ K t ≤ 27 then if t < 400 then mch K V true (t + 1) (K t :: (pops (decide (26 ≤ K t)) st cs).1) (pops (decide (26 ≤ K t)) st cs).2 else .error (2, t)
  else if 0 < nop st then .error (1, t) else .ok (t, (pops false st cs).2) := by
  rw [mch, if_neg (by decide)]
theorem mchB_pop {w : Nat} (hw : 24 ≤ w ∧ w ≤ 27) (h : w ≤ 25 → ¬ (K t = 26 ∨ K t = 27)) : mch K V false t (w :: st) cs = mch K V false t st (cs ++ [(w - 22, 0)]) := by
  have e1 : nop (w :: st) = nop st := by show (if w = 29 then 1 else 0) + nop st = nop st; rw [if_neg (by omega)]; omega
  have e2 : pops false (w :: st) cs = pops false st (cs ++ [(w - 22, 0)]) := by rw [pops]; rw [if_neg (by rintro (x | ⟨x, _⟩); omega; cases x)]
  rw [mchB (st := w :: st), mchB (st := st) (t := t) (cs := cs ++ [(w - 22, 0)]), e1, e2]
  by_cases a1 : K t = 30 ∧ 0 < nop st
  · rw [if_pos a1, if_pos a1]
  · rw [if_neg a1, if_neg a1]
    by_cases a2 : 24 ≤ K t ∧ K t ≤ 27
    · rw [if_pos a2, if_pos a2]
      have e3 : pops (decide (26 ≤ K t)) (w :: st) cs = pops (decide (26 ≤ K t)) st (cs ++ [(w - 22, 0)]) := by
        by_cases a3 : 26 ≤ K t
        · rw [decide_eq_true a3, pops, if_neg (by rintro (x | ⟨_, x⟩) <;> omega)]
        · rw [decide_eq_false a3, e2]
      rw [e3]
    · rw [if_neg a2, if_neg a2]
theorem exb_as {α β γ ε : Type} (x : Except ε α) (f : α → Except ε β) (g : β → Except ε γ) : (x.bind f).bind g = x.bind fun a => (f a).bind g := by cases x <;> rfl
theorem exb_cg {α β ε : Type} {x : Except ε α} {f g : α → Except ε β} (h : ∀ a, x = .ok a → f a = g a) : x.bind f = x.bind g := by
  cases x with
  | error e => rfl
  | ok a => exact h a rfl
/-- what a reader does within the machine -/
def RDM (K : Nat → Nat) (V : Nat → Int32) (P : List Nat → Prop) (U : Nat → PRs) : Prop := ∀ t st cs, t ≤ 400 → P st → mch K V true t st cs = (U t).bind fun b => mch K V false b.1 st (cs ++ b.2)
def hd0 (st : List Nat) : Nat := st.headD 29
theorem pops_st {s : Bool} (h : hd0 st = 29 ∨ s = true ∧ (hd0 st = 24 ∨ hd0 st = 25)) : pops s st cs = (st, cs) := by
  cases st with
  | nil => rfl
  | cons w st => rw [pops, if_pos (show w = 29 ∨ s = true ∧ (w = 24 ∨ w = 25) from h)]
theorem nop_sg {w : Nat} (hw : w ≠ 29) : nop (w :: st) = nop st := by
  show (if w = 29 then 1 else 0) + nop st = nop st
  rw [if_neg hw]; omega
theorem mlp_mul {d W : Nat} {U : Nat → PRs} (hg : GDU K W U) (hU : RDM K V (fun st => nop st = d) U) (hd : nop st = d) (hh : hd0 st = 29 ∨ hd0 st = 24 ∨ hd0 st = 25) : ∀ f t cs ds, t ≤ 400 → 401 ≤ f + t → mch K V false t st (cs ++ ds) = (pLp K U 26 4 f t ds).bind fun b => mch K V false b.1 st (cs ++ b.2) := by
  intro f
  induction f with
  | zero => intro t cs ds h1 h2; omega
  | succ f ih =>
    intro t cs ds h1 h2
    rw [pLp]
    by_cases a : K t = 26 ∨ K t = 26 + 1
    · rw [if_pos a, mchB, if_neg (by omega), if_pos (by omega), decide_eq_true (show 26 ≤ K t by omega), pops_st (by rcases hh with x | x; exact Or.inl x; exact Or.inr ⟨rfl, x⟩)]
      unfold adv
      rw [if_pos rfl]
      by_cases b : t < 400
      · rw [if_pos b, if_pos b, hU (t + 1) _ _ (by omega) (by show nop (K t :: st) = d; rw [nop_sg (by omega)]; exact hd)]
        show _ = ((U (t + 1)).bind _).bind _
        rw [exb_as]
        refine exb_cg (fun y hy => ?_)
        have g := hg _ _ hy
        have g1 := g.1
        have g2 := g.2.1
        rw [mchB_pop (by omega) (by omega), ← ih y.1 cs _ (by omega) (by omega)]
        simp only [List.append_assoc]
        congr 4
        rcases a with a | a
        · rw [a]; rfl
        · rw [a]; rfl
      · rw [if_neg b, if_neg b]; rfl
    · rw [if_neg a]; rfl
theorem mpr {d W : Nat} {U : Nat → PRs} (hg : GDU K W U) (hU : RDM K V (fun st => nop st = d) U) : RDM K V (fun st => nop st = d ∧ (hd0 st = 29 ∨ hd0 st = 24 ∨ hd0 st = 25)) (pPr K U) := by
  intro t st cs ht ⟨h1, h2⟩
  rw [hU t st cs ht h1]
  unfold pPr
  rw [exb_as]
  refine exb_cg (fun y hy => ?_)
  have g := hg _ _ hy
  have g1 := g.1
  exact mlp_mul hg hU h1 h2 400 y.1 cs y.2 g.2.1 (by omega)
theorem mlp_add {d W : Nat} {U : Nat → PRs} (hg : GDU K W U) (hU : RDM K V (fun st => nop st = d) U) (hd : nop st = d) (hh : hd0 st = 29) : ∀ f t cs ds, t ≤ 400 → 401 ≤ f + t → mch K V false t st (cs ++ ds) = (pLp K (pPr K U) 24 2 f t ds).bind fun b => mch K V false b.1 st (cs ++ b.2) := by
  intro f
  induction f with
  | zero => intro t cs ds h1 h2; omega
  | succ f ih =>
    intro t cs ds h1 h2
    rw [pLp]
    by_cases a : K t = 24 ∨ K t = 24 + 1
    · rw [if_pos a, mchB, if_neg (by omega), if_pos (by omega), pops_st (Or.inl hh)]
      unfold adv
      rw [if_pos rfl]
      by_cases b : t < 400
      · rw [if_pos b, if_pos b, mpr hg hU (t + 1) _ _ (by omega) ⟨by show nop (K t :: st) = d; rw [nop_sg (by omega)]; exact hd, Or.inr (by show K t = 24 ∨ K t = 25; omega)⟩]
        show _ = ((pPr K U (t + 1)).bind _).bind _
        rw [exb_as]
        refine exb_cg (fun y hy => ?_)
        have g := pPr_good hg _ _ hy
        have g1 := g.1
        have g2 := g.2.1
        rw [mchB_pop (by omega) (fun _ => pPr_stop hg hy), ← ih y.1 cs _ (by omega) (by omega)]
        simp only [List.append_assoc]
        congr 4
        rcases a with a | a
        · rw [a]; rfl
        · rw [a]; rfl
      · rw [if_neg b, if_neg b]; rfl
    · rw [if_neg a]; rfl
theorem msm {d W : Nat} {U : Nat → PRs} (hg : GDU K W U) (hU : RDM K V (fun st => nop st = d) U) : RDM K V (fun st => nop st = d ∧ hd0 st = 29) (pSm K U) := by
  intro t st cs ht ⟨h1, h2⟩
  rw [mpr hg hU t st cs ht ⟨h1, Or.inl h2⟩]
  unfold pSm
  rw [exb_as]
  refine exb_cg (fun y hy => ?_)
  have g := pPr_good hg _ _ hy
  have g1 := g.1
  exact mlp_add hg hU h1 h2 400 y.1 cs y.2 g.2.1 (by omega)
theorem mun {d : Nat} {S : Nat → PRs} {room : Bool} (hr : room = decide (d < 6)) (hS : d < 6 → RDM K V (fun st => nop st = d + 1 ∧ hd0 st = 29) S) (hg : d < 6 → ∀ t b, S t = .ok b → ¬ (24 ≤ K b.1 ∧ K b.1 ≤ 27)) (hd : d ≤ 6) : RDM K V (fun st => nop st = d) (pUn K V S room) := by
  intro t st cs ht hn
  have hn : nop st = d := hn
  rw [mchA]
  unfold pUn adv
  by_cases a1 : K t = 21
  · rw [if_neg (by omega), if_pos a1, if_pos a1, if_pos a1]
    by_cases b : t < 400
    · rw [if_pos b, if_pos b]; rfl
    · rw [if_neg b, if_neg b]; rfl
  · rw [if_neg a1, if_neg a1]
    by_cases a2 : 11 ≤ K t ∧ K t ≤ 19
    · rw [if_neg (by omega), if_pos a2, if_pos a2, if_pos rfl]
      by_cases b : t < 400
      · rw [if_pos b, if_pos b]; rfl
      · rw [if_neg b, if_neg b]; rfl
    · rw [if_neg a2, if_neg a2]
      by_cases a3 : K t = 29
      · rw [if_pos a3, if_neg (show ¬ (K t ≠ 29) from fun x => x a3)]
        by_cases b : d < 6
        · rw [if_neg (show ¬ (nop st = 6) by omega), if_neg (show ¬ (room = false) by rw [hr, decide_eq_true b]; decide), if_pos a3]
          by_cases e : t < 400
          · rw [if_pos e, if_pos e, hS b (t + 1) _ _ (by omega) ⟨by show (if (29 : Nat) = 29 then 1 else 0) + nop st = d + 1; rw [if_pos rfl]; omega, rfl⟩]
            show _ = Except.bind ((S (t + 1)).bind _) _
            rw [exb_as]
            refine exb_cg (fun y hy => ?_)
            have sg := hg b _ _ hy
            have n0 : 0 < nop (29 :: st) := by show 0 < (if (29 : Nat) = 29 then 1 else 0) + nop st; rw [if_pos rfl]; omega
            rw [mchB, pops_st (Or.inl rfl)]
            by_cases k : K y.1 = 30
            · rw [if_pos ⟨k, n0⟩, if_pos k]
              by_cases z : y.1 < 400
              · rw [if_pos z, if_pos z]; rfl
              · rw [if_neg z, if_neg z]; rfl
            · rw [if_neg (fun x => k x.1), if_neg sg, if_pos n0, if_neg k]; rfl
          · rw [if_neg e, if_neg e]; rfl
        · rw [if_pos (show nop st = 6 by omega), if_pos (show room = false by rw [hr, decide_eq_false b])]; rfl
      · rw [if_neg a3, if_pos a3]; rfl
theorem mud : ∀ e d, d + e = 6 → RDM K V (fun st => nop st = d) (pUd K V e)
  | 0, d, h => mun (decide_eq_false (by omega)).symm (fun x => by omega) (fun x => by omega) (by omega)
  | e + 1, d, h => mun (decide_eq_true (by omega)).symm (fun _ => msm (pUd_good e) (mud e (d + 1) (by omega))) (fun _ _ _ h => pSm_stop (pUd_good e) h) (by omega)
/-- the machine over a whole term is the descent -/
theorem mch_all (ht : t ≤ 400) : mch K V true t [] [] = pSm K (pUd K V 6) t := by
  rw [msm (pUd_good 6) (mud 6 0 (by omega)) t [] [] ht ⟨rfl, rfl⟩]
  have : pSm K (pUd K V 6) t = (pSm K (pUd K V 6) t).bind .ok := by cases pSm K (pUd K V 6) t <;> rfl
  conv => rhs; rw [this]
  refine exb_cg (fun y hy => ?_)
  rw [mchB, if_neg (by rintro ⟨_, x⟩; exact absurd x (by decide)), if_neg (pSm_stop (pUd_good 6) hy), if_neg (by decide)]
  rfl
end MCH
