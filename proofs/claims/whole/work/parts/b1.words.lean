/-! Words as numbers. -/
def pkn (c : Nat → Int) (p : Nat) : Nat → Int
  | 0 => 0
  | j + 1 => pkn c p j * 27 + (c (p + j) - 96)
def LTR (c : Nat → Int) (p L : Nat) : Prop := ∀ j, j < L → 97 ≤ c (p + j) ∧ c (p + j) ≤ 122
theorem pkn_b {c : Nat → Int} {p : Nat} : ∀ L, LTR c p L → 0 ≤ pkn c p L ∧ pkn c p L < 27 ^ L
  | 0, _ => by unfold pkn; decide
  | L + 1, h => by
    have ih := pkn_b L (fun j hj => h j (by omega))
    have hl := h L (by omega)
    unfold pkn
    rw [Int.pow_succ]
    generalize (27 : Int) ^ L = z at *
    omega
theorem ofI64 {x : Int} (h1 : -2147483648 ≤ x) (h2 : x < 2147483648) : (ii x).toInt64 = Int64.ofInt x := by
  apply Int64.toInt_inj.1
  rw [Int32.toInt_toInt64, Int64.toInt_ofInt_of_le (by omega) (by omega)]
  exact Int32.toInt_ofInt_of_le (by omega) (by omega)
theorem pck_n {c : Nat → Int} {p : Nat} : ∀ L, LTR c p L → pck c p L = Int64.ofInt (pkn c p L)
  | 0, _ => rfl
  | L + 1, h => by
    have ih := pck_n L (fun j hj => h j (by omega))
    have hl := h L (by omega)
    unfold pck pkn
    rw [ih, ofI64 (by omega) (by omega), show c (p + L) - 97 + 1 = c (p + L) - 96 by omega, Int64.ofInt_add, Int64.ofInt_mul]
    rfl
theorem pkn_inj {c c' : Nat → Int} {p p' : Nat} : ∀ L L', LTR c p L → LTR c' p' L' → pkn c p L = pkn c' p' L' → L = L' ∧ ∀ j, j < L → c (p + j) = c' (p' + j)
  | 0, 0, _, _, _ => ⟨rfl, fun j hj => absurd hj (Nat.not_lt_zero j)⟩
  | 0, L' + 1, h, h', e => by
    have b := pkn_b L' (fun j hj => h' j (by omega))
    have hl := h' L' (by omega)
    unfold pkn at e
    omega
  | L + 1, 0, h, h', e => by
    have b := pkn_b L (fun j hj => h j (by omega))
    have hl := h L (by omega)
    unfold pkn at e
    omega
  | L + 1, L' + 1, h, h', e => by
    have b := pkn_b L (fun j hj => h j (by omega))
    have hl := h L (by omega)
    have b' := pkn_b L' (fun j hj => h' j (by omega))
    have hl' := h' L' (by omega)
    unfold pkn at e
    have e1 : pkn c p L = pkn c' p' L' ∧ c (p + L) = c' (p' + L') := by omega
    obtain ⟨q1, q2⟩ := pkn_inj L L' (fun j hj => h j (by omega)) (fun j hj => h' j (by omega)) e1.1
    subst q1
    refine ⟨rfl, fun j hj => ?_⟩
    by_cases d : j = L
    · subst d; exact e1.2
    · exact q2 j (by omega)
theorem pkn_cong {c c' : Nat → Int} {p p' : Nat} : ∀ L, (∀ j, j < L → c (p + j) = c' (p' + j)) → pkn c p L = pkn c' p' L
  | 0, _ => rfl
  | L + 1, h => by unfold pkn; rw [pkn_cong L (fun j hj => h j (by omega)), h L (by omega)]
theorem pck_inj {c c' : Nat → Int} {p p' L L' : Nat} (hL : L ≤ 8) (hL' : L' ≤ 8) (h : LTR c p L) (h' : LTR c' p' L') : pck c p L = pck c' p' L' ↔ L = L' ∧ ∀ j, j < L → c (p + j) = c' (p' + j) := by
  have b := pkn_b L h
  have b' := pkn_b L' h'
  have hp1 : (27 : Int) ^ L ≤ 27 ^ 8 := by
    have : (27 : Nat) ^ L ≤ 27 ^ 8 := Nat.pow_le_pow_right (by decide) hL
    exact_mod_cast this
  have hp2 : (27 : Int) ^ L' ≤ 27 ^ 8 := by
    have : (27 : Nat) ^ L' ≤ 27 ^ 8 := Nat.pow_le_pow_right (by decide) hL'
    exact_mod_cast this
  have e8 : (27 : Int) ^ 8 = 282429536481 := by decide
  rw [e8] at hp1 hp2
  rw [pck_n L h, pck_n L' h']
  constructor
  · intro e
    have e := congrArg Int64.toInt e
    rw [Int64.toInt_ofInt_of_le (by omega) (by omega), Int64.toInt_ofInt_of_le (by omega) (by omega)] at e
    exact pkn_inj L L' h h' e
  · rintro ⟨rfl, e⟩
    rw [pkn_cong L e]
def wln (w : Nat) : Nat := [4, 4, 5, 6, 6, 5, 5, 4, 2, 4, 4, 4, 4, 4, 4, 4, 3, 5, 5, 5].getD w 0
def wci (i : Nat) : Int := (wdc i).toInt
/-- the keys of the reference -/
def kyl (w : Nat) : Int64 := pck wci (w * 8) (wln w)
theorem wln_ok : ∀ w : Fin 20, (2 ≤ wln w.val ∧ wln w.val ≤ 6) ∧ wdc (w.val * 8 + wln w.val) = ii 32 ∧ ∀ j : Fin 8, (j.val < wln w.val → 97 ≤ wci (w.val * 8 + j.val) ∧ wci (w.val * 8 + j.val) ≤ 122) ∧ (wln w.val ≤ j.val → wci (w.val * 8 + j.val) = 32) := by decide +kernel
theorem wci_i (i : Nat) : ii (wci i) = wdc i := ii_self _
theorem key_is {c : Nat → Int} {p L w : Nat} (hw : w < 20) (hL : L ≤ 8) (h : LTR c p L) : kyl w = pck c p L ↔ wmt c p L w = true := by
  obtain ⟨⟨l1, l2⟩, l3, l4⟩ := wln_ok ⟨w, hw⟩
  have l1 : 2 ≤ wln w := l1
  have l2 : wln w ≤ 6 := l2
  have hW : LTR wci (w * 8) (wln w) := fun j hj => (l4 ⟨j, by omega⟩).1 hj
  unfold kyl
  rw [pck_inj (by omega) hL hW h]
  have sm0 : ∀ j, j < L → (wdc (w * 8 + j) = ii (c (p + j)) ↔ wci (w * 8 + j) = c (p + j)) := fun j hj => by
    have := h j hj
    constructor
    · intro e
      unfold wci
      rw [e]
      exact Int32.toInt_ofInt_of_le (by omega) (by omega)
    · intro e
      rw [← e, wci_i]
  constructor
  · rintro ⟨e, ej⟩
    subst e
    apply decide_eq_true
    refine ⟨?_, Or.inr l3⟩
    rcases Nat.lt_or_ge (wsm c p (wln w) w) (wln w) with d | d
    · exact absurd ((sm0 _ d).2 (ej _ d)) (wsm_at d)
    · exact Nat.le_antisymm wsm_le d
  · intro e
    obtain ⟨e1, e2⟩ := of_decide_eq_true e
    have all : ∀ j, j < L → wci (w * 8 + j) = c (p + j) := fun j hj => (sm0 j hj).1 (wsm_lt (e1.symm ▸ hj)).2
    have eL : wln w = L := by
      rcases Nat.lt_trichotomy (wln w) L with d | d | d
      · have a := all _ d
        have b := (h _ d).1
        have e32 : wci (w * 8 + wln w) = 32 := (l4 ⟨wln w, by omega⟩).2 (Nat.le_refl _)
        omega
      · exact d
      · rcases e2 with e2 | e2
        · omega
        · have a : wci (w * 8 + L) = 32 := by unfold wci; rw [e2]; rfl
          have b := ((l4 ⟨L, by omega⟩).1 d).1
          have b : 97 ≤ wci (w * 8 + L) := b
          omega
    exact ⟨eL, fun j hj => all j (by omega)⟩
theorem wmt_one {c : Nat → Int} {p L w w' : Nat} (hw : w < 20) (hw' : w' < 20) (hL : L ≤ 8) (h : LTR c p L) (e : wmt c p L w = true) (e' : wmt c p L w' = true) : w = w' := by
  have k : ∀ a b : Fin 20, kyl a.val = kyl b.val → a = b := by decide +kernel
  exact congrArg Fin.val (k ⟨w, hw⟩ ⟨w', hw'⟩ (((key_is hw hL h).2 e).trans ((key_is hw' hL h).2 e').symm))
