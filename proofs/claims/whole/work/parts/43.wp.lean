/-! What an expression, a statement, a method comes to: rules to go through them. -/
def wE {α : Type} (f : Xp α) (ls : Ev) (h : Hp) (Q : α → Hp → Prop) : Prop := ∃ v h', f ls h = some (v, h') ∧ Q v h'
def wA (fs : List (Xp Value)) (ls : Ev) (h : Hp) (Q : List Value → Hp → Prop) : Prop := ∃ v h', evs fs ls h = some (v, h') ∧ Q v h'
def wS (f : Sm) (ls : Ev) (h : Hp) (Q : Rs → Ev → Hp → Prop) : Prop := ∃ r ls' h', f ls h = some (r, ls', h') ∧ Q r ls' h'
def wD (D : Dn) (as : Ev) (h : Hp) (Q : Option Value → Hp → Prop) : Prop := ∃ r h', D as h = some (r, h') ∧ Q r h'
theorem wD_eq {D : Dn} {as : Ev} {h : Hp} {r : Option Value} {h' : Hp} (e : D as h = some (r, h')) (Q : Option Value → Hp → Prop) : wD D as h Q ↔ Q r h' := by
  constructor
  · rintro ⟨r1, h1, e1, q⟩
    rw [e] at e1
    cases e1
    exact q
  · exact fun q => ⟨r, h', e, q⟩
theorem wD_mono {D : Dn} {as : Ev} {h : Hp} {P Q : Option Value → Hp → Prop} (hp : wD D as h P) (hq : ∀ r h', P r h' → Q r h') : wD D as h Q := by
  obtain ⟨r, h', e, p⟩ := hp
  exact ⟨r, h', e, hq r h' p⟩
theorem wS_mono {f : Sm} {ls : Ev} {h : Hp} {P Q : Rs → Ev → Hp → Prop} (hp : wS f ls h P) (hq : ∀ r l h', P r l h' → Q r l h') : wS f ls h Q := by
  obtain ⟨r, l, h', e, p⟩ := hp
  exact ⟨r, l, h', e, hq r l h' p⟩
theorem wE_mono {α : Type} {f : Xp α} {ls : Ev} {h : Hp} {P Q : α → Hp → Prop} (hp : wE f ls h P) (hq : ∀ r h', P r h' → Q r h') : wE f ls h Q := by
  obtain ⟨r, h', e, p⟩ := hp
  exact ⟨r, h', e, hq r h' p⟩
section WER
variable {α β γ : Type} {ls : Ev} {h : Hp}
theorem wE_kI (v : Int32) (Q : Int32 → Hp → Prop) : wE (kI v) ls h Q ↔ Q v h := by simp [wE, kI]
theorem wE_kL (v : Int64) (Q : Int64 → Hp → Prop) : wE (kL v) ls h Q ↔ Q v h := by simp [wE, kL]
theorem wE_vI (k : Nat) (Q : Int32 → Hp → Prop) : wE (vI k) ls h Q ↔ ∃ v, ls[k]? = some (.int v) ∧ Q v h := by
  constructor
  · rintro ⟨v, h', e, q⟩
    unfold vI at e
    split at e
    · cases e; exact ⟨_, by assumption, q⟩
    · cases e
  · rintro ⟨v, e, q⟩
    exact ⟨v, h, by unfold vI; rw [e], q⟩
theorem wE_vL (k : Nat) (Q : Int64 → Hp → Prop) : wE (vL k) ls h Q ↔ ∃ v, ls[k]? = some (.long v) ∧ Q v h := by
  constructor
  · rintro ⟨v, h', e, q⟩
    unfold vL at e
    split at e
    · cases e; exact ⟨_, by assumption, q⟩
    · cases e
  · rintro ⟨v, e, q⟩
    exact ⟨v, h, by unfold vL; rw [e], q⟩
theorem wE_vR (k : Nat) (Q : Nat → Hp → Prop) : wE (vR k) ls h Q ↔ ∃ v, ls[k]? = some (.ref v) ∧ Q v h := by
  constructor
  · rintro ⟨v, h', e, q⟩
    unfold vR at e
    split at e
    · cases e; exact ⟨_, by assumption, q⟩
    · cases e
  · rintro ⟨v, e, q⟩
    exact ⟨v, h, by unfold vR; rw [e], q⟩
theorem wE_o1 (f : α → β) (a : Xp α) (Q : β → Hp → Prop) : wE (o1 f a) ls h Q ↔ wE a ls h fun x h1 => Q (f x) h1 := by
  constructor
  · rintro ⟨v, h', e, q⟩
    obtain ⟨x, hx, e⟩ := bnd e
    cases e
    exact ⟨x.1, x.2, hx, q⟩
  · rintro ⟨x, h1, hx, q⟩
    exact ⟨_, _, by simp [o1, hx], q⟩
theorem wE_o2 (f : α → β → γ) (a : Xp α) (b : Xp β) (Q : γ → Hp → Prop) : wE (o2 f a b) ls h Q ↔ wE a ls h fun x h1 => wE b ls h1 fun y h2 => Q (f x y) h2 := by
  constructor
  · rintro ⟨v, h', e, q⟩
    obtain ⟨x, hx, e⟩ := bnd e
    obtain ⟨y, hy, e⟩ := bnd e
    cases e
    exact ⟨x.1, x.2, hx, y.1, y.2, hy, q⟩
  · rintro ⟨x, h1, hx, y, h2, hy, q⟩
    exact ⟨_, _, by simp [o2, hx, hy], q⟩
theorem wE_oD (a b : Xp Int32) (Q : Int32 → Hp → Prop) : wE (oD a b) ls h Q ↔ wE a ls h fun x h1 => wE b ls h1 fun y h2 => y ≠ 0 ∧ Q (x / y) h2 := by
  constructor
  · rintro ⟨v, h', e, q⟩
    obtain ⟨x, hx, e⟩ := bnd e
    obtain ⟨y, hy, e⟩ := bnd e
    split at e
    · cases e
    · rename_i hn
      cases e
      exact ⟨x.1, x.2, hx, y.1, y.2, hy, hn, q⟩
  · rintro ⟨x, h1, hx, y, h2, hy, hn, q⟩
    exact ⟨_, _, by simp [oD, hx, hy, hn], q⟩
theorem wE_oR (a b : Xp Int32) (Q : Int32 → Hp → Prop) : wE (oR a b) ls h Q ↔ wE a ls h fun x h1 => wE b ls h1 fun y h2 => y ≠ 0 ∧ Q (x - x / y * y) h2 := by
  constructor
  · rintro ⟨v, h', e, q⟩
    obtain ⟨x, hx, e⟩ := bnd e
    obtain ⟨y, hy, e⟩ := bnd e
    split at e
    · cases e
    · rename_i hn
      cases e
      exact ⟨x.1, x.2, hx, y.1, y.2, hy, hn, q⟩
  · rintro ⟨x, h1, hx, y, h2, hy, hn, q⟩
    exact ⟨_, _, by simp [oR, hx, hy, hn], q⟩
theorem wE_gI (ci k : Nat) (o : Xp Nat) (Q : Int32 → Hp → Prop) : wE (gI ci k o) ls h Q ↔ wE o ls h fun r h1 => ∃ v, hO h1 r ci k = some (.int v) ∧ Q v h1 := by
  constructor
  · rintro ⟨v, h', e, q⟩
    obtain ⟨x, hx, e⟩ := bnd e
    split at e
    · cases e; exact ⟨x.1, x.2, hx, _, by assumption, q⟩
    · cases e
  · rintro ⟨x, h1, hx, v, hv, q⟩
    exact ⟨v, h1, by simp [gI, hx, hv], q⟩
theorem wE_gR (ci k : Nat) (o : Xp Nat) (Q : Nat → Hp → Prop) : wE (gR ci k o) ls h Q ↔ wE o ls h fun r h1 => ∃ v, hO h1 r ci k = some (.ref v) ∧ Q v h1 := by
  constructor
  · rintro ⟨v, h', e, q⟩
    obtain ⟨x, hx, e⟩ := bnd e
    split at e
    · cases e; exact ⟨x.1, x.2, hx, _, by assumption, q⟩
    · cases e
  · rintro ⟨x, h1, hx, v, hv, q⟩
    exact ⟨v, h1, by simp [gR, hx, hv], q⟩
/-- an index within a row of n -/
def okI (i : Int32) (n : Nat) : Prop := ¬ (i < 0 ∨ n ≤ i.toNatClampNeg)
theorem okI_ii {k : Int} {n : Nat} (h0 : 0 ≤ k) (h1 : k < n) (hn : n ≤ 100000) : okI (ii k) n := by
  unfold okI
  rw [ii_zero, ii_lt (by omega) (by omega) (by omega) (by omega), ii_nat (by omega) (by omega)]
  omega
theorem wE_aI (t : Nat) (a : Xp Nat) (i : Xp Int32) (Q : Int32 → Hp → Prop) : wE (aI t a i) ls h Q ↔ wE a ls h fun r h1 => wE i ls h1 fun j h2 => ∃ w, hAI h2 r t = some w ∧ okI j w.1 ∧ Q (w.2 j.toNatClampNeg) h2 := by
  constructor
  · rintro ⟨v, h', e, q⟩
    obtain ⟨x, hx, e⟩ := bnd e
    obtain ⟨y, hy, e⟩ := bnd e
    obtain ⟨w, hw, e⟩ := bnd e
    split at e
    · rename_i hin; cases e; exact ⟨x.1, x.2, hx, y.1, y.2, hy, w, hw, hin, q⟩
    · cases e
  · rintro ⟨x, h1, hx, y, h2, hy, w, hw, hin, q⟩
    have hin : ¬ (y < 0 ∨ w.1 ≤ y.toNatClampNeg) := hin
    exact ⟨_, _, by simp only [aI, hx, hy, hw, Option.bind_some]; rw [if_pos hin], q⟩
theorem wE_aL (a : Xp Nat) (i : Xp Int32) (Q : Int64 → Hp → Prop) : wE (aL a i) ls h Q ↔ wE a ls h fun r h1 => wE i ls h1 fun j h2 => ∃ w, hAL h2 r = some w ∧ okI j w.1 ∧ Q (w.2 j.toNatClampNeg) h2 := by
  constructor
  · rintro ⟨v, h', e, q⟩
    obtain ⟨x, hx, e⟩ := bnd e
    obtain ⟨y, hy, e⟩ := bnd e
    obtain ⟨w, hw, e⟩ := bnd e
    split at e
    · rename_i hin; cases e; exact ⟨x.1, x.2, hx, y.1, y.2, hy, w, hw, hin, q⟩
    · cases e
  · rintro ⟨x, h1, hx, y, h2, hy, w, hw, hin, q⟩
    have hin : ¬ (y < 0 ∨ w.1 ≤ y.toNatClampNeg) := hin
    exact ⟨_, _, by simp only [aL, hx, hy, hw, Option.bind_some]; rw [if_pos hin], q⟩
theorem wE_aR (a : Xp Nat) (i : Xp Int32) (Q : Nat → Hp → Prop) : wE (aR a i) ls h Q ↔ wE a ls h fun r h1 => wE i ls h1 fun j h2 => ∃ w, hAR h2 r = some w ∧ okI j w.1 ∧ ∃ z, w.2 j.toNatClampNeg = some z ∧ Q z h2 := by
  constructor
  · rintro ⟨v, h', e, q⟩
    obtain ⟨x, hx, e⟩ := bnd e
    obtain ⟨y, hy, e⟩ := bnd e
    obtain ⟨w, hw, e⟩ := bnd e
    split at e
    · rename_i hin
      obtain ⟨z, hz, e⟩ := bnd e
      cases e
      exact ⟨x.1, x.2, hx, y.1, y.2, hy, w, hw, hin, _, hz, q⟩
    · cases e
  · rintro ⟨x, h1, hx, y, h2, hy, w, hw, hin, _, hz, q⟩
    have hin : ¬ (y < 0 ∨ w.1 ≤ y.toNatClampNeg) := hin
    exact ⟨_, _, by simp only [aR, hx, hy, hw, Option.bind_some]; rw [if_pos hin, hz]; rfl, q⟩
theorem wE_lnX (t : Nat) (a : Xp Nat) (Q : Int32 → Hp → Prop) : wE (lnX t a) ls h Q ↔ wE a ls h fun r h1 => ∃ n, hLn h1 r t = some n ∧ Q (Int32.ofNat n) h1 := by
  constructor
  · rintro ⟨v, h', e, q⟩
    obtain ⟨x, hx, e⟩ := bnd e
    obtain ⟨n, hn, e⟩ := bnd e
    cases e
    exact ⟨x.1, x.2, hx, n, hn, q⟩
  · rintro ⟨x, h1, hx, n, hn, q⟩
    exact ⟨_, _, by simp [lnX, hx, hn], q⟩
theorem wE_iX (c : Xp Bool) (a b : Xp α) (Q : α → Hp → Prop) : wE (iX c a b) ls h Q ↔ wE c ls h fun t h1 => if t = true then wE a ls h1 Q else wE b ls h1 Q := by
  constructor
  · rintro ⟨v, h', e, q⟩
    obtain ⟨x, hx, e⟩ := bnd e
    refine ⟨x.1, x.2, hx, ?_⟩
    split at e
    · rename_i hc; rw [if_pos hc]; exact ⟨v, h', e, q⟩
    · rename_i hc; rw [if_neg hc]; exact ⟨v, h', e, q⟩
  · rintro ⟨x, h1, hx, q⟩
    split at q
    · rename_i hc; obtain ⟨v, h', e, q⟩ := q; exact ⟨v, h', by simp only [iX, hx, Option.bind_some]; rw [if_pos hc]; exact e, q⟩
    · rename_i hc; obtain ⟨v, h', e, q⟩ := q; exact ⟨v, h', by simp only [iX, hx, Option.bind_some]; rw [if_neg hc]; exact e, q⟩
theorem wE_bX (c : Xp Bool) (Q : Int32 → Hp → Prop) : wE (bX c) ls h Q ↔ wE c ls h fun t h1 => Q (if t = true then 1 else 0) h1 := by
  constructor
  · rintro ⟨v, h', e, q⟩
    obtain ⟨x, hx, e⟩ := bnd e
    cases e
    exact ⟨x.1, x.2, hx, q⟩
  · rintro ⟨x, h1, hx, q⟩
    exact ⟨_, _, by simp only [bX, hx, Option.bind_some], q⟩
theorem wE_cAnd (a b : Xp Bool) (Q : Bool → Hp → Prop) : wE (cAnd a b) ls h Q ↔ wE a ls h fun t h1 => if t = true then wE b ls h1 Q else Q false h1 := by
  constructor
  · rintro ⟨v, h', e, q⟩
    obtain ⟨x, hx, e⟩ := bnd e
    refine ⟨x.1, x.2, hx, ?_⟩
    split at e
    · rename_i hc; rw [if_pos hc]; exact ⟨v, h', e, q⟩
    · rename_i hc; rw [if_neg hc]; cases e; exact q
  · rintro ⟨x, h1, hx, q⟩
    split at q
    · rename_i hc; obtain ⟨v, h', e, q⟩ := q; exact ⟨v, h', by simp only [cAnd, hx, Option.bind_some]; rw [if_pos hc]; exact e, q⟩
    · rename_i hc; exact ⟨false, h1, by simp only [cAnd, hx, Option.bind_some]; rw [if_neg hc], q⟩
theorem wE_cOr (a b : Xp Bool) (Q : Bool → Hp → Prop) : wE (cOr a b) ls h Q ↔ wE a ls h fun t h1 => if t = true then Q true h1 else wE b ls h1 Q := by
  constructor
  · rintro ⟨v, h', e, q⟩
    obtain ⟨x, hx, e⟩ := bnd e
    refine ⟨x.1, x.2, hx, ?_⟩
    split at e
    · rename_i hc; rw [if_pos hc]; cases e; exact q
    · rename_i hc; rw [if_neg hc]; exact ⟨v, h', e, q⟩
  · rintro ⟨x, h1, hx, q⟩
    split at q
    · rename_i hc; exact ⟨true, h1, by simp only [cOr, hx, Option.bind_some]; rw [if_pos hc], q⟩
    · rename_i hc; obtain ⟨v, h', e, q⟩ := q; exact ⟨v, h', by simp only [cOr, hx, Option.bind_some]; rw [if_neg hc]; exact e, q⟩
theorem wE_cNot (a : Xp Bool) (Q : Bool → Hp → Prop) : wE (cNot a) ls h Q ↔ wE a ls h fun t h1 => Q (!t) h1 := by
  constructor
  · rintro ⟨v, h', e, q⟩
    obtain ⟨x, hx, e⟩ := bnd e
    cases e
    exact ⟨x.1, x.2, hx, q⟩
  · rintro ⟨x, h1, hx, q⟩
    exact ⟨_, _, by simp [cNot, hx], q⟩
theorem wE_asV (ι : α → Value) (a : Xp α) (Q : Value → Hp → Prop) : wE (asV ι a) ls h Q ↔ wE a ls h fun x h1 => Q (ι x) h1 := by
  constructor
  · rintro ⟨v, h', e, q⟩
    obtain ⟨x, hx, e⟩ := bnd e
    cases e
    exact ⟨x.1, x.2, hx, q⟩
  · rintro ⟨x, h1, hx, q⟩
    exact ⟨_, _, by simp [asV, hx], q⟩
theorem wA_nil (Q : List Value → Hp → Prop) : wA [] ls h Q ↔ Q [] h := by
  constructor
  · rintro ⟨v, h', e, q⟩
    have e : some (([] : List Value), h) = some (v, h') := e
    cases e
    exact q
  · exact fun q => ⟨[], h, rfl, q⟩
theorem wA_cons (f : Xp Value) (fs : List (Xp Value)) (Q : List Value → Hp → Prop) : wA (f :: fs) ls h Q ↔ wE f ls h fun x h1 => wA fs ls h1 fun xs h2 => Q (x :: xs) h2 := by
  constructor
  · rintro ⟨v, h', e, q⟩
    obtain ⟨x, hx, e⟩ := bnd e
    obtain ⟨y, hy, e⟩ := bnd e
    cases e
    exact ⟨x.1, x.2, hx, y.1, y.2, hy, q⟩
  · rintro ⟨x, h1, hx, y, h2, hy, q⟩
    exact ⟨_, _, by simp [evs, hx, hy], q⟩
theorem wE_cI (D : Dn) (fs : List (Xp Value)) (Q : Int32 → Hp → Prop) : wE (cI D fs) ls h Q ↔ wA fs ls h fun vs h1 => wD D vs h1 fun r h2 => ∃ v, r = some (.int v) ∧ Q v h2 := by
  constructor
  · rintro ⟨v, h', e, q⟩
    obtain ⟨x, hx, e⟩ := bnd e
    obtain ⟨y, hy, e⟩ := bnd e
    split at e
    · cases e; exact ⟨x.1, x.2, hx, y.1, y.2, hy, _, by assumption, q⟩
    · cases e
  · rintro ⟨x, h1, hx, y, h2, hy, v, rfl, q⟩
    exact ⟨v, h2, by simp [cI, hx, hy], q⟩
theorem wE_cL (D : Dn) (fs : List (Xp Value)) (Q : Int64 → Hp → Prop) : wE (cL D fs) ls h Q ↔ wA fs ls h fun vs h1 => wD D vs h1 fun r h2 => ∃ v, r = some (.long v) ∧ Q v h2 := by
  constructor
  · rintro ⟨v, h', e, q⟩
    obtain ⟨x, hx, e⟩ := bnd e
    obtain ⟨y, hy, e⟩ := bnd e
    split at e
    · cases e; exact ⟨x.1, x.2, hx, y.1, y.2, hy, _, by assumption, q⟩
    · cases e
  · rintro ⟨x, h1, hx, y, h2, hy, v, rfl, q⟩
    exact ⟨v, h2, by simp [cL, hx, hy], q⟩
theorem wE_cR (D : Dn) (fs : List (Xp Value)) (Q : Nat → Hp → Prop) : wE (cR D fs) ls h Q ↔ wA fs ls h fun vs h1 => wD D vs h1 fun r h2 => ∃ v, r = some (.ref v) ∧ Q v h2 := by
  constructor
  · rintro ⟨v, h', e, q⟩
    obtain ⟨x, hx, e⟩ := bnd e
    obtain ⟨y, hy, e⟩ := bnd e
    split at e
    · cases e; exact ⟨x.1, x.2, hx, y.1, y.2, hy, _, by assumption, q⟩
    · cases e
  · rintro ⟨x, h1, hx, y, h2, hy, v, rfl, q⟩
    exact ⟨v, h2, by simp [cR, hx, hy], q⟩
theorem wE_chX (i : Xp Int32) (Q : Int32 → Hp → Prop) : wE (chX i) ls h Q ↔ wE i ls h fun j h1 => okI j 160 ∧ Q ((sxB.getD 0 []).getD j.toNatClampNeg 0) h1 := by
  constructor
  · rintro ⟨v, h', e, q⟩
    obtain ⟨x, hx, e⟩ := bnd e
    split at e
    · rename_i hin; cases e; exact ⟨x.1, x.2, hx, hin, q⟩
    · cases e
  · rintro ⟨x, h1, hx, hin, q⟩
    have hin : ¬ (x < 0 ∨ 160 ≤ x.toNatClampNeg) := hin
    exact ⟨_, _, by simp only [chX, hx, Option.bind_some]; rw [if_pos hin], q⟩
theorem wE_idX (c : Xp Int32) (Q : Int32 → Hp → Prop) : wE (idX c) ls h Q ↔ wE c ls h fun x h1 => Q (if x < 0 ∨ ii 255 < x then ii (-1) else ixOf x.toInt8.toInt32 0 (sxB.getD 1 [])) h1 := by
  constructor
  · rintro ⟨v, h', e, q⟩
    obtain ⟨x, hx, e⟩ := bnd e
    cases e
    exact ⟨x.1, x.2, hx, q⟩
  · rintro ⟨x, h1, hx, q⟩
    exact ⟨_, _, by simp only [idX, hx, Option.bind_some], q⟩
end WER
section WSR
variable {ls : Ev} {h : Hp}
theorem wS_seq (a b : Sm) (Q : Rs → Ev → Hp → Prop) : wS (sSeq a b) ls h Q ↔ wS a ls h fun r l h1 => if r.1 = 0 then wS b l h1 Q else Q r l h1 := by
  constructor
  · rintro ⟨r, l, h', e, q⟩
    obtain ⟨x, hx, e⟩ := bnd e
    refine ⟨x.1, x.2.1, x.2.2, hx, ?_⟩
    split at e
    · rename_i hc; rw [if_pos hc]; exact ⟨r, l, h', e, q⟩
    · rename_i hc; rw [if_neg hc]; cases e; exact q
  · rintro ⟨r, l, h1, hx, q⟩
    split at q
    · rename_i hc; obtain ⟨r', l', h', e, q⟩ := q; exact ⟨r', l', h', by simp only [sSeq, hx, Option.bind_some]; rw [if_pos hc]; exact e, q⟩
    · rename_i hc; exact ⟨r, l, h1, by simp only [sSeq, hx, Option.bind_some]; rw [if_neg hc], q⟩
theorem wS_skip (Q : Rs → Ev → Hp → Prop) : wS sSkip ls h Q ↔ Q (0, none) ls h := by simp [wS, sSkip]
theorem wS_brk (n : Nat) (Q : Rs → Ev → Hp → Prop) : wS (sBrk n) ls h Q ↔ Q (1, none) (ls.take n) h := by simp [wS, sBrk]
theorem wS_cnt (n : Nat) (Q : Rs → Ev → Hp → Prop) : wS (sCnt n) ls h Q ↔ Q (2, none) (ls.take n) h := by simp [wS, sCnt]
theorem wS_retV (Q : Rs → Ev → Hp → Prop) : wS sRetV ls h Q ↔ Q (3, none) ls h := by simp [wS, sRetV]
theorem wS_decl (e : Xp Value) (Q : Rs → Ev → Hp → Prop) : wS (sDecl e) ls h Q ↔ wE e ls h fun v h1 => Q (0, none) (ls ++ [v]) h1 := by
  constructor
  · rintro ⟨r, l, h', e1, q⟩
    obtain ⟨x, hx, e1⟩ := bnd e1
    cases e1
    exact ⟨x.1, x.2, hx, q⟩
  · rintro ⟨v, h1, hx, q⟩
    exact ⟨_, _, _, by simp only [sDecl, hx, Option.bind_some], q⟩
theorem wS_set (k : Nat) (e : Xp Value) (Q : Rs → Ev → Hp → Prop) : wS (sSet k e) ls h Q ↔ wE e ls h fun v h1 => Q (0, none) (ls.set k v) h1 := by
  constructor
  · rintro ⟨r, l, h', e1, q⟩
    obtain ⟨x, hx, e1⟩ := bnd e1
    cases e1
    exact ⟨x.1, x.2, hx, q⟩
  · rintro ⟨v, h1, hx, q⟩
    exact ⟨_, _, _, by simp only [sSet, hx, Option.bind_some], q⟩
theorem wS_inc (k : Nat) (c : Int32) (Q : Rs → Ev → Hp → Prop) : wS (sInc k c) ls h Q ↔ ∃ v, ls[k]? = some (.int v) ∧ Q (0, none) (ls.set k (.int (v + c))) h := by
  constructor
  · rintro ⟨r, l, h', e1, q⟩
    unfold sInc at e1
    split at e1
    · cases e1; exact ⟨_, by assumption, q⟩
    · cases e1
  · rintro ⟨v, e, q⟩
    exact ⟨_, _, _, by unfold sInc; rw [e], q⟩
theorem wS_put (ci k : Nat) (o : Xp Nat) (e : Xp Value) (Q : Rs → Ev → Hp → Prop) : wS (sPut ci k o e) ls h Q ↔ wE o ls h fun r h1 => wE e ls h1 fun v h2 => ∃ h3, hPut h2 r ci k v = some h3 ∧ Q (0, none) ls h3 := by
  constructor
  · rintro ⟨r, l, h', e1, q⟩
    obtain ⟨x, hx, e1⟩ := bnd e1
    obtain ⟨y, hy, e1⟩ := bnd e1
    obtain ⟨z, hz, e1⟩ := bnd e1
    cases e1
    exact ⟨x.1, x.2, hx, y.1, y.2, hy, _, hz, q⟩
  · rintro ⟨x, h1, hx, y, h2, hy, _, hz, q⟩
    exact ⟨_, _, _, by simp only [sPut, hx, hy, hz, Option.bind_some], q⟩
theorem wS_putZ (ci k : Nat) (o : Xp Nat) (e : Xp Int32) (Q : Rs → Ev → Hp → Prop) : wS (sPutZ ci k o e) ls h Q ↔ wE o ls h fun r h1 => wE e ls h1 fun v h2 => (v = 0 ∨ v = 1) ∧ ∃ h3, hPut h2 r ci k (.int v) = some h3 ∧ Q (0, none) ls h3 := by
  constructor
  · rintro ⟨r, l, h', e1, q⟩
    obtain ⟨x, hx, e1⟩ := bnd e1
    obtain ⟨y, hy, e1⟩ := bnd e1
    split at e1
    · rename_i hc
      obtain ⟨z, hz, e1⟩ := bnd e1
      cases e1
      exact ⟨x.1, x.2, hx, y.1, y.2, hy, hc, _, hz, q⟩
    · cases e1
  · rintro ⟨x, h1, hx, y, h2, hy, hc, _, hz, q⟩
    exact ⟨_, _, _, by simp only [sPutZ, hx, hy, Option.bind_some]; rw [if_pos hc, hz]; rfl, q⟩
theorem wS_fop (ci k : Nat) (o : Xp Nat) (f : Int32 → Int32 → Int32) (e : Xp Int32) (Q : Rs → Ev → Hp → Prop) : wS (sFop ci k o f e) ls h Q ↔ wE o ls h fun r h1 => ∃ x, hO h1 r ci k = some (.int x) ∧ wE e ls h1 fun y h2 => ∃ h3, hPut h2 r ci k (.int (f x y)) = some h3 ∧ Q (0, none) ls h3 := by
  constructor
  · rintro ⟨r, l, h', e1, q⟩
    obtain ⟨x, hx, e1⟩ := bnd e1
    split at e1
    · obtain ⟨y, hy, e1⟩ := bnd e1
      obtain ⟨z, hz, e1⟩ := bnd e1
      cases e1
      exact ⟨x.1, x.2, hx, _, by assumption, y.1, y.2, hy, _, hz, q⟩
    · cases e1
  · rintro ⟨x, h1, hx, w, hw, y, h2, hy, _, hz, q⟩
    exact ⟨_, _, _, by simp only [sFop, hx, hw, hy, hz, Option.bind_some], q⟩
theorem wS_ast (t : Nat) (a : Xp Nat) (i e : Xp Int32) (Q : Rs → Ev → Hp → Prop) : wS (sAst t a i e) ls h Q ↔ wE a ls h fun r h1 => wE i ls h1 fun j h2 => wE e ls h2 fun x h3 => ∃ h4, hAst h3 r t j (nrw t x) = some h4 ∧ Q (0, none) ls h4 := by
  constructor
  · rintro ⟨r, l, h', e1, q⟩
    obtain ⟨x, hx, e1⟩ := bnd e1
    obtain ⟨y, hy, e1⟩ := bnd e1
    obtain ⟨w, hw, e1⟩ := bnd e1
    obtain ⟨z, hz, e1⟩ := bnd e1
    cases e1
    exact ⟨x.1, x.2, hx, y.1, y.2, hy, w.1, w.2, hw, _, hz, q⟩
  · rintro ⟨x, h1, hx, y, h2, hy, w, h3, hw, _, hz, q⟩
    exact ⟨_, _, _, by simp only [sAst, hx, hy, hw, hz, Option.bind_some], q⟩
theorem wS_astL (a : Xp Nat) (i : Xp Int32) (e : Xp Int64) (Q : Rs → Ev → Hp → Prop) : wS (sAstL a i e) ls h Q ↔ wE a ls h fun r h1 => wE i ls h1 fun j h2 => wE e ls h2 fun x h3 => ∃ h4, hAstL h3 r j x = some h4 ∧ Q (0, none) ls h4 := by
  constructor
  · rintro ⟨r, l, h', e1, q⟩
    obtain ⟨x, hx, e1⟩ := bnd e1
    obtain ⟨y, hy, e1⟩ := bnd e1
    obtain ⟨w, hw, e1⟩ := bnd e1
    obtain ⟨z, hz, e1⟩ := bnd e1
    cases e1
    exact ⟨x.1, x.2, hx, y.1, y.2, hy, w.1, w.2, hw, _, hz, q⟩
  · rintro ⟨x, h1, hx, y, h2, hy, w, h3, hw, _, hz, q⟩
    exact ⟨_, _, _, by simp only [sAstL, hx, hy, hw, hz, Option.bind_some], q⟩
theorem wS_aop (t : Nat) (a : Xp Nat) (i : Xp Int32) (f : Int32 → Int32 → Int32) (e : Xp Int32) (Q : Rs → Ev → Hp → Prop) : wS (sAop t a i f e) ls h Q ↔ wE a ls h fun r h1 => wE i ls h1 fun j h2 => ∃ w, hAI h2 r t = some w ∧ okI j w.1 ∧ wE e ls h2 fun x h3 => ∃ h4, hAst h3 r t j (nrw t (f (w.2 j.toNatClampNeg) x)) = some h4 ∧ Q (0, none) ls h4 := by
  constructor
  · rintro ⟨r, l, h', e1, q⟩
    obtain ⟨x, hx, e1⟩ := bnd e1
    obtain ⟨y, hy, e1⟩ := bnd e1
    obtain ⟨u, hu, e1⟩ := bnd e1
    split at e1
    · rename_i hin
      obtain ⟨w, hw, e1⟩ := bnd e1
      obtain ⟨z, hz, e1⟩ := bnd e1
      cases e1
      exact ⟨x.1, x.2, hx, y.1, y.2, hy, u, hu, hin, w.1, w.2, hw, _, hz, q⟩
    · cases e1
  · rintro ⟨x, h1, hx, y, h2, hy, u, hu, hin, w, h3, hw, _, hz, q⟩
    have hin : ¬ (y < 0 ∨ u.1 ≤ y.toNatClampNeg) := hin
    exact ⟨_, _, _, by simp only [sAop, hx, hy, hu, Option.bind_some]; rw [if_pos hin, hw]; simp only [Option.bind_some, hz], q⟩
theorem wS_if (c : Xp Bool) (a b : Sm) (Q : Rs → Ev → Hp → Prop) : wS (sIf c a b) ls h Q ↔ wE c ls h fun t h1 => if t = true then wS a ls h1 Q else wS b ls h1 Q := by
  constructor
  · rintro ⟨r, l, h', e, q⟩
    obtain ⟨x, hx, e⟩ := bnd e
    refine ⟨x.1, x.2, hx, ?_⟩
    split at e
    · rename_i hc; rw [if_pos hc]; exact ⟨r, l, h', e, q⟩
    · rename_i hc; rw [if_neg hc]; exact ⟨r, l, h', e, q⟩
  · rintro ⟨x, h1, hx, q⟩
    split at q
    · rename_i hc; obtain ⟨r, l, h', e, q⟩ := q; exact ⟨r, l, h', by simp only [sIf, hx, Option.bind_some]; rw [if_pos hc]; exact e, q⟩
    · rename_i hc; obtain ⟨r, l, h', e, q⟩ := q; exact ⟨r, l, h', by simp only [sIf, hx, Option.bind_some]; rw [if_neg hc]; exact e, q⟩
theorem wS_blk (n : Nat) (f : Sm) (Q : Rs → Ev → Hp → Prop) : wS (sBlk n f) ls h Q ↔ wS f ls h fun r l h1 => Q r (if r.1 = 0 then l.take n else l) h1 := by
  constructor
  · rintro ⟨r, l, h', e, q⟩
    obtain ⟨x, hx, e⟩ := bnd e
    cases e
    exact ⟨x.1, x.2.1, x.2.2, hx, q⟩
  · rintro ⟨r, l, h1, hx, q⟩
    exact ⟨_, _, _, by simp only [sBlk, hx, Option.bind_some], q⟩
theorem wS_ret (e : Xp Value) (Q : Rs → Ev → Hp → Prop) : wS (sRet e) ls h Q ↔ wE e ls h fun v h1 => Q (3, some v) ls h1 := by
  constructor
  · rintro ⟨r, l, h', e1, q⟩
    obtain ⟨x, hx, e1⟩ := bnd e1
    cases e1
    exact ⟨x.1, x.2, hx, q⟩
  · rintro ⟨v, h1, hx, q⟩
    exact ⟨_, _, _, by simp only [sRet, hx, Option.bind_some], q⟩
theorem wS_retZ (e : Xp Int32) (Q : Rs → Ev → Hp → Prop) : wS (sRetZ e) ls h Q ↔ wE e ls h fun v h1 => (v = 0 ∨ v = 1) ∧ Q (3, some (.int v)) ls h1 := by
  constructor
  · rintro ⟨r, l, h', e1, q⟩
    obtain ⟨x, hx, e1⟩ := bnd e1
    split at e1
    · rename_i hc; cases e1; exact ⟨x.1, x.2, hx, hc, q⟩
    · cases e1
  · rintro ⟨v, h1, hx, hc, q⟩
    exact ⟨_, _, _, by simp only [sRetZ, hx, Option.bind_some]; rw [if_pos hc], q⟩
theorem wS_call (D : Dn) (fs : List (Xp Value)) (Q : Rs → Ev → Hp → Prop) : wS (sCall D fs) ls h Q ↔ wA fs ls h fun vs h1 => wD D vs h1 fun r h2 => r = none ∧ Q (0, none) ls h2 := by
  constructor
  · rintro ⟨r, l, h', e, q⟩
    obtain ⟨x, hx, e⟩ := bnd e
    obtain ⟨y, hy, e⟩ := bnd e
    split at e
    · cases e; exact ⟨x.1, x.2, hx, y.1, y.2, hy, by assumption, q⟩
    · cases e
  · rintro ⟨x, h1, hx, y, h2, hy, rfl, q⟩
    exact ⟨_, _, _, by simp only [sCall, hx, hy, Option.bind_some], q⟩
theorem wS_sw (e : Xp Int32) (T : List (Int32 × Sm)) (d : Sm) (Q : Rs → Ev → Hp → Prop) : wS (sSw e T d) ls h Q ↔ wE e ls h fun v h1 => wS (SwF T d v) ls h1 fun r l h2 => if r.1 = 1 then Q (0, none) l h2 else Q r l h2 := by
  constructor
  · rintro ⟨r, l, h', e1, q⟩
    obtain ⟨x, hx, e1⟩ := bnd e1
    obtain ⟨y, hy, e1⟩ := bnd e1
    refine ⟨x.1, x.2, hx, y.1, y.2.1, y.2.2, hy, ?_⟩
    split at e1
    · rename_i hc; rw [if_pos hc]; cases e1; exact q
    · rename_i hc; rw [if_neg hc]; cases e1; exact q
  · rintro ⟨v, h1, hx, r, l, h2, hy, q⟩
    split at q
    · rename_i hc; exact ⟨_, _, _, by simp only [sSw, hx, hy, Option.bind_some]; rw [if_pos hc], q⟩
    · rename_i hc; exact ⟨_, _, _, by simp only [sSw, hx, hy, Option.bind_some]; rw [if_neg hc], q⟩
theorem wS_cpy (a : Xp Nat) (sp : Xp Int32) (b : Xp Nat) (dp n : Xp Int32) (Q : Rs → Ev → Hp → Prop) : wS (sCpy a sp b dp n) ls h Q ↔ wE a ls h fun x h1 => wE sp ls h1 fun i h2 => wE b ls h2 fun y h3 => wE dp ls h3 fun j h4 => wE n ls h4 fun c h5 => ∃ f g, hAI h5 x 0 = some f ∧ hAI h5 y 0 = some g ∧ (¬ i < 0 ∧ ¬ j < 0 ∧ ¬ c < 0 ∧ i.toNatClampNeg + c.toNatClampNeg ≤ f.1 ∧ j.toNatClampNeg + c.toNatClampNeg ≤ g.1) ∧ Q (0, none) ls (h5.set y (.inl (0, g.1, .inl (va_cpy f.2 g.2 i.toNatClampNeg j.toNatClampNeg c.toNatClampNeg)))) := by
  constructor
  · rintro ⟨r, l, h', e1, q⟩
    obtain ⟨q1, h1, e1⟩ := bnd e1
    obtain ⟨q2, h2, e1⟩ := bnd e1
    obtain ⟨q3, h3, e1⟩ := bnd e1
    obtain ⟨q4, h4, e1⟩ := bnd e1
    obtain ⟨q5, h5, e1⟩ := bnd e1
    obtain ⟨f, hf, e1⟩ := bnd e1
    obtain ⟨g, hg, e1⟩ := bnd e1
    split at e1
    · rename_i hc
      cases e1
      exact ⟨q1.1, q1.2, h1, q2.1, q2.2, h2, q3.1, q3.2, h3, q4.1, q4.2, h4, q5.1, q5.2, h5, f, g, hf, hg, hc, q⟩
    · cases e1
  · rintro ⟨x1, h1, e1, x2, h2, e2, x3, h3, e3, x4, h4, e4, x5, h5, e5, f, g, hf, hg, hc, q⟩
    exact ⟨_, _, _, by simp only [sCpy, e1, e2, e3, e4, e5, hf, hg, Option.bind_some]; rw [if_pos hc], q⟩
theorem wD_run (cts : List Nat) (F : Sm) (as : Ev) (Q : Option Value → Hp → Prop) : wD (runS cts F) as h Q ↔ (as.map fun v => v.category) = cts ∧ wS F as h fun r _ h1 => r.1 = 3 ∧ Q r.2 h1 := by
  constructor
  · rintro ⟨r, h', e, q⟩
    unfold runS at e
    split at e
    · rename_i hc
      obtain ⟨x, hx, e⟩ := bnd e
      obtain ⟨⟨n, v⟩, l, h2⟩ := x
      split at e
      · rename_i h3
        have h3 : n = 3 := h3
        subst h3
        cases e
        exact ⟨hc, (3, v), l, h2, hx, rfl, q⟩
      · cases e
    · cases e
  · rintro ⟨hc, ⟨n, v⟩, l, h2, hx, h3, q⟩
    have h3 : n = 3 := h3
    subst h3
    exact ⟨v, h2, by unfold runS; rw [if_pos hc, hx]; rfl, q⟩
theorem wD_mV (ci : Nat) (D : Dn) (as : Ev) (Q : Option Value → Hp → Prop) : wD (mV ci D) as h Q ↔ isO h as ci = true ∧ wD D as h Q := by
  constructor
  · rintro ⟨r, h', e, q⟩
    unfold mV at e
    split at e
    · rename_i hc; exact ⟨hc, r, h', e, q⟩
    · cases e
  · rintro ⟨hc, r, h', e, q⟩
    exact ⟨r, h', by unfold mV; rw [if_pos hc]; exact e, q⟩
end WSR
/-! loops -/
theorem lpN_mono {c : Xp Bool} {b u : Sm} : ∀ {n : Nat} {ls : Ev} {h : Hp} {r : Rs × Ev × Hp}, lpN c b u n ls h = some r → ∀ k, lpN c b u (n + k) ls h = some r
  | 0, ls, h, r, e, k => by cases e
  | n + 1, ls, h, r, e, k => by
    rw [show n + 1 + k = (n + k) + 1 by omega]
    obtain ⟨q, hq, e⟩ := bnd e
    show (c ls h).bind _ = _
    rw [hq]
    show (if q.1 = true then _ else _) = _
    split at e
    · rename_i hc
      rw [if_pos hc]
      obtain ⟨w, hw, e⟩ := bnd e
      rw [hw]
      show (if w.1.1 = 0 ∨ w.1.1 = 2 then _ else _) = _
      split at e
      · rename_i h0
        rw [if_pos h0]
        obtain ⟨x, hx, e⟩ := bnd e
        rw [hx]
        show (if x.1.1 = 0 then _ else _) = _
        split at e
        · rename_i h1
          rw [if_pos h1]
          exact lpN_mono e k
        · cases e
      · rename_i h0
        rw [if_neg h0]
        exact e
    · rename_i hc
      rw [if_neg hc]
      exact e
theorem sWh_of {c : Xp Bool} {b u : Sm} {n : Nat} {ls : Ev} {h : Hp} {r : Rs × Ev × Hp} (e : lpN c b u n ls h = some r) : sWh c b u ls h = some r := by
  have hx : ∃ n, lpN c b u n ls h ≠ none := ⟨n, by rw [e]; simp⟩
  unfold sWh
  rw [dif_pos hx]
  cases e2 : lpN c b u (Classical.choose hx) ls h with
  | none => exact absurd e2 (Classical.choose_spec hx)
  | some r2 =>
    have a := lpN_mono e (Classical.choose hx)
    have b := lpN_mono e2 n
    rw [Nat.add_comm] at b
    rw [a] at b
    exact b.symm
/-- a loop by an invariant over its rounds: I j ls h holds as the round j begins; N rounds at most -/
theorem wS_wh {c : Xp Bool} {b u : Sm} {Q : Rs → Ev → Hp → Prop} (I : Nat → Ev → Hp → Prop) (N : Nat)
    (hs : ∀ j ls h, I j ls h → wE c ls h fun t h1 => if t = true then j < N ∧ wS b ls h1 (fun r l h2 => if r.1 = 0 ∨ r.1 = 2 then wS u l h2 (fun r2 l2 h3 => r2.1 = 0 ∧ I (j + 1) l2 h3) else if r.1 = 1 then Q (0, none) l h2 else Q r l h2) else Q (0, none) ls h1)
    {j : Nat} {ls : Ev} {h : Hp} (h0 : I j ls h) : wS (sWh c b u) ls h Q := by
  have key : ∀ n j ls h, N ≤ j + n → I j ls h → ∃ k r l h', lpN c b u k ls h = some (r, l, h') ∧ Q r l h' := by
    intro n
    induction n with
    | zero =>
      intro j ls h hn hI
      obtain ⟨t, h1, e, q⟩ := hs j ls h hI
      split at q
      · exact absurd q.1 (by omega)
      · rename_i ht
        exact ⟨1, (0, none), ls, h1, by show (c ls h).bind _ = _; rw [e]; show (if t = true then _ else _) = _; rw [if_neg ht], q⟩
    | succ n ih =>
      intro j ls h hn hI
      obtain ⟨t, h1, e, q⟩ := hs j ls h hI
      split at q
      · rename_i ht
        obtain ⟨hj, r, l, h2, eb, q⟩ := q
        split at q
        · rename_i h0
          obtain ⟨r2, l2, h3, eu, h30, q⟩ := q
          obtain ⟨k, r', l', h', ek, qk⟩ := ih (j + 1) l2 h3 (by omega) q
          refine ⟨k + 1, r', l', h', ?_, qk⟩
          show (c ls h).bind _ = _
          rw [e]
          show (if t = true then _ else _) = _
          rw [if_pos ht, eb]
          show (if r.1 = 0 ∨ r.1 = 2 then _ else _) = _
          rw [if_pos h0, eu]
          show (if r2.1 = 0 then _ else _) = _
          rw [if_pos h30]
          exact ek
        · rename_i h0
          split at q
          · rename_i h1'
            refine ⟨1, (0, none), l, h2, ?_, q⟩
            show (c ls h).bind _ = _
            rw [e]
            show (if t = true then _ else _) = _
            rw [if_pos ht, eb]
            show (if r.1 = 0 ∨ r.1 = 2 then _ else _) = _
            rw [if_neg h0]
            show (if r.1 = 1 then _ else _) = _
            rw [if_pos h1']
          · rename_i h1'
            refine ⟨1, r, l, h2, ?_, q⟩
            show (c ls h).bind _ = _
            rw [e]
            show (if t = true then _ else _) = _
            rw [if_pos ht, eb]
            show (if r.1 = 0 ∨ r.1 = 2 then _ else _) = _
            rw [if_neg h0]
            show (if r.1 = 1 then _ else _) = _
            rw [if_neg h1']
      · rename_i ht
        exact ⟨1, (0, none), ls, h1, by show (c ls h).bind _ = _; rw [e]; show (if t = true then _ else _) = _; rw [if_neg ht], q⟩
  obtain ⟨k, r, l, h', ek, qk⟩ := key N j ls h (by omega) h0
  exact ⟨r, l, h', sWh_of ek, qk⟩
