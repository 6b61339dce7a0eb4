/-! What an expression, a statement, a method comes to: rules to go through them. -/
def wE {α : Type} (f : Xp α) (ls : Ev) (h : Hp) (Q : α → Hp → Prop) : Prop := ∃ v h', f ls h = some (v, h') ∧ Q v h'
def wA (fs : List (Xp Value)) (ls : Ev) (h : Hp) (Q : List Value → Hp → Prop) : Prop := ∃ v h', evs fs ls h = some (v, h') ∧ Q v h'
def wS (f : Sm) (ls : Ev) (h : Hp) (Q : Rs → Ev → Hp → Prop) : Prop := ∃ r ls' h', f ls h = some (r, ls', h') ∧ Q r ls' h'
def wD (D : Dn) (as : Ev) (h : Hp) (Q : Option Value → Hp → Prop) : Prop := ∃ r h', D as h = some (r, h') ∧ Q r h'
def xI (o : Option Value) (Q : Int32 → Prop) : Prop := ∃ v, o = some (.int v) ∧ Q v
def xL (o : Option Value) (Q : Int64 → Prop) : Prop := ∃ v, o = some (.long v) ∧ Q v
def xF (o : Option Value) (Q : Nat → Prop) : Prop := ∃ v, o = some (.ref v) ∧ Q v
theorem xI_s (v : Int32) (Q : Int32 → Prop) : xI (some (.int v)) Q ↔ Q v := by simp [xI]
theorem xL_s (v : Int64) (Q : Int64 → Prop) : xL (some (.long v)) Q ↔ Q v := by simp [xL]
theorem xF_s (v : Nat) (Q : Nat → Prop) : xF (some (.ref v)) Q ↔ Q v := by simp [xF]
def rdI (h : Hp) (r ci k : Nat) (Q : Int32 → Prop) : Prop := ∃ v, hO h r ci k = some (.int v) ∧ Q v
def rdR (h : Hp) (r ci k : Nat) (Q : Nat → Prop) : Prop := ∃ v, hO h r ci k = some (.ref v) ∧ Q v
/-- an index within a row of n -/
def okI (i : Int32) (n : Nat) : Prop := ¬ (i < 0 ∨ n ≤ i.toNatClampNeg)
def rdA (h : Hp) (r t : Nat) (j : Int32) (Q : Int32 → Prop) : Prop := ∃ w, hAI h r t = some w ∧ okI j w.1 ∧ Q (w.2 j.toNatClampNeg)
def rdB (h : Hp) (r : Nat) (j : Int32) (Q : Int64 → Prop) : Prop := ∃ w, hAL h r = some w ∧ okI j w.1 ∧ Q (w.2 j.toNatClampNeg)
def rdC (h : Hp) (r : Nat) (j : Int32) (Q : Nat → Prop) : Prop := ∃ w, hAR h r = some w ∧ okI j w.1 ∧ ∃ z, w.2 j.toNatClampNeg = some z ∧ Q z
def rdN (h : Hp) (r t : Nat) (Q : Int32 → Prop) : Prop := ∃ n, hLn h r t = some n ∧ Q (Int32.ofNat n)
def wrF (h : Hp) (r ci k : Nat) (v : Value) (Q : Hp → Prop) : Prop := ∃ h3, hPut h r ci k v = some h3 ∧ Q h3
def wrA (h : Hp) (r t : Nat) (j x : Int32) (Q : Hp → Prop) : Prop := ∃ h3, hAst h r t j x = some h3 ∧ Q h3
def wrB (h : Hp) (r : Nat) (j : Int32) (x : Int64) (Q : Hp → Prop) : Prop := ∃ h3, hAstL h r j x = some h3 ∧ Q h3
def bkT (n : Nat) (r : Rs) (l : Ev) (K : Ev → Prop) : Prop := K (if r.1 = 0 then l.take n else l)
def tkT (n : Nat) (l : Ev) (K : Ev → Prop) : Prop := K (l.take n)
theorem wD_eq {D : Dn} {as : Ev} {h : Hp} {r : Option Value} {h' : Hp} (e : D as h = some (r, h')) (Q : Option Value → Hp → Prop) : wD D as h Q ↔ Q r h' := by
  constructor
  · rintro ⟨r1, h1, e1, q⟩
    rw [e] at e1
    cases e1
    exact q
  · exact fun q => ⟨r, h', e, q⟩
theorem wD_mono {D : Dn} {as : Ev} {h : Hp} {P Q : Option Value → Hp → Prop} (hp : wD D as h P) (hq : ∀ r h', P r h' → Q r h') : wD D as h Q := by
  obtain ⟨r, h', e, p⟩ := hp
  exact ⟨r, h', e, hq r h' p⟩
theorem wS_mono {f : Sm} {ls : Ev} {h : Hp} {P Q : Rs → Ev → Hp → Prop} (hp : wS f ls h P) (hq : ∀ r l h', P r l h' → Q r l h') : wS f ls h Q := by
  obtain ⟨r, l, h', e, p⟩ := hp
  exact ⟨r, l, h', e, hq r l h' p⟩
theorem wE_mono {α : Type} {f : Xp α} {ls : Ev} {h : Hp} {P Q : α → Hp → Prop} (hp : wE f ls h P) (hq : ∀ r h', P r h' → Q r h') : wE f ls h Q := by
  obtain ⟨r, h', e, p⟩ := hp
  exact ⟨r, h', e, hq r h' p⟩
section WER
variable {α β γ : Type} {ls : Ev} {h : Hp}
theorem wE_kI (v : Int32) (Q : Int32 → Hp → Prop) : wE (kI v) ls h Q ↔ Q v h := by simp [wE, kI]
theorem wE_kL (v : Int64) (Q : Int64 → Hp → Prop) : wE (kL v) ls h Q ↔ Q v h := by simp [wE, kL]
theorem wE_vI (k : Nat) (Q : Int32 → Hp → Prop) : wE (vI k) ls h Q ↔ ∃ v, ls[k]? = some (.int v) ∧ Q v h := by
  constructor
  · rintro ⟨v, h', e, q⟩
    unfold vI at e
    split at e
    · cases e; exact ⟨_, by assumption, q⟩
    · cases e
  · rintro ⟨v, e, q⟩
    exact ⟨v, h, by unfold vI; rw [e], q⟩
theorem wE_vL (k : Nat) (Q : Int64 → Hp → Prop) : wE (vL k) ls h Q ↔ ∃ v, ls[k]? = some (.long v) ∧ Q v h := by
  constructor
  · rintro ⟨v, h', e, q⟩
    unfold vL at e
    split at e
    · cases e; exact ⟨_, by assumption, q⟩
    · cases e
  · rintro ⟨v, e, q⟩
    exact ⟨v, h, by unfold vL; rw [e], q⟩
theorem wE_vR (k : Nat) (Q : Nat → Hp → Prop) : wE (vR k) ls h Q ↔ ∃ v, ls[k]? = some (.ref v) ∧ Q v h := by
  constructor
  · rintro ⟨v, h', e, q⟩
    unfold vR at e
    split at e
    · cases e; exact ⟨_, by assumption, q⟩
    · cases e
  · rintro ⟨v, e, q⟩
    exact ⟨v, h, by unfold vR; rw [e], q⟩
theorem wE_o1 (f : α → β) (a : Xp α) (Q : β → Hp → Prop) : wE (o1 f a) ls h Q ↔ wE a ls h fun x h1 => Q (f x) h1 := by
  constructor
  · rintro ⟨v, h', e, q⟩
    obtain ⟨x, hx, e⟩ := bnd e
    cases e
    exact ⟨x.1, x.2, hx, q⟩
  · rintro ⟨x, h1, hx, q⟩
    exact ⟨_, _, by simp [o1, hx], q⟩
theorem wE_o2 (f : α → β → γ) (a : Xp α) (b : Xp β) (Q : γ → Hp → Prop) : wE (o2 f a b) ls h Q ↔ wE a ls h fun x h1 => wE b ls h1 fun y h2 => Q (f x y) h2 := by
  constructor
  · rintro ⟨v, h', e, q⟩
    obtain ⟨x, hx, e⟩ := bnd e
    obtain ⟨y, hy, e⟩ := bnd e
    cases e
    exact ⟨x.1, x.2, hx, y.1, y.2, hy, q⟩
  · rintro ⟨x, h1, hx, y, h2, hy, q⟩
    exact ⟨_, _, by simp [o2, hx, hy], q⟩
theorem wE_oD (a b : Xp Int32) (Q : Int32 → Hp → Prop) : wE (oD a b) ls h Q ↔ wE a ls h fun x h1 => wE b ls h1 fun y h2 => y ≠ 0 ∧ Q (x / y) h2 := by
  constructor
  · rintro ⟨v, h', e, q⟩
    obtain ⟨x, hx, e⟩ := bnd e
    obtain ⟨y, hy, e⟩ := bnd e
    split at e
    · cases e
    · rename_i hn
      cases e
      exact ⟨x.1, x.2, hx, y.1, y.2, hy, hn, q⟩
  · rintro ⟨x, h1, hx, y, h2, hy, hn, q⟩
    exact ⟨_, _, by simp [oD, hx, hy, hn], q⟩
theorem wE_oR (a b : Xp Int32) (Q : Int32 → Hp → Prop) : wE (oR a b) ls h Q ↔ wE a ls h fun x h1 => wE b ls h1 fun y h2 => y ≠ 0 ∧ Q (x - x / y * y) h2 := by
  constructor
  · rintro ⟨v, h', e, q⟩
    obtain ⟨x, hx, e⟩ := bnd e
    obtain ⟨y, hy, e⟩ := bnd e
    split at e
    · cases e
    · rename_i hn
      cases e
      exact ⟨x.1, x.2, hx, y.1, y.2, hy, hn, q⟩
  · rintro ⟨x, h1, hx, y, h2, hy, hn, q⟩
    exact ⟨_, _, by simp [oR, hx, hy, hn], q⟩
theorem wE_gI (ci k : Nat) (o : Xp Nat) (Q : Int32 → Hp → Prop) : wE (gI ci k o) ls h Q ↔ wE o ls h fun r h1 => rdI h1 r ci k fun v => Q v h1 := by
  constructor
  · rintro ⟨v, h', e, q⟩
    obtain ⟨x, hx, e⟩ := bnd e
    split at e
    · cases e; exact ⟨x.1, x.2, hx, _, by assumption, q⟩
    · cases e
  · rintro ⟨x, h1, hx, v, hv, q⟩
    exact ⟨v, h1, by simp [gI, hx, hv], q⟩
theorem wE_gR (ci k : Nat) (o : Xp Nat) (Q : Nat → Hp → Prop) : wE (gR ci k o) ls h Q ↔ wE o ls h fun r h1 => rdR h1 r ci k fun v => Q v h1 := by
  constructor
  · rintro ⟨v, h', e, q⟩
    obtain ⟨x, hx, e⟩ := bnd e
    split at e
    · cases e; exact ⟨x.1, x.2, hx, _, by assumption, q⟩
    · cases e
  · rintro ⟨x, h1, hx, v, hv, q⟩
    exact ⟨v, h1, by simp [gR, hx, hv], q⟩
theorem okI_ii {k : Int} {n : Nat} (h0 : 0 ≤ k) (h1 : k < n) (hn : n ≤ 100000) : okI (ii k) n := by
  unfold okI
  rw [ii_zero, ii_lt (by omega) (by omega) (by omega) (by omega), ii_nat (by omega) (by omega)]
  omega
theorem wE_aI (t : Nat) (a : Xp Nat) (i : Xp Int32) (Q : Int32 → Hp → Prop) : wE (aI t a i) ls h Q ↔ wE a ls h fun r h1 => wE i ls h1 fun j h2 => rdA h2 r t j fun v => Q v h2 := by
  constructor
  · rintro ⟨v, h', e, q⟩
    obtain ⟨x, hx, e⟩ := bnd e
    obtain ⟨y, hy, e⟩ := bnd e
    obtain ⟨w, hw, e⟩ := bnd e
    split at e
    · rename_i hin; cases e; exact ⟨x.1, x.2, hx, y.1, y.2, hy, w, hw, hin, q⟩
    · cases e
  · rintro ⟨x, h1, hx, y, h2, hy, w, hw, hin, q⟩
    have hin : ¬ (y < 0 ∨ w.1 ≤ y.toNatClampNeg) := hin
    exact ⟨_, _, by simp only [aI, hx, hy, hw, Option.bind_some]; rw [if_pos hin], q⟩
theorem wE_aL (a : Xp Nat) (i : Xp Int32) (Q : Int64 → Hp → Prop) : wE (aL a i) ls h Q ↔ wE a ls h fun r h1 => wE i ls h1 fun j h2 => rdB h2 r j fun v => Q v h2 := by
  constructor
  · rintro ⟨v, h', e, q⟩
    obtain ⟨x, hx, e⟩ := bnd e
    obtain ⟨y, hy, e⟩ := bnd e
    obtain ⟨w, hw, e⟩ := bnd e
    split at e
    · rename_i hin; cases e; exact ⟨x.1, x.2, hx, y.1, y.2, hy, w, hw, hin, q⟩
    · cases e
  · rintro ⟨x, h1, hx, y, h2, hy, w, hw, hin, q⟩
    have hin : ¬ (y < 0 ∨ w.1 ≤ y.toNatClampNeg) := hin
    exact ⟨_, _, by simp only [aL, hx, hy, hw, Option.bind_some]; rw [if_pos hin], q⟩
theorem wE_aR (a : Xp Nat) (i : Xp Int32) (Q : Nat → Hp → Prop) : wE (aR a i) ls h Q ↔ wE a ls h fun r h1 => wE i ls h1 fun j h2 => rdC h2 r j fun z => Q z h2 := by
  constructor
  · rintro ⟨v, h', e, q⟩
    obtain ⟨x, hx, e⟩ := bnd e
    obtain ⟨y, hy, e⟩ := bnd e
    obtain ⟨w, hw, e⟩ := bnd e
    split at e
    · rename_i hin
      obtain ⟨z, hz, e⟩ := bnd e
      cases e
      exact ⟨x.1, x.2, hx, y.1, y.2, hy, w, hw, hin, _, hz, q⟩
    · cases e
  · rintro ⟨x, h1, hx, y, h2, hy, w, hw, hin, _, hz, q⟩
    have hin : ¬ (y < 0 ∨ w.1 ≤ y.toNatClampNeg) := hin
    exact ⟨_, _, by simp only [aR, hx, hy, hw, Option.bind_some]; rw [if_pos hin, hz]; rfl, q⟩
theorem wE_lnX (t : Nat) (a : Xp Nat) (Q : Int32 → Hp → Prop) : wE (lnX t a) ls h Q ↔ wE a ls h fun r h1 => rdN h1 r t fun v => Q v h1 := by
  constructor
  · rintro ⟨v, h', e, q⟩
    obtain ⟨x, hx, e⟩ := bnd e
    obtain ⟨n, hn, e⟩ := bnd e
    cases e
    exact ⟨x.1, x.2, hx, n, hn, q⟩
  · rintro ⟨x, h1, hx, n, hn, q⟩
    exact ⟨_, _, by simp [lnX, hx, hn], q⟩
theorem wE_iX (c : Xp Bool) (a b : Xp α) (Q : α → Hp → Prop) : wE (iX c a b) ls h Q ↔ wE c ls h fun t h1 => if t = true then wE a ls h1 Q else wE b ls h1 Q := by
  constructor
  · rintro ⟨v, h', e, q⟩
    obtain ⟨x, hx, e⟩ := bnd e
    refine ⟨x.1, x.2, hx, ?_⟩
    split at e
    · rename_i hc; rw [if_pos hc]; exact ⟨v, h', e, q⟩
    · rename_i hc; rw [if_neg hc]; exact ⟨v, h', e, q⟩
  · rintro ⟨x, h1, hx, q⟩
    split at q
    · rename_i hc; obtain ⟨v, h', e, q⟩ := q; exact ⟨v, h', by simp only [iX, hx, Option.bind_some]; rw [if_pos hc]; exact e, q⟩
    · rename_i hc; obtain ⟨v, h', e, q⟩ := q; exact ⟨v, h', by simp only [iX, hx, Option.bind_some]; rw [if_neg hc]; exact e, q⟩
theorem wE_bX (c : Xp Bool) (Q : Int32 → Hp → Prop) : wE (bX c) ls h Q ↔ wE c ls h fun t h1 => Q (if t = true then 1 else 0) h1 := by
  constructor
  · rintro ⟨v, h', e, q⟩
    obtain ⟨x, hx, e⟩ := bnd e
    cases e
    exact ⟨x.1, x.2, hx, q⟩
  · rintro ⟨x, h1, hx, q⟩
    exact ⟨_, _, by simp only [bX, hx, Option.bind_some], q⟩
theorem wE_cAnd (a b : Xp Bool) (Q : Bool → Hp → Prop) : wE (cAnd a b) ls h Q ↔ wE a ls h fun t h1 => if t = true then wE b ls h1 Q else Q false h1 := by
  constructor
  · rintro ⟨v, h', e, q⟩
    obtain ⟨x, hx, e⟩ := bnd e
    refine ⟨x.1, x.2, hx, ?_⟩
    split at e
    · rename_i hc; rw [if_pos hc]; exact ⟨v, h', e, q⟩
    · rename_i hc; rw [if_neg hc]; cases e; exact q
  · rintro ⟨x, h1, hx, q⟩
    split at q
    · rename_i hc; obtain ⟨v, h', e, q⟩ := q; exact ⟨v, h', by simp only [cAnd, hx, Option.bind_some]; rw [if_pos hc]; exact e, q⟩
    · rename_i hc; exact ⟨false, h1, by simp only [cAnd, hx, Option.bind_some]; rw [if_neg hc], q⟩
theorem wE_cOr (a b : Xp Bool) (Q : Bool → Hp → Prop) : wE (cOr a b) ls h Q ↔ wE a ls h fun t h1 => if t = true then Q true h1 else wE b ls h1 Q := by
  constructor
  · rintro ⟨v, h', e, q⟩
    obtain ⟨x, hx, e⟩ := bnd e
    refine ⟨x.1, x.2, hx, ?_⟩
    split at e
    · rename_i hc; rw [if_pos hc]; cases e; exact q
    · rename_i hc; rw [if_neg hc]; exact ⟨v, h', e, q⟩
  · rintro ⟨x, h1, hx, q⟩
    split at q
    · rename_i hc; exact ⟨true, h1, by simp only [cOr, hx, Option.bind_some]; rw [if_pos hc], q⟩
    · rename_i hc; obtain ⟨v, h', e, q⟩ := q; exact ⟨v, h', by simp only [cOr, hx, Option.bind_some]; rw [if_neg hc]; exact e, q⟩
theorem wE_cNot (a : Xp Bool) (Q : Bool → Hp → Prop) : wE (cNot a) ls h Q ↔ wE a ls h fun t h1 => Q (!t) h1 := by
  constructor
  · rintro ⟨v, h', e, q⟩
    obtain ⟨x, hx, e⟩ := bnd e
    cases e
    exact ⟨x.1, x.2, hx, q⟩
  · rintro ⟨x, h1, hx, q⟩
    exact ⟨_, _, by simp [cNot, hx], q⟩
theorem wE_asV (ι : α → Value) (a : Xp α) (Q : Value → Hp → Prop) : wE (asV ι a) ls h Q ↔ wE a ls h fun x h1 => Q (ι x) h1 := by
  constructor
  · rintro ⟨v, h', e, q⟩
    obtain ⟨x, hx, e⟩ := bnd e
    cases e
    exact ⟨x.1, x.2, hx, q⟩
  · rintro ⟨x, h1, hx, q⟩
    exact ⟨_, _, by simp [asV, hx], q⟩
theorem wA_nil (Q : List Value → Hp → Prop) : wA [] ls h Q ↔ Q [] h := by
  constructor
  · rintro ⟨v, h', e, q⟩
    have e : some (([] : List Value), h) = some (v, h') := e
    cases e
    exact q
  · exact fun q => ⟨[], h, rfl, q⟩
theorem wA_cons (f : Xp Value) (fs : List (Xp Value)) (Q : List Value → Hp → Prop) : wA (f :: fs) ls h Q ↔ wE f ls h fun x h1 => wA fs ls h1 fun xs h2 => Q (x :: xs) h2 := by
  constructor
  · rintro ⟨v, h', e, q⟩
    obtain ⟨x, hx, e⟩ := bnd e
    obtain ⟨y, hy, e⟩ := bnd e
    cases e
    exact ⟨x.1, x.2, hx, y.1, y.2, hy, q⟩
  · rintro ⟨x, h1, hx, y, h2, hy, q⟩
    exact ⟨_, _, by simp [evs, hx, hy], q⟩
theorem wE_cI (D : Dn) (fs : List (Xp Value)) (Q : Int32 → Hp → Prop) : wE (cI D fs) ls h Q ↔ wA fs ls h fun vs h1 => wD D vs h1 fun r h2 => xI r fun v => Q v h2 := by
  constructor
  · rintro ⟨v, h', e, q⟩
    obtain ⟨x, hx, e⟩ := bnd e
    obtain ⟨y, hy, e⟩ := bnd e
    split at e
    · cases e; exact ⟨x.1, x.2, hx, y.1, y.2, hy, _, by assumption, q⟩
    · cases e
  · rintro ⟨x, h1, hx, y, h2, hy, v, rfl, q⟩
    exact ⟨v, h2, by simp [cI, hx, hy], q⟩
theorem wE_cL (D : Dn) (fs : List (Xp Value)) (Q : Int64 → Hp → Prop) : wE (cL D fs) ls h Q ↔ wA fs ls h fun vs h1 => wD D vs h1 fun r h2 => xL r fun v => Q v h2 := by
  constructor
  · rintro ⟨v, h', e, q⟩
    obtain ⟨x, hx, e⟩ := bnd e
    obtain ⟨y, hy, e⟩ := bnd e
    split at e
    · cases e; exact ⟨x.1, x.2, hx, y.1, y.2, hy, _, by assumption, q⟩
    · cases e
  · rintro ⟨x, h1, hx, y, h2, hy, v, rfl, q⟩
    exact ⟨v, h2, by simp [cL, hx, hy], q⟩
theorem wE_cR (D : Dn) (fs : List (Xp Value)) (Q : Nat → Hp → Prop) : wE (cR D fs) ls h Q ↔ wA fs ls h fun vs h1 => wD D vs h1 fun r h2 => xF r fun v => Q v h2 := by
  constructor
  · rintro ⟨v, h', e, q⟩
    obtain ⟨x, hx, e⟩ := bnd e
    obtain ⟨y, hy, e⟩ := bnd e
    split at e
    · cases e; exact ⟨x.1, x.2, hx, y.1, y.2, hy, _, by assumption, q⟩
    · cases e
  · rintro ⟨x, h1, hx, y, h2, hy, v, rfl, q⟩
    exact ⟨v, h2, by simp [cR, hx, hy], q⟩
theorem wE_chX (i : Xp Int32) (Q : Int32 → Hp → Prop) : wE (chX i) ls h Q ↔ wE i ls h fun j h1 => okI j 160 ∧ Q ((sxB.getD 0 []).getD j.toNatClampNeg 0) h1 := by
  constructor
  · rintro ⟨v, h', e, q⟩
    obtain ⟨x, hx, e⟩ := bnd e
    split at e
    · rename_i hin; cases e; exact ⟨x.1, x.2, hx, hin, q⟩
    · cases e
  · rintro ⟨x, h1, hx, hin, q⟩
    have hin : ¬ (x < 0 ∨ 160 ≤ x.toNatClampNeg) := hin
    exact ⟨_, _, by simp only [chX, hx, Option.bind_some]; rw [if_pos hin], q⟩
theorem wE_idX (c : Xp Int32) (Q : Int32 → Hp → Prop) : wE (idX c) ls h Q ↔ wE c ls h fun x h1 => Q (if x < 0 ∨ ii 255 < x then ii (-1) else ixOf x.toInt8.toInt32 0 (sxB.getD 1 [])) h1 := by
  constructor
  · rintro ⟨v, h', e, q⟩
    obtain ⟨x, hx, e⟩ := bnd e
    cases e
    exact ⟨x.1, x.2, hx, q⟩
  · rintro ⟨x, h1, hx, q⟩
    exact ⟨_, _, by simp only [idX, hx, Option.bind_some], q⟩
end WER
section WSR
variable {ls : Ev} {h : Hp}
theorem wS_seq (a b : Sm) (Q : Rs → Ev → Hp → Prop) : wS (sSeq a b) ls h Q ↔ wS a ls h fun r l h1 => if r.1 = 0 then wS b l h1 Q else Q r l h1 := by
  constructor
  · rintro ⟨r, l, h', e, q⟩
    obtain ⟨x, hx, e⟩ := bnd e
    refine ⟨x.1, x.2.1, x.2.2, hx, ?_⟩
    split at e
    · rename_i hc; rw [if_pos hc]; exact ⟨r, l, h', e, q⟩
    · rename_i hc; rw [if_neg hc]; cases e; exact q
  · rintro ⟨r, l, h1, hx, q⟩
    split at q
    · rename_i hc; obtain ⟨r', l', h', e, q⟩ := q; exact ⟨r', l', h', by simp only [sSeq, hx, Option.bind_some]; rw [if_pos hc]; exact e, q⟩
    · rename_i hc; exact ⟨r, l, h1, by simp only [sSeq, hx, Option.bind_some]; rw [if_neg hc], q⟩
theorem wS_skip (Q : Rs → Ev → Hp → Prop) : wS sSkip ls h Q ↔ Q (0, none) ls h := by simp [wS, sSkip]
theorem wS_brk (n : Nat) (Q : Rs → Ev → Hp → Prop) : wS (sBrk n) ls h Q ↔ tkT n ls fun l => Q (1, none) l h := by simp [wS, sBrk, tkT]
theorem wS_cnt (n : Nat) (Q : Rs → Ev → Hp → Prop) : wS (sCnt n) ls h Q ↔ tkT n ls fun l => Q (2, none) l h := by simp [wS, sCnt, tkT]
theorem wS_retV (Q : Rs → Ev → Hp → Prop) : wS sRetV ls h Q ↔ Q (3, none) ls h := by simp [wS, sRetV]
theorem wS_decl (e : Xp Value) (Q : Rs → Ev → Hp → Prop) : wS (sDecl e) ls h Q ↔ wE e ls h fun v h1 => Q (0, none) (ls ++ [v]) h1 := by
  constructor
  · rintro ⟨r, l, h', e1, q⟩
    obtain ⟨x, hx, e1⟩ := bnd e1
    cases e1
    exact ⟨x.1, x.2, hx, q⟩
  · rintro ⟨v, h1, hx, q⟩
    exact ⟨_, _, _, by simp only [sDecl, hx, Option.bind_some], q⟩
theorem wS_set (k : Nat) (e : Xp Value) (Q : Rs → Ev → Hp → Prop) : wS (sSet k e) ls h Q ↔ wE e ls h fun v h1 => Q (0, none) (ls.set k v) h1 := by
  constructor
  · rintro ⟨r, l, h', e1, q⟩
    obtain ⟨x, hx, e1⟩ := bnd e1
    cases e1
    exact ⟨x.1, x.2, hx, q⟩
  · rintro ⟨v, h1, hx, q⟩
    exact ⟨_, _, _, by simp only [sSet, hx, Option.bind_some], q⟩
theorem wS_inc (k : Nat) (c : Int32) (Q : Rs → Ev → Hp → Prop) : wS (sInc k c) ls h Q ↔ ∃ v, ls[k]? = some (.int v) ∧ Q (0, none) (ls.set k (.int (v + c))) h := by
  constructor
  · rintro ⟨r, l, h', e1, q⟩
    unfold sInc at e1
    split at e1
    · cases e1; exact ⟨_, by assumption, q⟩
    · cases e1
  · rintro ⟨v, e, q⟩
    exact ⟨_, _, _, by unfold sInc; rw [e], q⟩
theorem wS_put (ci k : Nat) (o : Xp Nat) (e : Xp Value) (Q : Rs → Ev → Hp → Prop) : wS (sPut ci k o e) ls h Q ↔ wE o ls h fun r h1 => wE e ls h1 fun v h2 => wrF h2 r ci k v fun h3 => Q (0, none) ls h3 := by
  constructor
  · rintro ⟨r, l, h', e1, q⟩
    obtain ⟨x, hx, e1⟩ := bnd e1
    obtain ⟨y, hy, e1⟩ := bnd e1
    obtain ⟨z, hz, e1⟩ := bnd e1
    cases e1
    exact ⟨x.1, x.2, hx, y.1, y.2, hy, _, hz, q⟩
  · rintro ⟨x, h1, hx, y, h2, hy, _, hz, q⟩
    exact ⟨_, _, _, by simp only [sPut, hx, hy, hz, Option.bind_some], q⟩
theorem wS_putZ (ci k : Nat) (o : Xp Nat) (e : Xp Int32) (Q : Rs → Ev → Hp → Prop) : wS (sPutZ ci k o e) ls h Q ↔ wE o ls h fun r h1 => wE e ls h1 fun v h2 => (v = 0 ∨ v = 1) ∧ wrF h2 r ci k (.int v) fun h3 => Q (0, none) ls h3 := by
  constructor
  · rintro ⟨r, l, h', e1, q⟩
    obtain ⟨x, hx, e1⟩ := bnd e1
    obtain ⟨y, hy, e1⟩ := bnd e1
    split at e1
    · rename_i hc
      obtain ⟨z, hz, e1⟩ := bnd e1
      cases e1
      exact ⟨x.1, x.2, hx, y.1, y.2, hy, hc, _, hz, q⟩
    · cases e1
  · rintro ⟨x, h1, hx, y, h2, hy, hc, _, hz, q⟩
    exact ⟨_, _, _, by simp only [sPutZ, hx, hy, Option.bind_some]; rw [if_pos hc, hz]; rfl, q⟩
theorem wS_fop (ci k : Nat) (o : Xp Nat) (f : Int32 → Int32 → Int32) (e : Xp Int32) (Q : Rs → Ev → Hp → Prop) : wS (sFop ci k o f e) ls h Q ↔ wE o ls h fun r h1 => rdI h1 r ci k fun x => wE e ls h1 fun y h2 => wrF h2 r ci k (.int (f x y)) fun h3 => Q (0, none) ls h3 := by
  constructor
  · rintro ⟨r, l, h', e1, q⟩
    obtain ⟨x, hx, e1⟩ := bnd e1
    split at e1
    · obtain ⟨y, hy, e1⟩ := bnd e1
      obtain ⟨z, hz, e1⟩ := bnd e1
      cases e1
      exact ⟨x.1, x.2, hx, _, by assumption, y.1, y.2, hy, _, hz, q⟩
    · cases e1
  · rintro ⟨x, h1, hx, w, hw, y, h2, hy, _, hz, q⟩
    exact ⟨_, _, _, by simp only [sFop, hx, hw, hy, hz, Option.bind_some], q⟩
theorem wS_ast (t : Nat) (a : Xp Nat) (i e : Xp Int32) (Q : Rs → Ev → Hp → Prop) : wS (sAst t a i e) ls h Q ↔ wE a ls h fun r h1 => wE i ls h1 fun j h2 => wE e ls h2 fun x h3 => wrA h3 r t j (nrw t x) fun h4 => Q (0, none) ls h4 := by
  constructor
  · rintro ⟨r, l, h', e1, q⟩
    obtain ⟨x, hx, e1⟩ := bnd e1
    obtain ⟨y, hy, e1⟩ := bnd e1
    obtain ⟨w, hw, e1⟩ := bnd e1
    obtain ⟨z, hz, e1⟩ := bnd e1
    cases e1
    exact ⟨x.1, x.2, hx, y.1, y.2, hy, w.1, w.2, hw, _, hz, q⟩
  · rintro ⟨x, h1, hx, y, h2, hy, w, h3, hw, _, hz, q⟩
    exact ⟨_, _, _, by simp only [sAst, hx, hy, hw, hz, Option.bind_some], q⟩
theorem wS_astL (a : Xp Nat) (i : Xp Int32) (e : Xp Int64) (Q : Rs → Ev → Hp → Prop) : wS (sAstL a i e) ls h Q ↔ wE a ls h fun r h1 => wE i ls h1 fun j h2 => wE e ls h2 fun x h3 => wrB h3 r j x fun h4 => Q (0, none) ls h4 := by
  constructor
  · rintro ⟨r, l, h', e1, q⟩
    obtain ⟨x, hx, e1⟩ := bnd e1
    obtain ⟨y, hy, e1⟩ := bnd e1
    obtain ⟨w, hw, e1⟩ := bnd e1
    obtain ⟨z, hz, e1⟩ := bnd e1
    cases e1
    exact ⟨x.1, x.2, hx, y.1, y.2, hy, w.1, w.2, hw, _, hz, q⟩
  · rintro ⟨x, h1, hx, y, h2, hy, w, h3, hw, _, hz, q⟩
    exact ⟨_, _, _, by simp only [sAstL, hx, hy, hw, hz, Option.bind_some], q⟩
theorem wS_aop (t : Nat) (a : Xp Nat) (i : Xp Int32) (f : Int32 → Int32 → Int32) (e : Xp Int32) (Q : Rs → Ev → Hp → Prop) : wS (sAop t a i f e) ls h Q ↔ wE a ls h fun r h1 => wE i ls h1 fun j h2 => rdA h2 r t j fun y => wE e ls h2 fun x h3 => wrA h3 r t j (nrw t (f y x)) fun h4 => Q (0, none) ls h4 := by
  constructor
  · rintro ⟨r, l, h', e1, q⟩
    obtain ⟨x, hx, e1⟩ := bnd e1
    obtain ⟨y, hy, e1⟩ := bnd e1
    obtain ⟨u, hu, e1⟩ := bnd e1
    split at e1
    · rename_i hin
      obtain ⟨w, hw, e1⟩ := bnd e1
      obtain ⟨z, hz, e1⟩ := bnd e1
      cases e1
      exact ⟨x.1, x.2, hx, y.1, y.2, hy, u, hu, hin, w.1, w.2, hw, _, hz, q⟩
    · cases e1
  · rintro ⟨x, h1, hx, y, h2, hy, u, hu, hin, w, h3, hw, _, hz, q⟩
    have hin : ¬ (y < 0 ∨ u.1 ≤ y.toNatClampNeg) := hin
    exact ⟨_, _, _, by simp only [sAop, hx, hy, hu, Option.bind_some]; rw [if_pos hin, hw]; simp only [Option.bind_some, hz], q⟩
theorem wS_if (c : Xp Bool) (a b : Sm) (Q : Rs → Ev → Hp → Prop) : wS (sIf c a b) ls h Q ↔ wE c ls h fun t h1 => if t = true then wS a ls h1 Q else wS b ls h1 Q := by
  constructor
  · rintro ⟨r, l, h', e, q⟩
    obtain ⟨x, hx, e⟩ := bnd e
    refine ⟨x.1, x.2, hx, ?_⟩
    split at e
    · rename_i hc; rw [if_pos hc]; exact ⟨r, l, h', e, q⟩
    · rename_i hc; rw [if_neg hc]; exact ⟨r, l, h', e, q⟩
  · rintro ⟨x, h1, hx, q⟩
    split at q
    · rename_i hc; obtain ⟨r, l, h', e, q⟩ := q; exact ⟨r, l, h', by simp only [sIf, hx, Option.bind_some]; rw [if_pos hc]; exact e, q⟩
    · rename_i hc; obtain ⟨r, l, h', e, q⟩ := q; exact ⟨r, l, h', by simp only [sIf, hx, Option.bind_some]; rw [if_neg hc]; exact e, q⟩
theorem wS_blk (n : Nat) (f : Sm) (Q : Rs → Ev → Hp → Prop) : wS (sBlk n f) ls h Q ↔ wS f ls h fun r l h1 => bkT n r l fun l' => Q r l' h1 := by
  constructor
  · rintro ⟨r, l, h', e, q⟩
    obtain ⟨x, hx, e⟩ := bnd e
    cases e
    exact ⟨x.1, x.2.1, x.2.2, hx, q⟩
  · rintro ⟨r, l, h1, hx, q⟩
    exact ⟨_, _, _, by simp only [sBlk, hx, Option.bind_some], q⟩
theorem wS_ret (e : Xp Value) (Q : Rs → Ev → Hp → Prop) : wS (sRet e) ls h Q ↔ wE e ls h fun v h1 => Q (3, some v) ls h1 := by
  constructor
  · rintro ⟨r, l, h', e1, q⟩
    obtain ⟨x, hx, e1⟩ := bnd e1
    cases e1
    exact ⟨x.1, x.2, hx, q⟩
  · rintro ⟨v, h1, hx, q⟩
    exact ⟨_, _, _, by simp only [sRet, hx, Option.bind_some], q⟩
theorem wS_retZ (e : Xp Int32) (Q : Rs → Ev → Hp → Prop) : wS (sRetZ e) ls h Q ↔ wE e ls h fun v h1 => (v = 0 ∨ v = 1) ∧ Q (3, some (.int v)) ls h1 := by
  constructor
  · rintro ⟨r, l, h', e1, q⟩
    obtain ⟨x, hx, e1⟩ := bnd e1
    split at e1
    · rename_i hc; cases e1; exact ⟨x.1, x.2, hx, hc, q⟩
    · cases e1
  · rintro ⟨v, h1, hx, hc, q⟩
    exact ⟨_, _, _, by simp only [sRetZ, hx, Option.bind_some]; rw [if_pos hc], q⟩
theorem wS_call (D : Dn) (fs : List (Xp Value)) (Q : Rs → Ev → Hp → Prop) : wS (sCall D fs) ls h Q ↔ wA fs ls h fun vs h1 => wD D vs h1 fun r h2 => r = none ∧ Q (0, none) ls h2 := by
  constructor
  · rintro ⟨r, l, h', e, q⟩
    obtain ⟨x, hx, e⟩ := bnd e
    obtain ⟨y, hy, e⟩ := bnd e
    split at e
    · cases e; exact ⟨x.1, x.2, hx, y.1, y.2, hy, by assumption, q⟩
    · cases e
  · rintro ⟨x, h1, hx, y, h2, hy, rfl, q⟩
    exact ⟨_, _, _, by simp only [sCall, hx, hy, Option.bind_some], q⟩
theorem wS_sw (e : Xp Int32) (T : List (Int32 × Sm)) (d : Sm) (Q : Rs → Ev → Hp → Prop) : wS (sSw e T d) ls h Q ↔ wE e ls h fun v h1 => wS (SwF T d v) ls h1 fun r l h2 => if r.1 = 1 then Q (0, none) l h2 else Q r l h2 := by
  constructor
  · rintro ⟨r, l, h', e1, q⟩
    obtain ⟨x, hx, e1⟩ := bnd e1
    obtain ⟨y, hy, e1⟩ := bnd e1
    refine ⟨x.1, x.2, hx, y.1, y.2.1, y.2.2, hy, ?_⟩
    split at e1
    · rename_i hc; rw [if_pos hc]; cases e1; exact q
    · rename_i hc; rw [if_neg hc]; cases e1; exact q
  · rintro ⟨v, h1, hx, r, l, h2, hy, q⟩
    split at q
    · rename_i hc; exact ⟨_, _, _, by simp only [sSw, hx, hy, Option.bind_some]; rw [if_pos hc], q⟩
    · rename_i hc; exact ⟨_, _, _, by simp only [sSw, hx, hy, Option.bind_some]; rw [if_neg hc], q⟩
theorem wS_cpy (a : Xp Nat) (sp : Xp Int32) (b : Xp Nat) (dp n : Xp Int32) (Q : Rs → Ev → Hp → Prop) : wS (sCpy a sp b dp n) ls h Q ↔ wE a ls h fun x h1 => wE sp ls h1 fun i h2 => wE b ls h2 fun y h3 => wE dp ls h3 fun j h4 => wE n ls h4 fun c h5 => ∃ f g, hAI h5 x 0 = some f ∧ hAI h5 y 0 = some g ∧ (¬ i < 0 ∧ ¬ j < 0 ∧ ¬ c < 0 ∧ i.toNatClampNeg + c.toNatClampNeg ≤ f.1 ∧ j.toNatClampNeg + c.toNatClampNeg ≤ g.1) ∧ Q (0, none) ls (h5.set y (.inl (0, g.1, .inl (va_cpy f.2 g.2 i.toNatClampNeg j.toNatClampNeg c.toNatClampNeg)))) := by
  constructor
  · rintro ⟨r, l, h', e1, q⟩
    obtain ⟨q1, h1, e1⟩ := bnd e1
    obtain ⟨q2, h2, e1⟩ := bnd e1
    obtain ⟨q3, h3, e1⟩ := bnd e1
    obtain ⟨q4, h4, e1⟩ := bnd e1
    obtain ⟨q5, h5, e1⟩ := bnd e1
    obtain ⟨f, hf, e1⟩ := bnd e1
    obtain ⟨g, hg, e1⟩ := bnd e1
    split at e1
    · rename_i hc
      cases e1
      exact ⟨q1.1, q1.2, h1, q2.1, q2.2, h2, q3.1, q3.2, h3, q4.1, q4.2, h4, q5.1, q5.2, h5, f, g, hf, hg, hc, q⟩
    · cases e1
  · rintro ⟨x1, h1, e1, x2, h2, e2, x3, h3, e3, x4, h4, e4, x5, h5, e5, f, g, hf, hg, hc, q⟩
    exact ⟨_, _, _, by simp only [sCpy, e1, e2, e3, e4, e5, hf, hg, Option.bind_some]; rw [if_pos hc], q⟩
theorem wD_run (cts : List Nat) (F : Sm) (as : Ev) (Q : Option Value → Hp → Prop) : wD (runS cts F) as h Q ↔ (as.map fun v => v.category) = cts ∧ wS F as h fun r _ h1 => r.1 = 3 ∧ Q r.2 h1 := by
  constructor
  · rintro ⟨r, h', e, q⟩
    unfold runS at e
    split at e
    · rename_i hc
      obtain ⟨x, hx, e⟩ := bnd e
      obtain ⟨⟨n, v⟩, l, h2⟩ := x
      split at e
      · rename_i h3
        have h3 : n = 3 := h3
        subst h3
        cases e
        exact ⟨hc, (3, v), l, h2, hx, rfl, q⟩
      · cases e
    · cases e
  · rintro ⟨hc, ⟨n, v⟩, l, h2, hx, h3, q⟩
    have h3 : n = 3 := h3
    subst h3
    exact ⟨v, h2, by unfold runS; rw [if_pos hc, hx]; rfl, q⟩
theorem wD_mV (ci : Nat) (D : Dn) (as : Ev) (Q : Option Value → Hp → Prop) : wD (mV ci D) as h Q ↔ isO h as ci = true ∧ wD D as h Q := by
  constructor
  · rintro ⟨r, h', e, q⟩
    unfold mV at e
    split at e
    · rename_i hc; exact ⟨hc, r, h', e, q⟩
    · cases e
  · rintro ⟨hc, r, h', e, q⟩
    exact ⟨r, h', by unfold mV; rw [if_pos hc]; exact e, q⟩
end WSR
/-! loops -/
theorem lpN_mono {c : Xp Bool} {b u : Sm} : ∀ {n : Nat} {ls : Ev} {h : Hp} {r : Rs × Ev × Hp}, lpN c b u n ls h = some r → ∀ k, lpN c b u (n + k) ls h = some r
  | 0, ls, h, r, e, k => by cases e
  | n + 1, ls, h, r, e, k => by
    rw [show n + 1 + k = (n + k) + 1 by omega]
    obtain ⟨q, hq, e⟩ := bnd e
    show (c ls h).bind _ = _
    rw [hq]
    show (if q.1 = true then _ else _) = _
    split at e
    · rename_i hc
      rw [if_pos hc]
      obtain ⟨w, hw, e⟩ := bnd e
      rw [hw]
      show (if w.1.1 = 0 ∨ w.1.1 = 2 then _ else _) = _
      split at e
      · rename_i h0
        rw [if_pos h0]
        obtain ⟨x, hx, e⟩ := bnd e
        rw [hx]
        show (if x.1.1 = 0 then _ else _) = _
        split at e
        · rename_i h1
          rw [if_pos h1]
          exact lpN_mono e k
        · cases e
      · rename_i h0
        rw [if_neg h0]
        exact e
    · rename_i hc
      rw [if_neg hc]
      exact e
theorem sWh_of {c : Xp Bool} {b u : Sm} {n : Nat} {ls : Ev} {h : Hp} {r : Rs × Ev × Hp} (e : lpN c b u n ls h = some r) : sWh c b u ls h = some r := by
  have hx : ∃ n, lpN c b u n ls h ≠ none := ⟨n, by rw [e]; simp⟩
  unfold sWh
  rw [dif_pos hx]
  cases e2 : lpN c b u (Classical.choose hx) ls h with
  | none => exact absurd e2 (Classical.choose_spec hx)
  | some r2 =>
    have a := lpN_mono e (Classical.choose hx)
    have b := lpN_mono e2 n
    rw [Nat.add_comm] at b
    rw [a] at b
    exact b.symm
/-- a loop by an invariant over its rounds: I j ls h holds as the round j begins; N rounds at most -/
theorem wS_wh {c : Xp Bool} {b u : Sm} {Q : Rs → Ev → Hp → Prop} (I : Nat → Ev → Hp → Prop) (N : Nat)
    (hs : ∀ j ls h, I j ls h → wE c ls h fun t h1 => if t = true then j < N ∧ wS b ls h1 (fun r l h2 => if r.1 = 0 ∨ r.1 = 2 then wS u l h2 (fun r2 l2 h3 => r2.1 = 0 ∧ I (j + 1) l2 h3) else if r.1 = 1 then Q (0, none) l h2 else Q r l h2) else Q (0, none) ls h1)
    {j : Nat} {ls : Ev} {h : Hp} (h0 : I j ls h) : wS (sWh c b u) ls h Q := by
  have key : ∀ n j ls h, N ≤ j + n → I j ls h → ∃ k r l h', lpN c b u k ls h = some (r, l, h') ∧ Q r l h' := by
    intro n
    induction n with
    | zero =>
      intro j ls h hn hI
      obtain ⟨t, h1, e, q⟩ := hs j ls h hI
      split at q
      · exact absurd q.1 (by omega)
      · rename_i ht
        exact ⟨1, (0, none), ls, h1, by show (c ls h).bind _ = _; rw [e]; show (if t = true then _ else _) = _; rw [if_neg ht], q⟩
    | succ n ih =>
      intro j ls h hn hI
      obtain ⟨t, h1, e, q⟩ := hs j ls h hI
      split at q
      · rename_i ht
        obtain ⟨hj, r, l, h2, eb, q⟩ := q
        split at q
        · rename_i h0
          obtain ⟨r2, l2, h3, eu, h30, q⟩ := q
          obtain ⟨k, r', l', h', ek, qk⟩ := ih (j + 1) l2 h3 (by omega) q
          refine ⟨k + 1, r', l', h', ?_, qk⟩
          show (c ls h).bind _ = _
          rw [e]
          show (if t = true then _ else _) = _
          rw [if_pos ht, eb]
          show (if r.1 = 0 ∨ r.1 = 2 then _ else _) = _
          rw [if_pos h0, eu]
          show (if r2.1 = 0 then _ else _) = _
          rw [if_pos h30]
          exact ek
        · rename_i h0
          split at q
          · rename_i h1'
            refine ⟨1, (0, none), l, h2, ?_, q⟩
            show (c ls h).bind _ = _
            rw [e]
            show (if t = true then _ else _) = _
            rw [if_pos ht, eb]
            show (if r.1 = 0 ∨ r.1 = 2 then _ else _) = _
            rw [if_neg h0]
            show (if r.1 = 1 then _ else _) = _
            rw [if_pos h1']
          · rename_i h1'
            refine ⟨1, r, l, h2, ?_, q⟩
            show (c ls h).bind _ = _
            rw [e]
            show (if t = true then _ else _) = _
            rw [if_pos ht, eb]
            show (if r.1 = 0 ∨ r.1 = 2 then _ else _) = _
            rw [if_neg h0]
            show (if r.1 = 1 then _ else _) = _
            rw [if_neg h1']
      · rename_i ht
        exact ⟨1, (0, none), ls, h1, by show (c ls h).bind _ = _; rw [e]; show (if t = true then _ else _) = _; rw [if_neg ht], q⟩
  obtain ⟨k, r, l, h', ek, qk⟩ := key N j ls h (by omega) h0
  exact ⟨r, l, h', sWh_of ek, qk⟩

/-! The same at locals that stand there. -/
section WIX
variable {h : Hp}
theorem lI_0 {l : Ev} {v : Int32} (Q : Int32 → Hp → Prop) : wE (vI 0) (.int v :: l) h Q ↔ Q v h := ⟨fun ⟨v', h', e, q⟩ => by have e : some (v, h) = some (v', h') := e; cases e; exact q, fun q => ⟨v, h, rfl, q⟩⟩
theorem lL_0 {l : Ev} {v : Int64} (Q : Int64 → Hp → Prop) : wE (vL 0) (.long v :: l) h Q ↔ Q v h := ⟨fun ⟨v', h', e, q⟩ => by have e : some (v, h) = some (v', h') := e; cases e; exact q, fun q => ⟨v, h, rfl, q⟩⟩
theorem lR_0 {l : Ev} {v : Nat} (Q : Nat → Hp → Prop) : wE (vR 0) (.ref v :: l) h Q ↔ Q v h := ⟨fun ⟨v', h', e, q⟩ => by have e : some (v, h) = some (v', h') := e; cases e; exact q, fun q => ⟨v, h, rfl, q⟩⟩
theorem st_0 {x : Value} {l : Ev} (e : Xp Value) (Q : Rs → Ev → Hp → Prop) : wS (sSet 0 e) (x :: l) h Q ↔ wE e (x :: l) h fun v h1 => Q (0, none) (v :: l) h1 := wS_set 0 e Q
theorem in_0 {x : Int32} {l : Ev} (c : Int32) (Q : Rs → Ev → Hp → Prop) : wS (sInc 0 c) (.int x :: l) h Q ↔ Q (0, none) (.int (x + c) :: l) h := (wS_inc 0 c Q).trans ⟨fun ⟨v, e, q⟩ => by have e : some (Value.int x) = some (Value.int v) := e; cases e; exact q, fun q => ⟨x, rfl, q⟩⟩
theorem dc_0 (e : Xp Value) (Q : Rs → Ev → Hp → Prop) : wS (sDecl e) [] h Q ↔ wE e [] h fun v h1 => Q (0, none) [v] h1 := wS_decl e Q
theorem bk_0_0 {x : Option Value} (K : Ev → Prop) : bkT 0 (0, x) [] K ↔ K [] := Iff.rfl
theorem tk_0_0 (K : Ev → Prop) : tkT 0 [] K ↔ K [] := Iff.rfl
theorem bk_0_1 {a0 : Value} {x : Option Value} (K : Ev → Prop) : bkT 0 (0, x) [a0] K ↔ K [] := Iff.rfl
theorem tk_0_1 {a0 : Value} (K : Ev → Prop) : tkT 0 [a0] K ↔ K [] := Iff.rfl
theorem bk_0_2 {a0 a1 : Value} {x : Option Value} (K : Ev → Prop) : bkT 0 (0, x) [a0, a1] K ↔ K [] := Iff.rfl
theorem tk_0_2 {a0 a1 : Value} (K : Ev → Prop) : tkT 0 [a0, a1] K ↔ K [] := Iff.rfl
theorem bk_0_3 {a0 a1 a2 : Value} {x : Option Value} (K : Ev → Prop) : bkT 0 (0, x) [a0, a1, a2] K ↔ K [] := Iff.rfl
theorem tk_0_3 {a0 a1 a2 : Value} (K : Ev → Prop) : tkT 0 [a0, a1, a2] K ↔ K [] := Iff.rfl
theorem bk_0_4 {a0 a1 a2 a3 : Value} {x : Option Value} (K : Ev → Prop) : bkT 0 (0, x) [a0, a1, a2, a3] K ↔ K [] := Iff.rfl
theorem tk_0_4 {a0 a1 a2 a3 : Value} (K : Ev → Prop) : tkT 0 [a0, a1, a2, a3] K ↔ K [] := Iff.rfl
theorem bk_0_5 {a0 a1 a2 a3 a4 : Value} {x : Option Value} (K : Ev → Prop) : bkT 0 (0, x) [a0, a1, a2, a3, a4] K ↔ K [] := Iff.rfl
theorem tk_0_5 {a0 a1 a2 a3 a4 : Value} (K : Ev → Prop) : tkT 0 [a0, a1, a2, a3, a4] K ↔ K [] := Iff.rfl
theorem lI_1 {a0 : Value} {l : Ev} {v : Int32} (Q : Int32 → Hp → Prop) : wE (vI 1) (a0 :: .int v :: l) h Q ↔ Q v h := ⟨fun ⟨v', h', e, q⟩ => by have e : some (v, h) = some (v', h') := e; cases e; exact q, fun q => ⟨v, h, rfl, q⟩⟩
theorem lL_1 {a0 : Value} {l : Ev} {v : Int64} (Q : Int64 → Hp → Prop) : wE (vL 1) (a0 :: .long v :: l) h Q ↔ Q v h := ⟨fun ⟨v', h', e, q⟩ => by have e : some (v, h) = some (v', h') := e; cases e; exact q, fun q => ⟨v, h, rfl, q⟩⟩
theorem lR_1 {a0 : Value} {l : Ev} {v : Nat} (Q : Nat → Hp → Prop) : wE (vR 1) (a0 :: .ref v :: l) h Q ↔ Q v h := ⟨fun ⟨v', h', e, q⟩ => by have e : some (v, h) = some (v', h') := e; cases e; exact q, fun q => ⟨v, h, rfl, q⟩⟩
theorem st_1 {a0 : Value} {x : Value} {l : Ev} (e : Xp Value) (Q : Rs → Ev → Hp → Prop) : wS (sSet 1 e) (a0 :: x :: l) h Q ↔ wE e (a0 :: x :: l) h fun v h1 => Q (0, none) (a0 :: v :: l) h1 := wS_set 1 e Q
theorem in_1 {a0 : Value} {x : Int32} {l : Ev} (c : Int32) (Q : Rs → Ev → Hp → Prop) : wS (sInc 1 c) (a0 :: .int x :: l) h Q ↔ Q (0, none) (a0 :: .int (x + c) :: l) h := (wS_inc 1 c Q).trans ⟨fun ⟨v, e, q⟩ => by have e : some (Value.int x) = some (Value.int v) := e; cases e; exact q, fun q => ⟨x, rfl, q⟩⟩
theorem dc_1 {a0 : Value} (e : Xp Value) (Q : Rs → Ev → Hp → Prop) : wS (sDecl e) [a0] h Q ↔ wE e [a0] h fun v h1 => Q (0, none) [a0, v] h1 := wS_decl e Q
theorem bk_1_1 {a0 : Value} {x : Option Value} (K : Ev → Prop) : bkT 1 (0, x) [a0] K ↔ K [a0] := Iff.rfl
theorem tk_1_1 {a0 : Value} (K : Ev → Prop) : tkT 1 [a0] K ↔ K [a0] := Iff.rfl
theorem bk_1_2 {a0 a1 : Value} {x : Option Value} (K : Ev → Prop) : bkT 1 (0, x) [a0, a1] K ↔ K [a0] := Iff.rfl
theorem tk_1_2 {a0 a1 : Value} (K : Ev → Prop) : tkT 1 [a0, a1] K ↔ K [a0] := Iff.rfl
theorem bk_1_3 {a0 a1 a2 : Value} {x : Option Value} (K : Ev → Prop) : bkT 1 (0, x) [a0, a1, a2] K ↔ K [a0] := Iff.rfl
theorem tk_1_3 {a0 a1 a2 : Value} (K : Ev → Prop) : tkT 1 [a0, a1, a2] K ↔ K [a0] := Iff.rfl
theorem bk_1_4 {a0 a1 a2 a3 : Value} {x : Option Value} (K : Ev → Prop) : bkT 1 (0, x) [a0, a1, a2, a3] K ↔ K [a0] := Iff.rfl
theorem tk_1_4 {a0 a1 a2 a3 : Value} (K : Ev → Prop) : tkT 1 [a0, a1, a2, a3] K ↔ K [a0] := Iff.rfl
theorem bk_1_5 {a0 a1 a2 a3 a4 : Value} {x : Option Value} (K : Ev → Prop) : bkT 1 (0, x) [a0, a1, a2, a3, a4] K ↔ K [a0] := Iff.rfl
theorem tk_1_5 {a0 a1 a2 a3 a4 : Value} (K : Ev → Prop) : tkT 1 [a0, a1, a2, a3, a4] K ↔ K [a0] := Iff.rfl
theorem bk_1_6 {a0 a1 a2 a3 a4 a5 : Value} {x : Option Value} (K : Ev → Prop) : bkT 1 (0, x) [a0, a1, a2, a3, a4, a5] K ↔ K [a0] := Iff.rfl
theorem tk_1_6 {a0 a1 a2 a3 a4 a5 : Value} (K : Ev → Prop) : tkT 1 [a0, a1, a2, a3, a4, a5] K ↔ K [a0] := Iff.rfl
theorem lI_2 {a0 a1 : Value} {l : Ev} {v : Int32} (Q : Int32 → Hp → Prop) : wE (vI 2) (a0 :: a1 :: .int v :: l) h Q ↔ Q v h := ⟨fun ⟨v', h', e, q⟩ => by have e : some (v, h) = some (v', h') := e; cases e; exact q, fun q => ⟨v, h, rfl, q⟩⟩
theorem lL_2 {a0 a1 : Value} {l : Ev} {v : Int64} (Q : Int64 → Hp → Prop) : wE (vL 2) (a0 :: a1 :: .long v :: l) h Q ↔ Q v h := ⟨fun ⟨v', h', e, q⟩ => by have e : some (v, h) = some (v', h') := e; cases e; exact q, fun q => ⟨v, h, rfl, q⟩⟩
theorem lR_2 {a0 a1 : Value} {l : Ev} {v : Nat} (Q : Nat → Hp → Prop) : wE (vR 2) (a0 :: a1 :: .ref v :: l) h Q ↔ Q v h := ⟨fun ⟨v', h', e, q⟩ => by have e : some (v, h) = some (v', h') := e; cases e; exact q, fun q => ⟨v, h, rfl, q⟩⟩
theorem st_2 {a0 a1 : Value} {x : Value} {l : Ev} (e : Xp Value) (Q : Rs → Ev → Hp → Prop) : wS (sSet 2 e) (a0 :: a1 :: x :: l) h Q ↔ wE e (a0 :: a1 :: x :: l) h fun v h1 => Q (0, none) (a0 :: a1 :: v :: l) h1 := wS_set 2 e Q
theorem in_2 {a0 a1 : Value} {x : Int32} {l : Ev} (c : Int32) (Q : Rs → Ev → Hp → Prop) : wS (sInc 2 c) (a0 :: a1 :: .int x :: l) h Q ↔ Q (0, none) (a0 :: a1 :: .int (x + c) :: l) h := (wS_inc 2 c Q).trans ⟨fun ⟨v, e, q⟩ => by have e : some (Value.int x) = some (Value.int v) := e; cases e; exact q, fun q => ⟨x, rfl, q⟩⟩
theorem dc_2 {a0 a1 : Value} (e : Xp Value) (Q : Rs → Ev → Hp → Prop) : wS (sDecl e) [a0, a1] h Q ↔ wE e [a0, a1] h fun v h1 => Q (0, none) [a0, a1, v] h1 := wS_decl e Q
theorem bk_2_2 {a0 a1 : Value} {x : Option Value} (K : Ev → Prop) : bkT 2 (0, x) [a0, a1] K ↔ K [a0, a1] := Iff.rfl
theorem tk_2_2 {a0 a1 : Value} (K : Ev → Prop) : tkT 2 [a0, a1] K ↔ K [a0, a1] := Iff.rfl
theorem bk_2_3 {a0 a1 a2 : Value} {x : Option Value} (K : Ev → Prop) : bkT 2 (0, x) [a0, a1, a2] K ↔ K [a0, a1] := Iff.rfl
theorem tk_2_3 {a0 a1 a2 : Value} (K : Ev → Prop) : tkT 2 [a0, a1, a2] K ↔ K [a0, a1] := Iff.rfl
theorem bk_2_4 {a0 a1 a2 a3 : Value} {x : Option Value} (K : Ev → Prop) : bkT 2 (0, x) [a0, a1, a2, a3] K ↔ K [a0, a1] := Iff.rfl
theorem tk_2_4 {a0 a1 a2 a3 : Value} (K : Ev → Prop) : tkT 2 [a0, a1, a2, a3] K ↔ K [a0, a1] := Iff.rfl
theorem bk_2_5 {a0 a1 a2 a3 a4 : Value} {x : Option Value} (K : Ev → Prop) : bkT 2 (0, x) [a0, a1, a2, a3, a4] K ↔ K [a0, a1] := Iff.rfl
theorem tk_2_5 {a0 a1 a2 a3 a4 : Value} (K : Ev → Prop) : tkT 2 [a0, a1, a2, a3, a4] K ↔ K [a0, a1] := Iff.rfl
theorem bk_2_6 {a0 a1 a2 a3 a4 a5 : Value} {x : Option Value} (K : Ev → Prop) : bkT 2 (0, x) [a0, a1, a2, a3, a4, a5] K ↔ K [a0, a1] := Iff.rfl
theorem tk_2_6 {a0 a1 a2 a3 a4 a5 : Value} (K : Ev → Prop) : tkT 2 [a0, a1, a2, a3, a4, a5] K ↔ K [a0, a1] := Iff.rfl
theorem bk_2_7 {a0 a1 a2 a3 a4 a5 a6 : Value} {x : Option Value} (K : Ev → Prop) : bkT 2 (0, x) [a0, a1, a2, a3, a4, a5, a6] K ↔ K [a0, a1] := Iff.rfl
theorem tk_2_7 {a0 a1 a2 a3 a4 a5 a6 : Value} (K : Ev → Prop) : tkT 2 [a0, a1, a2, a3, a4, a5, a6] K ↔ K [a0, a1] := Iff.rfl
theorem lI_3 {a0 a1 a2 : Value} {l : Ev} {v : Int32} (Q : Int32 → Hp → Prop) : wE (vI 3) (a0 :: a1 :: a2 :: .int v :: l) h Q ↔ Q v h := ⟨fun ⟨v', h', e, q⟩ => by have e : some (v, h) = some (v', h') := e; cases e; exact q, fun q => ⟨v, h, rfl, q⟩⟩
theorem lL_3 {a0 a1 a2 : Value} {l : Ev} {v : Int64} (Q : Int64 → Hp → Prop) : wE (vL 3) (a0 :: a1 :: a2 :: .long v :: l) h Q ↔ Q v h := ⟨fun ⟨v', h', e, q⟩ => by have e : some (v, h) = some (v', h') := e; cases e; exact q, fun q => ⟨v, h, rfl, q⟩⟩
theorem lR_3 {a0 a1 a2 : Value} {l : Ev} {v : Nat} (Q : Nat → Hp → Prop) : wE (vR 3) (a0 :: a1 :: a2 :: .ref v :: l) h Q ↔ Q v h := ⟨fun ⟨v', h', e, q⟩ => by have e : some (v, h) = some (v', h') := e; cases e; exact q, fun q => ⟨v, h, rfl, q⟩⟩
theorem st_3 {a0 a1 a2 : Value} {x : Value} {l : Ev} (e : Xp Value) (Q : Rs → Ev → Hp → Prop) : wS (sSet 3 e) (a0 :: a1 :: a2 :: x :: l) h Q ↔ wE e (a0 :: a1 :: a2 :: x :: l) h fun v h1 => Q (0, none) (a0 :: a1 :: a2 :: v :: l) h1 := wS_set 3 e Q
theorem in_3 {a0 a1 a2 : Value} {x : Int32} {l : Ev} (c : Int32) (Q : Rs → Ev → Hp → Prop) : wS (sInc 3 c) (a0 :: a1 :: a2 :: .int x :: l) h Q ↔ Q (0, none) (a0 :: a1 :: a2 :: .int (x + c) :: l) h := (wS_inc 3 c Q).trans ⟨fun ⟨v, e, q⟩ => by have e : some (Value.int x) = some (Value.int v) := e; cases e; exact q, fun q => ⟨x, rfl, q⟩⟩
theorem dc_3 {a0 a1 a2 : Value} (e : Xp Value) (Q : Rs → Ev → Hp → Prop) : wS (sDecl e) [a0, a1, a2] h Q ↔ wE e [a0, a1, a2] h fun v h1 => Q (0, none) [a0, a1, a2, v] h1 := wS_decl e Q
theorem bk_3_3 {a0 a1 a2 : Value} {x : Option Value} (K : Ev → Prop) : bkT 3 (0, x) [a0, a1, a2] K ↔ K [a0, a1, a2] := Iff.rfl
theorem tk_3_3 {a0 a1 a2 : Value} (K : Ev → Prop) : tkT 3 [a0, a1, a2] K ↔ K [a0, a1, a2] := Iff.rfl
theorem bk_3_4 {a0 a1 a2 a3 : Value} {x : Option Value} (K : Ev → Prop) : bkT 3 (0, x) [a0, a1, a2, a3] K ↔ K [a0, a1, a2] := Iff.rfl
theorem tk_3_4 {a0 a1 a2 a3 : Value} (K : Ev → Prop) : tkT 3 [a0, a1, a2, a3] K ↔ K [a0, a1, a2] := Iff.rfl
theorem bk_3_5 {a0 a1 a2 a3 a4 : Value} {x : Option Value} (K : Ev → Prop) : bkT 3 (0, x) [a0, a1, a2, a3, a4] K ↔ K [a0, a1, a2] := Iff.rfl
theorem tk_3_5 {a0 a1 a2 a3 a4 : Value} (K : Ev → Prop) : tkT 3 [a0, a1, a2, a3, a4] K ↔ K [a0, a1, a2] := Iff.rfl
theorem bk_3_6 {a0 a1 a2 a3 a4 a5 : Value} {x : Option Value} (K : Ev → Prop) : bkT 3 (0, x) [a0, a1, a2, a3, a4, a5] K ↔ K [a0, a1, a2] := Iff.rfl
theorem tk_3_6 {a0 a1 a2 a3 a4 a5 : Value} (K : Ev → Prop) : tkT 3 [a0, a1, a2, a3, a4, a5] K ↔ K [a0, a1, a2] := Iff.rfl
theorem bk_3_7 {a0 a1 a2 a3 a4 a5 a6 : Value} {x : Option Value} (K : Ev → Prop) : bkT 3 (0, x) [a0, a1, a2, a3, a4, a5, a6] K ↔ K [a0, a1, a2] := Iff.rfl
theorem tk_3_7 {a0 a1 a2 a3 a4 a5 a6 : Value} (K : Ev → Prop) : tkT 3 [a0, a1, a2, a3, a4, a5, a6] K ↔ K [a0, a1, a2] := Iff.rfl
theorem bk_3_8 {a0 a1 a2 a3 a4 a5 a6 a7 : Value} {x : Option Value} (K : Ev → Prop) : bkT 3 (0, x) [a0, a1, a2, a3, a4, a5, a6, a7] K ↔ K [a0, a1, a2] := Iff.rfl
theorem tk_3_8 {a0 a1 a2 a3 a4 a5 a6 a7 : Value} (K : Ev → Prop) : tkT 3 [a0, a1, a2, a3, a4, a5, a6, a7] K ↔ K [a0, a1, a2] := Iff.rfl
theorem lI_4 {a0 a1 a2 a3 : Value} {l : Ev} {v : Int32} (Q : Int32 → Hp → Prop) : wE (vI 4) (a0 :: a1 :: a2 :: a3 :: .int v :: l) h Q ↔ Q v h := ⟨fun ⟨v', h', e, q⟩ => by have e : some (v, h) = some (v', h') := e; cases e; exact q, fun q => ⟨v, h, rfl, q⟩⟩
theorem lL_4 {a0 a1 a2 a3 : Value} {l : Ev} {v : Int64} (Q : Int64 → Hp → Prop) : wE (vL 4) (a0 :: a1 :: a2 :: a3 :: .long v :: l) h Q ↔ Q v h := ⟨fun ⟨v', h', e, q⟩ => by have e : some (v, h) = some (v', h') := e; cases e; exact q, fun q => ⟨v, h, rfl, q⟩⟩
theorem lR_4 {a0 a1 a2 a3 : Value} {l : Ev} {v : Nat} (Q : Nat → Hp → Prop) : wE (vR 4) (a0 :: a1 :: a2 :: a3 :: .ref v :: l) h Q ↔ Q v h := ⟨fun ⟨v', h', e, q⟩ => by have e : some (v, h) = some (v', h') := e; cases e; exact q, fun q => ⟨v, h, rfl, q⟩⟩
theorem st_4 {a0 a1 a2 a3 : Value} {x : Value} {l : Ev} (e : Xp Value) (Q : Rs → Ev → Hp → Prop) : wS (sSet 4 e) (a0 :: a1 :: a2 :: a3 :: x :: l) h Q ↔ wE e (a0 :: a1 :: a2 :: a3 :: x :: l) h fun v h1 => Q (0, none) (a0 :: a1 :: a2 :: a3 :: v :: l) h1 := wS_set 4 e Q
theorem in_4 {a0 a1 a2 a3 : Value} {x : Int32} {l : Ev} (c : Int32) (Q : Rs → Ev → Hp → Prop) : wS (sInc 4 c) (a0 :: a1 :: a2 :: a3 :: .int x :: l) h Q ↔ Q (0, none) (a0 :: a1 :: a2 :: a3 :: .int (x + c) :: l) h := (wS_inc 4 c Q).trans ⟨fun ⟨v, e, q⟩ => by have e : some (Value.int x) = some (Value.int v) := e; cases e; exact q, fun q => ⟨x, rfl, q⟩⟩
theorem dc_4 {a0 a1 a2 a3 : Value} (e : Xp Value) (Q : Rs → Ev → Hp → Prop) : wS (sDecl e) [a0, a1, a2, a3] h Q ↔ wE e [a0, a1, a2, a3] h fun v h1 => Q (0, none) [a0, a1, a2, a3, v] h1 := wS_decl e Q
theorem bk_4_4 {a0 a1 a2 a3 : Value} {x : Option Value} (K : Ev → Prop) : bkT 4 (0, x) [a0, a1, a2, a3] K ↔ K [a0, a1, a2, a3] := Iff.rfl
theorem tk_4_4 {a0 a1 a2 a3 : Value} (K : Ev → Prop) : tkT 4 [a0, a1, a2, a3] K ↔ K [a0, a1, a2, a3] := Iff.rfl
theorem bk_4_5 {a0 a1 a2 a3 a4 : Value} {x : Option Value} (K : Ev → Prop) : bkT 4 (0, x) [a0, a1, a2, a3, a4] K ↔ K [a0, a1, a2, a3] := Iff.rfl
theorem tk_4_5 {a0 a1 a2 a3 a4 : Value} (K : Ev → Prop) : tkT 4 [a0, a1, a2, a3, a4] K ↔ K [a0, a1, a2, a3] := Iff.rfl
theorem bk_4_6 {a0 a1 a2 a3 a4 a5 : Value} {x : Option Value} (K : Ev → Prop) : bkT 4 (0, x) [a0, a1, a2, a3, a4, a5] K ↔ K [a0, a1, a2, a3] := Iff.rfl
theorem tk_4_6 {a0 a1 a2 a3 a4 a5 : Value} (K : Ev → Prop) : tkT 4 [a0, a1, a2, a3, a4, a5] K ↔ K [a0, a1, a2, a3] := Iff.rfl
theorem bk_4_7 {a0 a1 a2 a3 a4 a5 a6 : Value} {x : Option Value} (K : Ev → Prop) : bkT 4 (0, x) [a0, a1, a2, a3, a4, a5, a6] K ↔ K [a0, a1, a2, a3] := Iff.rfl
theorem tk_4_7 {a0 a1 a2 a3 a4 a5 a6 : Value} (K : Ev → Prop) : tkT 4 [a0, a1, a2, a3, a4, a5, a6] K ↔ K [a0, a1, a2, a3] := Iff.rfl
theorem bk_4_8 {a0 a1 a2 a3 a4 a5 a6 a7 : Value} {x : Option Value} (K : Ev → Prop) : bkT 4 (0, x) [a0, a1, a2, a3, a4, a5, a6, a7] K ↔ K [a0, a1, a2, a3] := Iff.rfl
theorem tk_4_8 {a0 a1 a2 a3 a4 a5 a6 a7 : Value} (K : Ev → Prop) : tkT 4 [a0, a1, a2, a3, a4, a5, a6, a7] K ↔ K [a0, a1, a2, a3] := Iff.rfl
theorem bk_4_9 {a0 a1 a2 a3 a4 a5 a6 a7 a8 : Value} {x : Option Value} (K : Ev → Prop) : bkT 4 (0, x) [a0, a1, a2, a3, a4, a5, a6, a7, a8] K ↔ K [a0, a1, a2, a3] := Iff.rfl
theorem tk_4_9 {a0 a1 a2 a3 a4 a5 a6 a7 a8 : Value} (K : Ev → Prop) : tkT 4 [a0, a1, a2, a3, a4, a5, a6, a7, a8] K ↔ K [a0, a1, a2, a3] := Iff.rfl
theorem lI_5 {a0 a1 a2 a3 a4 : Value} {l : Ev} {v : Int32} (Q : Int32 → Hp → Prop) : wE (vI 5) (a0 :: a1 :: a2 :: a3 :: a4 :: .int v :: l) h Q ↔ Q v h := ⟨fun ⟨v', h', e, q⟩ => by have e : some (v, h) = some (v', h') := e; cases e; exact q, fun q => ⟨v, h, rfl, q⟩⟩
theorem lL_5 {a0 a1 a2 a3 a4 : Value} {l : Ev} {v : Int64} (Q : Int64 → Hp → Prop) : wE (vL 5) (a0 :: a1 :: a2 :: a3 :: a4 :: .long v :: l) h Q ↔ Q v h := ⟨fun ⟨v', h', e, q⟩ => by have e : some (v, h) = some (v', h') := e; cases e; exact q, fun q => ⟨v, h, rfl, q⟩⟩
theorem lR_5 {a0 a1 a2 a3 a4 : Value} {l : Ev} {v : Nat} (Q : Nat → Hp → Prop) : wE (vR 5) (a0 :: a1 :: a2 :: a3 :: a4 :: .ref v :: l) h Q ↔ Q v h := ⟨fun ⟨v', h', e, q⟩ => by have e : some (v, h) = some (v', h') := e; cases e; exact q, fun q => ⟨v, h, rfl, q⟩⟩
theorem st_5 {a0 a1 a2 a3 a4 : Value} {x : Value} {l : Ev} (e : Xp Value) (Q : Rs → Ev → Hp → Prop) : wS (sSet 5 e) (a0 :: a1 :: a2 :: a3 :: a4 :: x :: l) h Q ↔ wE e (a0 :: a1 :: a2 :: a3 :: a4 :: x :: l) h fun v h1 => Q (0, none) (a0 :: a1 :: a2 :: a3 :: a4 :: v :: l) h1 := wS_set 5 e Q
theorem in_5 {a0 a1 a2 a3 a4 : Value} {x : Int32} {l : Ev} (c : Int32) (Q : Rs → Ev → Hp → Prop) : wS (sInc 5 c) (a0 :: a1 :: a2 :: a3 :: a4 :: .int x :: l) h Q ↔ Q (0, none) (a0 :: a1 :: a2 :: a3 :: a4 :: .int (x + c) :: l) h := (wS_inc 5 c Q).trans ⟨fun ⟨v, e, q⟩ => by have e : some (Value.int x) = some (Value.int v) := e; cases e; exact q, fun q => ⟨x, rfl, q⟩⟩
theorem dc_5 {a0 a1 a2 a3 a4 : Value} (e : Xp Value) (Q : Rs → Ev → Hp → Prop) : wS (sDecl e) [a0, a1, a2, a3, a4] h Q ↔ wE e [a0, a1, a2, a3, a4] h fun v h1 => Q (0, none) [a0, a1, a2, a3, a4, v] h1 := wS_decl e Q
theorem bk_5_5 {a0 a1 a2 a3 a4 : Value} {x : Option Value} (K : Ev → Prop) : bkT 5 (0, x) [a0, a1, a2, a3, a4] K ↔ K [a0, a1, a2, a3, a4] := Iff.rfl
theorem tk_5_5 {a0 a1 a2 a3 a4 : Value} (K : Ev → Prop) : tkT 5 [a0, a1, a2, a3, a4] K ↔ K [a0, a1, a2, a3, a4] := Iff.rfl
theorem bk_5_6 {a0 a1 a2 a3 a4 a5 : Value} {x : Option Value} (K : Ev → Prop) : bkT 5 (0, x) [a0, a1, a2, a3, a4, a5] K ↔ K [a0, a1, a2, a3, a4] := Iff.rfl
theorem tk_5_6 {a0 a1 a2 a3 a4 a5 : Value} (K : Ev → Prop) : tkT 5 [a0, a1, a2, a3, a4, a5] K ↔ K [a0, a1, a2, a3, a4] := Iff.rfl
theorem bk_5_7 {a0 a1 a2 a3 a4 a5 a6 : Value} {x : Option Value} (K : Ev → Prop) : bkT 5 (0, x) [a0, a1, a2, a3, a4, a5, a6] K ↔ K [a0, a1, a2, a3, a4] := Iff.rfl
theorem tk_5_7 {a0 a1 a2 a3 a4 a5 a6 : Value} (K : Ev → Prop) : tkT 5 [a0, a1, a2, a3, a4, a5, a6] K ↔ K [a0, a1, a2, a3, a4] := Iff.rfl
theorem bk_5_8 {a0 a1 a2 a3 a4 a5 a6 a7 : Value} {x : Option Value} (K : Ev → Prop) : bkT 5 (0, x) [a0, a1, a2, a3, a4, a5, a6, a7] K ↔ K [a0, a1, a2, a3, a4] := Iff.rfl
theorem tk_5_8 {a0 a1 a2 a3 a4 a5 a6 a7 : Value} (K : Ev → Prop) : tkT 5 [a0, a1, a2, a3, a4, a5, a6, a7] K ↔ K [a0, a1, a2, a3, a4] := Iff.rfl
theorem bk_5_9 {a0 a1 a2 a3 a4 a5 a6 a7 a8 : Value} {x : Option Value} (K : Ev → Prop) : bkT 5 (0, x) [a0, a1, a2, a3, a4, a5, a6, a7, a8] K ↔ K [a0, a1, a2, a3, a4] := Iff.rfl
theorem tk_5_9 {a0 a1 a2 a3 a4 a5 a6 a7 a8 : Value} (K : Ev → Prop) : tkT 5 [a0, a1, a2, a3, a4, a5, a6, a7, a8] K ↔ K [a0, a1, a2, a3, a4] := Iff.rfl
theorem bk_5_10 {a0 a1 a2 a3 a4 a5 a6 a7 a8 a9 : Value} {x : Option Value} (K : Ev → Prop) : bkT 5 (0, x) [a0, a1, a2, a3, a4, a5, a6, a7, a8, a9] K ↔ K [a0, a1, a2, a3, a4] := Iff.rfl
theorem tk_5_10 {a0 a1 a2 a3 a4 a5 a6 a7 a8 a9 : Value} (K : Ev → Prop) : tkT 5 [a0, a1, a2, a3, a4, a5, a6, a7, a8, a9] K ↔ K [a0, a1, a2, a3, a4] := Iff.rfl
theorem lI_6 {a0 a1 a2 a3 a4 a5 : Value} {l : Ev} {v : Int32} (Q : Int32 → Hp → Prop) : wE (vI 6) (a0 :: a1 :: a2 :: a3 :: a4 :: a5 :: .int v :: l) h Q ↔ Q v h := ⟨fun ⟨v', h', e, q⟩ => by have e : some (v, h) = some (v', h') := e; cases e; exact q, fun q => ⟨v, h, rfl, q⟩⟩
theorem lL_6 {a0 a1 a2 a3 a4 a5 : Value} {l : Ev} {v : Int64} (Q : Int64 → Hp → Prop) : wE (vL 6) (a0 :: a1 :: a2 :: a3 :: a4 :: a5 :: .long v :: l) h Q ↔ Q v h := ⟨fun ⟨v', h', e, q⟩ => by have e : some (v, h) = some (v', h') := e; cases e; exact q, fun q => ⟨v, h, rfl, q⟩⟩
theorem lR_6 {a0 a1 a2 a3 a4 a5 : Value} {l : Ev} {v : Nat} (Q : Nat → Hp → Prop) : wE (vR 6) (a0 :: a1 :: a2 :: a3 :: a4 :: a5 :: .ref v :: l) h Q ↔ Q v h := ⟨fun ⟨v', h', e, q⟩ => by have e : some (v, h) = some (v', h') := e; cases e; exact q, fun q => ⟨v, h, rfl, q⟩⟩
theorem st_6 {a0 a1 a2 a3 a4 a5 : Value} {x : Value} {l : Ev} (e : Xp Value) (Q : Rs → Ev → Hp → Prop) : wS (sSet 6 e) (a0 :: a1 :: a2 :: a3 :: a4 :: a5 :: x :: l) h Q ↔ wE e (a0 :: a1 :: a2 :: a3 :: a4 :: a5 :: x :: l) h fun v h1 => Q (0, none) (a0 :: a1 :: a2 :: a3 :: a4 :: a5 :: v :: l) h1 := wS_set 6 e Q
theorem in_6 {a0 a1 a2 a3 a4 a5 : Value} {x : Int32} {l : Ev} (c : Int32) (Q : Rs → Ev → Hp → Prop) : wS (sInc 6 c) (a0 :: a1 :: a2 :: a3 :: a4 :: a5 :: .int x :: l) h Q ↔ Q (0, none) (a0 :: a1 :: a2 :: a3 :: a4 :: a5 :: .int (x + c) :: l) h := (wS_inc 6 c Q).trans ⟨fun ⟨v, e, q⟩ => by have e : some (Value.int x) = some (Value.int v) := e; cases e; exact q, fun q => ⟨x, rfl, q⟩⟩
theorem dc_6 {a0 a1 a2 a3 a4 a5 : Value} (e : Xp Value) (Q : Rs → Ev → Hp → Prop) : wS (sDecl e) [a0, a1, a2, a3, a4, a5] h Q ↔ wE e [a0, a1, a2, a3, a4, a5] h fun v h1 => Q (0, none) [a0, a1, a2, a3, a4, a5, v] h1 := wS_decl e Q
theorem bk_6_6 {a0 a1 a2 a3 a4 a5 : Value} {x : Option Value} (K : Ev → Prop) : bkT 6 (0, x) [a0, a1, a2, a3, a4, a5] K ↔ K [a0, a1, a2, a3, a4, a5] := Iff.rfl
theorem tk_6_6 {a0 a1 a2 a3 a4 a5 : Value} (K : Ev → Prop) : tkT 6 [a0, a1, a2, a3, a4, a5] K ↔ K [a0, a1, a2, a3, a4, a5] := Iff.rfl
theorem bk_6_7 {a0 a1 a2 a3 a4 a5 a6 : Value} {x : Option Value} (K : Ev → Prop) : bkT 6 (0, x) [a0, a1, a2, a3, a4, a5, a6] K ↔ K [a0, a1, a2, a3, a4, a5] := Iff.rfl
theorem tk_6_7 {a0 a1 a2 a3 a4 a5 a6 : Value} (K : Ev → Prop) : tkT 6 [a0, a1, a2, a3, a4, a5, a6] K ↔ K [a0, a1, a2, a3, a4, a5] := Iff.rfl
theorem bk_6_8 {a0 a1 a2 a3 a4 a5 a6 a7 : Value} {x : Option Value} (K : Ev → Prop) : bkT 6 (0, x) [a0, a1, a2, a3, a4, a5, a6, a7] K ↔ K [a0, a1, a2, a3, a4, a5] := Iff.rfl
theorem tk_6_8 {a0 a1 a2 a3 a4 a5 a6 a7 : Value} (K : Ev → Prop) : tkT 6 [a0, a1, a2, a3, a4, a5, a6, a7] K ↔ K [a0, a1, a2, a3, a4, a5] := Iff.rfl
theorem bk_6_9 {a0 a1 a2 a3 a4 a5 a6 a7 a8 : Value} {x : Option Value} (K : Ev → Prop) : bkT 6 (0, x) [a0, a1, a2, a3, a4, a5, a6, a7, a8] K ↔ K [a0, a1, a2, a3, a4, a5] := Iff.rfl
theorem tk_6_9 {a0 a1 a2 a3 a4 a5 a6 a7 a8 : Value} (K : Ev → Prop) : tkT 6 [a0, a1, a2, a3, a4, a5, a6, a7, a8] K ↔ K [a0, a1, a2, a3, a4, a5] := Iff.rfl
theorem bk_6_10 {a0 a1 a2 a3 a4 a5 a6 a7 a8 a9 : Value} {x : Option Value} (K : Ev → Prop) : bkT 6 (0, x) [a0, a1, a2, a3, a4, a5, a6, a7, a8, a9] K ↔ K [a0, a1, a2, a3, a4, a5] := Iff.rfl
theorem tk_6_10 {a0 a1 a2 a3 a4 a5 a6 a7 a8 a9 : Value} (K : Ev → Prop) : tkT 6 [a0, a1, a2, a3, a4, a5, a6, a7, a8, a9] K ↔ K [a0, a1, a2, a3, a4, a5] := Iff.rfl
theorem bk_6_11 {a0 a1 a2 a3 a4 a5 a6 a7 a8 a9 a10 : Value} {x : Option Value} (K : Ev → Prop) : bkT 6 (0, x) [a0, a1, a2, a3, a4, a5, a6, a7, a8, a9, a10] K ↔ K [a0, a1, a2, a3, a4, a5] := Iff.rfl
theorem tk_6_11 {a0 a1 a2 a3 a4 a5 a6 a7 a8 a9 a10 : Value} (K : Ev → Prop) : tkT 6 [a0, a1, a2, a3, a4, a5, a6, a7, a8, a9, a10] K ↔ K [a0, a1, a2, a3, a4, a5] := Iff.rfl
theorem lI_7 {a0 a1 a2 a3 a4 a5 a6 : Value} {l : Ev} {v : Int32} (Q : Int32 → Hp → Prop) : wE (vI 7) (a0 :: a1 :: a2 :: a3 :: a4 :: a5 :: a6 :: .int v :: l) h Q ↔ Q v h := ⟨fun ⟨v', h', e, q⟩ => by have e : some (v, h) = some (v', h') := e; cases e; exact q, fun q => ⟨v, h, rfl, q⟩⟩
theorem lL_7 {a0 a1 a2 a3 a4 a5 a6 : Value} {l : Ev} {v : Int64} (Q : Int64 → Hp → Prop) : wE (vL 7) (a0 :: a1 :: a2 :: a3 :: a4 :: a5 :: a6 :: .long v :: l) h Q ↔ Q v h := ⟨fun ⟨v', h', e, q⟩ => by have e : some (v, h) = some (v', h') := e; cases e; exact q, fun q => ⟨v, h, rfl, q⟩⟩
theorem lR_7 {a0 a1 a2 a3 a4 a5 a6 : Value} {l : Ev} {v : Nat} (Q : Nat → Hp → Prop) : wE (vR 7) (a0 :: a1 :: a2 :: a3 :: a4 :: a5 :: a6 :: .ref v :: l) h Q ↔ Q v h := ⟨fun ⟨v', h', e, q⟩ => by have e : some (v, h) = some (v', h') := e; cases e; exact q, fun q => ⟨v, h, rfl, q⟩⟩
theorem st_7 {a0 a1 a2 a3 a4 a5 a6 : Value} {x : Value} {l : Ev} (e : Xp Value) (Q : Rs → Ev → Hp → Prop) : wS (sSet 7 e) (a0 :: a1 :: a2 :: a3 :: a4 :: a5 :: a6 :: x :: l) h Q ↔ wE e (a0 :: a1 :: a2 :: a3 :: a4 :: a5 :: a6 :: x :: l) h fun v h1 => Q (0, none) (a0 :: a1 :: a2 :: a3 :: a4 :: a5 :: a6 :: v :: l) h1 := wS_set 7 e Q
theorem in_7 {a0 a1 a2 a3 a4 a5 a6 : Value} {x : Int32} {l : Ev} (c : Int32) (Q : Rs → Ev → Hp → Prop) : wS (sInc 7 c) (a0 :: a1 :: a2 :: a3 :: a4 :: a5 :: a6 :: .int x :: l) h Q ↔ Q (0, none) (a0 :: a1 :: a2 :: a3 :: a4 :: a5 :: a6 :: .int (x + c) :: l) h := (wS_inc 7 c Q).trans ⟨fun ⟨v, e, q⟩ => by have e : some (Value.int x) = some (Value.int v) := e; cases e; exact q, fun q => ⟨x, rfl, q⟩⟩
theorem dc_7 {a0 a1 a2 a3 a4 a5 a6 : Value} (e : Xp Value) (Q : Rs → Ev → Hp → Prop) : wS (sDecl e) [a0, a1, a2, a3, a4, a5, a6] h Q ↔ wE e [a0, a1, a2, a3, a4, a5, a6] h fun v h1 => Q (0, none) [a0, a1, a2, a3, a4, a5, a6, v] h1 := wS_decl e Q
theorem bk_7_7 {a0 a1 a2 a3 a4 a5 a6 : Value} {x : Option Value} (K : Ev → Prop) : bkT 7 (0, x) [a0, a1, a2, a3, a4, a5, a6] K ↔ K [a0, a1, a2, a3, a4, a5, a6] := Iff.rfl
theorem tk_7_7 {a0 a1 a2 a3 a4 a5 a6 : Value} (K : Ev → Prop) : tkT 7 [a0, a1, a2, a3, a4, a5, a6] K ↔ K [a0, a1, a2, a3, a4, a5, a6] := Iff.rfl
theorem bk_7_8 {a0 a1 a2 a3 a4 a5 a6 a7 : Value} {x : Option Value} (K : Ev → Prop) : bkT 7 (0, x) [a0, a1, a2, a3, a4, a5, a6, a7] K ↔ K [a0, a1, a2, a3, a4, a5, a6] := Iff.rfl
theorem tk_7_8 {a0 a1 a2 a3 a4 a5 a6 a7 : Value} (K : Ev → Prop) : tkT 7 [a0, a1, a2, a3, a4, a5, a6, a7] K ↔ K [a0, a1, a2, a3, a4, a5, a6] := Iff.rfl
theorem bk_7_9 {a0 a1 a2 a3 a4 a5 a6 a7 a8 : Value} {x : Option Value} (K : Ev → Prop) : bkT 7 (0, x) [a0, a1, a2, a3, a4, a5, a6, a7, a8] K ↔ K [a0, a1, a2, a3, a4, a5, a6] := Iff.rfl
theorem tk_7_9 {a0 a1 a2 a3 a4 a5 a6 a7 a8 : Value} (K : Ev → Prop) : tkT 7 [a0, a1, a2, a3, a4, a5, a6, a7, a8] K ↔ K [a0, a1, a2, a3, a4, a5, a6] := Iff.rfl
theorem bk_7_10 {a0 a1 a2 a3 a4 a5 a6 a7 a8 a9 : Value} {x : Option Value} (K : Ev → Prop) : bkT 7 (0, x) [a0, a1, a2, a3, a4, a5, a6, a7, a8, a9] K ↔ K [a0, a1, a2, a3, a4, a5, a6] := Iff.rfl
theorem tk_7_10 {a0 a1 a2 a3 a4 a5 a6 a7 a8 a9 : Value} (K : Ev → Prop) : tkT 7 [a0, a1, a2, a3, a4, a5, a6, a7, a8, a9] K ↔ K [a0, a1, a2, a3, a4, a5, a6] := Iff.rfl
theorem bk_7_11 {a0 a1 a2 a3 a4 a5 a6 a7 a8 a9 a10 : Value} {x : Option Value} (K : Ev → Prop) : bkT 7 (0, x) [a0, a1, a2, a3, a4, a5, a6, a7, a8, a9, a10] K ↔ K [a0, a1, a2, a3, a4, a5, a6] := Iff.rfl
theorem tk_7_11 {a0 a1 a2 a3 a4 a5 a6 a7 a8 a9 a10 : Value} (K : Ev → Prop) : tkT 7 [a0, a1, a2, a3, a4, a5, a6, a7, a8, a9, a10] K ↔ K [a0, a1, a2, a3, a4, a5, a6] := Iff.rfl
theorem bk_7_12 {a0 a1 a2 a3 a4 a5 a6 a7 a8 a9 a10 a11 : Value} {x : Option Value} (K : Ev → Prop) : bkT 7 (0, x) [a0, a1, a2, a3, a4, a5, a6, a7, a8, a9, a10, a11] K ↔ K [a0, a1, a2, a3, a4, a5, a6] := Iff.rfl
theorem tk_7_12 {a0 a1 a2 a3 a4 a5 a6 a7 a8 a9 a10 a11 : Value} (K : Ev → Prop) : tkT 7 [a0, a1, a2, a3, a4, a5, a6, a7, a8, a9, a10, a11] K ↔ K [a0, a1, a2, a3, a4, a5, a6] := Iff.rfl
theorem lI_8 {a0 a1 a2 a3 a4 a5 a6 a7 : Value} {l : Ev} {v : Int32} (Q : Int32 → Hp → Prop) : wE (vI 8) (a0 :: a1 :: a2 :: a3 :: a4 :: a5 :: a6 :: a7 :: .int v :: l) h Q ↔ Q v h := ⟨fun ⟨v', h', e, q⟩ => by have e : some (v, h) = some (v', h') := e; cases e; exact q, fun q => ⟨v, h, rfl, q⟩⟩
theorem lL_8 {a0 a1 a2 a3 a4 a5 a6 a7 : Value} {l : Ev} {v : Int64} (Q : Int64 → Hp → Prop) : wE (vL 8) (a0 :: a1 :: a2 :: a3 :: a4 :: a5 :: a6 :: a7 :: .long v :: l) h Q ↔ Q v h := ⟨fun ⟨v', h', e, q⟩ => by have e : some (v, h) = some (v', h') := e; cases e; exact q, fun q => ⟨v, h, rfl, q⟩⟩
theorem lR_8 {a0 a1 a2 a3 a4 a5 a6 a7 : Value} {l : Ev} {v : Nat} (Q : Nat → Hp → Prop) : wE (vR 8) (a0 :: a1 :: a2 :: a3 :: a4 :: a5 :: a6 :: a7 :: .ref v :: l) h Q ↔ Q v h := ⟨fun ⟨v', h', e, q⟩ => by have e : some (v, h) = some (v', h') := e; cases e; exact q, fun q => ⟨v, h, rfl, q⟩⟩
theorem st_8 {a0 a1 a2 a3 a4 a5 a6 a7 : Value} {x : Value} {l : Ev} (e : Xp Value) (Q : Rs → Ev → Hp → Prop) : wS (sSet 8 e) (a0 :: a1 :: a2 :: a3 :: a4 :: a5 :: a6 :: a7 :: x :: l) h Q ↔ wE e (a0 :: a1 :: a2 :: a3 :: a4 :: a5 :: a6 :: a7 :: x :: l) h fun v h1 => Q (0, none) (a0 :: a1 :: a2 :: a3 :: a4 :: a5 :: a6 :: a7 :: v :: l) h1 := wS_set 8 e Q
theorem in_8 {a0 a1 a2 a3 a4 a5 a6 a7 : Value} {x : Int32} {l : Ev} (c : Int32) (Q : Rs → Ev → Hp → Prop) : wS (sInc 8 c) (a0 :: a1 :: a2 :: a3 :: a4 :: a5 :: a6 :: a7 :: .int x :: l) h Q ↔ Q (0, none) (a0 :: a1 :: a2 :: a3 :: a4 :: a5 :: a6 :: a7 :: .int (x + c) :: l) h := (wS_inc 8 c Q).trans ⟨fun ⟨v, e, q⟩ => by have e : some (Value.int x) = some (Value.int v) := e; cases e; exact q, fun q => ⟨x, rfl, q⟩⟩
theorem dc_8 {a0 a1 a2 a3 a4 a5 a6 a7 : Value} (e : Xp Value) (Q : Rs → Ev → Hp → Prop) : wS (sDecl e) [a0, a1, a2, a3, a4, a5, a6, a7] h Q ↔ wE e [a0, a1, a2, a3, a4, a5, a6, a7] h fun v h1 => Q (0, none) [a0, a1, a2, a3, a4, a5, a6, a7, v] h1 := wS_decl e Q
theorem bk_8_8 {a0 a1 a2 a3 a4 a5 a6 a7 : Value} {x : Option Value} (K : Ev → Prop) : bkT 8 (0, x) [a0, a1, a2, a3, a4, a5, a6, a7] K ↔ K [a0, a1, a2, a3, a4, a5, a6, a7] := Iff.rfl
theorem tk_8_8 {a0 a1 a2 a3 a4 a5 a6 a7 : Value} (K : Ev → Prop) : tkT 8 [a0, a1, a2, a3, a4, a5, a6, a7] K ↔ K [a0, a1, a2, a3, a4, a5, a6, a7] := Iff.rfl
theorem bk_8_9 {a0 a1 a2 a3 a4 a5 a6 a7 a8 : Value} {x : Option Value} (K : Ev → Prop) : bkT 8 (0, x) [a0, a1, a2, a3, a4, a5, a6, a7, a8] K ↔ K [a0, a1, a2, a3, a4, a5, a6, a7] := Iff.rfl
theorem tk_8_9 {a0 a1 a2 a3 a4 a5 a6 a7 a8 : Value} (K : Ev → Prop) : tkT 8 [a0, a1, a2, a3, a4, a5, a6, a7, a8] K ↔ K [a0, a1, a2, a3, a4, a5, a6, a7] := Iff.rfl
theorem bk_8_10 {a0 a1 a2 a3 a4 a5 a6 a7 a8 a9 : Value} {x : Option Value} (K : Ev → Prop) : bkT 8 (0, x) [a0, a1, a2, a3, a4, a5, a6, a7, a8, a9] K ↔ K [a0, a1, a2, a3, a4, a5, a6, a7] := Iff.rfl
theorem tk_8_10 {a0 a1 a2 a3 a4 a5 a6 a7 a8 a9 : Value} (K : Ev → Prop) : tkT 8 [a0, a1, a2, a3, a4, a5, a6, a7, a8, a9] K ↔ K [a0, a1, a2, a3, a4, a5, a6, a7] := Iff.rfl
theorem bk_8_11 {a0 a1 a2 a3 a4 a5 a6 a7 a8 a9 a10 : Value} {x : Option Value} (K : Ev → Prop) : bkT 8 (0, x) [a0, a1, a2, a3, a4, a5, a6, a7, a8, a9, a10] K ↔ K [a0, a1, a2, a3, a4, a5, a6, a7] := Iff.rfl
theorem tk_8_11 {a0 a1 a2 a3 a4 a5 a6 a7 a8 a9 a10 : Value} (K : Ev → Prop) : tkT 8 [a0, a1, a2, a3, a4, a5, a6, a7, a8, a9, a10] K ↔ K [a0, a1, a2, a3, a4, a5, a6, a7] := Iff.rfl
theorem bk_8_12 {a0 a1 a2 a3 a4 a5 a6 a7 a8 a9 a10 a11 : Value} {x : Option Value} (K : Ev → Prop) : bkT 8 (0, x) [a0, a1, a2, a3, a4, a5, a6, a7, a8, a9, a10, a11] K ↔ K [a0, a1, a2, a3, a4, a5, a6, a7] := Iff.rfl
theorem tk_8_12 {a0 a1 a2 a3 a4 a5 a6 a7 a8 a9 a10 a11 : Value} (K : Ev → Prop) : tkT 8 [a0, a1, a2, a3, a4, a5, a6, a7, a8, a9, a10, a11] K ↔ K [a0, a1, a2, a3, a4, a5, a6, a7] := Iff.rfl
theorem bk_8_13 {a0 a1 a2 a3 a4 a5 a6 a7 a8 a9 a10 a11 a12 : Value} {x : Option Value} (K : Ev → Prop) : bkT 8 (0, x) [a0, a1, a2, a3, a4, a5, a6, a7, a8, a9, a10, a11, a12] K ↔ K [a0, a1, a2, a3, a4, a5, a6, a7] := Iff.rfl
theorem tk_8_13 {a0 a1 a2 a3 a4 a5 a6 a7 a8 a9 a10 a11 a12 : Value} (K : Ev → Prop) : tkT 8 [a0, a1, a2, a3, a4, a5, a6, a7, a8, a9, a10, a11, a12] K ↔ K [a0, a1, a2, a3, a4, a5, a6, a7] := Iff.rfl
theorem lI_9 {a0 a1 a2 a3 a4 a5 a6 a7 a8 : Value} {l : Ev} {v : Int32} (Q : Int32 → Hp → Prop) : wE (vI 9) (a0 :: a1 :: a2 :: a3 :: a4 :: a5 :: a6 :: a7 :: a8 :: .int v :: l) h Q ↔ Q v h := ⟨fun ⟨v', h', e, q⟩ => by have e : some (v, h) = some (v', h') := e; cases e; exact q, fun q => ⟨v, h, rfl, q⟩⟩
theorem lL_9 {a0 a1 a2 a3 a4 a5 a6 a7 a8 : Value} {l : Ev} {v : Int64} (Q : Int64 → Hp → Prop) : wE (vL 9) (a0 :: a1 :: a2 :: a3 :: a4 :: a5 :: a6 :: a7 :: a8 :: .long v :: l) h Q ↔ Q v h := ⟨fun ⟨v', h', e, q⟩ => by have e : some (v, h) = some (v', h') := e; cases e; exact q, fun q => ⟨v, h, rfl, q⟩⟩
theorem lR_9 {a0 a1 a2 a3 a4 a5 a6 a7 a8 : Value} {l : Ev} {v : Nat} (Q : Nat → Hp → Prop) : wE (vR 9) (a0 :: a1 :: a2 :: a3 :: a4 :: a5 :: a6 :: a7 :: a8 :: .ref v :: l) h Q ↔ Q v h := ⟨fun ⟨v', h', e, q⟩ => by have e : some (v, h) = some (v', h') := e; cases e; exact q, fun q => ⟨v, h, rfl, q⟩⟩
theorem st_9 {a0 a1 a2 a3 a4 a5 a6 a7 a8 : Value} {x : Value} {l : Ev} (e : Xp Value) (Q : Rs → Ev → Hp → Prop) : wS (sSet 9 e) (a0 :: a1 :: a2 :: a3 :: a4 :: a5 :: a6 :: a7 :: a8 :: x :: l) h Q ↔ wE e (a0 :: a1 :: a2 :: a3 :: a4 :: a5 :: a6 :: a7 :: a8 :: x :: l) h fun v h1 => Q (0, none) (a0 :: a1 :: a2 :: a3 :: a4 :: a5 :: a6 :: a7 :: a8 :: v :: l) h1 := wS_set 9 e Q
theorem in_9 {a0 a1 a2 a3 a4 a5 a6 a7 a8 : Value} {x : Int32} {l : Ev} (c : Int32) (Q : Rs → Ev → Hp → Prop) : wS (sInc 9 c) (a0 :: a1 :: a2 :: a3 :: a4 :: a5 :: a6 :: a7 :: a8 :: .int x :: l) h Q ↔ Q (0, none) (a0 :: a1 :: a2 :: a3 :: a4 :: a5 :: a6 :: a7 :: a8 :: .int (x + c) :: l) h := (wS_inc 9 c Q).trans ⟨fun ⟨v, e, q⟩ => by have e : some (Value.int x) = some (Value.int v) := e; cases e; exact q, fun q => ⟨x, rfl, q⟩⟩
theorem dc_9 {a0 a1 a2 a3 a4 a5 a6 a7 a8 : Value} (e : Xp Value) (Q : Rs → Ev → Hp → Prop) : wS (sDecl e) [a0, a1, a2, a3, a4, a5, a6, a7, a8] h Q ↔ wE e [a0, a1, a2, a3, a4, a5, a6, a7, a8] h fun v h1 => Q (0, none) [a0, a1, a2, a3, a4, a5, a6, a7, a8, v] h1 := wS_decl e Q
theorem bk_9_9 {a0 a1 a2 a3 a4 a5 a6 a7 a8 : Value} {x : Option Value} (K : Ev → Prop) : bkT 9 (0, x) [a0, a1, a2, a3, a4, a5, a6, a7, a8] K ↔ K [a0, a1, a2, a3, a4, a5, a6, a7, a8] := Iff.rfl
theorem tk_9_9 {a0 a1 a2 a3 a4 a5 a6 a7 a8 : Value} (K : Ev → Prop) : tkT 9 [a0, a1, a2, a3, a4, a5, a6, a7, a8] K ↔ K [a0, a1, a2, a3, a4, a5, a6, a7, a8] := Iff.rfl
theorem bk_9_10 {a0 a1 a2 a3 a4 a5 a6 a7 a8 a9 : Value} {x : Option Value} (K : Ev → Prop) : bkT 9 (0, x) [a0, a1, a2, a3, a4, a5, a6, a7, a8, a9] K ↔ K [a0, a1, a2, a3, a4, a5, a6, a7, a8] := Iff.rfl
theorem tk_9_10 {a0 a1 a2 a3 a4 a5 a6 a7 a8 a9 : Value} (K : Ev → Prop) : tkT 9 [a0, a1, a2, a3, a4, a5, a6, a7, a8, a9] K ↔ K [a0, a1, a2, a3, a4, a5, a6, a7, a8] := Iff.rfl
theorem bk_9_11 {a0 a1 a2 a3 a4 a5 a6 a7 a8 a9 a10 : Value} {x : Option Value} (K : Ev → Prop) : bkT 9 (0, x) [a0, a1, a2, a3, a4, a5, a6, a7, a8, a9, a10] K ↔ K [a0, a1, a2, a3, a4, a5, a6, a7, a8] := Iff.rfl
theorem tk_9_11 {a0 a1 a2 a3 a4 a5 a6 a7 a8 a9 a10 : Value} (K : Ev → Prop) : tkT 9 [a0, a1, a2, a3, a4, a5, a6, a7, a8, a9, a10] K ↔ K [a0, a1, a2, a3, a4, a5, a6, a7, a8] := Iff.rfl
theorem bk_9_12 {a0 a1 a2 a3 a4 a5 a6 a7 a8 a9 a10 a11 : Value} {x : Option Value} (K : Ev → Prop) : bkT 9 (0, x) [a0, a1, a2, a3, a4, a5, a6, a7, a8, a9, a10, a11] K ↔ K [a0, a1, a2, a3, a4, a5, a6, a7, a8] := Iff.rfl
theorem tk_9_12 {a0 a1 a2 a3 a4 a5 a6 a7 a8 a9 a10 a11 : Value} (K : Ev → Prop) : tkT 9 [a0, a1, a2, a3, a4, a5, a6, a7, a8, a9, a10, a11] K ↔ K [a0, a1, a2, a3, a4, a5, a6, a7, a8] := Iff.rfl
theorem bk_9_13 {a0 a1 a2 a3 a4 a5 a6 a7 a8 a9 a10 a11 a12 : Value} {x : Option Value} (K : Ev → Prop) : bkT 9 (0, x) [a0, a1, a2, a3, a4, a5, a6, a7, a8, a9, a10, a11, a12] K ↔ K [a0, a1, a2, a3, a4, a5, a6, a7, a8] := Iff.rfl
theorem tk_9_13 {a0 a1 a2 a3 a4 a5 a6 a7 a8 a9 a10 a11 a12 : Value} (K : Ev → Prop) : tkT 9 [a0, a1, a2, a3, a4, a5, a6, a7, a8, a9, a10, a11, a12] K ↔ K [a0, a1, a2, a3, a4, a5, a6, a7, a8] := Iff.rfl
theorem bk_9_14 {a0 a1 a2 a3 a4 a5 a6 a7 a8 a9 a10 a11 a12 a13 : Value} {x : Option Value} (K : Ev → Prop) : bkT 9 (0, x) [a0, a1, a2, a3, a4, a5, a6, a7, a8, a9, a10, a11, a12, a13] K ↔ K [a0, a1, a2, a3, a4, a5, a6, a7, a8] := Iff.rfl
theorem tk_9_14 {a0 a1 a2 a3 a4 a5 a6 a7 a8 a9 a10 a11 a12 a13 : Value} (K : Ev → Prop) : tkT 9 [a0, a1, a2, a3, a4, a5, a6, a7, a8, a9, a10, a11, a12, a13] K ↔ K [a0, a1, a2, a3, a4, a5, a6, a7, a8] := Iff.rfl
theorem lI_10 {a0 a1 a2 a3 a4 a5 a6 a7 a8 a9 : Value} {l : Ev} {v : Int32} (Q : Int32 → Hp → Prop) : wE (vI 10) (a0 :: a1 :: a2 :: a3 :: a4 :: a5 :: a6 :: a7 :: a8 :: a9 :: .int v :: l) h Q ↔ Q v h := ⟨fun ⟨v', h', e, q⟩ => by have e : some (v, h) = some (v', h') := e; cases e; exact q, fun q => ⟨v, h, rfl, q⟩⟩
theorem lL_10 {a0 a1 a2 a3 a4 a5 a6 a7 a8 a9 : Value} {l : Ev} {v : Int64} (Q : Int64 → Hp → Prop) : wE (vL 10) (a0 :: a1 :: a2 :: a3 :: a4 :: a5 :: a6 :: a7 :: a8 :: a9 :: .long v :: l) h Q ↔ Q v h := ⟨fun ⟨v', h', e, q⟩ => by have e : some (v, h) = some (v', h') := e; cases e; exact q, fun q => ⟨v, h, rfl, q⟩⟩
theorem lR_10 {a0 a1 a2 a3 a4 a5 a6 a7 a8 a9 : Value} {l : Ev} {v : Nat} (Q : Nat → Hp → Prop) : wE (vR 10) (a0 :: a1 :: a2 :: a3 :: a4 :: a5 :: a6 :: a7 :: a8 :: a9 :: .ref v :: l) h Q ↔ Q v h := ⟨fun ⟨v', h', e, q⟩ => by have e : some (v, h) = some (v', h') := e; cases e; exact q, fun q => ⟨v, h, rfl, q⟩⟩
theorem st_10 {a0 a1 a2 a3 a4 a5 a6 a7 a8 a9 : Value} {x : Value} {l : Ev} (e : Xp Value) (Q : Rs → Ev → Hp → Prop) : wS (sSet 10 e) (a0 :: a1 :: a2 :: a3 :: a4 :: a5 :: a6 :: a7 :: a8 :: a9 :: x :: l) h Q ↔ wE e (a0 :: a1 :: a2 :: a3 :: a4 :: a5 :: a6 :: a7 :: a8 :: a9 :: x :: l) h fun v h1 => Q (0, none) (a0 :: a1 :: a2 :: a3 :: a4 :: a5 :: a6 :: a7 :: a8 :: a9 :: v :: l) h1 := wS_set 10 e Q
theorem in_10 {a0 a1 a2 a3 a4 a5 a6 a7 a8 a9 : Value} {x : Int32} {l : Ev} (c : Int32) (Q : Rs → Ev → Hp → Prop) : wS (sInc 10 c) (a0 :: a1 :: a2 :: a3 :: a4 :: a5 :: a6 :: a7 :: a8 :: a9 :: .int x :: l) h Q ↔ Q (0, none) (a0 :: a1 :: a2 :: a3 :: a4 :: a5 :: a6 :: a7 :: a8 :: a9 :: .int (x + c) :: l) h := (wS_inc 10 c Q).trans ⟨fun ⟨v, e, q⟩ => by have e : some (Value.int x) = some (Value.int v) := e; cases e; exact q, fun q => ⟨x, rfl, q⟩⟩
theorem dc_10 {a0 a1 a2 a3 a4 a5 a6 a7 a8 a9 : Value} (e : Xp Value) (Q : Rs → Ev → Hp → Prop) : wS (sDecl e) [a0, a1, a2, a3, a4, a5, a6, a7, a8, a9] h Q ↔ wE e [a0, a1, a2, a3, a4, a5, a6, a7, a8, a9] h fun v h1 => Q (0, none) [a0, a1, a2, a3, a4, a5, a6, a7, a8, a9, v] h1 := wS_decl e Q
theorem bk_10_10 {a0 a1 a2 a3 a4 a5 a6 a7 a8 a9 : Value} {x : Option Value} (K : Ev → Prop) : bkT 10 (0, x) [a0, a1, a2, a3, a4, a5, a6, a7, a8, a9] K ↔ K [a0, a1, a2, a3, a4, a5, a6, a7, a8, a9] := Iff.rfl
theorem tk_10_10 {a0 a1 a2 a3 a4 a5 a6 a7 a8 a9 : Value} (K : Ev → Prop) : tkT 10 [a0, a1, a2, a3, a4, a5, a6, a7, a8, a9] K ↔ K [a0, a1, a2, a3, a4, a5, a6, a7, a8, a9] := Iff.rfl
theorem bk_10_11 {a0 a1 a2 a3 a4 a5 a6 a7 a8 a9 a10 : Value} {x : Option Value} (K : Ev → Prop) : bkT 10 (0, x) [a0, a1, a2, a3, a4, a5, a6, a7, a8, a9, a10] K ↔ K [a0, a1, a2, a3, a4, a5, a6, a7, a8, a9] := Iff.rfl
theorem tk_10_11 {a0 a1 a2 a3 a4 a5 a6 a7 a8 a9 a10 : Value} (K : Ev → Prop) : tkT 10 [a0, a1, a2, a3, a4, a5, a6, a7, a8, a9, a10] K ↔ K [a0, a1, a2, a3, a4, a5, a6, a7, a8, a9] := Iff.rfl
theorem bk_10_12 {a0 a1 a2 a3 a4 a5 a6 a7 a8 a9 a10 a11 : Value} {x : Option Value} (K : Ev → Prop) : bkT 10 (0, x) [a0, a1, a2, a3, a4, a5, a6, a7, a8, a9, a10, a11] K ↔ K [a0, a1, a2, a3, a4, a5, a6, a7, a8, a9] := Iff.rfl
theorem tk_10_12 {a0 a1 a2 a3 a4 a5 a6 a7 a8 a9 a10 a11 : Value} (K : Ev → Prop) : tkT 10 [a0, a1, a2, a3, a4, a5, a6, a7, a8, a9, a10, a11] K ↔ K [a0, a1, a2, a3, a4, a5, a6, a7, a8, a9] := Iff.rfl
theorem bk_10_13 {a0 a1 a2 a3 a4 a5 a6 a7 a8 a9 a10 a11 a12 : Value} {x : Option Value} (K : Ev → Prop) : bkT 10 (0, x) [a0, a1, a2, a3, a4, a5, a6, a7, a8, a9, a10, a11, a12] K ↔ K [a0, a1, a2, a3, a4, a5, a6, a7, a8, a9] := Iff.rfl
theorem tk_10_13 {a0 a1 a2 a3 a4 a5 a6 a7 a8 a9 a10 a11 a12 : Value} (K : Ev → Prop) : tkT 10 [a0, a1, a2, a3, a4, a5, a6, a7, a8, a9, a10, a11, a12] K ↔ K [a0, a1, a2, a3, a4, a5, a6, a7, a8, a9] := Iff.rfl
theorem bk_10_14 {a0 a1 a2 a3 a4 a5 a6 a7 a8 a9 a10 a11 a12 a13 : Value} {x : Option Value} (K : Ev → Prop) : bkT 10 (0, x) [a0, a1, a2, a3, a4, a5, a6, a7, a8, a9, a10, a11, a12, a13] K ↔ K [a0, a1, a2, a3, a4, a5, a6, a7, a8, a9] := Iff.rfl
theorem tk_10_14 {a0 a1 a2 a3 a4 a5 a6 a7 a8 a9 a10 a11 a12 a13 : Value} (K : Ev → Prop) : tkT 10 [a0, a1, a2, a3, a4, a5, a6, a7, a8, a9, a10, a11, a12, a13] K ↔ K [a0, a1, a2, a3, a4, a5, a6, a7, a8, a9] := Iff.rfl
theorem bk_10_15 {a0 a1 a2 a3 a4 a5 a6 a7 a8 a9 a10 a11 a12 a13 a14 : Value} {x : Option Value} (K : Ev → Prop) : bkT 10 (0, x) [a0, a1, a2, a3, a4, a5, a6, a7, a8, a9, a10, a11, a12, a13, a14] K ↔ K [a0, a1, a2, a3, a4, a5, a6, a7, a8, a9] := Iff.rfl
theorem tk_10_15 {a0 a1 a2 a3 a4 a5 a6 a7 a8 a9 a10 a11 a12 a13 a14 : Value} (K : Ev → Prop) : tkT 10 [a0, a1, a2, a3, a4, a5, a6, a7, a8, a9, a10, a11, a12, a13, a14] K ↔ K [a0, a1, a2, a3, a4, a5, a6, a7, a8, a9] := Iff.rfl
theorem lI_11 {a0 a1 a2 a3 a4 a5 a6 a7 a8 a9 a10 : Value} {l : Ev} {v : Int32} (Q : Int32 → Hp → Prop) : wE (vI 11) (a0 :: a1 :: a2 :: a3 :: a4 :: a5 :: a6 :: a7 :: a8 :: a9 :: a10 :: .int v :: l) h Q ↔ Q v h := ⟨fun ⟨v', h', e, q⟩ => by have e : some (v, h) = some (v', h') := e; cases e; exact q, fun q => ⟨v, h, rfl, q⟩⟩
theorem lL_11 {a0 a1 a2 a3 a4 a5 a6 a7 a8 a9 a10 : Value} {l : Ev} {v : Int64} (Q : Int64 → Hp → Prop) : wE (vL 11) (a0 :: a1 :: a2 :: a3 :: a4 :: a5 :: a6 :: a7 :: a8 :: a9 :: a10 :: .long v :: l) h Q ↔ Q v h := ⟨fun ⟨v', h', e, q⟩ => by have e : some (v, h) = some (v', h') := e; cases e; exact q, fun q => ⟨v, h, rfl, q⟩⟩
theorem lR_11 {a0 a1 a2 a3 a4 a5 a6 a7 a8 a9 a10 : Value} {l : Ev} {v : Nat} (Q : Nat → Hp → Prop) : wE (vR 11) (a0 :: a1 :: a2 :: a3 :: a4 :: a5 :: a6 :: a7 :: a8 :: a9 :: a10 :: .ref v :: l) h Q ↔ Q v h := ⟨fun ⟨v', h', e, q⟩ => by have e : some (v, h) = some (v', h') := e; cases e; exact q, fun q => ⟨v, h, rfl, q⟩⟩
theorem st_11 {a0 a1 a2 a3 a4 a5 a6 a7 a8 a9 a10 : Value} {x : Value} {l : Ev} (e : Xp Value) (Q : Rs → Ev → Hp → Prop) : wS (sSet 11 e) (a0 :: a1 :: a2 :: a3 :: a4 :: a5 :: a6 :: a7 :: a8 :: a9 :: a10 :: x :: l) h Q ↔ wE e (a0 :: a1 :: a2 :: a3 :: a4 :: a5 :: a6 :: a7 :: a8 :: a9 :: a10 :: x :: l) h fun v h1 => Q (0, none) (a0 :: a1 :: a2 :: a3 :: a4 :: a5 :: a6 :: a7 :: a8 :: a9 :: a10 :: v :: l) h1 := wS_set 11 e Q
theorem in_11 {a0 a1 a2 a3 a4 a5 a6 a7 a8 a9 a10 : Value} {x : Int32} {l : Ev} (c : Int32) (Q : Rs → Ev → Hp → Prop) : wS (sInc 11 c) (a0 :: a1 :: a2 :: a3 :: a4 :: a5 :: a6 :: a7 :: a8 :: a9 :: a10 :: .int x :: l) h Q ↔ Q (0, none) (a0 :: a1 :: a2 :: a3 :: a4 :: a5 :: a6 :: a7 :: a8 :: a9 :: a10 :: .int (x + c) :: l) h := (wS_inc 11 c Q).trans ⟨fun ⟨v, e, q⟩ => by have e : some (Value.int x) = some (Value.int v) := e; cases e; exact q, fun q => ⟨x, rfl, q⟩⟩
theorem dc_11 {a0 a1 a2 a3 a4 a5 a6 a7 a8 a9 a10 : Value} (e : Xp Value) (Q : Rs → Ev → Hp → Prop) : wS (sDecl e) [a0, a1, a2, a3, a4, a5, a6, a7, a8, a9, a10] h Q ↔ wE e [a0, a1, a2, a3, a4, a5, a6, a7, a8, a9, a10] h fun v h1 => Q (0, none) [a0, a1, a2, a3, a4, a5, a6, a7, a8, a9, a10, v] h1 := wS_decl e Q
theorem bk_11_11 {a0 a1 a2 a3 a4 a5 a6 a7 a8 a9 a10 : Value} {x : Option Value} (K : Ev → Prop) : bkT 11 (0, x) [a0, a1, a2, a3, a4, a5, a6, a7, a8, a9, a10] K ↔ K [a0, a1, a2, a3, a4, a5, a6, a7, a8, a9, a10] := Iff.rfl
theorem tk_11_11 {a0 a1 a2 a3 a4 a5 a6 a7 a8 a9 a10 : Value} (K : Ev → Prop) : tkT 11 [a0, a1, a2, a3, a4, a5, a6, a7, a8, a9, a10] K ↔ K [a0, a1, a2, a3, a4, a5, a6, a7, a8, a9, a10] := Iff.rfl
theorem bk_11_12 {a0 a1 a2 a3 a4 a5 a6 a7 a8 a9 a10 a11 : Value} {x : Option Value} (K : Ev → Prop) : bkT 11 (0, x) [a0, a1, a2, a3, a4, a5, a6, a7, a8, a9, a10, a11] K ↔ K [a0, a1, a2, a3, a4, a5, a6, a7, a8, a9, a10] := Iff.rfl
theorem tk_11_12 {a0 a1 a2 a3 a4 a5 a6 a7 a8 a9 a10 a11 : Value} (K : Ev → Prop) : tkT 11 [a0, a1, a2, a3, a4, a5, a6, a7, a8, a9, a10, a11] K ↔ K [a0, a1, a2, a3, a4, a5, a6, a7, a8, a9, a10] := Iff.rfl
theorem bk_11_13 {a0 a1 a2 a3 a4 a5 a6 a7 a8 a9 a10 a11 a12 : Value} {x : Option Value} (K : Ev → Prop) : bkT 11 (0, x) [a0, a1, a2, a3, a4, a5, a6, a7, a8, a9, a10, a11, a12] K ↔ K [a0, a1, a2, a3, a4, a5, a6, a7, a8, a9, a10] := Iff.rfl
theorem tk_11_13 {a0 a1 a2 a3 a4 a5 a6 a7 a8 a9 a10 a11 a12 : Value} (K : Ev → Prop) : tkT 11 [a0, a1, a2, a3, a4, a5, a6, a7, a8, a9, a10, a11, a12] K ↔ K [a0, a1, a2, a3, a4, a5, a6, a7, a8, a9, a10] := Iff.rfl
theorem bk_11_14 {a0 a1 a2 a3 a4 a5 a6 a7 a8 a9 a10 a11 a12 a13 : Value} {x : Option Value} (K : Ev → Prop) : bkT 11 (0, x) [a0, a1, a2, a3, a4, a5, a6, a7, a8, a9, a10, a11, a12, a13] K ↔ K [a0, a1, a2, a3, a4, a5, a6, a7, a8, a9, a10] := Iff.rfl
theorem tk_11_14 {a0 a1 a2 a3 a4 a5 a6 a7 a8 a9 a10 a11 a12 a13 : Value} (K : Ev → Prop) : tkT 11 [a0, a1, a2, a3, a4, a5, a6, a7, a8, a9, a10, a11, a12, a13] K ↔ K [a0, a1, a2, a3, a4, a5, a6, a7, a8, a9, a10] := Iff.rfl
theorem bk_11_15 {a0 a1 a2 a3 a4 a5 a6 a7 a8 a9 a10 a11 a12 a13 a14 : Value} {x : Option Value} (K : Ev → Prop) : bkT 11 (0, x) [a0, a1, a2, a3, a4, a5, a6, a7, a8, a9, a10, a11, a12, a13, a14] K ↔ K [a0, a1, a2, a3, a4, a5, a6, a7, a8, a9, a10] := Iff.rfl
theorem tk_11_15 {a0 a1 a2 a3 a4 a5 a6 a7 a8 a9 a10 a11 a12 a13 a14 : Value} (K : Ev → Prop) : tkT 11 [a0, a1, a2, a3, a4, a5, a6, a7, a8, a9, a10, a11, a12, a13, a14] K ↔ K [a0, a1, a2, a3, a4, a5, a6, a7, a8, a9, a10] := Iff.rfl
theorem bk_11_16 {a0 a1 a2 a3 a4 a5 a6 a7 a8 a9 a10 a11 a12 a13 a14 a15 : Value} {x : Option Value} (K : Ev → Prop) : bkT 11 (0, x) [a0, a1, a2, a3, a4, a5, a6, a7, a8, a9, a10, a11, a12, a13, a14, a15] K ↔ K [a0, a1, a2, a3, a4, a5, a6, a7, a8, a9, a10] := Iff.rfl
theorem tk_11_16 {a0 a1 a2 a3 a4 a5 a6 a7 a8 a9 a10 a11 a12 a13 a14 a15 : Value} (K : Ev → Prop) : tkT 11 [a0, a1, a2, a3, a4, a5, a6, a7, a8, a9, a10, a11, a12, a13, a14, a15] K ↔ K [a0, a1, a2, a3, a4, a5, a6, a7, a8, a9, a10] := Iff.rfl
theorem lI_12 {a0 a1 a2 a3 a4 a5 a6 a7 a8 a9 a10 a11 : Value} {l : Ev} {v : Int32} (Q : Int32 → Hp → Prop) : wE (vI 12) (a0 :: a1 :: a2 :: a3 :: a4 :: a5 :: a6 :: a7 :: a8 :: a9 :: a10 :: a11 :: .int v :: l) h Q ↔ Q v h := ⟨fun ⟨v', h', e, q⟩ => by have e : some (v, h) = some (v', h') := e; cases e; exact q, fun q => ⟨v, h, rfl, q⟩⟩
theorem lL_12 {a0 a1 a2 a3 a4 a5 a6 a7 a8 a9 a10 a11 : Value} {l : Ev} {v : Int64} (Q : Int64 → Hp → Prop) : wE (vL 12) (a0 :: a1 :: a2 :: a3 :: a4 :: a5 :: a6 :: a7 :: a8 :: a9 :: a10 :: a11 :: .long v :: l) h Q ↔ Q v h := ⟨fun ⟨v', h', e, q⟩ => by have e : some (v, h) = some (v', h') := e; cases e; exact q, fun q => ⟨v, h, rfl, q⟩⟩
theorem lR_12 {a0 a1 a2 a3 a4 a5 a6 a7 a8 a9 a10 a11 : Value} {l : Ev} {v : Nat} (Q : Nat → Hp → Prop) : wE (vR 12) (a0 :: a1 :: a2 :: a3 :: a4 :: a5 :: a6 :: a7 :: a8 :: a9 :: a10 :: a11 :: .ref v :: l) h Q ↔ Q v h := ⟨fun ⟨v', h', e, q⟩ => by have e : some (v, h) = some (v', h') := e; cases e; exact q, fun q => ⟨v, h, rfl, q⟩⟩
theorem st_12 {a0 a1 a2 a3 a4 a5 a6 a7 a8 a9 a10 a11 : Value} {x : Value} {l : Ev} (e : Xp Value) (Q : Rs → Ev → Hp → Prop) : wS (sSet 12 e) (a0 :: a1 :: a2 :: a3 :: a4 :: a5 :: a6 :: a7 :: a8 :: a9 :: a10 :: a11 :: x :: l) h Q ↔ wE e (a0 :: a1 :: a2 :: a3 :: a4 :: a5 :: a6 :: a7 :: a8 :: a9 :: a10 :: a11 :: x :: l) h fun v h1 => Q (0, none) (a0 :: a1 :: a2 :: a3 :: a4 :: a5 :: a6 :: a7 :: a8 :: a9 :: a10 :: a11 :: v :: l) h1 := wS_set 12 e Q
theorem in_12 {a0 a1 a2 a3 a4 a5 a6 a7 a8 a9 a10 a11 : Value} {x : Int32} {l : Ev} (c : Int32) (Q : Rs → Ev → Hp → Prop) : wS (sInc 12 c) (a0 :: a1 :: a2 :: a3 :: a4 :: a5 :: a6 :: a7 :: a8 :: a9 :: a10 :: a11 :: .int x :: l) h Q ↔ Q (0, none) (a0 :: a1 :: a2 :: a3 :: a4 :: a5 :: a6 :: a7 :: a8 :: a9 :: a10 :: a11 :: .int (x + c) :: l) h := (wS_inc 12 c Q).trans ⟨fun ⟨v, e, q⟩ => by have e : some (Value.int x) = some (Value.int v) := e; cases e; exact q, fun q => ⟨x, rfl, q⟩⟩
theorem dc_12 {a0 a1 a2 a3 a4 a5 a6 a7 a8 a9 a10 a11 : Value} (e : Xp Value) (Q : Rs → Ev → Hp → Prop) : wS (sDecl e) [a0, a1, a2, a3, a4, a5, a6, a7, a8, a9, a10, a11] h Q ↔ wE e [a0, a1, a2, a3, a4, a5, a6, a7, a8, a9, a10, a11] h fun v h1 => Q (0, none) [a0, a1, a2, a3, a4, a5, a6, a7, a8, a9, a10, a11, v] h1 := wS_decl e Q
theorem bk_12_12 {a0 a1 a2 a3 a4 a5 a6 a7 a8 a9 a10 a11 : Value} {x : Option Value} (K : Ev → Prop) : bkT 12 (0, x) [a0, a1, a2, a3, a4, a5, a6, a7, a8, a9, a10, a11] K ↔ K [a0, a1, a2, a3, a4, a5, a6, a7, a8, a9, a10, a11] := Iff.rfl
theorem tk_12_12 {a0 a1 a2 a3 a4 a5 a6 a7 a8 a9 a10 a11 : Value} (K : Ev → Prop) : tkT 12 [a0, a1, a2, a3, a4, a5, a6, a7, a8, a9, a10, a11] K ↔ K [a0, a1, a2, a3, a4, a5, a6, a7, a8, a9, a10, a11] := Iff.rfl
theorem bk_12_13 {a0 a1 a2 a3 a4 a5 a6 a7 a8 a9 a10 a11 a12 : Value} {x : Option Value} (K : Ev → Prop) : bkT 12 (0, x) [a0, a1, a2, a3, a4, a5, a6, a7, a8, a9, a10, a11, a12] K ↔ K [a0, a1, a2, a3, a4, a5, a6, a7, a8, a9, a10, a11] := Iff.rfl
theorem tk_12_13 {a0 a1 a2 a3 a4 a5 a6 a7 a8 a9 a10 a11 a12 : Value} (K : Ev → Prop) : tkT 12 [a0, a1, a2, a3, a4, a5, a6, a7, a8, a9, a10, a11, a12] K ↔ K [a0, a1, a2, a3, a4, a5, a6, a7, a8, a9, a10, a11] := Iff.rfl
theorem bk_12_14 {a0 a1 a2 a3 a4 a5 a6 a7 a8 a9 a10 a11 a12 a13 : Value} {x : Option Value} (K : Ev → Prop) : bkT 12 (0, x) [a0, a1, a2, a3, a4, a5, a6, a7, a8, a9, a10, a11, a12, a13] K ↔ K [a0, a1, a2, a3, a4, a5, a6, a7, a8, a9, a10, a11] := Iff.rfl
theorem tk_12_14 {a0 a1 a2 a3 a4 a5 a6 a7 a8 a9 a10 a11 a12 a13 : Value} (K : Ev → Prop) : tkT 12 [a0, a1, a2, a3, a4, a5, a6, a7, a8, a9, a10, a11, a12, a13] K ↔ K [a0, a1, a2, a3, a4, a5, a6, a7, a8, a9, a10, a11] := Iff.rfl
theorem bk_12_15 {a0 a1 a2 a3 a4 a5 a6 a7 a8 a9 a10 a11 a12 a13 a14 : Value} {x : Option Value} (K : Ev → Prop) : bkT 12 (0, x) [a0, a1, a2, a3, a4, a5, a6, a7, a8, a9, a10, a11, a12, a13, a14] K ↔ K [a0, a1, a2, a3, a4, a5, a6, a7, a8, a9, a10, a11] := Iff.rfl
theorem tk_12_15 {a0 a1 a2 a3 a4 a5 a6 a7 a8 a9 a10 a11 a12 a13 a14 : Value} (K : Ev → Prop) : tkT 12 [a0, a1, a2, a3, a4, a5, a6, a7, a8, a9, a10, a11, a12, a13, a14] K ↔ K [a0, a1, a2, a3, a4, a5, a6, a7, a8, a9, a10, a11] := Iff.rfl
theorem bk_12_16 {a0 a1 a2 a3 a4 a5 a6 a7 a8 a9 a10 a11 a12 a13 a14 a15 : Value} {x : Option Value} (K : Ev → Prop) : bkT 12 (0, x) [a0, a1, a2, a3, a4, a5, a6, a7, a8, a9, a10, a11, a12, a13, a14, a15] K ↔ K [a0, a1, a2, a3, a4, a5, a6, a7, a8, a9, a10, a11] := Iff.rfl
theorem tk_12_16 {a0 a1 a2 a3 a4 a5 a6 a7 a8 a9 a10 a11 a12 a13 a14 a15 : Value} (K : Ev → Prop) : tkT 12 [a0, a1, a2, a3, a4, a5, a6, a7, a8, a9, a10, a11, a12, a13, a14, a15] K ↔ K [a0, a1, a2, a3, a4, a5, a6, a7, a8, a9, a10, a11] := Iff.rfl
theorem bk_12_17 {a0 a1 a2 a3 a4 a5 a6 a7 a8 a9 a10 a11 a12 a13 a14 a15 a16 : Value} {x : Option Value} (K : Ev → Prop) : bkT 12 (0, x) [a0, a1, a2, a3, a4, a5, a6, a7, a8, a9, a10, a11, a12, a13, a14, a15, a16] K ↔ K [a0, a1, a2, a3, a4, a5, a6, a7, a8, a9, a10, a11] := Iff.rfl
theorem tk_12_17 {a0 a1 a2 a3 a4 a5 a6 a7 a8 a9 a10 a11 a12 a13 a14 a15 a16 : Value} (K : Ev → Prop) : tkT 12 [a0, a1, a2, a3, a4, a5, a6, a7, a8, a9, a10, a11, a12, a13, a14, a15, a16] K ↔ K [a0, a1, a2, a3, a4, a5, a6, a7, a8, a9, a10, a11] := Iff.rfl
theorem lI_13 {a0 a1 a2 a3 a4 a5 a6 a7 a8 a9 a10 a11 a12 : Value} {l : Ev} {v : Int32} (Q : Int32 → Hp → Prop) : wE (vI 13) (a0 :: a1 :: a2 :: a3 :: a4 :: a5 :: a6 :: a7 :: a8 :: a9 :: a10 :: a11 :: a12 :: .int v :: l) h Q ↔ Q v h := ⟨fun ⟨v', h', e, q⟩ => by have e : some (v, h) = some (v', h') := e; cases e; exact q, fun q => ⟨v, h, rfl, q⟩⟩
theorem lL_13 {a0 a1 a2 a3 a4 a5 a6 a7 a8 a9 a10 a11 a12 : Value} {l : Ev} {v : Int64} (Q : Int64 → Hp → Prop) : wE (vL 13) (a0 :: a1 :: a2 :: a3 :: a4 :: a5 :: a6 :: a7 :: a8 :: a9 :: a10 :: a11 :: a12 :: .long v :: l) h Q ↔ Q v h := ⟨fun ⟨v', h', e, q⟩ => by have e : some (v, h) = some (v', h') := e; cases e; exact q, fun q => ⟨v, h, rfl, q⟩⟩
theorem lR_13 {a0 a1 a2 a3 a4 a5 a6 a7 a8 a9 a10 a11 a12 : Value} {l : Ev} {v : Nat} (Q : Nat → Hp → Prop) : wE (vR 13) (a0 :: a1 :: a2 :: a3 :: a4 :: a5 :: a6 :: a7 :: a8 :: a9 :: a10 :: a11 :: a12 :: .ref v :: l) h Q ↔ Q v h := ⟨fun ⟨v', h', e, q⟩ => by have e : some (v, h) = some (v', h') := e; cases e; exact q, fun q => ⟨v, h, rfl, q⟩⟩
theorem st_13 {a0 a1 a2 a3 a4 a5 a6 a7 a8 a9 a10 a11 a12 : Value} {x : Value} {l : Ev} (e : Xp Value) (Q : Rs → Ev → Hp → Prop) : wS (sSet 13 e) (a0 :: a1 :: a2 :: a3 :: a4 :: a5 :: a6 :: a7 :: a8 :: a9 :: a10 :: a11 :: a12 :: x :: l) h Q ↔ wE e (a0 :: a1 :: a2 :: a3 :: a4 :: a5 :: a6 :: a7 :: a8 :: a9 :: a10 :: a11 :: a12 :: x :: l) h fun v h1 => Q (0, none) (a0 :: a1 :: a2 :: a3 :: a4 :: a5 :: a6 :: a7 :: a8 :: a9 :: a10 :: a11 :: a12 :: v :: l) h1 := wS_set 13 e Q
theorem in_13 {a0 a1 a2 a3 a4 a5 a6 a7 a8 a9 a10 a11 a12 : Value} {x : Int32} {l : Ev} (c : Int32) (Q : Rs → Ev → Hp → Prop) : wS (sInc 13 c) (a0 :: a1 :: a2 :: a3 :: a4 :: a5 :: a6 :: a7 :: a8 :: a9 :: a10 :: a11 :: a12 :: .int x :: l) h Q ↔ Q (0, none) (a0 :: a1 :: a2 :: a3 :: a4 :: a5 :: a6 :: a7 :: a8 :: a9 :: a10 :: a11 :: a12 :: .int (x + c) :: l) h := (wS_inc 13 c Q).trans ⟨fun ⟨v, e, q⟩ => by have e : some (Value.int x) = some (Value.int v) := e; cases e; exact q, fun q => ⟨x, rfl, q⟩⟩
theorem dc_13 {a0 a1 a2 a3 a4 a5 a6 a7 a8 a9 a10 a11 a12 : Value} (e : Xp Value) (Q : Rs → Ev → Hp → Prop) : wS (sDecl e) [a0, a1, a2, a3, a4, a5, a6, a7, a8, a9, a10, a11, a12] h Q ↔ wE e [a0, a1, a2, a3, a4, a5, a6, a7, a8, a9, a10, a11, a12] h fun v h1 => Q (0, none) [a0, a1, a2, a3, a4, a5, a6, a7, a8, a9, a10, a11, a12, v] h1 := wS_decl e Q
theorem bk_13_13 {a0 a1 a2 a3 a4 a5 a6 a7 a8 a9 a10 a11 a12 : Value} {x : Option Value} (K : Ev → Prop) : bkT 13 (0, x) [a0, a1, a2, a3, a4, a5, a6, a7, a8, a9, a10, a11, a12] K ↔ K [a0, a1, a2, a3, a4, a5, a6, a7, a8, a9, a10, a11, a12] := Iff.rfl
theorem tk_13_13 {a0 a1 a2 a3 a4 a5 a6 a7 a8 a9 a10 a11 a12 : Value} (K : Ev → Prop) : tkT 13 [a0, a1, a2, a3, a4, a5, a6, a7, a8, a9, a10, a11, a12] K ↔ K [a0, a1, a2, a3, a4, a5, a6, a7, a8, a9, a10, a11, a12] := Iff.rfl
theorem bk_13_14 {a0 a1 a2 a3 a4 a5 a6 a7 a8 a9 a10 a11 a12 a13 : Value} {x : Option Value} (K : Ev → Prop) : bkT 13 (0, x) [a0, a1, a2, a3, a4, a5, a6, a7, a8, a9, a10, a11, a12, a13] K ↔ K [a0, a1, a2, a3, a4, a5, a6, a7, a8, a9, a10, a11, a12] := Iff.rfl
theorem tk_13_14 {a0 a1 a2 a3 a4 a5 a6 a7 a8 a9 a10 a11 a12 a13 : Value} (K : Ev → Prop) : tkT 13 [a0, a1, a2, a3, a4, a5, a6, a7, a8, a9, a10, a11, a12, a13] K ↔ K [a0, a1, a2, a3, a4, a5, a6, a7, a8, a9, a10, a11, a12] := Iff.rfl
theorem bk_13_15 {a0 a1 a2 a3 a4 a5 a6 a7 a8 a9 a10 a11 a12 a13 a14 : Value} {x : Option Value} (K : Ev → Prop) : bkT 13 (0, x) [a0, a1, a2, a3, a4, a5, a6, a7, a8, a9, a10, a11, a12, a13, a14] K ↔ K [a0, a1, a2, a3, a4, a5, a6, a7, a8, a9, a10, a11, a12] := Iff.rfl
theorem tk_13_15 {a0 a1 a2 a3 a4 a5 a6 a7 a8 a9 a10 a11 a12 a13 a14 : Value} (K : Ev → Prop) : tkT 13 [a0, a1, a2, a3, a4, a5, a6, a7, a8, a9, a10, a11, a12, a13, a14] K ↔ K [a0, a1, a2, a3, a4, a5, a6, a7, a8, a9, a10, a11, a12] := Iff.rfl
theorem bk_13_16 {a0 a1 a2 a3 a4 a5 a6 a7 a8 a9 a10 a11 a12 a13 a14 a15 : Value} {x : Option Value} (K : Ev → Prop) : bkT 13 (0, x) [a0, a1, a2, a3, a4, a5, a6, a7, a8, a9, a10, a11, a12, a13, a14, a15] K ↔ K [a0, a1, a2, a3, a4, a5, a6, a7, a8, a9, a10, a11, a12] := Iff.rfl
theorem tk_13_16 {a0 a1 a2 a3 a4 a5 a6 a7 a8 a9 a10 a11 a12 a13 a14 a15 : Value} (K : Ev → Prop) : tkT 13 [a0, a1, a2, a3, a4, a5, a6, a7, a8, a9, a10, a11, a12, a13, a14, a15] K ↔ K [a0, a1, a2, a3, a4, a5, a6, a7, a8, a9, a10, a11, a12] := Iff.rfl
theorem bk_13_17 {a0 a1 a2 a3 a4 a5 a6 a7 a8 a9 a10 a11 a12 a13 a14 a15 a16 : Value} {x : Option Value} (K : Ev → Prop) : bkT 13 (0, x) [a0, a1, a2, a3, a4, a5, a6, a7, a8, a9, a10, a11, a12, a13, a14, a15, a16] K ↔ K [a0, a1, a2, a3, a4, a5, a6, a7, a8, a9, a10, a11, a12] := Iff.rfl
theorem tk_13_17 {a0 a1 a2 a3 a4 a5 a6 a7 a8 a9 a10 a11 a12 a13 a14 a15 a16 : Value} (K : Ev → Prop) : tkT 13 [a0, a1, a2, a3, a4, a5, a6, a7, a8, a9, a10, a11, a12, a13, a14, a15, a16] K ↔ K [a0, a1, a2, a3, a4, a5, a6, a7, a8, a9, a10, a11, a12] := Iff.rfl
theorem bk_13_18 {a0 a1 a2 a3 a4 a5 a6 a7 a8 a9 a10 a11 a12 a13 a14 a15 a16 a17 : Value} {x : Option Value} (K : Ev → Prop) : bkT 13 (0, x) [a0, a1, a2, a3, a4, a5, a6, a7, a8, a9, a10, a11, a12, a13, a14, a15, a16, a17] K ↔ K [a0, a1, a2, a3, a4, a5, a6, a7, a8, a9, a10, a11, a12] := Iff.rfl
theorem tk_13_18 {a0 a1 a2 a3 a4 a5 a6 a7 a8 a9 a10 a11 a12 a13 a14 a15 a16 a17 : Value} (K : Ev → Prop) : tkT 13 [a0, a1, a2, a3, a4, a5, a6, a7, a8, a9, a10, a11, a12, a13, a14, a15, a16, a17] K ↔ K [a0, a1, a2, a3, a4, a5, a6, a7, a8, a9, a10, a11, a12] := Iff.rfl
theorem lI_14 {a0 a1 a2 a3 a4 a5 a6 a7 a8 a9 a10 a11 a12 a13 : Value} {l : Ev} {v : Int32} (Q : Int32 → Hp → Prop) : wE (vI 14) (a0 :: a1 :: a2 :: a3 :: a4 :: a5 :: a6 :: a7 :: a8 :: a9 :: a10 :: a11 :: a12 :: a13 :: .int v :: l) h Q ↔ Q v h := ⟨fun ⟨v', h', e, q⟩ => by have e : some (v, h) = some (v', h') := e; cases e; exact q, fun q => ⟨v, h, rfl, q⟩⟩
theorem lL_14 {a0 a1 a2 a3 a4 a5 a6 a7 a8 a9 a10 a11 a12 a13 : Value} {l : Ev} {v : Int64} (Q : Int64 → Hp → Prop) : wE (vL 14) (a0 :: a1 :: a2 :: a3 :: a4 :: a5 :: a6 :: a7 :: a8 :: a9 :: a10 :: a11 :: a12 :: a13 :: .long v :: l) h Q ↔ Q v h := ⟨fun ⟨v', h', e, q⟩ => by have e : some (v, h) = some (v', h') := e; cases e; exact q, fun q => ⟨v, h, rfl, q⟩⟩
theorem lR_14 {a0 a1 a2 a3 a4 a5 a6 a7 a8 a9 a10 a11 a12 a13 : Value} {l : Ev} {v : Nat} (Q : Nat → Hp → Prop) : wE (vR 14) (a0 :: a1 :: a2 :: a3 :: a4 :: a5 :: a6 :: a7 :: a8 :: a9 :: a10 :: a11 :: a12 :: a13 :: .ref v :: l) h Q ↔ Q v h := ⟨fun ⟨v', h', e, q⟩ => by have e : some (v, h) = some (v', h') := e; cases e; exact q, fun q => ⟨v, h, rfl, q⟩⟩
theorem st_14 {a0 a1 a2 a3 a4 a5 a6 a7 a8 a9 a10 a11 a12 a13 : Value} {x : Value} {l : Ev} (e : Xp Value) (Q : Rs → Ev → Hp → Prop) : wS (sSet 14 e) (a0 :: a1 :: a2 :: a3 :: a4 :: a5 :: a6 :: a7 :: a8 :: a9 :: a10 :: a11 :: a12 :: a13 :: x :: l) h Q ↔ wE e (a0 :: a1 :: a2 :: a3 :: a4 :: a5 :: a6 :: a7 :: a8 :: a9 :: a10 :: a11 :: a12 :: a13 :: x :: l) h fun v h1 => Q (0, none) (a0 :: a1 :: a2 :: a3 :: a4 :: a5 :: a6 :: a7 :: a8 :: a9 :: a10 :: a11 :: a12 :: a13 :: v :: l) h1 := wS_set 14 e Q
theorem in_14 {a0 a1 a2 a3 a4 a5 a6 a7 a8 a9 a10 a11 a12 a13 : Value} {x : Int32} {l : Ev} (c : Int32) (Q : Rs → Ev → Hp → Prop) : wS (sInc 14 c) (a0 :: a1 :: a2 :: a3 :: a4 :: a5 :: a6 :: a7 :: a8 :: a9 :: a10 :: a11 :: a12 :: a13 :: .int x :: l) h Q ↔ Q (0, none) (a0 :: a1 :: a2 :: a3 :: a4 :: a5 :: a6 :: a7 :: a8 :: a9 :: a10 :: a11 :: a12 :: a13 :: .int (x + c) :: l) h := (wS_inc 14 c Q).trans ⟨fun ⟨v, e, q⟩ => by have e : some (Value.int x) = some (Value.int v) := e; cases e; exact q, fun q => ⟨x, rfl, q⟩⟩
theorem dc_14 {a0 a1 a2 a3 a4 a5 a6 a7 a8 a9 a10 a11 a12 a13 : Value} (e : Xp Value) (Q : Rs → Ev → Hp → Prop) : wS (sDecl e) [a0, a1, a2, a3, a4, a5, a6, a7, a8, a9, a10, a11, a12, a13] h Q ↔ wE e [a0, a1, a2, a3, a4, a5, a6, a7, a8, a9, a10, a11, a12, a13] h fun v h1 => Q (0, none) [a0, a1, a2, a3, a4, a5, a6, a7, a8, a9, a10, a11, a12, a13, v] h1 := wS_decl e Q
theorem bk_14_14 {a0 a1 a2 a3 a4 a5 a6 a7 a8 a9 a10 a11 a12 a13 : Value} {x : Option Value} (K : Ev → Prop) : bkT 14 (0, x) [a0, a1, a2, a3, a4, a5, a6, a7, a8, a9, a10, a11, a12, a13] K ↔ K [a0, a1, a2, a3, a4, a5, a6, a7, a8, a9, a10, a11, a12, a13] := Iff.rfl
theorem tk_14_14 {a0 a1 a2 a3 a4 a5 a6 a7 a8 a9 a10 a11 a12 a13 : Value} (K : Ev → Prop) : tkT 14 [a0, a1, a2, a3, a4, a5, a6, a7, a8, a9, a10, a11, a12, a13] K ↔ K [a0, a1, a2, a3, a4, a5, a6, a7, a8, a9, a10, a11, a12, a13] := Iff.rfl
theorem bk_14_15 {a0 a1 a2 a3 a4 a5 a6 a7 a8 a9 a10 a11 a12 a13 a14 : Value} {x : Option Value} (K : Ev → Prop) : bkT 14 (0, x) [a0, a1, a2, a3, a4, a5, a6, a7, a8, a9, a10, a11, a12, a13, a14] K ↔ K [a0, a1, a2, a3, a4, a5, a6, a7, a8, a9, a10, a11, a12, a13] := Iff.rfl
theorem tk_14_15 {a0 a1 a2 a3 a4 a5 a6 a7 a8 a9 a10 a11 a12 a13 a14 : Value} (K : Ev → Prop) : tkT 14 [a0, a1, a2, a3, a4, a5, a6, a7, a8, a9, a10, a11, a12, a13, a14] K ↔ K [a0, a1, a2, a3, a4, a5, a6, a7, a8, a9, a10, a11, a12, a13] := Iff.rfl
theorem bk_14_16 {a0 a1 a2 a3 a4 a5 a6 a7 a8 a9 a10 a11 a12 a13 a14 a15 : Value} {x : Option Value} (K : Ev → Prop) : bkT 14 (0, x) [a0, a1, a2, a3, a4, a5, a6, a7, a8, a9, a10, a11, a12, a13, a14, a15] K ↔ K [a0, a1, a2, a3, a4, a5, a6, a7, a8, a9, a10, a11, a12, a13] := Iff.rfl
theorem tk_14_16 {a0 a1 a2 a3 a4 a5 a6 a7 a8 a9 a10 a11 a12 a13 a14 a15 : Value} (K : Ev → Prop) : tkT 14 [a0, a1, a2, a3, a4, a5, a6, a7, a8, a9, a10, a11, a12, a13, a14, a15] K ↔ K [a0, a1, a2, a3, a4, a5, a6, a7, a8, a9, a10, a11, a12, a13] := Iff.rfl
theorem bk_14_17 {a0 a1 a2 a3 a4 a5 a6 a7 a8 a9 a10 a11 a12 a13 a14 a15 a16 : Value} {x : Option Value} (K : Ev → Prop) : bkT 14 (0, x) [a0, a1, a2, a3, a4, a5, a6, a7, a8, a9, a10, a11, a12, a13, a14, a15, a16] K ↔ K [a0, a1, a2, a3, a4, a5, a6, a7, a8, a9, a10, a11, a12, a13] := Iff.rfl
theorem tk_14_17 {a0 a1 a2 a3 a4 a5 a6 a7 a8 a9 a10 a11 a12 a13 a14 a15 a16 : Value} (K : Ev → Prop) : tkT 14 [a0, a1, a2, a3, a4, a5, a6, a7, a8, a9, a10, a11, a12, a13, a14, a15, a16] K ↔ K [a0, a1, a2, a3, a4, a5, a6, a7, a8, a9, a10, a11, a12, a13] := Iff.rfl
theorem bk_14_18 {a0 a1 a2 a3 a4 a5 a6 a7 a8 a9 a10 a11 a12 a13 a14 a15 a16 a17 : Value} {x : Option Value} (K : Ev → Prop) : bkT 14 (0, x) [a0, a1, a2, a3, a4, a5, a6, a7, a8, a9, a10, a11, a12, a13, a14, a15, a16, a17] K ↔ K [a0, a1, a2, a3, a4, a5, a6, a7, a8, a9, a10, a11, a12, a13] := Iff.rfl
theorem tk_14_18 {a0 a1 a2 a3 a4 a5 a6 a7 a8 a9 a10 a11 a12 a13 a14 a15 a16 a17 : Value} (K : Ev → Prop) : tkT 14 [a0, a1, a2, a3, a4, a5, a6, a7, a8, a9, a10, a11, a12, a13, a14, a15, a16, a17] K ↔ K [a0, a1, a2, a3, a4, a5, a6, a7, a8, a9, a10, a11, a12, a13] := Iff.rfl
theorem lI_15 {a0 a1 a2 a3 a4 a5 a6 a7 a8 a9 a10 a11 a12 a13 a14 : Value} {l : Ev} {v : Int32} (Q : Int32 → Hp → Prop) : wE (vI 15) (a0 :: a1 :: a2 :: a3 :: a4 :: a5 :: a6 :: a7 :: a8 :: a9 :: a10 :: a11 :: a12 :: a13 :: a14 :: .int v :: l) h Q ↔ Q v h := ⟨fun ⟨v', h', e, q⟩ => by have e : some (v, h) = some (v', h') := e; cases e; exact q, fun q => ⟨v, h, rfl, q⟩⟩
theorem lL_15 {a0 a1 a2 a3 a4 a5 a6 a7 a8 a9 a10 a11 a12 a13 a14 : Value} {l : Ev} {v : Int64} (Q : Int64 → Hp → Prop) : wE (vL 15) (a0 :: a1 :: a2 :: a3 :: a4 :: a5 :: a6 :: a7 :: a8 :: a9 :: a10 :: a11 :: a12 :: a13 :: a14 :: .long v :: l) h Q ↔ Q v h := ⟨fun ⟨v', h', e, q⟩ => by have e : some (v, h) = some (v', h') := e; cases e; exact q, fun q => ⟨v, h, rfl, q⟩⟩
theorem lR_15 {a0 a1 a2 a3 a4 a5 a6 a7 a8 a9 a10 a11 a12 a13 a14 : Value} {l : Ev} {v : Nat} (Q : Nat → Hp → Prop) : wE (vR 15) (a0 :: a1 :: a2 :: a3 :: a4 :: a5 :: a6 :: a7 :: a8 :: a9 :: a10 :: a11 :: a12 :: a13 :: a14 :: .ref v :: l) h Q ↔ Q v h := ⟨fun ⟨v', h', e, q⟩ => by have e : some (v, h) = some (v', h') := e; cases e; exact q, fun q => ⟨v, h, rfl, q⟩⟩
theorem st_15 {a0 a1 a2 a3 a4 a5 a6 a7 a8 a9 a10 a11 a12 a13 a14 : Value} {x : Value} {l : Ev} (e : Xp Value) (Q : Rs → Ev → Hp → Prop) : wS (sSet 15 e) (a0 :: a1 :: a2 :: a3 :: a4 :: a5 :: a6 :: a7 :: a8 :: a9 :: a10 :: a11 :: a12 :: a13 :: a14 :: x :: l) h Q ↔ wE e (a0 :: a1 :: a2 :: a3 :: a4 :: a5 :: a6 :: a7 :: a8 :: a9 :: a10 :: a11 :: a12 :: a13 :: a14 :: x :: l) h fun v h1 => Q (0, none) (a0 :: a1 :: a2 :: a3 :: a4 :: a5 :: a6 :: a7 :: a8 :: a9 :: a10 :: a11 :: a12 :: a13 :: a14 :: v :: l) h1 := wS_set 15 e Q
theorem in_15 {a0 a1 a2 a3 a4 a5 a6 a7 a8 a9 a10 a11 a12 a13 a14 : Value} {x : Int32} {l : Ev} (c : Int32) (Q : Rs → Ev → Hp → Prop) : wS (sInc 15 c) (a0 :: a1 :: a2 :: a3 :: a4 :: a5 :: a6 :: a7 :: a8 :: a9 :: a10 :: a11 :: a12 :: a13 :: a14 :: .int x :: l) h Q ↔ Q (0, none) (a0 :: a1 :: a2 :: a3 :: a4 :: a5 :: a6 :: a7 :: a8 :: a9 :: a10 :: a11 :: a12 :: a13 :: a14 :: .int (x + c) :: l) h := (wS_inc 15 c Q).trans ⟨fun ⟨v, e, q⟩ => by have e : some (Value.int x) = some (Value.int v) := e; cases e; exact q, fun q => ⟨x, rfl, q⟩⟩
theorem dc_15 {a0 a1 a2 a3 a4 a5 a6 a7 a8 a9 a10 a11 a12 a13 a14 : Value} (e : Xp Value) (Q : Rs → Ev → Hp → Prop) : wS (sDecl e) [a0, a1, a2, a3, a4, a5, a6, a7, a8, a9, a10, a11, a12, a13, a14] h Q ↔ wE e [a0, a1, a2, a3, a4, a5, a6, a7, a8, a9, a10, a11, a12, a13, a14] h fun v h1 => Q (0, none) [a0, a1, a2, a3, a4, a5, a6, a7, a8, a9, a10, a11, a12, a13, a14, v] h1 := wS_decl e Q
theorem bk_15_15 {a0 a1 a2 a3 a4 a5 a6 a7 a8 a9 a10 a11 a12 a13 a14 : Value} {x : Option Value} (K : Ev → Prop) : bkT 15 (0, x) [a0, a1, a2, a3, a4, a5, a6, a7, a8, a9, a10, a11, a12, a13, a14] K ↔ K [a0, a1, a2, a3, a4, a5, a6, a7, a8, a9, a10, a11, a12, a13, a14] := Iff.rfl
theorem tk_15_15 {a0 a1 a2 a3 a4 a5 a6 a7 a8 a9 a10 a11 a12 a13 a14 : Value} (K : Ev → Prop) : tkT 15 [a0, a1, a2, a3, a4, a5, a6, a7, a8, a9, a10, a11, a12, a13, a14] K ↔ K [a0, a1, a2, a3, a4, a5, a6, a7, a8, a9, a10, a11, a12, a13, a14] := Iff.rfl
theorem bk_15_16 {a0 a1 a2 a3 a4 a5 a6 a7 a8 a9 a10 a11 a12 a13 a14 a15 : Value} {x : Option Value} (K : Ev → Prop) : bkT 15 (0, x) [a0, a1, a2, a3, a4, a5, a6, a7, a8, a9, a10, a11, a12, a13, a14, a15] K ↔ K [a0, a1, a2, a3, a4, a5, a6, a7, a8, a9, a10, a11, a12, a13, a14] := Iff.rfl
theorem tk_15_16 {a0 a1 a2 a3 a4 a5 a6 a7 a8 a9 a10 a11 a12 a13 a14 a15 : Value} (K : Ev → Prop) : tkT 15 [a0, a1, a2, a3, a4, a5, a6, a7, a8, a9, a10, a11, a12, a13, a14, a15] K ↔ K [a0, a1, a2, a3, a4, a5, a6, a7, a8, a9, a10, a11, a12, a13, a14] := Iff.rfl
theorem bk_15_17 {a0 a1 a2 a3 a4 a5 a6 a7 a8 a9 a10 a11 a12 a13 a14 a15 a16 : Value} {x : Option Value} (K : Ev → Prop) : bkT 15 (0, x) [a0, a1, a2, a3, a4, a5, a6, a7, a8, a9, a10, a11, a12, a13, a14, a15, a16] K ↔ K [a0, a1, a2, a3, a4, a5, a6, a7, a8, a9, a10, a11, a12, a13, a14] := Iff.rfl
theorem tk_15_17 {a0 a1 a2 a3 a4 a5 a6 a7 a8 a9 a10 a11 a12 a13 a14 a15 a16 : Value} (K : Ev → Prop) : tkT 15 [a0, a1, a2, a3, a4, a5, a6, a7, a8, a9, a10, a11, a12, a13, a14, a15, a16] K ↔ K [a0, a1, a2, a3, a4, a5, a6, a7, a8, a9, a10, a11, a12, a13, a14] := Iff.rfl
theorem bk_15_18 {a0 a1 a2 a3 a4 a5 a6 a7 a8 a9 a10 a11 a12 a13 a14 a15 a16 a17 : Value} {x : Option Value} (K : Ev → Prop) : bkT 15 (0, x) [a0, a1, a2, a3, a4, a5, a6, a7, a8, a9, a10, a11, a12, a13, a14, a15, a16, a17] K ↔ K [a0, a1, a2, a3, a4, a5, a6, a7, a8, a9, a10, a11, a12, a13, a14] := Iff.rfl
theorem tk_15_18 {a0 a1 a2 a3 a4 a5 a6 a7 a8 a9 a10 a11 a12 a13 a14 a15 a16 a17 : Value} (K : Ev → Prop) : tkT 15 [a0, a1, a2, a3, a4, a5, a6, a7, a8, a9, a10, a11, a12, a13, a14, a15, a16, a17] K ↔ K [a0, a1, a2, a3, a4, a5, a6, a7, a8, a9, a10, a11, a12, a13, a14] := Iff.rfl
theorem lI_16 {a0 a1 a2 a3 a4 a5 a6 a7 a8 a9 a10 a11 a12 a13 a14 a15 : Value} {l : Ev} {v : Int32} (Q : Int32 → Hp → Prop) : wE (vI 16) (a0 :: a1 :: a2 :: a3 :: a4 :: a5 :: a6 :: a7 :: a8 :: a9 :: a10 :: a11 :: a12 :: a13 :: a14 :: a15 :: .int v :: l) h Q ↔ Q v h := ⟨fun ⟨v', h', e, q⟩ => by have e : some (v, h) = some (v', h') := e; cases e; exact q, fun q => ⟨v, h, rfl, q⟩⟩
theorem lL_16 {a0 a1 a2 a3 a4 a5 a6 a7 a8 a9 a10 a11 a12 a13 a14 a15 : Value} {l : Ev} {v : Int64} (Q : Int64 → Hp → Prop) : wE (vL 16) (a0 :: a1 :: a2 :: a3 :: a4 :: a5 :: a6 :: a7 :: a8 :: a9 :: a10 :: a11 :: a12 :: a13 :: a14 :: a15 :: .long v :: l) h Q ↔ Q v h := ⟨fun ⟨v', h', e, q⟩ => by have e : some (v, h) = some (v', h') := e; cases e; exact q, fun q => ⟨v, h, rfl, q⟩⟩
theorem lR_16 {a0 a1 a2 a3 a4 a5 a6 a7 a8 a9 a10 a11 a12 a13 a14 a15 : Value} {l : Ev} {v : Nat} (Q : Nat → Hp → Prop) : wE (vR 16) (a0 :: a1 :: a2 :: a3 :: a4 :: a5 :: a6 :: a7 :: a8 :: a9 :: a10 :: a11 :: a12 :: a13 :: a14 :: a15 :: .ref v :: l) h Q ↔ Q v h := ⟨fun ⟨v', h', e, q⟩ => by have e : some (v, h) = some (v', h') := e; cases e; exact q, fun q => ⟨v, h, rfl, q⟩⟩
theorem st_16 {a0 a1 a2 a3 a4 a5 a6 a7 a8 a9 a10 a11 a12 a13 a14 a15 : Value} {x : Value} {l : Ev} (e : Xp Value) (Q : Rs → Ev → Hp → Prop) : wS (sSet 16 e) (a0 :: a1 :: a2 :: a3 :: a4 :: a5 :: a6 :: a7 :: a8 :: a9 :: a10 :: a11 :: a12 :: a13 :: a14 :: a15 :: x :: l) h Q ↔ wE e (a0 :: a1 :: a2 :: a3 :: a4 :: a5 :: a6 :: a7 :: a8 :: a9 :: a10 :: a11 :: a12 :: a13 :: a14 :: a15 :: x :: l) h fun v h1 => Q (0, none) (a0 :: a1 :: a2 :: a3 :: a4 :: a5 :: a6 :: a7 :: a8 :: a9 :: a10 :: a11 :: a12 :: a13 :: a14 :: a15 :: v :: l) h1 := wS_set 16 e Q
theorem in_16 {a0 a1 a2 a3 a4 a5 a6 a7 a8 a9 a10 a11 a12 a13 a14 a15 : Value} {x : Int32} {l : Ev} (c : Int32) (Q : Rs → Ev → Hp → Prop) : wS (sInc 16 c) (a0 :: a1 :: a2 :: a3 :: a4 :: a5 :: a6 :: a7 :: a8 :: a9 :: a10 :: a11 :: a12 :: a13 :: a14 :: a15 :: .int x :: l) h Q ↔ Q (0, none) (a0 :: a1 :: a2 :: a3 :: a4 :: a5 :: a6 :: a7 :: a8 :: a9 :: a10 :: a11 :: a12 :: a13 :: a14 :: a15 :: .int (x + c) :: l) h := (wS_inc 16 c Q).trans ⟨fun ⟨v, e, q⟩ => by have e : some (Value.int x) = some (Value.int v) := e; cases e; exact q, fun q => ⟨x, rfl, q⟩⟩
theorem dc_16 {a0 a1 a2 a3 a4 a5 a6 a7 a8 a9 a10 a11 a12 a13 a14 a15 : Value} (e : Xp Value) (Q : Rs → Ev → Hp → Prop) : wS (sDecl e) [a0, a1, a2, a3, a4, a5, a6, a7, a8, a9, a10, a11, a12, a13, a14, a15] h Q ↔ wE e [a0, a1, a2, a3, a4, a5, a6, a7, a8, a9, a10, a11, a12, a13, a14, a15] h fun v h1 => Q (0, none) [a0, a1, a2, a3, a4, a5, a6, a7, a8, a9, a10, a11, a12, a13, a14, a15, v] h1 := wS_decl e Q
theorem bk_16_16 {a0 a1 a2 a3 a4 a5 a6 a7 a8 a9 a10 a11 a12 a13 a14 a15 : Value} {x : Option Value} (K : Ev → Prop) : bkT 16 (0, x) [a0, a1, a2, a3, a4, a5, a6, a7, a8, a9, a10, a11, a12, a13, a14, a15] K ↔ K [a0, a1, a2, a3, a4, a5, a6, a7, a8, a9, a10, a11, a12, a13, a14, a15] := Iff.rfl
theorem tk_16_16 {a0 a1 a2 a3 a4 a5 a6 a7 a8 a9 a10 a11 a12 a13 a14 a15 : Value} (K : Ev → Prop) : tkT 16 [a0, a1, a2, a3, a4, a5, a6, a7, a8, a9, a10, a11, a12, a13, a14, a15] K ↔ K [a0, a1, a2, a3, a4, a5, a6, a7, a8, a9, a10, a11, a12, a13, a14, a15] := Iff.rfl
theorem bk_16_17 {a0 a1 a2 a3 a4 a5 a6 a7 a8 a9 a10 a11 a12 a13 a14 a15 a16 : Value} {x : Option Value} (K : Ev → Prop) : bkT 16 (0, x) [a0, a1, a2, a3, a4, a5, a6, a7, a8, a9, a10, a11, a12, a13, a14, a15, a16] K ↔ K [a0, a1, a2, a3, a4, a5, a6, a7, a8, a9, a10, a11, a12, a13, a14, a15] := Iff.rfl
theorem tk_16_17 {a0 a1 a2 a3 a4 a5 a6 a7 a8 a9 a10 a11 a12 a13 a14 a15 a16 : Value} (K : Ev → Prop) : tkT 16 [a0, a1, a2, a3, a4, a5, a6, a7, a8, a9, a10, a11, a12, a13, a14, a15, a16] K ↔ K [a0, a1, a2, a3, a4, a5, a6, a7, a8, a9, a10, a11, a12, a13, a14, a15] := Iff.rfl
theorem bk_16_18 {a0 a1 a2 a3 a4 a5 a6 a7 a8 a9 a10 a11 a12 a13 a14 a15 a16 a17 : Value} {x : Option Value} (K : Ev → Prop) : bkT 16 (0, x) [a0, a1, a2, a3, a4, a5, a6, a7, a8, a9, a10, a11, a12, a13, a14, a15, a16, a17] K ↔ K [a0, a1, a2, a3, a4, a5, a6, a7, a8, a9, a10, a11, a12, a13, a14, a15] := Iff.rfl
theorem tk_16_18 {a0 a1 a2 a3 a4 a5 a6 a7 a8 a9 a10 a11 a12 a13 a14 a15 a16 a17 : Value} (K : Ev → Prop) : tkT 16 [a0, a1, a2, a3, a4, a5, a6, a7, a8, a9, a10, a11, a12, a13, a14, a15, a16, a17] K ↔ K [a0, a1, a2, a3, a4, a5, a6, a7, a8, a9, a10, a11, a12, a13, a14, a15] := Iff.rfl
theorem bk_r1 {n : Nat} {x : Option Value} {l : Ev} (K : Ev → Prop) : bkT n (1, x) l K ↔ K l := Iff.rfl
theorem bk_r2 {n : Nat} {x : Option Value} {l : Ev} (K : Ev → Prop) : bkT n (2, x) l K ↔ K l := Iff.rfl
theorem bk_r3 {n : Nat} {x : Option Value} {l : Ev} (K : Ev → Prop) : bkT n (3, x) l K ↔ K l := Iff.rfl
end WIX
section SWT
variable {ls : Ev} {h : Hp} {a b : Int} {f d : Sm} {T : List (Int32 × Sm)}
theorem sw_t (e : a = b) (Q : Rs → Ev → Hp → Prop) : wS (SwF ((ii b, f) :: T) d (ii a)) ls h Q ↔ wS f ls h Q := by
  subst e
  rw [show SwF ((ii a, f) :: T) d (ii a) = f from if_pos rfl]
theorem sw_f (h1 : -2147483648 ≤ a) (h2 : a < 2147483648) (h3 : -2147483648 ≤ b) (h4 : b < 2147483648) (e : a ≠ b) (Q : Rs → Ev → Hp → Prop) : wS (SwF ((ii b, f) :: T) d (ii a)) ls h Q ↔ wS (SwF T d (ii a)) ls h Q := by
  rw [show SwF ((ii b, f) :: T) d (ii a) = SwF T d (ii a) from if_neg (fun q => e ((ii_inj h1 h2 h3 h4).mp q))]
theorem sw_n (v : Int32) (Q : Rs → Ev → Hp → Prop) : wS (SwF [] d v) ls h Q ↔ wS d ls h Q := Iff.rfl
end SWT
