/-! The class's parser: its states; take and emit by them. -/
def cX (e : Nat × Int32) : Nat × Int32 := (xop e.1, e.2)
def PAx (m μ : Mem) : Prop := μ.2 = m.2 ∧ (∀ r, r ≠ 14 → r ≠ 15 → r ≠ 21 → r ≠ 22 → μ.1 r = m.1 r) ∧ (∀ k, k < 5 ∨ 8 < k → μ.1 14 k = m.1 14 k) ∧ ∀ k, k ≠ 10 → μ.1 15 k = m.1 15 k
def SZX (m : Mem) : Prop := ∃ sz, sz ≤ 408 ∧ m.1 15 10 = ii ((sz : Nat) : Int)
/-- a fault -/
def PBX (f ft : Nat) (m : Mem) : Prop := m.1 14 5 = ii f ∧ 0 < f ∧ f ≤ 5 ∧ m.1 14 6 = ii ft ∧ SZX m
/-- no fault; s: how many codes could have been -/
def PGX (c : Nat → Int) (n s t : Nat) (cs : Tm) (m : Mem) : Prop := PKX c n t m ∧ COD cs m ∧ cs.length + s ≤ 8 + t
def PTX (c : Nat → Int) (n s : Nat) (cs : Tm) : Except (Nat × Nat) Nat → Mem → Prop
  | .error e, μ => PBX e.1 e.2 μ
  | .ok a, μ => PGX c n s a cs μ
def POX (c : Nat → Int) (n s : Nat) (cs : Tm) : PRs → Mem → Prop
  | .error e, μ => PBX e.1 e.2 μ
  | .ok a, μ => PGX c n s a.1 (cs ++ a.2.map cX) μ
section PST
variable {m m1 m2 μ : Mem} {n s t w : Nat} {c : Nat → Int} {cs : Tm} {o : Nat} {x : Int32}
theorem PAx.rf (m : Mem) : PAx m m := ⟨rfl, fun _ _ _ _ _ => rfl, fun _ _ => rfl, fun _ _ => rfl⟩
theorem PAx.tr (a : PAx m m1) (b : PAx m1 m2) : PAx m m2 := ⟨b.1.trans a.1, fun r h1 h2 h3 h4 => (b.2.1 r h1 h2 h3 h4).trans (a.2.1 r h1 h2 h3 h4), fun k h => (b.2.2.1 k h).trans (a.2.2.1 k h), fun k h => (b.2.2.2 k h).trans (a.2.2.2 k h)⟩
theorem PAx_pfl {f q : Nat} : PAx m (pfl m f q) := by
  unfold pfl
  exact ⟨rfl, fun r h1 _ _ _ => sI_ne h1, fun k h => by rw [sI_eq, upd_ne (by omega), upd_ne (by omega)], fun k _ => by rw [sI_ne (by decide)]⟩
theorem PAx_pgo {q : Nat} : PAx m (pgo c n m q) := by
  unfold pgo
  exact ⟨rfl, fun r h1 _ _ _ => sI_ne h1, fun k h => by rw [sI_eq, upd_ne (by omega), upd_ne (by omega)], fun k _ => by rw [sI_ne (by decide)]⟩
theorem PAx_emt {q : Nat} : PAx m (emt m q o x) := by
  unfold emt
  exact ⟨rfl, fun r h1 h2 h3 h4 => by rw [sI_ne h2, sI_ne h4, sI_ne h3], fun k h => by rw [sI_ne (by decide), sI_ne (by decide), sI_ne (by decide)], fun k h => by rw [sI_eq, upd_ne h]⟩
theorem TOK.of {j : Nat} (h : TOK c n j m) (h3 : μ.1 3 = m.1 3) (h4 : μ.1 4 = m.1 4) (h5 : μ.2 = m.2) : TOK c n j μ := by
  unfold TOK
  rw [h3, h4, h5]
  exact h
theorem TOK.pa {j : Nat} (h : TOK c n j m) (a : PAx m μ) : TOK c n j μ := h.of (a.2.1 3 (by decide) (by decide) (by decide) (by decide)) (a.2.1 4 (by decide) (by decide) (by decide) (by decide)) a.1
theorem pfl_b {f : Nat} (hf : 0 < f ∧ f ≤ 5) (h : SZX m) : PBX f t (pfl m f t) := by
  unfold pfl
  refine ⟨by rw [sI_eq, upd_ne (by decide), upd_eq], hf.1, hf.2, by rw [sI_eq, upd_eq], ?_⟩
  unfold SZX
  rw [sI_ne (by decide)]
  exact h
theorem PGX.z (h : PGX c n s t cs m) : SZX m := ⟨cs.length, h.2.1.2.1, h.2.1.1⟩
theorem pgo_k (h : PKX c n t m) (hz : w ≤ tkz c n) : PKX c n w (pgo c n m w) := by
  obtain ⟨h5, h7, h8, _, hK⟩ := h
  refine ⟨?_, ?_, ?_, hz, hK.pa PAx_pgo⟩
  · unfold pgo; rw [sI_eq, upd_ne (by decide), upd_ne (by decide)]; exact h5
  · unfold pgo; rw [sI_eq, upd_ne (by decide), upd_eq]
  · unfold pgo; rw [sI_eq, upd_eq]
theorem pgo_c {q : Nat} (h : COD cs m) : COD cs (pgo c n m q) := by
  unfold COD pgo
  rw [sI_ne (by decide), sI_ne (by decide), sI_ne (by decide)]
  exact h
theorem w_takeG (h : PGX c n s t cs m) (hw : w ≤ 30) : ∃ μ, PAx m μ ∧ PTX c n (s + 1) cs (adv (tkd c n) w t) μ ∧ ∀ Q, wD D_Parser_take [.ref 14, .int (ii w)] (hp m) Q ↔ Q none (hp μ) := by
  have q := fun Q => w_Parser_take h.1 hw Q
  have hz := h.z
  unfold adv
  by_cases a1 : tkd c n t = w
  · rw [if_pos a1] at q ⊢
    by_cases a2 : t < 400
    · rw [if_pos a2] at q ⊢
      have := h.2.2
      exact ⟨_, PAx_pgo, ⟨pgo_k h.1 (tkz_go h.1.2.2.2.1 (by omega) a2), pgo_c h.2.1, by omega⟩, q⟩
    · rw [if_neg a2] at q ⊢
      exact ⟨_, PAx_pfl, pfl_b (f := 2) (by decide) hz, q⟩
  · rw [if_neg a1] at q ⊢
    exact ⟨_, PAx_pfl, pfl_b (f := 1) (by decide) hz, q⟩
theorem emt_k {q : Nat} (h : PKX c n t m) : PKX c n t (emt m q o x) := by
  obtain ⟨h5, h7, h8, hz, hK⟩ := h
  have e : (emt m q o x).1 14 = m.1 14 := by unfold emt; rw [sI_ne (by decide), sI_ne (by decide), sI_ne (by decide)]
  unfold PKX
  rw [e]
  exact ⟨h5, h7, h8, hz, hK.pa PAx_emt⟩
theorem w_emitG (h : PGX c n (s + 1) t cs m) (ht : t ≤ 400) : ∃ μ, PAx m μ ∧ PGX c n s t (cs ++ [(o, x)]) μ ∧ ∀ Q, wD D_Text_emit [.ref 15, .int (ii o), .int x] (hp m) Q ↔ Q none (hp μ) := by
  have := h.2.2
  have hl : cs.length < 408 := by omega
  exact ⟨_, PAx_emt, ⟨emt_k h.1, h.2.1.e hl, by rw [List.length_append]; show cs.length + 1 + s ≤ 8 + t; omega⟩, fun Q => w_emit h.2.1.1 hl Q⟩
theorem w_emitZ (h : SZX m) : ∃ μ, PAx m μ ∧ SZX μ ∧ μ.1 14 = m.1 14 ∧ ∀ Q, wD D_Text_emit [.ref 15, .int (ii o), .int x] (hp m) Q ↔ Q none (hp μ) := by
  obtain ⟨sz, h1, h2⟩ := h
  by_cases d : sz = 408
  · exact ⟨m, PAx.rf m, ⟨sz, h1, h2⟩, rfl, fun Q => w_emitN h2 d Q⟩
  · exact ⟨_, PAx_emt, ⟨sz + 1, by omega, by unfold emt; rw [sI_eq, upd_eq]⟩, by unfold emt; rw [sI_ne (by decide), sI_ne (by decide), sI_ne (by decide)], fun Q => w_emit h2 (by omega) Q⟩
theorem w_emitB {f ft : Nat} (h : PBX f ft m) : ∃ μ, PAx m μ ∧ PBX f ft μ ∧ ∀ Q, wD D_Text_emit [.ref 15, .int (ii o), .int x] (hp m) Q ↔ Q none (hp μ) := by
  obtain ⟨μ, a, z, e, q⟩ := w_emitZ (o := o) (x := x) h.2.2.2.2
  refine ⟨μ, a, ⟨?_, h.2.1, h.2.2.1, ?_, z⟩, q⟩
  · rw [e]; exact h.1
  · rw [e]; exact h.2.2.2.1
end PST
