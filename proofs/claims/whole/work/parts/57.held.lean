/-! Laws: what is told alone counts; the class's held values. -/
theorem ptl_cong {va vb : Nat → Int32} (hv : ∀ k, k < 9 → va k = vb k) : ∀ {t : Tm} {st : List Int32}, (∀ c, c ∈ t → c.1 ≤ 5 ∧ (c.1 = 1 → ∃ v : Nat, v < 9 ∧ c.2 = ii v)) → ptl va t st = ptl vb t st
  | [], _, _ => rfl
  | (k, x) :: t, st, h => by
    have ih : ∀ st, ptl va t st = ptl vb t st := fun st => ptl_cong hv (fun c hc => h c (List.mem_cons_of_mem _ hc))
    unfold ptl
    by_cases k0 : k = 0
    · rw [if_pos k0, if_pos k0, ih]
    · rw [if_neg k0, if_neg k0]
      by_cases k1 : k = 1
      · obtain ⟨v, v1, v2⟩ := (h (k, x) List.mem_cons_self).2 k1
        have v2 : x = ii v := v2
        rw [if_pos k1, if_pos k1, ih, v2, ii_nat (by omega) (by omega), Int.toNat_natCast, hv v v1]
      · rw [if_neg k1, if_neg k1]
        match st with
        | [] => rfl
        | [_] => rfl
        | r :: l :: st => dsimp only; rw [ih]
theorem tv_cong {va vb : Nat → Int32} (hv : ∀ k, k < 9 → va k = vb k) {B : Nat} {t : Tm} (h : TmO B t) : tv va t = tv vb t := by
  unfold tv
  rw [ptl_cong hv h.2]
theorem lawv_cong {va vb : Nat → Int32} (hv : ∀ k, k < 9 → va k = vb k) : ∀ {bs : List Br}, (∀ b, b ∈ bs → BrO b) → lawv va bs = lawv vb bs
  | [], _ => rfl
  | (none, t) :: bs, h => by
    unfold lawv
    rw [tv_cong hv (h _ List.mem_cons_self).1]
  | (some (l, r), t) :: bs, h => by
    obtain ⟨b1, b2⟩ := h _ List.mem_cons_self
    obtain ⟨b3, b4⟩ := b2 (l, r) rfl
    have ih := lawv_cong hv (fun b hb => h b (List.mem_cons_of_mem _ hb))
    conv => lhs; unfold lawv
    conv => rhs; unfold lawv
    rw [tv_cong hv b1, tv_cong hv b3, tv_cong hv b4, ih]
/-- what a law is told: 0 seen 1 want 2 next 3 wide 4 here 5 day 6 which 7 stood 8 roads -/
def vrs (seen want next wide here day which stood roads : Int32) : Nat → Int32
  | 0 => seen
  | 1 => want
  | 2 => next
  | 3 => wide
  | 4 => here
  | 5 => day
  | 6 => which
  | 7 => stood
  | _ => roads
theorem sup_vrs {f : Nat → Int32} {seen want next wide here day which stood roads : Int32} : ∀ k, k < 9 → upd (upd (sup f want wide here day which stood roads) 0 seen) 2 next k = vrs seen want next wide here day which stood roads k := by
  intro k hk
  rcases (show k = 0 ∨ k = 1 ∨ k = 2 ∨ k = 3 ∨ k = 4 ∨ k = 5 ∨ k = 6 ∨ k = 7 ∨ k = 8 by omega) with rfl | rfl | rfl | rfl | rfl | rfl | rfl | rfl | rfl <;> rfl
/-- the class's laws -/
def LWX (bf : Nat → List Br) (m : Mem) : Prop := ∃ (o : Nat → Nat) (sz : Nat) (st : Nat → Nat), CO7 o sz m ∧ ∀ law, law < 4 → m.1 11 law = ii (st law) ∧ st law ≤ 408 ∧ LawX o (m.1 13) sz (bf law) (st law) ∧ (∀ b, b ∈ bf law → BrO b) ∧ lxs (bf law) ≤ 408
theorem LWX.of {bf : Nat → List Br} {m μ : Mem} (h : LWX bf m) (h1 : μ.1 6 = m.1 6) (h2 : μ.1 11 = m.1 11) (h3 : μ.1 12 = m.1 12) (h4 : μ.1 13 = m.1 13) : LWX bf μ := by
  unfold LWX CO7 at h ⊢
  rw [h1, h2, h3, h4]
  exact h
/-- held from 0 to c -/
def hld (v c : Int32) : Int32 := if v < 0 then 0 else if c < v then c else v
section LVV
variable {m : Mem}
theorem w_Laws_val {bf : Nat → List Br} {law : Nat} (hW : LWX bf m) (hl : law < 4) : ∃ f, ∀ Q, wD D_Laws_value [.ref 29, .int (ii law)] (hp m) Q ↔ Q (some (.int (lawv (m.1 30) (bf law)))) (hp (sI m 31 f)) := by
  obtain ⟨o, sz, st, hC, h⟩ := hW
  obtain ⟨h1, h2, h3, h4, h5⟩ := h law hl
  obtain ⟨f, e⟩ := w_Laws_law hl h1 h2 hC h3 h4 h5
  exact ⟨f, fun Q => wD_eq e Q⟩
end LVV
