/-! Laws: the class's machine over a whole law. -/
def LawX (o : Nat → Nat) (ar : Nat → Int32) (sz : Nat) : List Br → Nat → Prop
  | [], _ => False
  | (none, t) :: bs, a => bs = [] ∧ TmX o ar t a ∧ o (a + t.length) = 3 ∧ a + t.length < sz
  | (some (l, r), t) :: bs, a => TmX o ar l a ∧ TmX o ar r (a + l.length) ∧ o (a + l.length + r.length) = 2 ∧ ar (a + l.length + r.length) = ii ((a + l.length + r.length + 1 + t.length + 1 : Nat) : Int) ∧ TmX o ar t (a + l.length + r.length + 1) ∧ o (a + l.length + r.length + 1 + t.length) = 3 ∧ a + l.length + r.length + 1 + t.length < sz ∧ LawX o ar sz bs (a + l.length + r.length + 1 + t.length + 1)
/-- a good branch -/
def BrO (b : Br) : Prop := TmO 30 b.2 ∧ ∀ c, b.1 = some c → TmO 30 c.1 ∧ TmO 30 c.2
def lxs : List Br → Nat
  | [] => 0
  | (none, t) :: _ => t.length + 1
  | (some (l, r), t) :: bs => l.length + r.length + 1 + t.length + 1 + lxs bs
section LX
variable {o : Nat → Nat} {ar va : Nat → Int32} {sz : Nat}
theorem cvl_end {t : Tm} {a n : Nat} (hX : TmX o ar t a) (hO : TmO 30 t) (h3 : o (a + t.length) = 3) (hs : a + t.length < sz) : cvl o ar va sz (n + 1 + t.length) a [] = (tv va t).getD 0 := by
  rw [cvl_term (e := 1) hX (fun c hc => (hO.2 c hc).1) (by omega) (hkl_up (B := 31) (c := 0) (hkl_mono (by omega) hO.1)) (by show 0 ≤ 31; omega)]
  cases hv : tv va t with
  | none => rw [tv_none hv]; rfl
  | some x =>
    rw [tv_some hO.1 hv]
    dsimp only
    unfold cvl
    rw [if_neg (fun q => q ⟨hs, by show 1 < 32; omega⟩), if_pos h3]
    rfl
theorem cvl_law (hz : sz ≤ 408) : ∀ {bs : List Br} {a n : Nat}, LawX o ar sz bs a → (∀ b, b ∈ bs → BrO b) → lxs bs ≤ n → cvl o ar va sz n a [] = lawv va bs
  | [], _, _, h, _, _ => h.elim
  | (none, t) :: bs, a, n, h, hb, hn => by
    obtain ⟨-, h1, h2, h3⟩ := h
    unfold lxs at hn
    rw [show n = (n - t.length - 1) + 1 + t.length by omega]
    exact cvl_end h1 (hb _ List.mem_cons_self).1 h2 h3
  | (some (l, r), t) :: bs, a, n, h, hb, hn => by
    obtain ⟨h1, h2, h3, h4, h5, h6, h7, h8⟩ := h
    obtain ⟨b1, b2⟩ := hb _ List.mem_cons_self
    obtain ⟨b3, b4⟩ := b2 (l, r) rfl
    have ih := fun n (hn : lxs bs ≤ n) => cvl_law hz (n := n) h8 (fun b hb' => hb b (List.mem_cons_of_mem _ hb')) hn
    unfold lxs at hn
    rw [show n = (n - l.length - r.length - 1 + 1 + r.length) + l.length by omega]
    rw [cvl_term (e := 1) h1 (fun c hc => (b3.2 c hc).1) (by omega) (hkl_up (B := 31) (c := 0) (hkl_mono (by omega) b3.1)) (by show 0 ≤ 31; omega)]
    cases hx : tv va l with
    | none =>
      rw [tv_none hx]
      conv => rhs; unfold lawv
      rw [hx]
    | some x =>
      rw [tv_some b3.1 hx]
      dsimp only
      rw [cvl_term (e := 2) (st := [x]) h2 (fun c hc => (b4.2 c hc).1) (by omega) (hkl_up (c := 1) b4.1) (by show 1 ≤ 31; omega)]
      have hb1 := ptl_base (va := va) (bb := [x]) (st := []) b4.1
      rw [List.nil_append] at hb1
      rw [hb1]
      cases hy : tv va r with
      | none =>
        rw [tv_none hy]
        conv => rhs; unfold lawv
        rw [hx, hy]
        rfl
      | some y =>
        rw [tv_some b4.1 hy]
        dsimp only [Option.map, List.cons_append, List.nil_append]
        conv => lhs; unfold cvl
        rw [if_neg (fun q => q ⟨by omega, by show 2 < 32; omega⟩), h3, if_neg (by omega), if_neg (by omega), if_neg (by omega)]
        dsimp only
        rw [if_pos rfl]
        by_cases xy : x < y
        · rw [if_pos xy, lawv_lt hx hy xy]
          rw [show n - l.length - r.length - 1 = (n - l.length - r.length - 1 - t.length - 1) + 1 + t.length by omega]
          exact cvl_end h5 b1 h6 h7
        · rw [if_neg xy, lawv_ge hx hy xy, h4, ii_nat (by omega) (by omega), Int.toNat_natCast]
          exact ih _ (by omega)
end LX
section LXV
variable {m : Mem}
theorem w_Laws_law {law st0 sz : Nat} {o : Nat → Nat} {bs : List Br} (hl : law < 4) (hst : m.1 11 law = ii st0) (hst0 : st0 ≤ 408) (hC : CO7 o sz m) (hX : LawX o (m.1 13) sz bs st0) (hb : ∀ b, b ∈ bs → BrO b) (hx : lxs bs ≤ 408) : ∃ f, D_Laws_value [.ref 29, .int (ii law)] (hp m) = some (some (.int (lawv (m.1 30) bs)), hp (sI m 31 f)) := by
  obtain ⟨f, e⟩ := w_Laws_value hl hst hst0 hC
  rw [cvl_law hC.2.1 hX hb hx] at e
  exact ⟨f, e⟩
end LXV
