/-! What holds at the start. -/
section STT
variable {m m2 : Mem} {f6 g6 f : Nat → Int32}
theorem z00 : (0 : Int32) = ii 0 := by decide
theorem lwx_0 {m : Mem} (e6 : m.1 6 = (m0 f6 g6).1 6) (e11 : m.1 11 = cl7 zf) (e12 : m.1 12 = cl8 zf) (e13 : m.1 13 = cl9 zf) : LWX pln m := by
  have l8 : cs0.length = 8 := rfl
  refine lwx_of (cs := cs0) (by rw [e6]; rfl) (by rw [l8]; decide) (fun i hi => ?_) cs0_ok pln_g (fun law hl => ?_)
  · rw [e12, e13]
    rw [l8] at hi
    rcases (show i = 0 ∨ i = 1 ∨ i = 2 ∨ i = 3 ∨ i = 4 ∨ i = 5 ∨ i = 6 ∨ i = 7 by omega) with rfl | rfl | rfl | rfl | rfl | rfl | rfl | rfl
    · exact ⟨rfl, rfl⟩
    · exact ⟨rfl, rfl⟩
    · exact ⟨rfl, rfl⟩
    · exact ⟨rfl, rfl⟩
    · exact ⟨rfl, rfl⟩
    · exact ⟨rfl, rfl⟩
    · exact ⟨rfl, rfl⟩
    · exact ⟨rfl, rfl⟩
  · rw [e11]
    rcases (show law = 0 ∨ law = 1 ∨ law = 2 ∨ law = 3 by omega) with rfl | rfl | rfl | rfl
    · exact ⟨[], [(1, ii 4), (3, ii 0), (0, ii 0), (3, ii 0), (0, ii 0), (3, ii 0)], rfl, rfl⟩
    · exact ⟨[(1, ii 0), (3, ii 0)], [(0, ii 0), (3, ii 0), (0, ii 0), (3, ii 0)], rfl, rfl⟩
    · exact ⟨[(1, ii 0), (3, ii 0), (1, ii 4), (3, ii 0)], [(0, ii 0), (3, ii 0)], rfl, rfl⟩
    · exact ⟨[(1, ii 0), (3, ii 0), (1, ii 4), (3, ii 0), (0, ii 0), (3, ii 0)], [], rfl, rfl⟩
theorem inm_0 (a1 : ∀ r, r < 111 ∨ 138 < r → m2.1 r = (m0 f6 g6).1 r) (a2 : m2.1 111 = (m0 f6 g6).1 111) (a3 : m2.1 121 0 = ii 0 ∧ m2.1 123 0 = ii 0 ∧ m2.1 128 0 = ii 0) (a4 : ∀ k, k < 4 → m2.1 129 k = ii 0 ∧ m2.1 130 k = ii 0) (hf : BgF 0 0 (kN m2 20) f) : Inm 3072 (sI (BgH (kN m2 20) f 0) 141 (cpf ((BgH (kN m2 20) f 0).1 141) ((BgH (kN m2 20) f 0).1 142) 56)) := by
  obtain ⟨m, em⟩ : ∃ m, m = sI (BgH (kN m2 20) f 0) 141 (cpf ((BgH (kN m2 20) f 0).1 141) ((BgH (kN m2 20) f 0).1 142) 56) := ⟨_, rfl⟩
  rw [← em]
  have k1 := kN_1 m2 20
  have e : ∀ r, r ≠ 111 → r ≠ 141 → r ≠ 142 → m.1 r = m2.1 r := fun r h1 h2 h3 => by
    rw [em, sI_ne h2]
    unfold BgH
    rw [sI_ne h1, sI_ne h3, k1]
  have ef : ∀ k, k ≠ 49 → k ≠ 50 → k ≠ 51 → m.1 111 k = (m0 f6 g6).1 111 k := fun k h1 h2 h3 => by
    rw [em, sI_ne (by decide)]
    unfold BgH
    rw [sI_eq, upd_ne h3, upd_ne h2, upd_ne h1, k1, a2]
  have lo : ∀ r, r < 111 ∨ 142 < r → m.1 r = (m0 f6 g6).1 r := fun r hr => by rw [e r (by omega) (by omega) (by omega), a1 r (by omega)]
  have e141 : ∀ k, k < 56 → m.1 141 k = f k := fun k hk => by
    rw [em, sI_eq]
    unfold cpf
    rw [if_pos hk]
    unfold BgH
    rw [sI_ne (by decide), sI_eq]
  have j : m.2 = (kN m2 20).2 := by rw [em]; rfl
  have zr : ∀ r k : Nat, m.1 r = (m0 f6 g6).1 r → (m0 f6 g6).1 r k = 0 → m.1 r k = ii 0 := fun r k h1 h2 => by rw [h1, h2]; exact z00
  have v25 : m.1 25 3 = ii 0 := zr 25 3 (lo 25 (by omega)) rfl
  have v44 : m.1 44 13 = ii (-1) := by rw [lo 44 (by omega)]; rfl
  have v45 : m.1 44 14 = ii (-1) := by rw [lo 44 (by omega)]; rfl
  have v37 : m.1 37 13 = ii (-1) := by rw [lo 37 (by omega)]; rfl
  have no : ii (-1) ≠ ii 0 := by decide
  refine ⟨0, 0, fun _ => 0, pln, rw0 S00, ii 0, 0, fun _ => rw0 S00, fun _ => false, fun _ => rw0 S00, 0, fun _ => 0, fun _ => 0, fun _ => false, 0, 0, 0, ⟨⟨⟨?_, ?_, by decide, by decide, Or.inl rfl⟩, fun r hr => absurd hr (Nat.not_lt_zero r), ?_⟩, ?_, ⟨⟨?_, fun r hr => absurd hr (Nat.not_lt_zero r)⟩, fun r hr => absurd hr (Nat.not_lt_zero r), fun r hr => ?_⟩, ⟨by decide, ?_, 0, by decide, ?_, fun r hr => absurd hr (Nat.not_lt_zero r)⟩, fun s hs => ⟨?_, fun h => absurd h Bool.false_ne_true⟩, ⟨by decide, ?_, fun r hr => absurd hr (Nat.not_lt_zero r)⟩, ⟨fun h => ?_, fun h => ?_⟩, fun h => ?_⟩, ⟨v25, -1, -1, -1, v44, v45, v37, by decide, by decide, by decide, by decide⟩, ⟨⟨⟨?_, by decide, ?_, ?_, by decide, by decide, Or.inl rfl⟩, fun r hr => absurd hr (Nat.not_lt_zero r), fun law hl => ⟨0, [], ?_, ?_, Or.inl rfl, Nat.zero_le _, fun i hi => absurd hi (Nat.not_lt_zero i), Or.inl ⟨rfl, rfl⟩⟩, fun law hl => (pln_g law hl).2⟩, ?_, ⟨⟨?_, fun r hr => absurd hr (Nat.not_lt_zero r)⟩, fun g _ hg => ?_⟩, ⟨by decide, ?_, fun r hr => absurd hr (Nat.not_lt_zero r)⟩, fun s hs => ⟨?_, fun h => absurd h Bool.false_ne_true⟩, ⟨by decide, ?_, fun r hr => absurd hr (Nat.not_lt_zero r)⟩, fun w hw => ?_⟩, ⟨?_, ?_, by decide, fun r hr => absurd hr (Nat.not_lt_zero r)⟩, ?_, by decide⟩
  · rw [lo 6 (by omega)]; rfl
  · rw [lo 6 (by omega)]; rfl
  · exact lwx_0 (f6 := f6) (g6 := g6) (lo 6 (by omega)) ((lo 11 (by omega)).trans rfl) ((lo 12 (by omega)).trans rfl) ((lo 13 (by omega)).trans rfl)
  · rw [lo 6 (by omega)]; rfl
  · exact zr 26 25 (lo 26 (by omega)) rfl
  · exact zr 28 r (lo 28 (by omega)) rfl
  · exact zr 64 0 (lo 64 (by omega)) rfl
  · exact zr 64 2 (lo 64 (by omega)) rfl
  · rw [lo 110 (by omega)]; rfl
  · exact zr 60 0 (lo 60 (by omega)) rfl
  · rw [v44, v25] at h; exact absurd h no
  · rw [v45, v25] at h; exact absurd h no
  · rw [v37, v25] at h; exact absurd h no
  · rw [ef 18 (by decide) (by decide) (by decide)]; exact z00
  · rw [e 121 (by decide) (by decide) (by decide)]; exact a3.1
  · rw [e 123 (by decide) (by decide) (by decide)]; exact a3.2.1
  · rw [e 129 (by decide) (by decide) (by decide), show 4 * 0 + law = law by omega]; exact (a4 law hl).1
  · rw [e 130 (by decide) (by decide) (by decide), show 4 * 0 + law = law by omega]; exact (a4 law hl).2
  · rw [e 128 (by decide) (by decide) (by decide)]; exact a3.2.2
  · rw [e141 55 (by decide)]; exact hf.2.2.2.1
  · rw [e141 _ (by omega), e141 _ (by omega), e141 _ (by omega), e141 _ (by omega)]
    exact ⟨(hf.2.1 g (Nat.zero_le _) hg).1, (hf.2.1 g (Nat.zero_le _) hg).2, (hf.2.2.1 g hg).1, (hf.2.2.1 g hg).2⟩
  · rw [ef 57 (by decide) (by decide) (by decide)]; exact z00
  · rw [lo 157 (by omega)]; rfl
  · rw [ef 67 (by decide) (by decide) (by decide)]; exact z00
  · rw [j]; exact kN_k m2 20 w hw
  · exact zr 1 1 (lo 1 (by omega)) rfl
  · rw [ef 2 (by decide) (by decide) (by decide)]; exact z00
  · rw [lo 14 (by omega), ef 17 (by decide) (by decide) (by decide)]; rfl
theorem start_ok : ∃ hx hm, D_X_init [.ref 0] [.inr (0, df_0)] = some (none, hx) ∧ hx.length = 111 ∧ D_M_init [.ref 111] (hx ++ [.inr (12, df_12)]) = some (none, hm) ∧ Inv 3072 hm := by
  obtain ⟨f6, g6, y1, y2, e1⟩ := i_X
  have key : wS Lv_mi [.ref 111] (hp (m0 f6 g6)) (fun r l h => r = (0, none) ∧ l = [.ref 111] ∧ Inv 3072 h) := w_mi (show (0 : Int32) = ii 0 from z00) (fun m2 f a1 a2 a3 a4 hf => ⟨rfl, rfl, _, rfl, inm_0 a1 a2 a3 a4 hf⟩)
  obtain ⟨r, l, h1, e, rfl, rfl, hI⟩ := key
  exact ⟨cXX f6 g6, h1, e1, rfl, i_M rfl (by rw [hm0]; exact e), hI⟩
end STT
