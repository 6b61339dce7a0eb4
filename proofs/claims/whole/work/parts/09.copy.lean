/-! Copies of rows; numbers; the classes' facts. -/
/-- an int by a whole number -/
def ii (x : Int) : Int32 := Int32.ofInt x
theorem cf_0 : Cf 0 cR_0 cT_0 11 cY_0 := ⟨rfl, ci_0, cy_0, cn_0⟩
theorem cf_1 : Cf 1 cR_1 cT_1 5 cY_1 := ⟨rfl, ci_1, cy_1, cn_1⟩
theorem cf_2 : Cf 2 cR_2 cT_2 11 cY_2 := ⟨rfl, ci_2, cy_2, cn_2⟩
theorem cf_3 : Cf 3 cR_3 cT_3 12 cY_3 := ⟨rfl, ci_3, cy_3, cn_3⟩
theorem cf_4 : Cf 4 cR_4 cT_4 5 cY_4 := ⟨rfl, ci_4, cy_4, cn_4⟩
theorem cf_5 : Cf 5 cR_5 cT_5 3 cY_5 := ⟨rfl, ci_5, cy_5, cn_5⟩
theorem cf_6 : Cf 6 cR_6 cT_6 3 cY_6 := ⟨rfl, ci_6, cy_6, cn_6⟩
theorem cf_7 : Cf 7 cR_7 cT_7 14 cY_7 := ⟨rfl, ci_7, cy_7, cn_7⟩
theorem cf_8 : Cf 8 cR_8 cT_8 15 cY_8 := ⟨rfl, ci_8, cy_8, cn_8⟩
theorem cf_9 : Cf 9 cR_9 cT_9 4 cY_9 := ⟨rfl, ci_9, cy_9, cn_9⟩
theorem cf_10 : Cf 10 cR_10 cT_10 7 cY_10 := ⟨rfl, ci_10, cy_10, cn_10⟩
theorem cf_11 : Cf 11 cR_11 cT_11 5 cY_11 := ⟨rfl, ci_11, cy_11, cn_11⟩
theorem cf_12 : Cf 12 cR_12 cT_12 73 cY_12 := ⟨rfl, ci_12, cy_12, cn_12⟩
theorem nneg {z : Int32} (hz : ¬ z < 0) : z.toInt = (z.toNatClampNeg : Int) := by
  have h0 : (0 : Int) ≤ z.toInt := by
    have := Int32.not_lt.mp hz
    simpa using Int32.le_iff_toInt_le.mp this
  show z.toInt = ((z.toInt.toNat : Nat) : Int)
  omega
section CPY
variable {Y : Yt} {sl : List (Nat × Nat)} {pc p1 p2 p3 p4 p5 i : Nat} {J : Jt}
theorem s_cpy {a b : Xp Nat} {sp dp n : Xp Int32} (ha : EO Y Value.ref sl 0 pc p1 a) (hsp : EO Y Value.int sl 1 p1 p2 sp) (hb : EO Y Value.ref sl 2 p2 p3 b) (hdp : EO Y Value.int sl 3 p3 p4 dp) (hn : EO Y Value.int sl 4 p4 p5 n)
    (hw : Cond.methodLink Y.2.2.1 i arraycopyName ∈ TB ∧ Cond.native arraycopyName ∈ TB ∧ Cond.static arraycopyName ∈ TB ∧ Cond.initialized "java/lang/System" ∈ TB) (hL : 1 ≤ Y.2.2.2.1) (hd : decode Y.1 p5 = .ok (.invokestatic i, 3)) : SO Y sl sl pc (p5 + 3) J (sCpy a sp b dp n) := by
  intro X cs Ex G Q ls h r ls' h' hf k
  obtain ⟨q1, h1, hf⟩ := bnd hf
  obtain ⟨q2, h2, hf⟩ := bnd hf
  obtain ⟨q3, h3, hf⟩ := bnd hf
  obtain ⟨q4, h4, hf⟩ := bnd hf
  obtain ⟨q5, h5, hf⟩ := bnd hf
  obtain ⟨f, hf1, hf⟩ := bnd hf
  obtain ⟨g, hg1, hf⟩ := bnd hf
  split at hf
  · rename_i hin
    obtain ⟨g1, g2, g3, g4, g5⟩ := hin
    cases hf
    have e0 := hAI_spec hf1
    have e1 := hAI_spec hg1
    refine ha X cs G ls [] h q1.1 q1.2 h1 (Nat.le_refl _) (hsp X cs G ls _ q1.2 q2.1 q2.2 h2 (Nat.le_refl _) (hb X cs G ls _ q2.2 q3.1 q3.2 h3 (Nat.le_refl _) (hdp X cs G ls _ q3.2 q4.1 q4.2 h4 (Nat.le_refl _) (hn X cs G ls _ q4.2 q5.1 q5.2 h5 (Nat.le_refl _) ?_))))
    intro hc hl H locs la hP hD hS hz hla
    have hc0 : H[xb X + q1.1]? = some (vp_cell (xk X 0) (f.1, .inl f.2)) := hP q1.1 _ (cW_at e0)
    have hc1 : H[xb X + q3.1]? = some (vp_cell (xk X 0) (g.1, .inl g.2)) := hP q3.1 _ (cW_at e1)
    obtain ⟨-, k0, hk0, cm0, hkk0⟩ := (G.2.2.2.2.2.1.2 0 _ rfl).1 f.1 (fun j => .int (f.2 j))
    obtain ⟨-, k1, hk1, cm1, hkk1⟩ := (G.2.2.2.2.2.1.2 0 _ rfl).1 g.1 (fun j => .int (g.2 j))
    intro T hT Xs
    obtain ⟨vm', X', step⟩ := Xs.arraycopy G.1 G.2.2.2.1 (G.2.2.2.2.1 _ hw.1) (G.2.2.2.2.1 _ hw.2.1) (G.2.2.2.2.1 _ hw.2.2.1) (G.2.2.2.2.1 _ hw.2.2.2) (src := xb X + q1.1) (dst := xb X + q3.1) (cs := vp_cell (xk X 0) (f.1, .inl f.2)) (cd := vp_cell (xk X 0) (g.1, .inl g.2)) (srcPos := q2.1) (destPos := q4.1) (n := q5.1) (by rw [hT]; exact hc0) (by rw [hT]; exact hc1)
      (fun _ h => by cases h) (fun _ h => by cases h) (fun h => by cases h) (fun h => by cases h) hk0 hk1 hkk0 hkk1 (by simp [refKind]) g1 g2 g3
      (by rw [nneg g1, nneg g3]; show ¬ _ > ((arrV (xk X 0) f.1 (fun j => .int (f.2 j))).slots.size : Int); rw [arrV_size]; omega)
      (by rw [nneg g2, nneg g3]; show ¬ _ > ((arrV (xk X 0) g.1 (fun j => .int (g.2 j))).slots.size : Int); rw [arrV_size]; omega)
      (fun vm₁ _ i hi => by
        have e : (vp_cell (xk X 0) (f.1, .inl f.2)).slots.getD (q2.1.toNatClampNeg + i) .null = .int (f.2 (q2.1.toNatClampNeg + i)) := by
          show (arrV (xk X 0) f.1 (fun j => .int (f.2 j))).slots.getD _ _ = _
          rw [Array.getD_eq_getD_getElem?, arrV_read _ _ (by omega)]
          rfl
        refine ⟨?_, ?_⟩
        · rw [e]; rfl
        · rw [e]; exact trivial)
      (g := F0 (xm X) p5 la (.int q5.1 :: .int q4.1 :: .ref (xb X + q3.1) :: .int q2.1 :: .ref (xb X + q1.1) :: [])) rfl (by rw [G.2.2.1]; exact hla.1) (rest := []) rfl (by rw [G.2.1]; exact hd) (by rw [G.2.2.2.2.2.2.2.2.2.1]; exact hL) (by rw [G.2.2.2.2.2.2.2.2.2.2.1]; show 2 * 0 + _ + (5 + 2 + 11) ≤ _; simp only [List.map_nil, List.sum_nil]; omega)
    have e2 : copied (vp_cell (xk X 0) (f.1, .inl f.2)) (vp_cell (xk X 0) (g.1, .inl g.2)) q2.1 q4.1 q5.1 = vp_cell (xk X 0) (g.1, .inl (va_cpy f.2 g.2 q2.1.toNatClampNeg q4.1.toNatClampNeg q5.1.toNatClampNeg)) := va_copied (fun z => .int z) (xk X 0) (xk X 0) f.2 g.2 g4
    rw [e2] at X' step
    have hl0 : xb X + q3.1 < H.size := (Array.getElem?_eq_some_iff.mp hc1).1
    have hheap : ((T.setVm vm').setCell (xb X + q3.1) (vp_cell (xk X 0) (g.1, .inl (va_cpy f.2 g.2 q2.1.toNatClampNeg q4.1.toNatClampNeg q5.1.toNatClampNeg)))).heap = H.setIfInBounds (xb X + q3.1) (vp_cell (xk X 0) (g.1, .inl (va_cpy f.2 g.2 q2.1.toNatClampNeg q4.1.toNatClampNeg q5.1.toNatClampNeg))) := by rw [← hT]; rfl
    have oq : ∀ q : Nat, q ≠ xb X + q3.1 → (H.setIfInBounds (xb X + q3.1) (vp_cell (xk X 0) (g.1, .inl (va_cpy f.2 g.2 q2.1.toNatClampNeg q4.1.toNatClampNeg q5.1.toNatClampNeg))))[q]? = H[q]? := fun q hq => by simp [Array.getElem?_setIfInBounds, Ne.symm hq]
    have kk : AW X Y cs sl (p5 + 3) ls [] (q5.2.set q3.1 (.inl (0, g.1, .inl (va_cpy f.2 g.2 q2.1.toNatClampNeg q4.1.toNatClampNeg q5.1.toNatClampNeg)))) := k
    obtain ⟨t, a1, b1⟩ := kk hc hl (H.setIfInBounds (xb X + q3.1) (vp_cell (xk X 0) (g.1, .inl (va_cpy f.2 g.2 q2.1.toNatClampNeg q4.1.toNatClampNeg q5.1.toNatClampNeg)))) _ la
      (by rw [cW_set]; exact hP.set hD (cW_at e1) (show (H.setIfInBounds (xb X + q3.1) _)[xb X + q3.1]? = some _ by simp [Array.getElem?_setIfInBounds, hl0]; rfl) oq)
      (by rw [cW_set]; exact hD.set (cW_at e1))
      ⟨by simp; exact hS.1, fun q g1 g2 => by
        rw [oq q (fun e => g2 (by rw [e]; exact hD.2 q3.1 _ (cW_at e1)))]
        exact hS.2.1 q g1 g2, fun q hq => by
        rcases List.mem_append.mp hq with h | h
        · exact hS.2.2 q h
        · obtain ⟨z, -, hz⟩ := List.mem_map.mp h
          rw [← hz]
          exact hD.2 q3.1 _ (cW_at e1)⟩ (fun e => by rw [List.length_set, ← hz e]; simp) hla _ hheap X'
    exact ⟨t, step t a1, b1⟩
  · cases hf
end CPY
