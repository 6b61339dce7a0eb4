/-! Reads and writes at each place (written by wip/whole/jrd.py). -/
section RWR
variable {m : Mem} {r ci n k a : Nat} {fs : List (Option Nat)}
theorem qI (h : shape[r]? = some (0, ci, fs)) (hk : fs[k]? = some none) (Q : Int32 → Prop) : rdI (hp m) r ci k Q ↔ Q (m.1 r k) := by unfold rdI; rw [rd_i h hk]; simp
theorem qR (h : shape[r]? = some (0, ci, fs)) (hk : fs[k]? = some (some a)) (Q : Nat → Prop) : rdR (hp m) r ci k Q ↔ Q a := by unfold rdR; rw [rd_r h hk]; simp
theorem qW (h : shape[r]? = some (0, ci, fs)) (hk : fs[k]? = some none) (v : Int32) (Q : Hp → Prop) : wrF (hp m) r ci k (.int v) Q ↔ Q (hp (sI m r (upd (m.1 r) k v))) := by unfold wrF; rw [wr_i h hk]; simp
theorem qA (h : shape[r]? = some (1, n, [])) (j : Int32) (Q : Int32 → Prop) : rdA (hp m) r 0 j Q ↔ okI j n ∧ Q (m.1 r j.toNatClampNeg) := by unfold rdA; rw [ra_i h]; simp
theorem qAb (h : shape[r]? = some (2, n, [])) (j : Int32) (Q : Int32 → Prop) : rdA (hp m) r 1 j Q ↔ okI j n ∧ Q (m.1 r j.toNatClampNeg) := by unfold rdA; rw [ra_b h]; simp
theorem qAz (h : shape[r]? = some (4, n, [])) (j : Int32) (Q : Int32 → Prop) : rdA (hp m) r 3 j Q ↔ okI j n ∧ Q (m.1 r j.toNatClampNeg) := by unfold rdA; rw [ra_z h]; simp
theorem qAl (h : shape[r]? = some (3, n, [])) (j : Int32) (Q : Int64 → Prop) : rdB (hp m) r j Q ↔ okI j n ∧ Q (m.2 r j.toNatClampNeg) := by unfold rdB; rw [ra_l h]; simp
theorem qAr (h : shape[r]? = some (5, n, [])) (j : Int32) (Q : Nat → Prop) : rdC (hp m) r j Q ↔ okI j n ∧ Q (r + 1 + j.toNatClampNeg) := by unfold rdC; rw [ra_r h]; simp
theorem qN (h : shape[r]? = some (1, n, [])) (Q : Int32 → Prop) : rdN (hp m) r 0 Q ↔ Q (Int32.ofNat n) := by unfold rdN; rw [rl_i h]; simp
theorem wrA_of {t : Nat} {j x : Int32} {m1 : Mem} (hn : ∀ w, hAI (hp m) r t = some w → w.1 = n) (hs : okI j n → hAst (hp m) r t j x = some (hp m1)) (Q : Hp → Prop) : wrA (hp m) r t j x Q ↔ okI j n ∧ Q (hp m1) := by
  constructor
  · rintro ⟨h3, e, q⟩
    have e0 := e
    obtain ⟨w, hw, e⟩ := bnd e
    split at e
    · rename_i hin
      have hok : okI j n := by rw [← hn w hw]; exact hin
      rw [hs hok] at e0
      cases e0
      exact ⟨hok, q⟩
    · cases e
  · exact fun ⟨hok, q⟩ => ⟨_, hs hok, q⟩
theorem qX (h : shape[r]? = some (1, n, [])) (j x : Int32) (Q : Hp → Prop) : wrA (hp m) r 0 j x Q ↔ okI j n ∧ Q (hp (sI m r (upd (m.1 r) j.toNatClampNeg x))) := wrA_of (fun w hw => by rw [ra_i h] at hw; cases hw; rfl) (fun ok => wa_i h ok) Q
theorem qXb (h : shape[r]? = some (2, n, [])) (j x : Int32) (Q : Hp → Prop) : wrA (hp m) r 1 j x Q ↔ okI j n ∧ Q (hp (sI m r (upd (m.1 r) j.toNatClampNeg x))) := wrA_of (fun w hw => by rw [ra_b h] at hw; cases hw; rfl) (fun ok => wa_b h ok) Q
theorem qXz (h : shape[r]? = some (4, n, [])) (j x : Int32) (Q : Hp → Prop) : wrA (hp m) r 3 j x Q ↔ okI j n ∧ Q (hp (sI m r (upd (m.1 r) j.toNatClampNeg x))) := wrA_of (fun w hw => by rw [ra_z h] at hw; cases hw; rfl) (fun ok => wa_z h ok) Q
theorem qXl (h : shape[r]? = some (3, n, [])) (j : Int32) (x : Int64) (Q : Hp → Prop) : wrB (hp m) r j x Q ↔ okI j n ∧ Q (hp (sJ m r (vp_updL (m.2 r) j.toNatClampNeg x))) := by
  constructor
  · rintro ⟨h3, e, q⟩
    have e0 := e
    obtain ⟨w, hw, e⟩ := bnd e
    rw [ra_l h] at hw
    cases hw
    split at e
    · rename_i hin
      have hok : okI j n := hin
      rw [wa_l h hok] at e0
      cases e0
      exact ⟨hok, q⟩
    · cases e
  · exact fun ⟨hok, q⟩ => ⟨_, wa_l h hok, q⟩
theorem io_of (h : shape[r]? = some (0, ci, fs)) (as : Ev) : isO (hp m) (.ref r :: as) ci = true := by
  unfold isO
  simp only [hp_at h, cell]
  exact beq_self_eq_true ci
end RWR
theorem sh56b : (List.range 159).all (fun r => !(decide (66 ≤ r ∧ r ≤ 105 ∨ 107 ≤ r ∧ r ≤ 109)) || (shape[r]? == some ((1, 56, []) : Sh))) = true := by decide +kernel
theorem sh56 (r : Nat) (hr : r < 159) (h : 66 ≤ r ∧ r ≤ 105 ∨ 107 ≤ r ∧ r ≤ 109) : shape[r]? = some (1, 56, []) := by
  have := List.all_eq_true.mp sh56b r (List.mem_range.mpr hr)
  simp only [decide_eq_true h, Bool.not_true, Bool.false_or, beq_iff_eq] at this
  exact this
theorem sh64b : (List.range 159).all (fun r => !(decide (54 ≤ r ∧ r ≤ 59)) || (shape[r]? == some ((1, 64, []) : Sh))) = true := by decide +kernel
theorem sh64 (r : Nat) (hr : r < 159) (h : 54 ≤ r ∧ r ≤ 59) : shape[r]? = some (1, 64, []) := by
  have := List.all_eq_true.mp sh64b r (List.mem_range.mpr hr)
  simp only [decide_eq_true h, Bool.not_true, Bool.false_or, beq_iff_eq] at this
  exact this
theorem q56 {m : Mem} {r : Nat} (h : 66 ≤ r ∧ r ≤ 105 ∨ 107 ≤ r ∧ r ≤ 109) (j : Int32) (Q : Int32 → Prop) : rdA (hp m) r 0 j Q ↔ okI j 56 ∧ Q (m.1 r j.toNatClampNeg) := qA (sh56 r (by omega) h) j Q
theorem q64 {m : Mem} {r : Nat} (h : 54 ≤ r ∧ r ≤ 59) (j : Int32) (Q : Int32 → Prop) : rdA (hp m) r 0 j Q ↔ okI j 64 ∧ Q (m.1 r j.toNatClampNeg) := qA (sh64 r (by omega) h) j Q
theorem x64 {m : Mem} {r : Nat} (h : 54 ≤ r ∧ r ≤ 59) (j x : Int32) (Q : Hp → Prop) : wrA (hp m) r 0 j x Q ↔ okI j 64 ∧ Q (hp (sI m r (upd (m.1 r) j.toNatClampNeg x))) := qX (sh64 r (by omega) h) j x Q
theorem io_0 (m : Mem) (as : Ev) : isO (hp m) (.ref 0 :: as) 0 = true := io_of rfl as
theorem g_0_0 (m : Mem) (Q : Nat → Prop) : rdR (hp m) 0 0 0 Q ↔ Q 1 := qR rfl rfl Q
theorem g_0_1 (m : Mem) (Q : Nat → Prop) : rdR (hp m) 0 0 1 Q ↔ Q 6 := qR rfl rfl Q
theorem g_0_2 (m : Mem) (Q : Nat → Prop) : rdR (hp m) 0 0 2 Q ↔ Q 14 := qR rfl rfl Q
theorem g_0_3 (m : Mem) (Q : Nat → Prop) : rdR (hp m) 0 0 3 Q ↔ Q 25 := qR rfl rfl Q
theorem g_0_4 (m : Mem) (Q : Nat → Prop) : rdR (hp m) 0 0 4 Q ↔ Q 29 := qR rfl rfl Q
theorem g_0_5 (m : Mem) (Q : Nat → Prop) : rdR (hp m) 0 0 5 Q ↔ Q 32 := qR rfl rfl Q
theorem g_0_6 (m : Mem) (Q : Nat → Prop) : rdR (hp m) 0 0 6 Q ↔ Q 37 := qR rfl rfl Q
theorem g_0_7 (m : Mem) (Q : Nat → Prop) : rdR (hp m) 0 0 7 Q ↔ Q 44 := qR rfl rfl Q
theorem g_0_8 (m : Mem) (Q : Nat → Prop) : rdR (hp m) 0 0 8 Q ↔ Q 51 := qR rfl rfl Q
theorem g_0_9 (m : Mem) (Q : Nat → Prop) : rdR (hp m) 0 0 9 Q ↔ Q 60 := qR rfl rfl Q
theorem g_0_10 (m : Mem) (Q : Nat → Prop) : rdR (hp m) 0 0 10 Q ↔ Q 64 := qR rfl rfl Q
theorem io_1 (m : Mem) (as : Ev) : isO (hp m) (.ref 1 :: as) 1 = true := io_of rfl as
theorem g_1_0 (m : Mem) (Q : Nat → Prop) : rdR (hp m) 1 1 0 Q ↔ Q 2 := qR rfl rfl Q
theorem g_1_1 (m : Mem) (Q : Int32 → Prop) : rdI (hp m) 1 1 1 Q ↔ Q (m.1 1 1) := qI rfl rfl Q
theorem p_1_1 (m : Mem) (v : Int32) (Q : Hp → Prop) : wrF (hp m) 1 1 1 (.int v) Q ↔ Q (hp (sI m 1 (upd (m.1 1) 1 v))) := qW rfl rfl v Q
theorem g_1_2 (m : Mem) (Q : Nat → Prop) : rdR (hp m) 1 1 2 Q ↔ Q 3 := qR rfl rfl Q
theorem g_1_3 (m : Mem) (Q : Nat → Prop) : rdR (hp m) 1 1 3 Q ↔ Q 4 := qR rfl rfl Q
theorem g_1_4 (m : Mem) (Q : Nat → Prop) : rdR (hp m) 1 1 4 Q ↔ Q 5 := qR rfl rfl Q
theorem b_2 (m : Mem) (j : Int32) (Q : Int32 → Prop) : rdA (hp m) 2 1 j Q ↔ okI j 2000 ∧ Q (m.1 2 j.toNatClampNeg) := qAb rfl j Q
theorem x_2 (m : Mem) (j x : Int32) (Q : Hp → Prop) : wrA (hp m) 2 1 j x Q ↔ okI j 2000 ∧ Q (hp (sI m 2 (upd (m.1 2) j.toNatClampNeg x))) := qXb rfl j x Q
theorem b_3 (m : Mem) (j : Int32) (Q : Int32 → Prop) : rdA (hp m) 3 0 j Q ↔ okI j 401 ∧ Q (m.1 3 j.toNatClampNeg) := qA rfl j Q
theorem x_3 (m : Mem) (j x : Int32) (Q : Hp → Prop) : wrA (hp m) 3 0 j x Q ↔ okI j 401 ∧ Q (hp (sI m 3 (upd (m.1 3) j.toNatClampNeg x))) := qX rfl j x Q
theorem b_4 (m : Mem) (j : Int32) (Q : Int32 → Prop) : rdA (hp m) 4 0 j Q ↔ okI j 401 ∧ Q (m.1 4 j.toNatClampNeg) := qA rfl j Q
theorem x_4 (m : Mem) (j x : Int32) (Q : Hp → Prop) : wrA (hp m) 4 0 j x Q ↔ okI j 401 ∧ Q (hp (sI m 4 (upd (m.1 4) j.toNatClampNeg x))) := qX rfl j x Q
theorem b_5 (m : Mem) (j : Int32) (Q : Int64 → Prop) : rdB (hp m) 5 j Q ↔ okI j 401 ∧ Q (m.2 5 j.toNatClampNeg) := qAl rfl j Q
theorem x_5 (m : Mem) (j : Int32) (x : Int64) (Q : Hp → Prop) : wrB (hp m) 5 j x Q ↔ okI j 401 ∧ Q (hp (sJ m 5 (vp_updL (m.2 5) j.toNatClampNeg x))) := qXl rfl j x Q
theorem io_6 (m : Mem) (as : Ev) : isO (hp m) (.ref 6 :: as) 2 = true := io_of rfl as
theorem g_6_0 (m : Mem) (Q : Int32 → Prop) : rdI (hp m) 6 2 0 Q ↔ Q (m.1 6 0) := qI rfl rfl Q
theorem p_6_0 (m : Mem) (v : Int32) (Q : Hp → Prop) : wrF (hp m) 6 2 0 (.int v) Q ↔ Q (hp (sI m 6 (upd (m.1 6) 0 v))) := qW rfl rfl v Q
theorem g_6_1 (m : Mem) (Q : Int32 → Prop) : rdI (hp m) 6 2 1 Q ↔ Q (m.1 6 1) := qI rfl rfl Q
theorem p_6_1 (m : Mem) (v : Int32) (Q : Hp → Prop) : wrF (hp m) 6 2 1 (.int v) Q ↔ Q (hp (sI m 6 (upd (m.1 6) 1 v))) := qW rfl rfl v Q
theorem g_6_2 (m : Mem) (Q : Int32 → Prop) : rdI (hp m) 6 2 2 Q ↔ Q (m.1 6 2) := qI rfl rfl Q
theorem p_6_2 (m : Mem) (v : Int32) (Q : Hp → Prop) : wrF (hp m) 6 2 2 (.int v) Q ↔ Q (hp (sI m 6 (upd (m.1 6) 2 v))) := qW rfl rfl v Q
theorem g_6_3 (m : Mem) (Q : Nat → Prop) : rdR (hp m) 6 2 3 Q ↔ Q 7 := qR rfl rfl Q
theorem g_6_4 (m : Mem) (Q : Nat → Prop) : rdR (hp m) 6 2 4 Q ↔ Q 8 := qR rfl rfl Q
theorem g_6_5 (m : Mem) (Q : Nat → Prop) : rdR (hp m) 6 2 5 Q ↔ Q 9 := qR rfl rfl Q
theorem g_6_6 (m : Mem) (Q : Nat → Prop) : rdR (hp m) 6 2 6 Q ↔ Q 10 := qR rfl rfl Q
theorem g_6_7 (m : Mem) (Q : Nat → Prop) : rdR (hp m) 6 2 7 Q ↔ Q 11 := qR rfl rfl Q
theorem g_6_8 (m : Mem) (Q : Nat → Prop) : rdR (hp m) 6 2 8 Q ↔ Q 12 := qR rfl rfl Q
theorem g_6_9 (m : Mem) (Q : Nat → Prop) : rdR (hp m) 6 2 9 Q ↔ Q 13 := qR rfl rfl Q
theorem g_6_10 (m : Mem) (Q : Int32 → Prop) : rdI (hp m) 6 2 10 Q ↔ Q (m.1 6 10) := qI rfl rfl Q
theorem p_6_10 (m : Mem) (v : Int32) (Q : Hp → Prop) : wrF (hp m) 6 2 10 (.int v) Q ↔ Q (hp (sI m 6 (upd (m.1 6) 10 v))) := qW rfl rfl v Q
theorem b_7 (m : Mem) (j : Int32) (Q : Int32 → Prop) : rdA (hp m) 7 0 j Q ↔ okI j 6 ∧ Q (m.1 7 j.toNatClampNeg) := qA rfl j Q
theorem x_7 (m : Mem) (j x : Int32) (Q : Hp → Prop) : wrA (hp m) 7 0 j x Q ↔ okI j 6 ∧ Q (hp (sI m 7 (upd (m.1 7) j.toNatClampNeg x))) := qX rfl j x Q
theorem b_8 (m : Mem) (j : Int32) (Q : Int32 → Prop) : rdA (hp m) 8 0 j Q ↔ okI j 5 ∧ Q (m.1 8 j.toNatClampNeg) := qA rfl j Q
theorem x_8 (m : Mem) (j x : Int32) (Q : Hp → Prop) : wrA (hp m) 8 0 j x Q ↔ okI j 5 ∧ Q (hp (sI m 8 (upd (m.1 8) j.toNatClampNeg x))) := qX rfl j x Q
theorem b_9 (m : Mem) (j : Int32) (Q : Int32 → Prop) : rdA (hp m) 9 0 j Q ↔ okI j 5 ∧ Q (m.1 9 j.toNatClampNeg) := qA rfl j Q
theorem x_9 (m : Mem) (j x : Int32) (Q : Hp → Prop) : wrA (hp m) 9 0 j x Q ↔ okI j 5 ∧ Q (hp (sI m 9 (upd (m.1 9) j.toNatClampNeg x))) := qX rfl j x Q
theorem b_10 (m : Mem) (j : Int32) (Q : Int32 → Prop) : rdA (hp m) 10 0 j Q ↔ okI j 30 ∧ Q (m.1 10 j.toNatClampNeg) := qA rfl j Q
theorem x_10 (m : Mem) (j x : Int32) (Q : Hp → Prop) : wrA (hp m) 10 0 j x Q ↔ okI j 30 ∧ Q (hp (sI m 10 (upd (m.1 10) j.toNatClampNeg x))) := qX rfl j x Q
theorem b_11 (m : Mem) (j : Int32) (Q : Int32 → Prop) : rdA (hp m) 11 0 j Q ↔ okI j 4 ∧ Q (m.1 11 j.toNatClampNeg) := qA rfl j Q
theorem x_11 (m : Mem) (j x : Int32) (Q : Hp → Prop) : wrA (hp m) 11 0 j x Q ↔ okI j 4 ∧ Q (hp (sI m 11 (upd (m.1 11) j.toNatClampNeg x))) := qX rfl j x Q
theorem b_12 (m : Mem) (j : Int32) (Q : Int32 → Prop) : rdA (hp m) 12 0 j Q ↔ okI j 408 ∧ Q (m.1 12 j.toNatClampNeg) := qA rfl j Q
theorem x_12 (m : Mem) (j x : Int32) (Q : Hp → Prop) : wrA (hp m) 12 0 j x Q ↔ okI j 408 ∧ Q (hp (sI m 12 (upd (m.1 12) j.toNatClampNeg x))) := qX rfl j x Q
theorem b_13 (m : Mem) (j : Int32) (Q : Int32 → Prop) : rdA (hp m) 13 0 j Q ↔ okI j 408 ∧ Q (m.1 13 j.toNatClampNeg) := qA rfl j Q
theorem x_13 (m : Mem) (j x : Int32) (Q : Hp → Prop) : wrA (hp m) 13 0 j x Q ↔ okI j 408 ∧ Q (hp (sI m 13 (upd (m.1 13) j.toNatClampNeg x))) := qX rfl j x Q
theorem io_14 (m : Mem) (as : Ev) : isO (hp m) (.ref 14 :: as) 3 = true := io_of rfl as
theorem g_14_0 (m : Mem) (Q : Nat → Prop) : rdR (hp m) 14 3 0 Q ↔ Q 15 := qR rfl rfl Q
theorem g_14_1 (m : Mem) (Q : Int32 → Prop) : rdI (hp m) 14 3 1 Q ↔ Q (m.1 14 1) := qI rfl rfl Q
theorem p_14_1 (m : Mem) (v : Int32) (Q : Hp → Prop) : wrF (hp m) 14 3 1 (.int v) Q ↔ Q (hp (sI m 14 (upd (m.1 14) 1 v))) := qW rfl rfl v Q
theorem g_14_2 (m : Mem) (Q : Nat → Prop) : rdR (hp m) 14 3 2 Q ↔ Q 1 := qR rfl rfl Q
theorem g_14_3 (m : Mem) (Q : Nat → Prop) : rdR (hp m) 14 3 3 Q ↔ Q 23 := qR rfl rfl Q
theorem g_14_4 (m : Mem) (Q : Nat → Prop) : rdR (hp m) 14 3 4 Q ↔ Q 24 := qR rfl rfl Q
theorem g_14_5 (m : Mem) (Q : Int32 → Prop) : rdI (hp m) 14 3 5 Q ↔ Q (m.1 14 5) := qI rfl rfl Q
theorem p_14_5 (m : Mem) (v : Int32) (Q : Hp → Prop) : wrF (hp m) 14 3 5 (.int v) Q ↔ Q (hp (sI m 14 (upd (m.1 14) 5 v))) := qW rfl rfl v Q
theorem g_14_6 (m : Mem) (Q : Int32 → Prop) : rdI (hp m) 14 3 6 Q ↔ Q (m.1 14 6) := qI rfl rfl Q
theorem p_14_6 (m : Mem) (v : Int32) (Q : Hp → Prop) : wrF (hp m) 14 3 6 (.int v) Q ↔ Q (hp (sI m 14 (upd (m.1 14) 6 v))) := qW rfl rfl v Q
theorem g_14_7 (m : Mem) (Q : Int32 → Prop) : rdI (hp m) 14 3 7 Q ↔ Q (m.1 14 7) := qI rfl rfl Q
theorem p_14_7 (m : Mem) (v : Int32) (Q : Hp → Prop) : wrF (hp m) 14 3 7 (.int v) Q ↔ Q (hp (sI m 14 (upd (m.1 14) 7 v))) := qW rfl rfl v Q
theorem g_14_8 (m : Mem) (Q : Int32 → Prop) : rdI (hp m) 14 3 8 Q ↔ Q (m.1 14 8) := qI rfl rfl Q
theorem p_14_8 (m : Mem) (v : Int32) (Q : Hp → Prop) : wrF (hp m) 14 3 8 (.int v) Q ↔ Q (hp (sI m 14 (upd (m.1 14) 8 v))) := qW rfl rfl v Q
theorem g_14_9 (m : Mem) (Q : Int32 → Prop) : rdI (hp m) 14 3 9 Q ↔ Q (m.1 14 9) := qI rfl rfl Q
theorem p_14_9 (m : Mem) (v : Int32) (Q : Hp → Prop) : wrF (hp m) 14 3 9 (.int v) Q ↔ Q (hp (sI m 14 (upd (m.1 14) 9 v))) := qW rfl rfl v Q
theorem g_14_10 (m : Mem) (Q : Int32 → Prop) : rdI (hp m) 14 3 10 Q ↔ Q (m.1 14 10) := qI rfl rfl Q
theorem p_14_10 (m : Mem) (v : Int32) (Q : Hp → Prop) : wrF (hp m) 14 3 10 (.int v) Q ↔ Q (hp (sI m 14 (upd (m.1 14) 10 v))) := qW rfl rfl v Q
theorem g_14_11 (m : Mem) (Q : Int32 → Prop) : rdI (hp m) 14 3 11 Q ↔ Q (m.1 14 11) := qI rfl rfl Q
theorem p_14_11 (m : Mem) (v : Int32) (Q : Hp → Prop) : wrF (hp m) 14 3 11 (.int v) Q ↔ Q (hp (sI m 14 (upd (m.1 14) 11 v))) := qW rfl rfl v Q
theorem io_15 (m : Mem) (as : Ev) : isO (hp m) (.ref 15 :: as) 2 = true := io_of rfl as
theorem g_15_0 (m : Mem) (Q : Int32 → Prop) : rdI (hp m) 15 2 0 Q ↔ Q (m.1 15 0) := qI rfl rfl Q
theorem p_15_0 (m : Mem) (v : Int32) (Q : Hp → Prop) : wrF (hp m) 15 2 0 (.int v) Q ↔ Q (hp (sI m 15 (upd (m.1 15) 0 v))) := qW rfl rfl v Q
theorem g_15_1 (m : Mem) (Q : Int32 → Prop) : rdI (hp m) 15 2 1 Q ↔ Q (m.1 15 1) := qI rfl rfl Q
theorem p_15_1 (m : Mem) (v : Int32) (Q : Hp → Prop) : wrF (hp m) 15 2 1 (.int v) Q ↔ Q (hp (sI m 15 (upd (m.1 15) 1 v))) := qW rfl rfl v Q
theorem g_15_2 (m : Mem) (Q : Int32 → Prop) : rdI (hp m) 15 2 2 Q ↔ Q (m.1 15 2) := qI rfl rfl Q
theorem p_15_2 (m : Mem) (v : Int32) (Q : Hp → Prop) : wrF (hp m) 15 2 2 (.int v) Q ↔ Q (hp (sI m 15 (upd (m.1 15) 2 v))) := qW rfl rfl v Q
theorem g_15_3 (m : Mem) (Q : Nat → Prop) : rdR (hp m) 15 2 3 Q ↔ Q 16 := qR rfl rfl Q
theorem g_15_4 (m : Mem) (Q : Nat → Prop) : rdR (hp m) 15 2 4 Q ↔ Q 17 := qR rfl rfl Q
theorem g_15_5 (m : Mem) (Q : Nat → Prop) : rdR (hp m) 15 2 5 Q ↔ Q 18 := qR rfl rfl Q
theorem g_15_6 (m : Mem) (Q : Nat → Prop) : rdR (hp m) 15 2 6 Q ↔ Q 19 := qR rfl rfl Q
theorem g_15_7 (m : Mem) (Q : Nat → Prop) : rdR (hp m) 15 2 7 Q ↔ Q 20 := qR rfl rfl Q
theorem g_15_8 (m : Mem) (Q : Nat → Prop) : rdR (hp m) 15 2 8 Q ↔ Q 21 := qR rfl rfl Q
theorem g_15_9 (m : Mem) (Q : Nat → Prop) : rdR (hp m) 15 2 9 Q ↔ Q 22 := qR rfl rfl Q
theorem g_15_10 (m : Mem) (Q : Int32 → Prop) : rdI (hp m) 15 2 10 Q ↔ Q (m.1 15 10) := qI rfl rfl Q
theorem p_15_10 (m : Mem) (v : Int32) (Q : Hp → Prop) : wrF (hp m) 15 2 10 (.int v) Q ↔ Q (hp (sI m 15 (upd (m.1 15) 10 v))) := qW rfl rfl v Q
theorem b_16 (m : Mem) (j : Int32) (Q : Int32 → Prop) : rdA (hp m) 16 0 j Q ↔ okI j 6 ∧ Q (m.1 16 j.toNatClampNeg) := qA rfl j Q
theorem x_16 (m : Mem) (j x : Int32) (Q : Hp → Prop) : wrA (hp m) 16 0 j x Q ↔ okI j 6 ∧ Q (hp (sI m 16 (upd (m.1 16) j.toNatClampNeg x))) := qX rfl j x Q
theorem b_17 (m : Mem) (j : Int32) (Q : Int32 → Prop) : rdA (hp m) 17 0 j Q ↔ okI j 5 ∧ Q (m.1 17 j.toNatClampNeg) := qA rfl j Q
theorem x_17 (m : Mem) (j x : Int32) (Q : Hp → Prop) : wrA (hp m) 17 0 j x Q ↔ okI j 5 ∧ Q (hp (sI m 17 (upd (m.1 17) j.toNatClampNeg x))) := qX rfl j x Q
theorem b_18 (m : Mem) (j : Int32) (Q : Int32 → Prop) : rdA (hp m) 18 0 j Q ↔ okI j 5 ∧ Q (m.1 18 j.toNatClampNeg) := qA rfl j Q
theorem x_18 (m : Mem) (j x : Int32) (Q : Hp → Prop) : wrA (hp m) 18 0 j x Q ↔ okI j 5 ∧ Q (hp (sI m 18 (upd (m.1 18) j.toNatClampNeg x))) := qX rfl j x Q
theorem b_19 (m : Mem) (j : Int32) (Q : Int32 → Prop) : rdA (hp m) 19 0 j Q ↔ okI j 30 ∧ Q (m.1 19 j.toNatClampNeg) := qA rfl j Q
theorem x_19 (m : Mem) (j x : Int32) (Q : Hp → Prop) : wrA (hp m) 19 0 j x Q ↔ okI j 30 ∧ Q (hp (sI m 19 (upd (m.1 19) j.toNatClampNeg x))) := qX rfl j x Q
theorem b_20 (m : Mem) (j : Int32) (Q : Int32 → Prop) : rdA (hp m) 20 0 j Q ↔ okI j 4 ∧ Q (m.1 20 j.toNatClampNeg) := qA rfl j Q
theorem x_20 (m : Mem) (j x : Int32) (Q : Hp → Prop) : wrA (hp m) 20 0 j x Q ↔ okI j 4 ∧ Q (hp (sI m 20 (upd (m.1 20) j.toNatClampNeg x))) := qX rfl j x Q
theorem b_21 (m : Mem) (j : Int32) (Q : Int32 → Prop) : rdA (hp m) 21 0 j Q ↔ okI j 408 ∧ Q (m.1 21 j.toNatClampNeg) := qA rfl j Q
theorem x_21 (m : Mem) (j x : Int32) (Q : Hp → Prop) : wrA (hp m) 21 0 j x Q ↔ okI j 408 ∧ Q (hp (sI m 21 (upd (m.1 21) j.toNatClampNeg x))) := qX rfl j x Q
theorem b_22 (m : Mem) (j : Int32) (Q : Int32 → Prop) : rdA (hp m) 22 0 j Q ↔ okI j 408 ∧ Q (m.1 22 j.toNatClampNeg) := qA rfl j Q
theorem x_22 (m : Mem) (j x : Int32) (Q : Hp → Prop) : wrA (hp m) 22 0 j x Q ↔ okI j 408 ∧ Q (hp (sI m 22 (upd (m.1 22) j.toNatClampNeg x))) := qX rfl j x Q
theorem b_23 (m : Mem) (j : Int32) (Q : Int64 → Prop) : rdB (hp m) 23 j Q ↔ okI j 6 ∧ Q (m.2 23 j.toNatClampNeg) := qAl rfl j Q
theorem x_23 (m : Mem) (j : Int32) (x : Int64) (Q : Hp → Prop) : wrB (hp m) 23 j x Q ↔ okI j 6 ∧ Q (hp (sJ m 23 (vp_updL (m.2 23) j.toNatClampNeg x))) := qXl rfl j x Q
theorem b_24 (m : Mem) (j : Int32) (Q : Int64 → Prop) : rdB (hp m) 24 j Q ↔ okI j 5 ∧ Q (m.2 24 j.toNatClampNeg) := qAl rfl j Q
theorem x_24 (m : Mem) (j : Int32) (x : Int64) (Q : Hp → Prop) : wrB (hp m) 24 j x Q ↔ okI j 5 ∧ Q (hp (sJ m 24 (vp_updL (m.2 24) j.toNatClampNeg x))) := qXl rfl j x Q
theorem io_25 (m : Mem) (as : Ev) : isO (hp m) (.ref 25 :: as) 4 = true := io_of rfl as
theorem g_25_0 (m : Mem) (Q : Nat → Prop) : rdR (hp m) 25 4 0 Q ↔ Q 26 := qR rfl rfl Q
theorem g_25_1 (m : Mem) (Q : Nat → Prop) : rdR (hp m) 25 4 1 Q ↔ Q 27 := qR rfl rfl Q
theorem g_25_2 (m : Mem) (Q : Nat → Prop) : rdR (hp m) 25 4 2 Q ↔ Q 28 := qR rfl rfl Q
theorem g_25_3 (m : Mem) (Q : Int32 → Prop) : rdI (hp m) 25 4 3 Q ↔ Q (m.1 25 3) := qI rfl rfl Q
theorem p_25_3 (m : Mem) (v : Int32) (Q : Hp → Prop) : wrF (hp m) 25 4 3 (.int v) Q ↔ Q (hp (sI m 25 (upd (m.1 25) 3 v))) := qW rfl rfl v Q
theorem g_25_4 (m : Mem) (Q : Nat → Prop) : rdR (hp m) 25 4 4 Q ↔ Q 6 := qR rfl rfl Q
theorem b_26 (m : Mem) (j : Int32) (Q : Int32 → Prop) : rdA (hp m) 26 0 j Q ↔ okI j 56 ∧ Q (m.1 26 j.toNatClampNeg) := qA rfl j Q
theorem x_26 (m : Mem) (j x : Int32) (Q : Hp → Prop) : wrA (hp m) 26 0 j x Q ↔ okI j 56 ∧ Q (hp (sI m 26 (upd (m.1 26) j.toNatClampNeg x))) := qX rfl j x Q
theorem b_27 (m : Mem) (j : Int32) (Q : Int32 → Prop) : rdA (hp m) 27 0 j Q ↔ okI j 5 ∧ Q (m.1 27 j.toNatClampNeg) := qA rfl j Q
theorem x_27 (m : Mem) (j x : Int32) (Q : Hp → Prop) : wrA (hp m) 27 0 j x Q ↔ okI j 5 ∧ Q (hp (sI m 27 (upd (m.1 27) j.toNatClampNeg x))) := qX rfl j x Q
theorem b_28 (m : Mem) (j : Int32) (Q : Int32 → Prop) : rdA (hp m) 28 0 j Q ↔ okI j 6 ∧ Q (m.1 28 j.toNatClampNeg) := qA rfl j Q
theorem x_28 (m : Mem) (j x : Int32) (Q : Hp → Prop) : wrA (hp m) 28 0 j x Q ↔ okI j 6 ∧ Q (hp (sI m 28 (upd (m.1 28) j.toNatClampNeg x))) := qX rfl j x Q
theorem io_29 (m : Mem) (as : Ev) : isO (hp m) (.ref 29 :: as) 5 = true := io_of rfl as
theorem g_29_0 (m : Mem) (Q : Nat → Prop) : rdR (hp m) 29 5 0 Q ↔ Q 6 := qR rfl rfl Q
theorem g_29_1 (m : Mem) (Q : Nat → Prop) : rdR (hp m) 29 5 1 Q ↔ Q 30 := qR rfl rfl Q
theorem g_29_2 (m : Mem) (Q : Nat → Prop) : rdR (hp m) 29 5 2 Q ↔ Q 31 := qR rfl rfl Q
theorem b_30 (m : Mem) (j : Int32) (Q : Int32 → Prop) : rdA (hp m) 30 0 j Q ↔ okI j 9 ∧ Q (m.1 30 j.toNatClampNeg) := qA rfl j Q
theorem x_30 (m : Mem) (j x : Int32) (Q : Hp → Prop) : wrA (hp m) 30 0 j x Q ↔ okI j 9 ∧ Q (hp (sI m 30 (upd (m.1 30) j.toNatClampNeg x))) := qX rfl j x Q
theorem b_31 (m : Mem) (j : Int32) (Q : Int32 → Prop) : rdA (hp m) 31 0 j Q ↔ okI j 32 ∧ Q (m.1 31 j.toNatClampNeg) := qA rfl j Q
theorem x_31 (m : Mem) (j x : Int32) (Q : Hp → Prop) : wrA (hp m) 31 0 j x Q ↔ okI j 32 ∧ Q (hp (sI m 31 (upd (m.1 31) j.toNatClampNeg x))) := qX rfl j x Q
theorem io_32 (m : Mem) (as : Ev) : isO (hp m) (.ref 32 :: as) 6 = true := io_of rfl as
theorem g_32_0 (m : Mem) (Q : Nat → Prop) : rdR (hp m) 32 6 0 Q ↔ Q 6 := qR rfl rfl Q
theorem g_32_1 (m : Mem) (Q : Nat → Prop) : rdR (hp m) 32 6 1 Q ↔ Q 29 := qR rfl rfl Q
theorem g_32_2 (m : Mem) (Q : Nat → Prop) : rdR (hp m) 32 6 2 Q ↔ Q 33 := qR rfl rfl Q
theorem io_33 (m : Mem) (as : Ev) : isO (hp m) (.ref 33 :: as) 4 = true := io_of rfl as
theorem g_33_0 (m : Mem) (Q : Nat → Prop) : rdR (hp m) 33 4 0 Q ↔ Q 34 := qR rfl rfl Q
theorem g_33_1 (m : Mem) (Q : Nat → Prop) : rdR (hp m) 33 4 1 Q ↔ Q 35 := qR rfl rfl Q
theorem g_33_2 (m : Mem) (Q : Nat → Prop) : rdR (hp m) 33 4 2 Q ↔ Q 36 := qR rfl rfl Q
theorem g_33_3 (m : Mem) (Q : Int32 → Prop) : rdI (hp m) 33 4 3 Q ↔ Q (m.1 33 3) := qI rfl rfl Q
theorem p_33_3 (m : Mem) (v : Int32) (Q : Hp → Prop) : wrF (hp m) 33 4 3 (.int v) Q ↔ Q (hp (sI m 33 (upd (m.1 33) 3 v))) := qW rfl rfl v Q
theorem g_33_4 (m : Mem) (Q : Nat → Prop) : rdR (hp m) 33 4 4 Q ↔ Q 6 := qR rfl rfl Q
theorem b_34 (m : Mem) (j : Int32) (Q : Int32 → Prop) : rdA (hp m) 34 0 j Q ↔ okI j 56 ∧ Q (m.1 34 j.toNatClampNeg) := qA rfl j Q
theorem x_34 (m : Mem) (j x : Int32) (Q : Hp → Prop) : wrA (hp m) 34 0 j x Q ↔ okI j 56 ∧ Q (hp (sI m 34 (upd (m.1 34) j.toNatClampNeg x))) := qX rfl j x Q
theorem b_35 (m : Mem) (j : Int32) (Q : Int32 → Prop) : rdA (hp m) 35 0 j Q ↔ okI j 5 ∧ Q (m.1 35 j.toNatClampNeg) := qA rfl j Q
theorem x_35 (m : Mem) (j x : Int32) (Q : Hp → Prop) : wrA (hp m) 35 0 j x Q ↔ okI j 5 ∧ Q (hp (sI m 35 (upd (m.1 35) j.toNatClampNeg x))) := qX rfl j x Q
theorem b_36 (m : Mem) (j : Int32) (Q : Int32 → Prop) : rdA (hp m) 36 0 j Q ↔ okI j 6 ∧ Q (m.1 36 j.toNatClampNeg) := qA rfl j Q
theorem x_36 (m : Mem) (j x : Int32) (Q : Hp → Prop) : wrA (hp m) 36 0 j x Q ↔ okI j 6 ∧ Q (hp (sI m 36 (upd (m.1 36) j.toNatClampNeg x))) := qX rfl j x Q
theorem io_37 (m : Mem) (as : Ev) : isO (hp m) (.ref 37 :: as) 7 = true := io_of rfl as
theorem g_37_0 (m : Mem) (Q : Int32 → Prop) : rdI (hp m) 37 7 0 Q ↔ Q (m.1 37 0) := qI rfl rfl Q
theorem p_37_0 (m : Mem) (v : Int32) (Q : Hp → Prop) : wrF (hp m) 37 7 0 (.int v) Q ↔ Q (hp (sI m 37 (upd (m.1 37) 0 v))) := qW rfl rfl v Q
theorem g_37_1 (m : Mem) (Q : Int32 → Prop) : rdI (hp m) 37 7 1 Q ↔ Q (m.1 37 1) := qI rfl rfl Q
theorem p_37_1 (m : Mem) (v : Int32) (Q : Hp → Prop) : wrF (hp m) 37 7 1 (.int v) Q ↔ Q (hp (sI m 37 (upd (m.1 37) 1 v))) := qW rfl rfl v Q
theorem g_37_2 (m : Mem) (Q : Int32 → Prop) : rdI (hp m) 37 7 2 Q ↔ Q (m.1 37 2) := qI rfl rfl Q
theorem p_37_2 (m : Mem) (v : Int32) (Q : Hp → Prop) : wrF (hp m) 37 7 2 (.int v) Q ↔ Q (hp (sI m 37 (upd (m.1 37) 2 v))) := qW rfl rfl v Q
theorem g_37_3 (m : Mem) (Q : Nat → Prop) : rdR (hp m) 37 7 3 Q ↔ Q 38 := qR rfl rfl Q
theorem g_37_4 (m : Mem) (Q : Nat → Prop) : rdR (hp m) 37 7 4 Q ↔ Q 6 := qR rfl rfl Q
theorem g_37_5 (m : Mem) (Q : Nat → Prop) : rdR (hp m) 37 7 5 Q ↔ Q 25 := qR rfl rfl Q
theorem g_37_6 (m : Mem) (Q : Nat → Prop) : rdR (hp m) 37 7 6 Q ↔ Q 29 := qR rfl rfl Q
theorem g_37_7 (m : Mem) (Q : Nat → Prop) : rdR (hp m) 37 7 7 Q ↔ Q 39 := qR rfl rfl Q
theorem g_37_8 (m : Mem) (Q : Nat → Prop) : rdR (hp m) 37 7 8 Q ↔ Q 40 := qR rfl rfl Q
theorem g_37_9 (m : Mem) (Q : Nat → Prop) : rdR (hp m) 37 7 9 Q ↔ Q 41 := qR rfl rfl Q
theorem g_37_10 (m : Mem) (Q : Nat → Prop) : rdR (hp m) 37 7 10 Q ↔ Q 42 := qR rfl rfl Q
theorem g_37_11 (m : Mem) (Q : Nat → Prop) : rdR (hp m) 37 7 11 Q ↔ Q 43 := qR rfl rfl Q
theorem g_37_12 (m : Mem) (Q : Int32 → Prop) : rdI (hp m) 37 7 12 Q ↔ Q (m.1 37 12) := qI rfl rfl Q
theorem p_37_12 (m : Mem) (v : Int32) (Q : Hp → Prop) : wrF (hp m) 37 7 12 (.int v) Q ↔ Q (hp (sI m 37 (upd (m.1 37) 12 v))) := qW rfl rfl v Q
theorem g_37_13 (m : Mem) (Q : Int32 → Prop) : rdI (hp m) 37 7 13 Q ↔ Q (m.1 37 13) := qI rfl rfl Q
theorem p_37_13 (m : Mem) (v : Int32) (Q : Hp → Prop) : wrF (hp m) 37 7 13 (.int v) Q ↔ Q (hp (sI m 37 (upd (m.1 37) 13 v))) := qW rfl rfl v Q
theorem b_38 (m : Mem) (j : Int32) (Q : Int32 → Prop) : rdA (hp m) 38 0 j Q ↔ okI j 5 ∧ Q (m.1 38 j.toNatClampNeg) := qA rfl j Q
theorem x_38 (m : Mem) (j x : Int32) (Q : Hp → Prop) : wrA (hp m) 38 0 j x Q ↔ okI j 5 ∧ Q (hp (sI m 38 (upd (m.1 38) j.toNatClampNeg x))) := qX rfl j x Q
theorem b_39 (m : Mem) (j : Int32) (Q : Int32 → Prop) : rdA (hp m) 39 0 j Q ↔ okI j 30 ∧ Q (m.1 39 j.toNatClampNeg) := qA rfl j Q
theorem x_39 (m : Mem) (j x : Int32) (Q : Hp → Prop) : wrA (hp m) 39 0 j x Q ↔ okI j 30 ∧ Q (hp (sI m 39 (upd (m.1 39) j.toNatClampNeg x))) := qX rfl j x Q
theorem b_40 (m : Mem) (j : Int32) (Q : Int32 → Prop) : rdA (hp m) 40 0 j Q ↔ okI j 30 ∧ Q (m.1 40 j.toNatClampNeg) := qA rfl j Q
theorem x_40 (m : Mem) (j x : Int32) (Q : Hp → Prop) : wrA (hp m) 40 0 j x Q ↔ okI j 30 ∧ Q (hp (sI m 40 (upd (m.1 40) j.toNatClampNeg x))) := qX rfl j x Q
theorem b_41 (m : Mem) (j : Int32) (Q : Int32 → Prop) : rdA (hp m) 41 0 j Q ↔ okI j 150 ∧ Q (m.1 41 j.toNatClampNeg) := qA rfl j Q
theorem x_41 (m : Mem) (j x : Int32) (Q : Hp → Prop) : wrA (hp m) 41 0 j x Q ↔ okI j 150 ∧ Q (hp (sI m 41 (upd (m.1 41) j.toNatClampNeg x))) := qX rfl j x Q
theorem b_42 (m : Mem) (j : Int32) (Q : Int32 → Prop) : rdA (hp m) 42 0 j Q ↔ okI j 5 ∧ Q (m.1 42 j.toNatClampNeg) := qA rfl j Q
theorem x_42 (m : Mem) (j x : Int32) (Q : Hp → Prop) : wrA (hp m) 42 0 j x Q ↔ okI j 5 ∧ Q (hp (sI m 42 (upd (m.1 42) j.toNatClampNeg x))) := qX rfl j x Q
theorem b_43 (m : Mem) (j : Int32) (Q : Int32 → Prop) : rdA (hp m) 43 0 j Q ↔ okI j 6 ∧ Q (m.1 43 j.toNatClampNeg) := qA rfl j Q
theorem x_43 (m : Mem) (j x : Int32) (Q : Hp → Prop) : wrA (hp m) 43 0 j x Q ↔ okI j 6 ∧ Q (hp (sI m 43 (upd (m.1 43) j.toNatClampNeg x))) := qX rfl j x Q
theorem io_44 (m : Mem) (as : Ev) : isO (hp m) (.ref 44 :: as) 8 = true := io_of rfl as
theorem g_44_0 (m : Mem) (Q : Int32 → Prop) : rdI (hp m) 44 8 0 Q ↔ Q (m.1 44 0) := qI rfl rfl Q
theorem p_44_0 (m : Mem) (v : Int32) (Q : Hp → Prop) : wrF (hp m) 44 8 0 (.int v) Q ↔ Q (hp (sI m 44 (upd (m.1 44) 0 v))) := qW rfl rfl v Q
theorem g_44_1 (m : Mem) (Q : Int32 → Prop) : rdI (hp m) 44 8 1 Q ↔ Q (m.1 44 1) := qI rfl rfl Q
theorem p_44_1 (m : Mem) (v : Int32) (Q : Hp → Prop) : wrF (hp m) 44 8 1 (.int v) Q ↔ Q (hp (sI m 44 (upd (m.1 44) 1 v))) := qW rfl rfl v Q
theorem g_44_2 (m : Mem) (Q : Int32 → Prop) : rdI (hp m) 44 8 2 Q ↔ Q (m.1 44 2) := qI rfl rfl Q
theorem p_44_2 (m : Mem) (v : Int32) (Q : Hp → Prop) : wrF (hp m) 44 8 2 (.int v) Q ↔ Q (hp (sI m 44 (upd (m.1 44) 2 v))) := qW rfl rfl v Q
theorem g_44_3 (m : Mem) (Q : Nat → Prop) : rdR (hp m) 44 8 3 Q ↔ Q 45 := qR rfl rfl Q
theorem g_44_4 (m : Mem) (Q : Nat → Prop) : rdR (hp m) 44 8 4 Q ↔ Q 46 := qR rfl rfl Q
theorem g_44_5 (m : Mem) (Q : Nat → Prop) : rdR (hp m) 44 8 5 Q ↔ Q 6 := qR rfl rfl Q
theorem g_44_6 (m : Mem) (Q : Nat → Prop) : rdR (hp m) 44 8 6 Q ↔ Q 25 := qR rfl rfl Q
theorem g_44_7 (m : Mem) (Q : Nat → Prop) : rdR (hp m) 44 8 7 Q ↔ Q 29 := qR rfl rfl Q
theorem g_44_8 (m : Mem) (Q : Nat → Prop) : rdR (hp m) 44 8 8 Q ↔ Q 47 := qR rfl rfl Q
theorem g_44_9 (m : Mem) (Q : Nat → Prop) : rdR (hp m) 44 8 9 Q ↔ Q 48 := qR rfl rfl Q
theorem g_44_10 (m : Mem) (Q : Nat → Prop) : rdR (hp m) 44 8 10 Q ↔ Q 49 := qR rfl rfl Q
theorem g_44_11 (m : Mem) (Q : Nat → Prop) : rdR (hp m) 44 8 11 Q ↔ Q 50 := qR rfl rfl Q
theorem g_44_12 (m : Mem) (Q : Int32 → Prop) : rdI (hp m) 44 8 12 Q ↔ Q (m.1 44 12) := qI rfl rfl Q
theorem p_44_12 (m : Mem) (v : Int32) (Q : Hp → Prop) : wrF (hp m) 44 8 12 (.int v) Q ↔ Q (hp (sI m 44 (upd (m.1 44) 12 v))) := qW rfl rfl v Q
theorem g_44_13 (m : Mem) (Q : Int32 → Prop) : rdI (hp m) 44 8 13 Q ↔ Q (m.1 44 13) := qI rfl rfl Q
theorem p_44_13 (m : Mem) (v : Int32) (Q : Hp → Prop) : wrF (hp m) 44 8 13 (.int v) Q ↔ Q (hp (sI m 44 (upd (m.1 44) 13 v))) := qW rfl rfl v Q
theorem g_44_14 (m : Mem) (Q : Int32 → Prop) : rdI (hp m) 44 8 14 Q ↔ Q (m.1 44 14) := qI rfl rfl Q
theorem p_44_14 (m : Mem) (v : Int32) (Q : Hp → Prop) : wrF (hp m) 44 8 14 (.int v) Q ↔ Q (hp (sI m 44 (upd (m.1 44) 14 v))) := qW rfl rfl v Q
theorem b_45 (m : Mem) (j : Int32) (Q : Int32 → Prop) : rdA (hp m) 45 0 j Q ↔ okI j 5 ∧ Q (m.1 45 j.toNatClampNeg) := qA rfl j Q
theorem x_45 (m : Mem) (j x : Int32) (Q : Hp → Prop) : wrA (hp m) 45 0 j x Q ↔ okI j 5 ∧ Q (hp (sI m 45 (upd (m.1 45) j.toNatClampNeg x))) := qX rfl j x Q
theorem b_46 (m : Mem) (j : Int32) (Q : Int32 → Prop) : rdA (hp m) 46 0 j Q ↔ okI j 5 ∧ Q (m.1 46 j.toNatClampNeg) := qA rfl j Q
theorem x_46 (m : Mem) (j x : Int32) (Q : Hp → Prop) : wrA (hp m) 46 0 j x Q ↔ okI j 5 ∧ Q (hp (sI m 46 (upd (m.1 46) j.toNatClampNeg x))) := qX rfl j x Q
theorem b_47 (m : Mem) (j : Int32) (Q : Int32 → Prop) : rdA (hp m) 47 0 j Q ↔ okI j 5 ∧ Q (m.1 47 j.toNatClampNeg) := qA rfl j Q
theorem x_47 (m : Mem) (j x : Int32) (Q : Hp → Prop) : wrA (hp m) 47 0 j x Q ↔ okI j 5 ∧ Q (hp (sI m 47 (upd (m.1 47) j.toNatClampNeg x))) := qX rfl j x Q
theorem b_48 (m : Mem) (j : Int32) (Q : Int32 → Prop) : rdA (hp m) 48 0 j Q ↔ okI j 150 ∧ Q (m.1 48 j.toNatClampNeg) := qA rfl j Q
theorem x_48 (m : Mem) (j x : Int32) (Q : Hp → Prop) : wrA (hp m) 48 0 j x Q ↔ okI j 150 ∧ Q (hp (sI m 48 (upd (m.1 48) j.toNatClampNeg x))) := qX rfl j x Q
theorem b_49 (m : Mem) (j : Int32) (Q : Int32 → Prop) : rdA (hp m) 49 0 j Q ↔ okI j 5 ∧ Q (m.1 49 j.toNatClampNeg) := qA rfl j Q
theorem x_49 (m : Mem) (j x : Int32) (Q : Hp → Prop) : wrA (hp m) 49 0 j x Q ↔ okI j 5 ∧ Q (hp (sI m 49 (upd (m.1 49) j.toNatClampNeg x))) := qX rfl j x Q
theorem b_50 (m : Mem) (j : Int32) (Q : Int32 → Prop) : rdA (hp m) 50 0 j Q ↔ okI j 6 ∧ Q (m.1 50 j.toNatClampNeg) := qA rfl j Q
theorem x_50 (m : Mem) (j x : Int32) (Q : Hp → Prop) : wrA (hp m) 50 0 j x Q ↔ okI j 6 ∧ Q (hp (sI m 50 (upd (m.1 50) j.toNatClampNeg x))) := qX rfl j x Q
theorem io_51 (m : Mem) (as : Ev) : isO (hp m) (.ref 51 :: as) 9 = true := io_of rfl as
theorem g_51_0 (m : Mem) (Q : Nat → Prop) : rdR (hp m) 51 9 0 Q ↔ Q 52 := qR rfl rfl Q
theorem g_51_1 (m : Mem) (Q : Nat → Prop) : rdR (hp m) 51 9 1 Q ↔ Q 6 := qR rfl rfl Q
theorem g_51_2 (m : Mem) (Q : Nat → Prop) : rdR (hp m) 51 9 2 Q ↔ Q 25 := qR rfl rfl Q
theorem g_51_3 (m : Mem) (Q : Nat → Prop) : rdR (hp m) 51 9 3 Q ↔ Q 53 := qR rfl rfl Q
theorem b_52 (m : Mem) (j : Int32) (Q : Int32 → Prop) : rdA (hp m) 52 0 j Q ↔ okI j 5 ∧ Q (m.1 52 j.toNatClampNeg) := qA rfl j Q
theorem x_52 (m : Mem) (j x : Int32) (Q : Hp → Prop) : wrA (hp m) 52 0 j x Q ↔ okI j 5 ∧ Q (hp (sI m 52 (upd (m.1 52) j.toNatClampNeg x))) := qX rfl j x Q
theorem b_53 (m : Mem) (j : Int32) (Q : Nat → Prop) : rdC (hp m) 53 j Q ↔ okI j 6 ∧ Q (54 + j.toNatClampNeg) := qAr rfl j Q
theorem io_60 (m : Mem) (as : Ev) : isO (hp m) (.ref 60 :: as) 10 = true := io_of rfl as
theorem g_60_0 (m : Mem) (Q : Int32 → Prop) : rdI (hp m) 60 10 0 Q ↔ Q (m.1 60 0) := qI rfl rfl Q
theorem p_60_0 (m : Mem) (v : Int32) (Q : Hp → Prop) : wrF (hp m) 60 10 0 (.int v) Q ↔ Q (hp (sI m 60 (upd (m.1 60) 0 v))) := qW rfl rfl v Q
theorem g_60_1 (m : Mem) (Q : Nat → Prop) : rdR (hp m) 60 10 1 Q ↔ Q 6 := qR rfl rfl Q
theorem g_60_2 (m : Mem) (Q : Nat → Prop) : rdR (hp m) 60 10 2 Q ↔ Q 25 := qR rfl rfl Q
theorem g_60_3 (m : Mem) (Q : Nat → Prop) : rdR (hp m) 60 10 3 Q ↔ Q 29 := qR rfl rfl Q
theorem g_60_4 (m : Mem) (Q : Nat → Prop) : rdR (hp m) 60 10 4 Q ↔ Q 61 := qR rfl rfl Q
theorem g_60_5 (m : Mem) (Q : Nat → Prop) : rdR (hp m) 60 10 5 Q ↔ Q 62 := qR rfl rfl Q
theorem g_60_6 (m : Mem) (Q : Nat → Prop) : rdR (hp m) 60 10 6 Q ↔ Q 63 := qR rfl rfl Q
theorem b_61 (m : Mem) (j : Int32) (Q : Int32 → Prop) : rdA (hp m) 61 0 j Q ↔ okI j 20 ∧ Q (m.1 61 j.toNatClampNeg) := qA rfl j Q
theorem x_61 (m : Mem) (j x : Int32) (Q : Hp → Prop) : wrA (hp m) 61 0 j x Q ↔ okI j 20 ∧ Q (hp (sI m 61 (upd (m.1 61) j.toNatClampNeg x))) := qX rfl j x Q
theorem b_62 (m : Mem) (j : Int32) (Q : Int32 → Prop) : rdA (hp m) 62 0 j Q ↔ okI j 20 ∧ Q (m.1 62 j.toNatClampNeg) := qA rfl j Q
theorem x_62 (m : Mem) (j x : Int32) (Q : Hp → Prop) : wrA (hp m) 62 0 j x Q ↔ okI j 20 ∧ Q (hp (sI m 62 (upd (m.1 62) j.toNatClampNeg x))) := qX rfl j x Q
theorem b_63 (m : Mem) (j : Int32) (Q : Int32 → Prop) : rdA (hp m) 63 3 j Q ↔ okI j 20 ∧ Q (m.1 63 j.toNatClampNeg) := qAz rfl j Q
theorem x_63 (m : Mem) (j x : Int32) (Q : Hp → Prop) : wrA (hp m) 63 3 j x Q ↔ okI j 20 ∧ Q (hp (sI m 63 (upd (m.1 63) j.toNatClampNeg x))) := qXz rfl j x Q
theorem io_64 (m : Mem) (as : Ev) : isO (hp m) (.ref 64 :: as) 11 = true := io_of rfl as
theorem g_64_0 (m : Mem) (Q : Int32 → Prop) : rdI (hp m) 64 11 0 Q ↔ Q (m.1 64 0) := qI rfl rfl Q
theorem p_64_0 (m : Mem) (v : Int32) (Q : Hp → Prop) : wrF (hp m) 64 11 0 (.int v) Q ↔ Q (hp (sI m 64 (upd (m.1 64) 0 v))) := qW rfl rfl v Q
theorem g_64_1 (m : Mem) (Q : Nat → Prop) : rdR (hp m) 64 11 1 Q ↔ Q 65 := qR rfl rfl Q
theorem g_64_2 (m : Mem) (Q : Int32 → Prop) : rdI (hp m) 64 11 2 Q ↔ Q (m.1 64 2) := qI rfl rfl Q
theorem p_64_2 (m : Mem) (v : Int32) (Q : Hp → Prop) : wrF (hp m) 64 11 2 (.int v) Q ↔ Q (hp (sI m 64 (upd (m.1 64) 2 v))) := qW rfl rfl v Q
theorem g_64_3 (m : Mem) (Q : Nat → Prop) : rdR (hp m) 64 11 3 Q ↔ Q 106 := qR rfl rfl Q
theorem g_64_4 (m : Mem) (Q : Nat → Prop) : rdR (hp m) 64 11 4 Q ↔ Q 110 := qR rfl rfl Q
theorem b_65 (m : Mem) (j : Int32) (Q : Nat → Prop) : rdC (hp m) 65 j Q ↔ okI j 40 ∧ Q (66 + j.toNatClampNeg) := qAr rfl j Q
theorem b_106 (m : Mem) (j : Int32) (Q : Nat → Prop) : rdC (hp m) 106 j Q ↔ okI j 3 ∧ Q (107 + j.toNatClampNeg) := qAr rfl j Q
theorem b_110 (m : Mem) (j : Int32) (Q : Int32 → Prop) : rdA (hp m) 110 3 j Q ↔ okI j 3 ∧ Q (m.1 110 j.toNatClampNeg) := qAz rfl j Q
theorem x_110 (m : Mem) (j x : Int32) (Q : Hp → Prop) : wrA (hp m) 110 3 j x Q ↔ okI j 3 ∧ Q (hp (sI m 110 (upd (m.1 110) j.toNatClampNeg x))) := qXz rfl j x Q
theorem io_111 (m : Mem) (as : Ev) : isO (hp m) (.ref 111 :: as) 12 = true := io_of rfl as
theorem g_111_0 (m : Mem) (Q : Int32 → Prop) : rdI (hp m) 111 12 0 Q ↔ Q (m.1 111 0) := qI rfl rfl Q
theorem p_111_0 (m : Mem) (v : Int32) (Q : Hp → Prop) : wrF (hp m) 111 12 0 (.int v) Q ↔ Q (hp (sI m 111 (upd (m.1 111) 0 v))) := qW rfl rfl v Q
theorem g_111_1 (m : Mem) (Q : Nat → Prop) : rdR (hp m) 111 12 1 Q ↔ Q 112 := qR rfl rfl Q
theorem g_111_2 (m : Mem) (Q : Int32 → Prop) : rdI (hp m) 111 12 2 Q ↔ Q (m.1 111 2) := qI rfl rfl Q
theorem p_111_2 (m : Mem) (v : Int32) (Q : Hp → Prop) : wrF (hp m) 111 12 2 (.int v) Q ↔ Q (hp (sI m 111 (upd (m.1 111) 2 v))) := qW rfl rfl v Q
theorem g_111_3 (m : Mem) (Q : Nat → Prop) : rdR (hp m) 111 12 3 Q ↔ Q 113 := qR rfl rfl Q
theorem g_111_4 (m : Mem) (Q : Int32 → Prop) : rdI (hp m) 111 12 4 Q ↔ Q (m.1 111 4) := qI rfl rfl Q
theorem p_111_4 (m : Mem) (v : Int32) (Q : Hp → Prop) : wrF (hp m) 111 12 4 (.int v) Q ↔ Q (hp (sI m 111 (upd (m.1 111) 4 v))) := qW rfl rfl v Q
theorem g_111_5 (m : Mem) (Q : Nat → Prop) : rdR (hp m) 111 12 5 Q ↔ Q 114 := qR rfl rfl Q
theorem g_111_6 (m : Mem) (Q : Nat → Prop) : rdR (hp m) 111 12 6 Q ↔ Q 115 := qR rfl rfl Q
theorem g_111_7 (m : Mem) (Q : Nat → Prop) : rdR (hp m) 111 12 7 Q ↔ Q 116 := qR rfl rfl Q
theorem g_111_8 (m : Mem) (Q : Nat → Prop) : rdR (hp m) 111 12 8 Q ↔ Q 117 := qR rfl rfl Q
theorem g_111_9 (m : Mem) (Q : Nat → Prop) : rdR (hp m) 111 12 9 Q ↔ Q 118 := qR rfl rfl Q
theorem g_111_10 (m : Mem) (Q : Int32 → Prop) : rdI (hp m) 111 12 10 Q ↔ Q (m.1 111 10) := qI rfl rfl Q
theorem p_111_10 (m : Mem) (v : Int32) (Q : Hp → Prop) : wrF (hp m) 111 12 10 (.int v) Q ↔ Q (hp (sI m 111 (upd (m.1 111) 10 v))) := qW rfl rfl v Q
theorem g_111_11 (m : Mem) (Q : Int32 → Prop) : rdI (hp m) 111 12 11 Q ↔ Q (m.1 111 11) := qI rfl rfl Q
theorem p_111_11 (m : Mem) (v : Int32) (Q : Hp → Prop) : wrF (hp m) 111 12 11 (.int v) Q ↔ Q (hp (sI m 111 (upd (m.1 111) 11 v))) := qW rfl rfl v Q
theorem g_111_12 (m : Mem) (Q : Int32 → Prop) : rdI (hp m) 111 12 12 Q ↔ Q (m.1 111 12) := qI rfl rfl Q
theorem p_111_12 (m : Mem) (v : Int32) (Q : Hp → Prop) : wrF (hp m) 111 12 12 (.int v) Q ↔ Q (hp (sI m 111 (upd (m.1 111) 12 v))) := qW rfl rfl v Q
theorem g_111_13 (m : Mem) (Q : Int32 → Prop) : rdI (hp m) 111 12 13 Q ↔ Q (m.1 111 13) := qI rfl rfl Q
theorem p_111_13 (m : Mem) (v : Int32) (Q : Hp → Prop) : wrF (hp m) 111 12 13 (.int v) Q ↔ Q (hp (sI m 111 (upd (m.1 111) 13 v))) := qW rfl rfl v Q
theorem g_111_14 (m : Mem) (Q : Int32 → Prop) : rdI (hp m) 111 12 14 Q ↔ Q (m.1 111 14) := qI rfl rfl Q
theorem p_111_14 (m : Mem) (v : Int32) (Q : Hp → Prop) : wrF (hp m) 111 12 14 (.int v) Q ↔ Q (hp (sI m 111 (upd (m.1 111) 14 v))) := qW rfl rfl v Q
theorem g_111_15 (m : Mem) (Q : Int32 → Prop) : rdI (hp m) 111 12 15 Q ↔ Q (m.1 111 15) := qI rfl rfl Q
theorem p_111_15 (m : Mem) (v : Int32) (Q : Hp → Prop) : wrF (hp m) 111 12 15 (.int v) Q ↔ Q (hp (sI m 111 (upd (m.1 111) 15 v))) := qW rfl rfl v Q
theorem g_111_16 (m : Mem) (Q : Int32 → Prop) : rdI (hp m) 111 12 16 Q ↔ Q (m.1 111 16) := qI rfl rfl Q
theorem p_111_16 (m : Mem) (v : Int32) (Q : Hp → Prop) : wrF (hp m) 111 12 16 (.int v) Q ↔ Q (hp (sI m 111 (upd (m.1 111) 16 v))) := qW rfl rfl v Q
theorem g_111_17 (m : Mem) (Q : Int32 → Prop) : rdI (hp m) 111 12 17 Q ↔ Q (m.1 111 17) := qI rfl rfl Q
theorem p_111_17 (m : Mem) (v : Int32) (Q : Hp → Prop) : wrF (hp m) 111 12 17 (.int v) Q ↔ Q (hp (sI m 111 (upd (m.1 111) 17 v))) := qW rfl rfl v Q
theorem g_111_18 (m : Mem) (Q : Int32 → Prop) : rdI (hp m) 111 12 18 Q ↔ Q (m.1 111 18) := qI rfl rfl Q
theorem p_111_18 (m : Mem) (v : Int32) (Q : Hp → Prop) : wrF (hp m) 111 12 18 (.int v) Q ↔ Q (hp (sI m 111 (upd (m.1 111) 18 v))) := qW rfl rfl v Q
theorem g_111_19 (m : Mem) (Q : Int32 → Prop) : rdI (hp m) 111 12 19 Q ↔ Q (m.1 111 19) := qI rfl rfl Q
theorem p_111_19 (m : Mem) (v : Int32) (Q : Hp → Prop) : wrF (hp m) 111 12 19 (.int v) Q ↔ Q (hp (sI m 111 (upd (m.1 111) 19 v))) := qW rfl rfl v Q
theorem g_111_20 (m : Mem) (Q : Int32 → Prop) : rdI (hp m) 111 12 20 Q ↔ Q (m.1 111 20) := qI rfl rfl Q
theorem p_111_20 (m : Mem) (v : Int32) (Q : Hp → Prop) : wrF (hp m) 111 12 20 (.int v) Q ↔ Q (hp (sI m 111 (upd (m.1 111) 20 v))) := qW rfl rfl v Q
theorem g_111_21 (m : Mem) (Q : Nat → Prop) : rdR (hp m) 111 12 21 Q ↔ Q 119 := qR rfl rfl Q
theorem g_111_22 (m : Mem) (Q : Nat → Prop) : rdR (hp m) 111 12 22 Q ↔ Q 120 := qR rfl rfl Q
theorem g_111_23 (m : Mem) (Q : Nat → Prop) : rdR (hp m) 111 12 23 Q ↔ Q 121 := qR rfl rfl Q
theorem g_111_24 (m : Mem) (Q : Nat → Prop) : rdR (hp m) 111 12 24 Q ↔ Q 122 := qR rfl rfl Q
theorem g_111_25 (m : Mem) (Q : Nat → Prop) : rdR (hp m) 111 12 25 Q ↔ Q 123 := qR rfl rfl Q
theorem g_111_26 (m : Mem) (Q : Nat → Prop) : rdR (hp m) 111 12 26 Q ↔ Q 124 := qR rfl rfl Q
theorem g_111_27 (m : Mem) (Q : Nat → Prop) : rdR (hp m) 111 12 27 Q ↔ Q 125 := qR rfl rfl Q
theorem g_111_28 (m : Mem) (Q : Nat → Prop) : rdR (hp m) 111 12 28 Q ↔ Q 126 := qR rfl rfl Q
theorem g_111_29 (m : Mem) (Q : Nat → Prop) : rdR (hp m) 111 12 29 Q ↔ Q 127 := qR rfl rfl Q
theorem g_111_30 (m : Mem) (Q : Nat → Prop) : rdR (hp m) 111 12 30 Q ↔ Q 128 := qR rfl rfl Q
theorem g_111_31 (m : Mem) (Q : Nat → Prop) : rdR (hp m) 111 12 31 Q ↔ Q 129 := qR rfl rfl Q
theorem g_111_32 (m : Mem) (Q : Nat → Prop) : rdR (hp m) 111 12 32 Q ↔ Q 130 := qR rfl rfl Q
theorem g_111_33 (m : Mem) (Q : Int32 → Prop) : rdI (hp m) 111 12 33 Q ↔ Q (m.1 111 33) := qI rfl rfl Q
theorem p_111_33 (m : Mem) (v : Int32) (Q : Hp → Prop) : wrF (hp m) 111 12 33 (.int v) Q ↔ Q (hp (sI m 111 (upd (m.1 111) 33 v))) := qW rfl rfl v Q
theorem g_111_34 (m : Mem) (Q : Nat → Prop) : rdR (hp m) 111 12 34 Q ↔ Q 131 := qR rfl rfl Q
theorem g_111_35 (m : Mem) (Q : Nat → Prop) : rdR (hp m) 111 12 35 Q ↔ Q 132 := qR rfl rfl Q
theorem g_111_36 (m : Mem) (Q : Nat → Prop) : rdR (hp m) 111 12 36 Q ↔ Q 133 := qR rfl rfl Q
theorem g_111_37 (m : Mem) (Q : Nat → Prop) : rdR (hp m) 111 12 37 Q ↔ Q 134 := qR rfl rfl Q
theorem g_111_38 (m : Mem) (Q : Nat → Prop) : rdR (hp m) 111 12 38 Q ↔ Q 135 := qR rfl rfl Q
theorem g_111_39 (m : Mem) (Q : Int32 → Prop) : rdI (hp m) 111 12 39 Q ↔ Q (m.1 111 39) := qI rfl rfl Q
theorem p_111_39 (m : Mem) (v : Int32) (Q : Hp → Prop) : wrF (hp m) 111 12 39 (.int v) Q ↔ Q (hp (sI m 111 (upd (m.1 111) 39 v))) := qW rfl rfl v Q
theorem g_111_40 (m : Mem) (Q : Nat → Prop) : rdR (hp m) 111 12 40 Q ↔ Q 136 := qR rfl rfl Q
theorem g_111_41 (m : Mem) (Q : Nat → Prop) : rdR (hp m) 111 12 41 Q ↔ Q 137 := qR rfl rfl Q
theorem g_111_42 (m : Mem) (Q : Nat → Prop) : rdR (hp m) 111 12 42 Q ↔ Q 138 := qR rfl rfl Q
theorem g_111_43 (m : Mem) (Q : Int32 → Prop) : rdI (hp m) 111 12 43 Q ↔ Q (m.1 111 43) := qI rfl rfl Q
theorem p_111_43 (m : Mem) (v : Int32) (Q : Hp → Prop) : wrF (hp m) 111 12 43 (.int v) Q ↔ Q (hp (sI m 111 (upd (m.1 111) 43 v))) := qW rfl rfl v Q
theorem g_111_44 (m : Mem) (Q : Nat → Prop) : rdR (hp m) 111 12 44 Q ↔ Q 139 := qR rfl rfl Q
theorem g_111_45 (m : Mem) (Q : Nat → Prop) : rdR (hp m) 111 12 45 Q ↔ Q 140 := qR rfl rfl Q
theorem g_111_46 (m : Mem) (Q : Int32 → Prop) : rdI (hp m) 111 12 46 Q ↔ Q (m.1 111 46) := qI rfl rfl Q
theorem p_111_46 (m : Mem) (v : Int32) (Q : Hp → Prop) : wrF (hp m) 111 12 46 (.int v) Q ↔ Q (hp (sI m 111 (upd (m.1 111) 46 v))) := qW rfl rfl v Q
theorem g_111_47 (m : Mem) (Q : Nat → Prop) : rdR (hp m) 111 12 47 Q ↔ Q 141 := qR rfl rfl Q
theorem g_111_48 (m : Mem) (Q : Nat → Prop) : rdR (hp m) 111 12 48 Q ↔ Q 142 := qR rfl rfl Q
theorem g_111_49 (m : Mem) (Q : Int32 → Prop) : rdI (hp m) 111 12 49 Q ↔ Q (m.1 111 49) := qI rfl rfl Q
theorem p_111_49 (m : Mem) (v : Int32) (Q : Hp → Prop) : wrF (hp m) 111 12 49 (.int v) Q ↔ Q (hp (sI m 111 (upd (m.1 111) 49 v))) := qW rfl rfl v Q
theorem g_111_50 (m : Mem) (Q : Int32 → Prop) : rdI (hp m) 111 12 50 Q ↔ Q (m.1 111 50) := qI rfl rfl Q
theorem p_111_50 (m : Mem) (v : Int32) (Q : Hp → Prop) : wrF (hp m) 111 12 50 (.int v) Q ↔ Q (hp (sI m 111 (upd (m.1 111) 50 v))) := qW rfl rfl v Q
theorem g_111_51 (m : Mem) (Q : Int32 → Prop) : rdI (hp m) 111 12 51 Q ↔ Q (m.1 111 51) := qI rfl rfl Q
theorem p_111_51 (m : Mem) (v : Int32) (Q : Hp → Prop) : wrF (hp m) 111 12 51 (.int v) Q ↔ Q (hp (sI m 111 (upd (m.1 111) 51 v))) := qW rfl rfl v Q
theorem g_111_52 (m : Mem) (Q : Nat → Prop) : rdR (hp m) 111 12 52 Q ↔ Q 143 := qR rfl rfl Q
theorem g_111_53 (m : Mem) (Q : Nat → Prop) : rdR (hp m) 111 12 53 Q ↔ Q 144 := qR rfl rfl Q
theorem g_111_54 (m : Mem) (Q : Nat → Prop) : rdR (hp m) 111 12 54 Q ↔ Q 145 := qR rfl rfl Q
theorem g_111_55 (m : Mem) (Q : Nat → Prop) : rdR (hp m) 111 12 55 Q ↔ Q 146 := qR rfl rfl Q
theorem g_111_56 (m : Mem) (Q : Nat → Prop) : rdR (hp m) 111 12 56 Q ↔ Q 147 := qR rfl rfl Q
theorem g_111_57 (m : Mem) (Q : Int32 → Prop) : rdI (hp m) 111 12 57 Q ↔ Q (m.1 111 57) := qI rfl rfl Q
theorem p_111_57 (m : Mem) (v : Int32) (Q : Hp → Prop) : wrF (hp m) 111 12 57 (.int v) Q ↔ Q (hp (sI m 111 (upd (m.1 111) 57 v))) := qW rfl rfl v Q
theorem g_111_58 (m : Mem) (Q : Nat → Prop) : rdR (hp m) 111 12 58 Q ↔ Q 148 := qR rfl rfl Q
theorem g_111_59 (m : Mem) (Q : Int32 → Prop) : rdI (hp m) 111 12 59 Q ↔ Q (m.1 111 59) := qI rfl rfl Q
theorem p_111_59 (m : Mem) (v : Int32) (Q : Hp → Prop) : wrF (hp m) 111 12 59 (.int v) Q ↔ Q (hp (sI m 111 (upd (m.1 111) 59 v))) := qW rfl rfl v Q
theorem g_111_60 (m : Mem) (Q : Int32 → Prop) : rdI (hp m) 111 12 60 Q ↔ Q (m.1 111 60) := qI rfl rfl Q
theorem p_111_60 (m : Mem) (v : Int32) (Q : Hp → Prop) : wrF (hp m) 111 12 60 (.int v) Q ↔ Q (hp (sI m 111 (upd (m.1 111) 60 v))) := qW rfl rfl v Q
theorem g_111_61 (m : Mem) (Q : Int32 → Prop) : rdI (hp m) 111 12 61 Q ↔ Q (m.1 111 61) := qI rfl rfl Q
theorem p_111_61 (m : Mem) (v : Int32) (Q : Hp → Prop) : wrF (hp m) 111 12 61 (.int v) Q ↔ Q (hp (sI m 111 (upd (m.1 111) 61 v))) := qW rfl rfl v Q
theorem g_111_62 (m : Mem) (Q : Nat → Prop) : rdR (hp m) 111 12 62 Q ↔ Q 149 := qR rfl rfl Q
theorem g_111_63 (m : Mem) (Q : Nat → Prop) : rdR (hp m) 111 12 63 Q ↔ Q 150 := qR rfl rfl Q
theorem g_111_64 (m : Mem) (Q : Nat → Prop) : rdR (hp m) 111 12 64 Q ↔ Q 151 := qR rfl rfl Q
theorem g_111_65 (m : Mem) (Q : Nat → Prop) : rdR (hp m) 111 12 65 Q ↔ Q 152 := qR rfl rfl Q
theorem g_111_66 (m : Mem) (Q : Nat → Prop) : rdR (hp m) 111 12 66 Q ↔ Q 153 := qR rfl rfl Q
theorem g_111_67 (m : Mem) (Q : Int32 → Prop) : rdI (hp m) 111 12 67 Q ↔ Q (m.1 111 67) := qI rfl rfl Q
theorem p_111_67 (m : Mem) (v : Int32) (Q : Hp → Prop) : wrF (hp m) 111 12 67 (.int v) Q ↔ Q (hp (sI m 111 (upd (m.1 111) 67 v))) := qW rfl rfl v Q
theorem g_111_68 (m : Mem) (Q : Nat → Prop) : rdR (hp m) 111 12 68 Q ↔ Q 154 := qR rfl rfl Q
theorem g_111_69 (m : Mem) (Q : Nat → Prop) : rdR (hp m) 111 12 69 Q ↔ Q 155 := qR rfl rfl Q
theorem g_111_70 (m : Mem) (Q : Nat → Prop) : rdR (hp m) 111 12 70 Q ↔ Q 156 := qR rfl rfl Q
theorem g_111_71 (m : Mem) (Q : Nat → Prop) : rdR (hp m) 111 12 71 Q ↔ Q 157 := qR rfl rfl Q
theorem g_111_72 (m : Mem) (Q : Nat → Prop) : rdR (hp m) 111 12 72 Q ↔ Q 158 := qR rfl rfl Q
theorem b_112 (m : Mem) (j : Int32) (Q : Int32 → Prop) : rdA (hp m) 112 1 j Q ↔ okI j 2000 ∧ Q (m.1 112 j.toNatClampNeg) := qAb rfl j Q
theorem x_112 (m : Mem) (j x : Int32) (Q : Hp → Prop) : wrA (hp m) 112 1 j x Q ↔ okI j 2000 ∧ Q (hp (sI m 112 (upd (m.1 112) j.toNatClampNeg x))) := qXb rfl j x Q
theorem b_113 (m : Mem) (j : Int32) (Q : Int32 → Prop) : rdA (hp m) 113 1 j Q ↔ okI j 2000 ∧ Q (m.1 113 j.toNatClampNeg) := qAb rfl j Q
theorem x_113 (m : Mem) (j x : Int32) (Q : Hp → Prop) : wrA (hp m) 113 1 j x Q ↔ okI j 2000 ∧ Q (hp (sI m 113 (upd (m.1 113) j.toNatClampNeg x))) := qXb rfl j x Q
theorem b_114 (m : Mem) (j : Int32) (Q : Int32 → Prop) : rdA (hp m) 114 0 j Q ↔ okI j 403 ∧ Q (m.1 114 j.toNatClampNeg) := qA rfl j Q
theorem x_114 (m : Mem) (j x : Int32) (Q : Hp → Prop) : wrA (hp m) 114 0 j x Q ↔ okI j 403 ∧ Q (hp (sI m 114 (upd (m.1 114) j.toNatClampNeg x))) := qX rfl j x Q
theorem b_115 (m : Mem) (j : Int32) (Q : Int32 → Prop) : rdA (hp m) 115 0 j Q ↔ okI j 403 ∧ Q (m.1 115 j.toNatClampNeg) := qA rfl j Q
theorem x_115 (m : Mem) (j x : Int32) (Q : Hp → Prop) : wrA (hp m) 115 0 j x Q ↔ okI j 403 ∧ Q (hp (sI m 115 (upd (m.1 115) j.toNatClampNeg x))) := qX rfl j x Q
theorem b_116 (m : Mem) (j : Int32) (Q : Int32 → Prop) : rdA (hp m) 116 0 j Q ↔ okI j 403 ∧ Q (m.1 116 j.toNatClampNeg) := qA rfl j Q
theorem x_116 (m : Mem) (j x : Int32) (Q : Hp → Prop) : wrA (hp m) 116 0 j x Q ↔ okI j 403 ∧ Q (hp (sI m 116 (upd (m.1 116) j.toNatClampNeg x))) := qX rfl j x Q
theorem b_117 (m : Mem) (j : Int32) (Q : Int64 → Prop) : rdB (hp m) 117 j Q ↔ okI j 403 ∧ Q (m.2 117 j.toNatClampNeg) := qAl rfl j Q
theorem x_117 (m : Mem) (j : Int32) (x : Int64) (Q : Hp → Prop) : wrB (hp m) 117 j x Q ↔ okI j 403 ∧ Q (hp (sJ m 117 (vp_updL (m.2 117) j.toNatClampNeg x))) := qXl rfl j x Q
theorem b_118 (m : Mem) (j : Int32) (Q : Int64 → Prop) : rdB (hp m) 118 j Q ↔ okI j 20 ∧ Q (m.2 118 j.toNatClampNeg) := qAl rfl j Q
theorem x_118 (m : Mem) (j : Int32) (x : Int64) (Q : Hp → Prop) : wrB (hp m) 118 j x Q ↔ okI j 20 ∧ Q (hp (sJ m 118 (vp_updL (m.2 118) j.toNatClampNeg x))) := qXl rfl j x Q
theorem b_119 (m : Mem) (j : Int32) (Q : Int64 → Prop) : rdB (hp m) 119 j Q ↔ okI j 11 ∧ Q (m.2 119 j.toNatClampNeg) := qAl rfl j Q
theorem x_119 (m : Mem) (j : Int32) (x : Int64) (Q : Hp → Prop) : wrB (hp m) 119 j x Q ↔ okI j 11 ∧ Q (hp (sJ m 119 (vp_updL (m.2 119) j.toNatClampNeg x))) := qXl rfl j x Q
theorem b_120 (m : Mem) (j : Int32) (Q : Int32 → Prop) : rdA (hp m) 120 0 j Q ↔ okI j 11 ∧ Q (m.1 120 j.toNatClampNeg) := qA rfl j Q
theorem x_120 (m : Mem) (j x : Int32) (Q : Hp → Prop) : wrA (hp m) 120 0 j x Q ↔ okI j 11 ∧ Q (hp (sI m 120 (upd (m.1 120) j.toNatClampNeg x))) := qX rfl j x Q
theorem b_121 (m : Mem) (j : Int32) (Q : Int32 → Prop) : rdA (hp m) 121 0 j Q ↔ okI j 2 ∧ Q (m.1 121 j.toNatClampNeg) := qA rfl j Q
theorem x_121 (m : Mem) (j x : Int32) (Q : Hp → Prop) : wrA (hp m) 121 0 j x Q ↔ okI j 2 ∧ Q (hp (sI m 121 (upd (m.1 121) j.toNatClampNeg x))) := qX rfl j x Q
theorem b_122 (m : Mem) (j : Int32) (Q : Int32 → Prop) : rdA (hp m) 122 0 j Q ↔ okI j 12 ∧ Q (m.1 122 j.toNatClampNeg) := qA rfl j Q
theorem x_122 (m : Mem) (j x : Int32) (Q : Hp → Prop) : wrA (hp m) 122 0 j x Q ↔ okI j 12 ∧ Q (hp (sI m 122 (upd (m.1 122) j.toNatClampNeg x))) := qX rfl j x Q
theorem b_123 (m : Mem) (j : Int32) (Q : Int32 → Prop) : rdA (hp m) 123 0 j Q ↔ okI j 2 ∧ Q (m.1 123 j.toNatClampNeg) := qA rfl j Q
theorem x_123 (m : Mem) (j x : Int32) (Q : Hp → Prop) : wrA (hp m) 123 0 j x Q ↔ okI j 2 ∧ Q (hp (sI m 123 (upd (m.1 123) j.toNatClampNeg x))) := qX rfl j x Q
theorem b_124 (m : Mem) (j : Int32) (Q : Int32 → Prop) : rdA (hp m) 124 0 j Q ↔ okI j 10 ∧ Q (m.1 124 j.toNatClampNeg) := qA rfl j Q
theorem x_124 (m : Mem) (j x : Int32) (Q : Hp → Prop) : wrA (hp m) 124 0 j x Q ↔ okI j 10 ∧ Q (hp (sI m 124 (upd (m.1 124) j.toNatClampNeg x))) := qX rfl j x Q
theorem b_125 (m : Mem) (j : Int32) (Q : Int32 → Prop) : rdA (hp m) 125 0 j Q ↔ okI j 10 ∧ Q (m.1 125 j.toNatClampNeg) := qA rfl j Q
theorem x_125 (m : Mem) (j x : Int32) (Q : Hp → Prop) : wrA (hp m) 125 0 j x Q ↔ okI j 10 ∧ Q (hp (sI m 125 (upd (m.1 125) j.toNatClampNeg x))) := qX rfl j x Q
theorem b_126 (m : Mem) (j : Int32) (Q : Int32 → Prop) : rdA (hp m) 126 0 j Q ↔ okI j 2 ∧ Q (m.1 126 j.toNatClampNeg) := qA rfl j Q
theorem x_126 (m : Mem) (j x : Int32) (Q : Hp → Prop) : wrA (hp m) 126 0 j x Q ↔ okI j 2 ∧ Q (hp (sI m 126 (upd (m.1 126) j.toNatClampNeg x))) := qX rfl j x Q
theorem b_127 (m : Mem) (j : Int32) (Q : Int32 → Prop) : rdA (hp m) 127 0 j Q ↔ okI j 60 ∧ Q (m.1 127 j.toNatClampNeg) := qA rfl j Q
theorem x_127 (m : Mem) (j x : Int32) (Q : Hp → Prop) : wrA (hp m) 127 0 j x Q ↔ okI j 60 ∧ Q (hp (sI m 127 (upd (m.1 127) j.toNatClampNeg x))) := qX rfl j x Q
theorem b_128 (m : Mem) (j : Int32) (Q : Int32 → Prop) : rdA (hp m) 128 0 j Q ↔ okI j 2 ∧ Q (m.1 128 j.toNatClampNeg) := qA rfl j Q
theorem x_128 (m : Mem) (j x : Int32) (Q : Hp → Prop) : wrA (hp m) 128 0 j x Q ↔ okI j 2 ∧ Q (hp (sI m 128 (upd (m.1 128) j.toNatClampNeg x))) := qX rfl j x Q
theorem b_129 (m : Mem) (j : Int32) (Q : Int32 → Prop) : rdA (hp m) 129 0 j Q ↔ okI j 8 ∧ Q (m.1 129 j.toNatClampNeg) := qA rfl j Q
theorem x_129 (m : Mem) (j x : Int32) (Q : Hp → Prop) : wrA (hp m) 129 0 j x Q ↔ okI j 8 ∧ Q (hp (sI m 129 (upd (m.1 129) j.toNatClampNeg x))) := qX rfl j x Q
theorem b_130 (m : Mem) (j : Int32) (Q : Int32 → Prop) : rdA (hp m) 130 0 j Q ↔ okI j 8 ∧ Q (m.1 130 j.toNatClampNeg) := qA rfl j Q
theorem x_130 (m : Mem) (j x : Int32) (Q : Hp → Prop) : wrA (hp m) 130 0 j x Q ↔ okI j 8 ∧ Q (hp (sI m 130 (upd (m.1 130) j.toNatClampNeg x))) := qX rfl j x Q
theorem b_131 (m : Mem) (j : Int32) (Q : Int32 → Prop) : rdA (hp m) 131 3 j Q ↔ okI j 260 ∧ Q (m.1 131 j.toNatClampNeg) := qAz rfl j Q
theorem x_131 (m : Mem) (j x : Int32) (Q : Hp → Prop) : wrA (hp m) 131 3 j x Q ↔ okI j 260 ∧ Q (hp (sI m 131 (upd (m.1 131) j.toNatClampNeg x))) := qXz rfl j x Q
theorem b_132 (m : Mem) (j : Int32) (Q : Int32 → Prop) : rdA (hp m) 132 0 j Q ↔ okI j 260 ∧ Q (m.1 132 j.toNatClampNeg) := qA rfl j Q
theorem x_132 (m : Mem) (j x : Int32) (Q : Hp → Prop) : wrA (hp m) 132 0 j x Q ↔ okI j 260 ∧ Q (hp (sI m 132 (upd (m.1 132) j.toNatClampNeg x))) := qX rfl j x Q
theorem b_133 (m : Mem) (j : Int32) (Q : Int32 → Prop) : rdA (hp m) 133 0 j Q ↔ okI j 260 ∧ Q (m.1 133 j.toNatClampNeg) := qA rfl j Q
theorem x_133 (m : Mem) (j x : Int32) (Q : Hp → Prop) : wrA (hp m) 133 0 j x Q ↔ okI j 260 ∧ Q (hp (sI m 133 (upd (m.1 133) j.toNatClampNeg x))) := qX rfl j x Q
theorem b_134 (m : Mem) (j : Int32) (Q : Int32 → Prop) : rdA (hp m) 134 0 j Q ↔ okI j 260 ∧ Q (m.1 134 j.toNatClampNeg) := qA rfl j Q
theorem x_134 (m : Mem) (j x : Int32) (Q : Hp → Prop) : wrA (hp m) 134 0 j x Q ↔ okI j 260 ∧ Q (hp (sI m 134 (upd (m.1 134) j.toNatClampNeg x))) := qX rfl j x Q
theorem b_135 (m : Mem) (j : Int32) (Q : Int32 → Prop) : rdA (hp m) 135 0 j Q ↔ okI j 260 ∧ Q (m.1 135 j.toNatClampNeg) := qA rfl j Q
theorem x_135 (m : Mem) (j x : Int32) (Q : Hp → Prop) : wrA (hp m) 135 0 j x Q ↔ okI j 260 ∧ Q (hp (sI m 135 (upd (m.1 135) j.toNatClampNeg x))) := qX rfl j x Q
theorem b_136 (m : Mem) (j : Int32) (Q : Int32 → Prop) : rdA (hp m) 136 0 j Q ↔ okI j 840 ∧ Q (m.1 136 j.toNatClampNeg) := qA rfl j Q
theorem x_136 (m : Mem) (j x : Int32) (Q : Hp → Prop) : wrA (hp m) 136 0 j x Q ↔ okI j 840 ∧ Q (hp (sI m 136 (upd (m.1 136) j.toNatClampNeg x))) := qX rfl j x Q
theorem b_137 (m : Mem) (j : Int32) (Q : Int32 → Prop) : rdA (hp m) 137 0 j Q ↔ okI j 840 ∧ Q (m.1 137 j.toNatClampNeg) := qA rfl j Q
theorem x_137 (m : Mem) (j x : Int32) (Q : Hp → Prop) : wrA (hp m) 137 0 j x Q ↔ okI j 840 ∧ Q (hp (sI m 137 (upd (m.1 137) j.toNatClampNeg x))) := qX rfl j x Q
theorem b_138 (m : Mem) (j : Int32) (Q : Int32 → Prop) : rdA (hp m) 138 0 j Q ↔ okI j 64 ∧ Q (m.1 138 j.toNatClampNeg) := qA rfl j Q
theorem x_138 (m : Mem) (j x : Int32) (Q : Hp → Prop) : wrA (hp m) 138 0 j x Q ↔ okI j 64 ∧ Q (hp (sI m 138 (upd (m.1 138) j.toNatClampNeg x))) := qX rfl j x Q
theorem b_139 (m : Mem) (j : Int32) (Q : Int32 → Prop) : rdA (hp m) 139 0 j Q ↔ okI j 9 ∧ Q (m.1 139 j.toNatClampNeg) := qA rfl j Q
theorem x_139 (m : Mem) (j x : Int32) (Q : Hp → Prop) : wrA (hp m) 139 0 j x Q ↔ okI j 9 ∧ Q (hp (sI m 139 (upd (m.1 139) j.toNatClampNeg x))) := qX rfl j x Q
theorem b_140 (m : Mem) (j : Int32) (Q : Int32 → Prop) : rdA (hp m) 140 0 j Q ↔ okI j 400 ∧ Q (m.1 140 j.toNatClampNeg) := qA rfl j Q
theorem x_140 (m : Mem) (j x : Int32) (Q : Hp → Prop) : wrA (hp m) 140 0 j x Q ↔ okI j 400 ∧ Q (hp (sI m 140 (upd (m.1 140) j.toNatClampNeg x))) := qX rfl j x Q
theorem b_141 (m : Mem) (j : Int32) (Q : Int32 → Prop) : rdA (hp m) 141 0 j Q ↔ okI j 56 ∧ Q (m.1 141 j.toNatClampNeg) := qA rfl j Q
theorem x_141 (m : Mem) (j x : Int32) (Q : Hp → Prop) : wrA (hp m) 141 0 j x Q ↔ okI j 56 ∧ Q (hp (sI m 141 (upd (m.1 141) j.toNatClampNeg x))) := qX rfl j x Q
theorem b_142 (m : Mem) (j : Int32) (Q : Int32 → Prop) : rdA (hp m) 142 0 j Q ↔ okI j 56 ∧ Q (m.1 142 j.toNatClampNeg) := qA rfl j Q
theorem x_142 (m : Mem) (j x : Int32) (Q : Hp → Prop) : wrA (hp m) 142 0 j x Q ↔ okI j 56 ∧ Q (hp (sI m 142 (upd (m.1 142) j.toNatClampNeg x))) := qX rfl j x Q
theorem b_143 (m : Mem) (j : Int32) (Q : Int32 → Prop) : rdA (hp m) 143 0 j Q ↔ okI j 5 ∧ Q (m.1 143 j.toNatClampNeg) := qA rfl j Q
theorem x_143 (m : Mem) (j x : Int32) (Q : Hp → Prop) : wrA (hp m) 143 0 j x Q ↔ okI j 5 ∧ Q (hp (sI m 143 (upd (m.1 143) j.toNatClampNeg x))) := qX rfl j x Q
theorem b_144 (m : Mem) (j : Int32) (Q : Int32 → Prop) : rdA (hp m) 144 0 j Q ↔ okI j 5 ∧ Q (m.1 144 j.toNatClampNeg) := qA rfl j Q
theorem x_144 (m : Mem) (j x : Int32) (Q : Hp → Prop) : wrA (hp m) 144 0 j x Q ↔ okI j 5 ∧ Q (hp (sI m 144 (upd (m.1 144) j.toNatClampNeg x))) := qX rfl j x Q
theorem b_145 (m : Mem) (j : Int32) (Q : Int32 → Prop) : rdA (hp m) 145 0 j Q ↔ okI j 5 ∧ Q (m.1 145 j.toNatClampNeg) := qA rfl j Q
theorem x_145 (m : Mem) (j x : Int32) (Q : Hp → Prop) : wrA (hp m) 145 0 j x Q ↔ okI j 5 ∧ Q (hp (sI m 145 (upd (m.1 145) j.toNatClampNeg x))) := qX rfl j x Q
theorem b_146 (m : Mem) (j : Int32) (Q : Int32 → Prop) : rdA (hp m) 146 0 j Q ↔ okI j 5 ∧ Q (m.1 146 j.toNatClampNeg) := qA rfl j Q
theorem x_146 (m : Mem) (j x : Int32) (Q : Hp → Prop) : wrA (hp m) 146 0 j x Q ↔ okI j 5 ∧ Q (hp (sI m 146 (upd (m.1 146) j.toNatClampNeg x))) := qX rfl j x Q
theorem b_147 (m : Mem) (j : Int32) (Q : Int32 → Prop) : rdA (hp m) 147 0 j Q ↔ okI j 5 ∧ Q (m.1 147 j.toNatClampNeg) := qA rfl j Q
theorem x_147 (m : Mem) (j x : Int32) (Q : Hp → Prop) : wrA (hp m) 147 0 j x Q ↔ okI j 5 ∧ Q (hp (sI m 147 (upd (m.1 147) j.toNatClampNeg x))) := qX rfl j x Q
theorem b_148 (m : Mem) (j : Int32) (Q : Int32 → Prop) : rdA (hp m) 148 0 j Q ↔ okI j 2240 ∧ Q (m.1 148 j.toNatClampNeg) := qA rfl j Q
theorem x_148 (m : Mem) (j x : Int32) (Q : Hp → Prop) : wrA (hp m) 148 0 j x Q ↔ okI j 2240 ∧ Q (hp (sI m 148 (upd (m.1 148) j.toNatClampNeg x))) := qX rfl j x Q
theorem b_149 (m : Mem) (j : Int32) (Q : Int32 → Prop) : rdA (hp m) 149 0 j Q ↔ okI j 180 ∧ Q (m.1 149 j.toNatClampNeg) := qA rfl j Q
theorem x_149 (m : Mem) (j x : Int32) (Q : Hp → Prop) : wrA (hp m) 149 0 j x Q ↔ okI j 180 ∧ Q (hp (sI m 149 (upd (m.1 149) j.toNatClampNeg x))) := qX rfl j x Q
theorem b_150 (m : Mem) (j : Int32) (Q : Int32 → Prop) : rdA (hp m) 150 0 j Q ↔ okI j 5 ∧ Q (m.1 150 j.toNatClampNeg) := qA rfl j Q
theorem x_150 (m : Mem) (j x : Int32) (Q : Hp → Prop) : wrA (hp m) 150 0 j x Q ↔ okI j 5 ∧ Q (hp (sI m 150 (upd (m.1 150) j.toNatClampNeg x))) := qX rfl j x Q
theorem b_151 (m : Mem) (j : Int32) (Q : Int32 → Prop) : rdA (hp m) 151 0 j Q ↔ okI j 6 ∧ Q (m.1 151 j.toNatClampNeg) := qA rfl j Q
theorem x_151 (m : Mem) (j x : Int32) (Q : Hp → Prop) : wrA (hp m) 151 0 j x Q ↔ okI j 6 ∧ Q (hp (sI m 151 (upd (m.1 151) j.toNatClampNeg x))) := qX rfl j x Q
theorem b_152 (m : Mem) (j : Int32) (Q : Int32 → Prop) : rdA (hp m) 152 0 j Q ↔ okI j 384 ∧ Q (m.1 152 j.toNatClampNeg) := qA rfl j Q
theorem x_152 (m : Mem) (j x : Int32) (Q : Hp → Prop) : wrA (hp m) 152 0 j x Q ↔ okI j 384 ∧ Q (hp (sI m 152 (upd (m.1 152) j.toNatClampNeg x))) := qX rfl j x Q
theorem b_153 (m : Mem) (j : Int32) (Q : Int32 → Prop) : rdA (hp m) 153 0 j Q ↔ okI j 7 ∧ Q (m.1 153 j.toNatClampNeg) := qA rfl j Q
theorem x_153 (m : Mem) (j x : Int32) (Q : Hp → Prop) : wrA (hp m) 153 0 j x Q ↔ okI j 7 ∧ Q (hp (sI m 153 (upd (m.1 153) j.toNatClampNeg x))) := qX rfl j x Q
theorem b_154 (m : Mem) (j : Int32) (Q : Int32 → Prop) : rdA (hp m) 154 0 j Q ↔ okI j 20 ∧ Q (m.1 154 j.toNatClampNeg) := qA rfl j Q
theorem x_154 (m : Mem) (j x : Int32) (Q : Hp → Prop) : wrA (hp m) 154 0 j x Q ↔ okI j 20 ∧ Q (hp (sI m 154 (upd (m.1 154) j.toNatClampNeg x))) := qX rfl j x Q
theorem b_155 (m : Mem) (j : Int32) (Q : Int32 → Prop) : rdA (hp m) 155 0 j Q ↔ okI j 20 ∧ Q (m.1 155 j.toNatClampNeg) := qA rfl j Q
theorem x_155 (m : Mem) (j x : Int32) (Q : Hp → Prop) : wrA (hp m) 155 0 j x Q ↔ okI j 20 ∧ Q (hp (sI m 155 (upd (m.1 155) j.toNatClampNeg x))) := qX rfl j x Q
theorem b_156 (m : Mem) (j : Int32) (Q : Int32 → Prop) : rdA (hp m) 156 3 j Q ↔ okI j 20 ∧ Q (m.1 156 j.toNatClampNeg) := qAz rfl j Q
theorem x_156 (m : Mem) (j x : Int32) (Q : Hp → Prop) : wrA (hp m) 156 3 j x Q ↔ okI j 20 ∧ Q (hp (sI m 156 (upd (m.1 156) j.toNatClampNeg x))) := qXz rfl j x Q
theorem b_157 (m : Mem) (j : Int32) (Q : Int32 → Prop) : rdA (hp m) 157 3 j Q ↔ okI j 3 ∧ Q (m.1 157 j.toNatClampNeg) := qAz rfl j Q
theorem x_157 (m : Mem) (j x : Int32) (Q : Hp → Prop) : wrA (hp m) 157 3 j x Q ↔ okI j 3 ∧ Q (hp (sI m 157 (upd (m.1 157) j.toNatClampNeg x))) := qXz rfl j x Q
theorem b_158 (m : Mem) (j : Int32) (Q : Int32 → Prop) : rdA (hp m) 158 0 j Q ↔ okI j 168 ∧ Q (m.1 158 j.toNatClampNeg) := qA rfl j Q
theorem x_158 (m : Mem) (j x : Int32) (Q : Hp → Prop) : wrA (hp m) 158 0 j x Q ↔ okI j 168 ∧ Q (hp (sI m 158 (upd (m.1 158) j.toNatClampNeg x))) := qX rfl j x Q
theorem n_48 (m : Mem) (Q : Int32 → Prop) : rdN (hp m) 48 0 Q ↔ Q (Int32.ofNat 150) := qN rfl Q
