/-! The cells behind the constructors: a fixed shape, numbers in it (written by wip/whole/jmem.py). -/
abbrev Mem : Type := (Nat → Nat → Int32) × (Nat → Nat → Int64)
abbrev Sh : Type := Nat × Nat × List (Option Nat)
def shape : List Sh := [(0, 0, [some 1, some 6, some 14, some 25, some 29, some 32, some 37, some 44, some 51, some 60, some 64]), (0, 1, [some 2, none, some 3, some 4, some 5]), (2, 2000, []), (1, 401, []), (1, 401, []), (3, 401, []), (0, 2, [none, none, none, some 7, some 8, some 9, some 10, some 11, some 12, some 13, none]), (1, 6, []), (1, 5, []), (1, 5, []), (1, 30, []), (1, 4, []), (1, 408, []), (1, 408, []), (0, 3, [some 15, none, some 1, some 23, some 24, none, none, none, none, none, none, none]), (0, 2, [none, none, none, some 16, some 17, some 18, some 19, some 20, some 21, some 22, none]), (1, 6, []), (1, 5, []), (1, 5, []), (1, 30, []), (1, 4, []), (1, 408, []), (1, 408, []), (3, 6, []), (3, 5, []), (0, 4, [some 26, some 27, some 28, none, some 6]), (1, 56, []), (1, 5, []), (1, 6, []), (0, 5, [some 6, some 30, some 31]), (1, 9, []), (1, 32, []), (0, 6, [some 6, some 29, some 33]), (0, 4, [some 34, some 35, some 36, none, some 6]), (1, 56, []), (1, 5, []), (1, 6, []), (0, 7, [none, none, none, some 38, some 6, some 25, some 29, some 39, some 40, some 41, some 42, some 43, none, none]), (1, 5, []), (1, 30, []), (1, 30, []), (1, 150, []), (1, 5, []), (1, 6, []), (0, 8, [none, none, none, some 45, some 46, some 6, some 25, some 29, some 47, some 48, some 49, some 50, none, none, none]), (1, 5, []), (1, 5, []), (1, 5, []), (1, 150, []), (1, 5, []), (1, 6, []), (0, 9, [some 52, some 6, some 25, some 53]), (1, 5, []), (5, 6, []), (1, 64, []), (1, 64, []), (1, 64, []), (1, 64, []), (1, 64, []), (1, 64, []), (0, 10, [none, some 6, some 25, some 29, some 61, some 62, some 63]), (1, 20, []), (1, 20, []), (4, 20, []), (0, 11, [none, some 65, none, some 106, some 110]), (5, 40, []), (1, 56, []), (1, 56, []), (1, 56, []), (1, 56, []), (1, 56, []), (1, 56, []), (1, 56, []), (1, 56, []), (1, 56, []), (1, 56, []), (1, 56, []), (1, 56, []), (1, 56, []), (1, 56, []), (1, 56, []), (1, 56, []), (1, 56, []), (1, 56, []), (1, 56, []), (1, 56, []), (1, 56, []), (1, 56, []), (1, 56, []), (1, 56, []), (1, 56, []), (1, 56, []), (1, 56, []), (1, 56, []), (1, 56, []), (1, 56, []), (1, 56, []), (1, 56, []), (1, 56, []), (1, 56, []), (1, 56, []), (1, 56, []), (1, 56, []), (1, 56, []), (1, 56, []), (1, 56, []), (5, 3, []), (1, 56, []), (1, 56, []), (1, 56, []), (4, 3, []), (0, 12, [none, some 112, none, some 113, none, some 114, some 115, some 116, some 117, some 118, none, none, none, none, none, none, none, none, none, none, none, some 119, some 120, some 121, some 122, some 123, some 124, some 125, some 126, some 127, some 128, some 129, some 130, none, some 131, some 132, some 133, some 134, some 135, none, some 136, some 137, some 138, none, some 139, some 140, none, some 141, some 142, none, none, none, some 143, some 144, some 145, some 146, some 147, none, some 148, none, none, none, some 149, some 150, some 151, some 152, some 153, none, some 154, some 155, some 156, some 157, some 158]), (2, 2000, []), (2, 2000, []), (1, 403, []), (1, 403, []), (1, 403, []), (3, 403, []), (3, 20, []), (3, 11, []), (1, 11, []), (1, 2, []), (1, 12, []), (1, 2, []), (1, 10, []), (1, 10, []), (1, 2, []), (1, 60, []), (1, 2, []), (1, 8, []), (1, 8, []), (4, 260, []), (1, 260, []), (1, 260, []), (1, 260, []), (1, 260, []), (1, 840, []), (1, 840, []), (1, 64, []), (1, 9, []), (1, 400, []), (1, 56, []), (1, 56, []), (1, 5, []), (1, 5, []), (1, 5, []), (1, 5, []), (1, 5, []), (1, 2240, []), (1, 180, []), (1, 5, []), (1, 6, []), (1, 384, []), (1, 7, []), (1, 20, []), (1, 20, []), (4, 20, []), (4, 3, []), (1, 168, [])]
def cell (m : Mem) (r : Nat) (s : Sh) : HC := match s.1 with
  | 0 => .inr (s.2.1, s.2.2.mapIdx (fun k f => match f with
    | some a => .ref a
    | none => .int (m.1 r k)))
  | 1 => .inl (0, s.2.1, .inl (m.1 r))
  | 2 => .inl (1, s.2.1, .inl (m.1 r))
  | 3 => .inl (2, s.2.1, .inr (.inl (m.2 r)))
  | 4 => .inl (3, s.2.1, .inl (m.1 r))
  | _ => .inl (4, s.2.1, .inr (.inr (.inr (.inr (fun i => some (r + 1 + i))))))
theorem hp_ex (m : Mem) : ∃ h : Hp, h = shape.mapIdx (cell m) := ⟨_, rfl⟩
/-- chosen, so that nothing unfolds it by itself -/
noncomputable def hp (m : Mem) : Hp := Classical.choose (hp_ex m)
theorem hp_def (m : Mem) : hp m = shape.mapIdx (cell m) := Classical.choose_spec (hp_ex m)
def sI (m : Mem) (r : Nat) (f : Nat → Int32) : Mem := (fun q => if q = r then f else m.1 q, m.2)
def sJ (m : Mem) (r : Nat) (f : Nat → Int64) : Mem := (m.1, fun q => if q = r then f else m.2 q)
theorem hp_get (m : Mem) (r : Nat) : (hp m)[r]? = (shape[r]?).map (cell m r) := by rw [hp_def, List.getElem?_mapIdx]
theorem hp_at {m : Mem} {r : Nat} {s : Sh} (h : shape[r]? = some s) : (hp m)[r]? = some (cell m r s) := by rw [hp_get, h]; rfl
theorem hp_len (m : Mem) : (hp m).length = shape.length := by rw [hp_def]; exact List.length_mapIdx
theorem hp_set {m m1 : Mem} {r : Nat} {s : Sh} (h : shape[r]? = some s) (h1 : ∀ q, q ≠ r → m1.1 q = m.1 q ∧ m1.2 q = m.2 q) : (hp m).set r (cell m1 r s) = hp m1 := by
  apply List.ext_getElem?
  intro j
  rw [List.getElem?_set, hp_len]
  have hr : r < shape.length := (List.getElem?_eq_some_iff.mp h).1
  by_cases hj : r = j
  · subst hj; rw [if_pos rfl, if_pos hr, hp_at h]
  · rw [if_neg hj, hp_get, hp_get]
    cases hs : shape[j]? with
    | none => rfl
    | some t =>
      obtain ⟨e1, e2⟩ := h1 j (Ne.symm hj)
      simp only [Option.map_some, cell, e1, e2]
theorem sI_other {m : Mem} {r : Nat} {f : Nat → Int32} : ∀ q, q ≠ r → (sI m r f).1 q = m.1 q ∧ (sI m r f).2 q = m.2 q := fun q hq => ⟨if_neg hq, rfl⟩
theorem sJ_other {m : Mem} {r : Nat} {f : Nat → Int64} : ∀ q, q ≠ r → (sJ m r f).1 q = m.1 q ∧ (sJ m r f).2 q = m.2 q := fun q hq => ⟨rfl, if_neg hq⟩
theorem sI_1 (m : Mem) (r : Nat) (f : Nat → Int32) (q : Nat) : (sI m r f).1 q = if q = r then f else m.1 q := rfl
theorem sI_2 (m : Mem) (r : Nat) (f : Nat → Int32) : (sI m r f).2 = m.2 := rfl
theorem sJ_1 (m : Mem) (r : Nat) (f : Nat → Int64) : (sJ m r f).1 = m.1 := rfl
theorem sJ_2 (m : Mem) (r : Nat) (f : Nat → Int64) (q : Nat) : (sJ m r f).2 q = if q = r then f else m.2 q := rfl
section RD
variable {m : Mem} {r ci n k a : Nat} {fs : List (Option Nat)}
theorem rd_i (h : shape[r]? = some (0, ci, fs)) (hk : fs[k]? = some none) : hO (hp m) r ci k = some (.int (m.1 r k)) := by
  unfold hO; rw [hp_at h]; simp only [cell, if_true, List.getElem?_mapIdx, hk, Option.map_some]
theorem rd_r (h : shape[r]? = some (0, ci, fs)) (hk : fs[k]? = some (some a)) : hO (hp m) r ci k = some (.ref a) := by
  unfold hO; rw [hp_at h]; simp only [cell, if_true, List.getElem?_mapIdx, hk, Option.map_some]
theorem ra_i (h : shape[r]? = some (1, n, [])) : hAI (hp m) r 0 = some (n, m.1 r) := by unfold hAI; rw [hp_at h]; rfl
theorem ra_b (h : shape[r]? = some (2, n, [])) : hAI (hp m) r 1 = some (n, m.1 r) := by unfold hAI; rw [hp_at h]; rfl
theorem ra_l (h : shape[r]? = some (3, n, [])) : hAL (hp m) r = some (n, m.2 r) := by unfold hAL; rw [hp_at h]; rfl
theorem ra_z (h : shape[r]? = some (4, n, [])) : hAI (hp m) r 3 = some (n, m.1 r) := by unfold hAI; rw [hp_at h]; rfl
theorem ra_r (h : shape[r]? = some (5, n, [])) : hAR (hp m) r = some (n, fun i => some (r + 1 + i)) := by unfold hAR; rw [hp_at h]; rfl
theorem rl_i (h : shape[r]? = some (1, n, [])) : hLn (hp m) r 0 = some n := by unfold hLn; rw [hp_at h]; rfl
theorem hPut_of {h : Hp} {gs : List Value} {v : Value} (e : h[r]? = some (.inr (ci, gs))) (hk : k < gs.length) : hPut h r ci k v = some (h.set r (.inr (ci, gs.set k v))) := by
  unfold hPut
  rw [e]
  exact if_pos ⟨rfl, hk⟩
theorem wr_i {v : Int32} (h : shape[r]? = some (0, ci, fs)) (hk : fs[k]? = some none) : hPut (hp m) r ci k (.int v) = some (hp (sI m r (upd (m.1 r) k v))) := by
  have hl : k < fs.length := (List.getElem?_eq_some_iff.mp hk).1
  have e : (hp m)[r]? = some (.inr (ci, fs.mapIdx (fun k f => match f with
    | some a => Value.ref a
    | none => .int (m.1 r k)))) := hp_at h
  rw [hPut_of e (by rw [List.length_mapIdx]; exact hl), ← hp_set (m := m) (m1 := sI m r (upd (m.1 r) k v)) h sI_other]
  refine congrArg some (congrArg ((hp m).set r) (congrArg Sum.inr (congrArg (Prod.mk ci) ?_)))
  apply List.ext_getElem?
  intro j
  rw [List.getElem?_set, List.getElem?_mapIdx, List.getElem?_mapIdx, List.length_mapIdx]
  by_cases hj : k = j
  · subst hj; rw [if_pos rfl, if_pos hl, hk]; simp [sI, upd]
  · rw [if_neg hj]
    cases hf : fs[j]? with
    | none => rfl
    | some f => cases f <;> simp [sI, upd, Ne.symm hj]
theorem wa_i {i x : Int32} (h : shape[r]? = some (1, n, [])) (hin : ¬ (i < 0 ∨ n ≤ i.toNatClampNeg)) : hAst (hp m) r 0 i x = some (hp (sI m r (upd (m.1 r) i.toNatClampNeg x))) := by
  unfold hAst; rw [ra_i h]; simp only [Option.bind_some]; rw [if_pos hin, ← hp_set (m := m) (m1 := sI m r (upd (m.1 r) i.toNatClampNeg x)) h sI_other]; simp [cell, sI]
theorem wa_b {i x : Int32} (h : shape[r]? = some (2, n, [])) (hin : ¬ (i < 0 ∨ n ≤ i.toNatClampNeg)) : hAst (hp m) r 1 i x = some (hp (sI m r (upd (m.1 r) i.toNatClampNeg x))) := by
  unfold hAst; rw [ra_b h]; simp only [Option.bind_some]; rw [if_pos hin, ← hp_set (m := m) (m1 := sI m r (upd (m.1 r) i.toNatClampNeg x)) h sI_other]; simp [cell, sI]
theorem wa_z {i x : Int32} (h : shape[r]? = some (4, n, [])) (hin : ¬ (i < 0 ∨ n ≤ i.toNatClampNeg)) : hAst (hp m) r 3 i x = some (hp (sI m r (upd (m.1 r) i.toNatClampNeg x))) := by
  unfold hAst; rw [ra_z h]; simp only [Option.bind_some]; rw [if_pos hin, ← hp_set (m := m) (m1 := sI m r (upd (m.1 r) i.toNatClampNeg x)) h sI_other]; simp [cell, sI]
theorem wa_l {i : Int32} {x : Int64} (h : shape[r]? = some (3, n, [])) (hin : ¬ (i < 0 ∨ n ≤ i.toNatClampNeg)) : hAstL (hp m) r i x = some (hp (sJ m r (vp_updL (m.2 r) i.toNatClampNeg x))) := by
  unfold hAstL; rw [ra_l h]; simp only [Option.bind_some]; rw [if_pos hin, ← hp_set (m := m) (m1 := sJ m r (vp_updL (m.2 r) i.toNatClampNeg x)) h sJ_other]; simp [cell, sJ]
theorem wc_i {f : Nat → Int32} (h : shape[r]? = some (1, n, [])) : (hp m).set r (.inl (0, n, .inl f)) = hp (sI m r f) := by
  rw [← hp_set (m := m) (m1 := sI m r f) h sI_other]; simp [cell, sI]
end RD
theorem f_0_0 (m : Mem) : hO (hp m) 0 0 0 = some (.ref 1) := rd_r rfl rfl
theorem f_0_1 (m : Mem) : hO (hp m) 0 0 1 = some (.ref 6) := rd_r rfl rfl
theorem f_0_2 (m : Mem) : hO (hp m) 0 0 2 = some (.ref 14) := rd_r rfl rfl
theorem f_0_3 (m : Mem) : hO (hp m) 0 0 3 = some (.ref 25) := rd_r rfl rfl
theorem f_0_4 (m : Mem) : hO (hp m) 0 0 4 = some (.ref 29) := rd_r rfl rfl
theorem f_0_5 (m : Mem) : hO (hp m) 0 0 5 = some (.ref 32) := rd_r rfl rfl
theorem f_0_6 (m : Mem) : hO (hp m) 0 0 6 = some (.ref 37) := rd_r rfl rfl
theorem f_0_7 (m : Mem) : hO (hp m) 0 0 7 = some (.ref 44) := rd_r rfl rfl
theorem f_0_8 (m : Mem) : hO (hp m) 0 0 8 = some (.ref 51) := rd_r rfl rfl
theorem f_0_9 (m : Mem) : hO (hp m) 0 0 9 = some (.ref 60) := rd_r rfl rfl
theorem f_0_10 (m : Mem) : hO (hp m) 0 0 10 = some (.ref 64) := rd_r rfl rfl
theorem f_1_0 (m : Mem) : hO (hp m) 1 1 0 = some (.ref 2) := rd_r rfl rfl
theorem f_1_1 (m : Mem) : hO (hp m) 1 1 1 = some (.int (m.1 1 1)) := rd_i rfl rfl
theorem f_1_2 (m : Mem) : hO (hp m) 1 1 2 = some (.ref 3) := rd_r rfl rfl
theorem f_1_3 (m : Mem) : hO (hp m) 1 1 3 = some (.ref 4) := rd_r rfl rfl
theorem f_1_4 (m : Mem) : hO (hp m) 1 1 4 = some (.ref 5) := rd_r rfl rfl
theorem a_2 (m : Mem) : hAI (hp m) 2 1 = some (2000, m.1 2) := ra_b rfl
theorem a_3 (m : Mem) : hAI (hp m) 3 0 = some (401, m.1 3) := ra_i rfl
theorem a_4 (m : Mem) : hAI (hp m) 4 0 = some (401, m.1 4) := ra_i rfl
theorem a_5 (m : Mem) : hAL (hp m) 5 = some (401, m.2 5) := ra_l rfl
theorem f_6_0 (m : Mem) : hO (hp m) 6 2 0 = some (.int (m.1 6 0)) := rd_i rfl rfl
theorem f_6_1 (m : Mem) : hO (hp m) 6 2 1 = some (.int (m.1 6 1)) := rd_i rfl rfl
theorem f_6_2 (m : Mem) : hO (hp m) 6 2 2 = some (.int (m.1 6 2)) := rd_i rfl rfl
theorem f_6_3 (m : Mem) : hO (hp m) 6 2 3 = some (.ref 7) := rd_r rfl rfl
theorem f_6_4 (m : Mem) : hO (hp m) 6 2 4 = some (.ref 8) := rd_r rfl rfl
theorem f_6_5 (m : Mem) : hO (hp m) 6 2 5 = some (.ref 9) := rd_r rfl rfl
theorem f_6_6 (m : Mem) : hO (hp m) 6 2 6 = some (.ref 10) := rd_r rfl rfl
theorem f_6_7 (m : Mem) : hO (hp m) 6 2 7 = some (.ref 11) := rd_r rfl rfl
theorem f_6_8 (m : Mem) : hO (hp m) 6 2 8 = some (.ref 12) := rd_r rfl rfl
theorem f_6_9 (m : Mem) : hO (hp m) 6 2 9 = some (.ref 13) := rd_r rfl rfl
theorem f_6_10 (m : Mem) : hO (hp m) 6 2 10 = some (.int (m.1 6 10)) := rd_i rfl rfl
theorem a_7 (m : Mem) : hAI (hp m) 7 0 = some (6, m.1 7) := ra_i rfl
theorem a_8 (m : Mem) : hAI (hp m) 8 0 = some (5, m.1 8) := ra_i rfl
theorem a_9 (m : Mem) : hAI (hp m) 9 0 = some (5, m.1 9) := ra_i rfl
theorem a_10 (m : Mem) : hAI (hp m) 10 0 = some (30, m.1 10) := ra_i rfl
theorem a_11 (m : Mem) : hAI (hp m) 11 0 = some (4, m.1 11) := ra_i rfl
theorem a_12 (m : Mem) : hAI (hp m) 12 0 = some (408, m.1 12) := ra_i rfl
theorem a_13 (m : Mem) : hAI (hp m) 13 0 = some (408, m.1 13) := ra_i rfl
theorem f_14_0 (m : Mem) : hO (hp m) 14 3 0 = some (.ref 15) := rd_r rfl rfl
theorem f_14_1 (m : Mem) : hO (hp m) 14 3 1 = some (.int (m.1 14 1)) := rd_i rfl rfl
theorem f_14_2 (m : Mem) : hO (hp m) 14 3 2 = some (.ref 1) := rd_r rfl rfl
theorem f_14_3 (m : Mem) : hO (hp m) 14 3 3 = some (.ref 23) := rd_r rfl rfl
theorem f_14_4 (m : Mem) : hO (hp m) 14 3 4 = some (.ref 24) := rd_r rfl rfl
theorem f_14_5 (m : Mem) : hO (hp m) 14 3 5 = some (.int (m.1 14 5)) := rd_i rfl rfl
theorem f_14_6 (m : Mem) : hO (hp m) 14 3 6 = some (.int (m.1 14 6)) := rd_i rfl rfl
theorem f_14_7 (m : Mem) : hO (hp m) 14 3 7 = some (.int (m.1 14 7)) := rd_i rfl rfl
theorem f_14_8 (m : Mem) : hO (hp m) 14 3 8 = some (.int (m.1 14 8)) := rd_i rfl rfl
theorem f_14_9 (m : Mem) : hO (hp m) 14 3 9 = some (.int (m.1 14 9)) := rd_i rfl rfl
theorem f_14_10 (m : Mem) : hO (hp m) 14 3 10 = some (.int (m.1 14 10)) := rd_i rfl rfl
theorem f_14_11 (m : Mem) : hO (hp m) 14 3 11 = some (.int (m.1 14 11)) := rd_i rfl rfl
theorem f_15_0 (m : Mem) : hO (hp m) 15 2 0 = some (.int (m.1 15 0)) := rd_i rfl rfl
theorem f_15_1 (m : Mem) : hO (hp m) 15 2 1 = some (.int (m.1 15 1)) := rd_i rfl rfl
theorem f_15_2 (m : Mem) : hO (hp m) 15 2 2 = some (.int (m.1 15 2)) := rd_i rfl rfl
theorem f_15_3 (m : Mem) : hO (hp m) 15 2 3 = some (.ref 16) := rd_r rfl rfl
theorem f_15_4 (m : Mem) : hO (hp m) 15 2 4 = some (.ref 17) := rd_r rfl rfl
theorem f_15_5 (m : Mem) : hO (hp m) 15 2 5 = some (.ref 18) := rd_r rfl rfl
theorem f_15_6 (m : Mem) : hO (hp m) 15 2 6 = some (.ref 19) := rd_r rfl rfl
theorem f_15_7 (m : Mem) : hO (hp m) 15 2 7 = some (.ref 20) := rd_r rfl rfl
theorem f_15_8 (m : Mem) : hO (hp m) 15 2 8 = some (.ref 21) := rd_r rfl rfl
theorem f_15_9 (m : Mem) : hO (hp m) 15 2 9 = some (.ref 22) := rd_r rfl rfl
theorem f_15_10 (m : Mem) : hO (hp m) 15 2 10 = some (.int (m.1 15 10)) := rd_i rfl rfl
theorem a_16 (m : Mem) : hAI (hp m) 16 0 = some (6, m.1 16) := ra_i rfl
theorem a_17 (m : Mem) : hAI (hp m) 17 0 = some (5, m.1 17) := ra_i rfl
theorem a_18 (m : Mem) : hAI (hp m) 18 0 = some (5, m.1 18) := ra_i rfl
theorem a_19 (m : Mem) : hAI (hp m) 19 0 = some (30, m.1 19) := ra_i rfl
theorem a_20 (m : Mem) : hAI (hp m) 20 0 = some (4, m.1 20) := ra_i rfl
theorem a_21 (m : Mem) : hAI (hp m) 21 0 = some (408, m.1 21) := ra_i rfl
theorem a_22 (m : Mem) : hAI (hp m) 22 0 = some (408, m.1 22) := ra_i rfl
theorem a_23 (m : Mem) : hAL (hp m) 23 = some (6, m.2 23) := ra_l rfl
theorem a_24 (m : Mem) : hAL (hp m) 24 = some (5, m.2 24) := ra_l rfl
theorem f_25_0 (m : Mem) : hO (hp m) 25 4 0 = some (.ref 26) := rd_r rfl rfl
theorem f_25_1 (m : Mem) : hO (hp m) 25 4 1 = some (.ref 27) := rd_r rfl rfl
theorem f_25_2 (m : Mem) : hO (hp m) 25 4 2 = some (.ref 28) := rd_r rfl rfl
theorem f_25_3 (m : Mem) : hO (hp m) 25 4 3 = some (.int (m.1 25 3)) := rd_i rfl rfl
theorem f_25_4 (m : Mem) : hO (hp m) 25 4 4 = some (.ref 6) := rd_r rfl rfl
theorem a_26 (m : Mem) : hAI (hp m) 26 0 = some (56, m.1 26) := ra_i rfl
theorem a_27 (m : Mem) : hAI (hp m) 27 0 = some (5, m.1 27) := ra_i rfl
theorem a_28 (m : Mem) : hAI (hp m) 28 0 = some (6, m.1 28) := ra_i rfl
theorem f_29_0 (m : Mem) : hO (hp m) 29 5 0 = some (.ref 6) := rd_r rfl rfl
theorem f_29_1 (m : Mem) : hO (hp m) 29 5 1 = some (.ref 30) := rd_r rfl rfl
theorem f_29_2 (m : Mem) : hO (hp m) 29 5 2 = some (.ref 31) := rd_r rfl rfl
theorem a_30 (m : Mem) : hAI (hp m) 30 0 = some (9, m.1 30) := ra_i rfl
theorem a_31 (m : Mem) : hAI (hp m) 31 0 = some (32, m.1 31) := ra_i rfl
theorem f_32_0 (m : Mem) : hO (hp m) 32 6 0 = some (.ref 6) := rd_r rfl rfl
theorem f_32_1 (m : Mem) : hO (hp m) 32 6 1 = some (.ref 29) := rd_r rfl rfl
theorem f_32_2 (m : Mem) : hO (hp m) 32 6 2 = some (.ref 33) := rd_r rfl rfl
theorem f_33_0 (m : Mem) : hO (hp m) 33 4 0 = some (.ref 34) := rd_r rfl rfl
theorem f_33_1 (m : Mem) : hO (hp m) 33 4 1 = some (.ref 35) := rd_r rfl rfl
theorem f_33_2 (m : Mem) : hO (hp m) 33 4 2 = some (.ref 36) := rd_r rfl rfl
theorem f_33_3 (m : Mem) : hO (hp m) 33 4 3 = some (.int (m.1 33 3)) := rd_i rfl rfl
theorem f_33_4 (m : Mem) : hO (hp m) 33 4 4 = some (.ref 6) := rd_r rfl rfl
theorem a_34 (m : Mem) : hAI (hp m) 34 0 = some (56, m.1 34) := ra_i rfl
theorem a_35 (m : Mem) : hAI (hp m) 35 0 = some (5, m.1 35) := ra_i rfl
theorem a_36 (m : Mem) : hAI (hp m) 36 0 = some (6, m.1 36) := ra_i rfl
theorem f_37_0 (m : Mem) : hO (hp m) 37 7 0 = some (.int (m.1 37 0)) := rd_i rfl rfl
theorem f_37_1 (m : Mem) : hO (hp m) 37 7 1 = some (.int (m.1 37 1)) := rd_i rfl rfl
theorem f_37_2 (m : Mem) : hO (hp m) 37 7 2 = some (.int (m.1 37 2)) := rd_i rfl rfl
theorem f_37_3 (m : Mem) : hO (hp m) 37 7 3 = some (.ref 38) := rd_r rfl rfl
theorem f_37_4 (m : Mem) : hO (hp m) 37 7 4 = some (.ref 6) := rd_r rfl rfl
theorem f_37_5 (m : Mem) : hO (hp m) 37 7 5 = some (.ref 25) := rd_r rfl rfl
theorem f_37_6 (m : Mem) : hO (hp m) 37 7 6 = some (.ref 29) := rd_r rfl rfl
theorem f_37_7 (m : Mem) : hO (hp m) 37 7 7 = some (.ref 39) := rd_r rfl rfl
theorem f_37_8 (m : Mem) : hO (hp m) 37 7 8 = some (.ref 40) := rd_r rfl rfl
theorem f_37_9 (m : Mem) : hO (hp m) 37 7 9 = some (.ref 41) := rd_r rfl rfl
theorem f_37_10 (m : Mem) : hO (hp m) 37 7 10 = some (.ref 42) := rd_r rfl rfl
theorem f_37_11 (m : Mem) : hO (hp m) 37 7 11 = some (.ref 43) := rd_r rfl rfl
theorem f_37_12 (m : Mem) : hO (hp m) 37 7 12 = some (.int (m.1 37 12)) := rd_i rfl rfl
theorem f_37_13 (m : Mem) : hO (hp m) 37 7 13 = some (.int (m.1 37 13)) := rd_i rfl rfl
theorem a_38 (m : Mem) : hAI (hp m) 38 0 = some (5, m.1 38) := ra_i rfl
theorem a_39 (m : Mem) : hAI (hp m) 39 0 = some (30, m.1 39) := ra_i rfl
theorem a_40 (m : Mem) : hAI (hp m) 40 0 = some (30, m.1 40) := ra_i rfl
theorem a_41 (m : Mem) : hAI (hp m) 41 0 = some (150, m.1 41) := ra_i rfl
theorem a_42 (m : Mem) : hAI (hp m) 42 0 = some (5, m.1 42) := ra_i rfl
theorem a_43 (m : Mem) : hAI (hp m) 43 0 = some (6, m.1 43) := ra_i rfl
theorem f_44_0 (m : Mem) : hO (hp m) 44 8 0 = some (.int (m.1 44 0)) := rd_i rfl rfl
theorem f_44_1 (m : Mem) : hO (hp m) 44 8 1 = some (.int (m.1 44 1)) := rd_i rfl rfl
theorem f_44_2 (m : Mem) : hO (hp m) 44 8 2 = some (.int (m.1 44 2)) := rd_i rfl rfl
theorem f_44_3 (m : Mem) : hO (hp m) 44 8 3 = some (.ref 45) := rd_r rfl rfl
theorem f_44_4 (m : Mem) : hO (hp m) 44 8 4 = some (.ref 46) := rd_r rfl rfl
theorem f_44_5 (m : Mem) : hO (hp m) 44 8 5 = some (.ref 6) := rd_r rfl rfl
theorem f_44_6 (m : Mem) : hO (hp m) 44 8 6 = some (.ref 25) := rd_r rfl rfl
theorem f_44_7 (m : Mem) : hO (hp m) 44 8 7 = some (.ref 29) := rd_r rfl rfl
theorem f_44_8 (m : Mem) : hO (hp m) 44 8 8 = some (.ref 47) := rd_r rfl rfl
theorem f_44_9 (m : Mem) : hO (hp m) 44 8 9 = some (.ref 48) := rd_r rfl rfl
theorem f_44_10 (m : Mem) : hO (hp m) 44 8 10 = some (.ref 49) := rd_r rfl rfl
theorem f_44_11 (m : Mem) : hO (hp m) 44 8 11 = some (.ref 50) := rd_r rfl rfl
theorem f_44_12 (m : Mem) : hO (hp m) 44 8 12 = some (.int (m.1 44 12)) := rd_i rfl rfl
theorem f_44_13 (m : Mem) : hO (hp m) 44 8 13 = some (.int (m.1 44 13)) := rd_i rfl rfl
theorem f_44_14 (m : Mem) : hO (hp m) 44 8 14 = some (.int (m.1 44 14)) := rd_i rfl rfl
theorem a_45 (m : Mem) : hAI (hp m) 45 0 = some (5, m.1 45) := ra_i rfl
theorem a_46 (m : Mem) : hAI (hp m) 46 0 = some (5, m.1 46) := ra_i rfl
theorem a_47 (m : Mem) : hAI (hp m) 47 0 = some (5, m.1 47) := ra_i rfl
theorem a_48 (m : Mem) : hAI (hp m) 48 0 = some (150, m.1 48) := ra_i rfl
theorem a_49 (m : Mem) : hAI (hp m) 49 0 = some (5, m.1 49) := ra_i rfl
theorem a_50 (m : Mem) : hAI (hp m) 50 0 = some (6, m.1 50) := ra_i rfl
theorem f_51_0 (m : Mem) : hO (hp m) 51 9 0 = some (.ref 52) := rd_r rfl rfl
theorem f_51_1 (m : Mem) : hO (hp m) 51 9 1 = some (.ref 6) := rd_r rfl rfl
theorem f_51_2 (m : Mem) : hO (hp m) 51 9 2 = some (.ref 25) := rd_r rfl rfl
theorem f_51_3 (m : Mem) : hO (hp m) 51 9 3 = some (.ref 53) := rd_r rfl rfl
theorem a_52 (m : Mem) : hAI (hp m) 52 0 = some (5, m.1 52) := ra_i rfl
theorem a_53 (m : Mem) : hAR (hp m) 53 = some (6, fun i => some (54 + i)) := by rw [ra_r (n := 6) rfl]
theorem f_60_0 (m : Mem) : hO (hp m) 60 10 0 = some (.int (m.1 60 0)) := rd_i rfl rfl
theorem f_60_1 (m : Mem) : hO (hp m) 60 10 1 = some (.ref 6) := rd_r rfl rfl
theorem f_60_2 (m : Mem) : hO (hp m) 60 10 2 = some (.ref 25) := rd_r rfl rfl
theorem f_60_3 (m : Mem) : hO (hp m) 60 10 3 = some (.ref 29) := rd_r rfl rfl
theorem f_60_4 (m : Mem) : hO (hp m) 60 10 4 = some (.ref 61) := rd_r rfl rfl
theorem f_60_5 (m : Mem) : hO (hp m) 60 10 5 = some (.ref 62) := rd_r rfl rfl
theorem f_60_6 (m : Mem) : hO (hp m) 60 10 6 = some (.ref 63) := rd_r rfl rfl
theorem a_61 (m : Mem) : hAI (hp m) 61 0 = some (20, m.1 61) := ra_i rfl
theorem a_62 (m : Mem) : hAI (hp m) 62 0 = some (20, m.1 62) := ra_i rfl
theorem a_63 (m : Mem) : hAI (hp m) 63 3 = some (20, m.1 63) := ra_z rfl
theorem f_64_0 (m : Mem) : hO (hp m) 64 11 0 = some (.int (m.1 64 0)) := rd_i rfl rfl
theorem f_64_1 (m : Mem) : hO (hp m) 64 11 1 = some (.ref 65) := rd_r rfl rfl
theorem f_64_2 (m : Mem) : hO (hp m) 64 11 2 = some (.int (m.1 64 2)) := rd_i rfl rfl
theorem f_64_3 (m : Mem) : hO (hp m) 64 11 3 = some (.ref 106) := rd_r rfl rfl
theorem f_64_4 (m : Mem) : hO (hp m) 64 11 4 = some (.ref 110) := rd_r rfl rfl
theorem a_65 (m : Mem) : hAR (hp m) 65 = some (40, fun i => some (66 + i)) := by rw [ra_r (n := 40) rfl]
theorem a_106 (m : Mem) : hAR (hp m) 106 = some (3, fun i => some (107 + i)) := by rw [ra_r (n := 3) rfl]
theorem a_110 (m : Mem) : hAI (hp m) 110 3 = some (3, m.1 110) := ra_z rfl
theorem f_111_0 (m : Mem) : hO (hp m) 111 12 0 = some (.int (m.1 111 0)) := rd_i rfl rfl
theorem f_111_1 (m : Mem) : hO (hp m) 111 12 1 = some (.ref 112) := rd_r rfl rfl
theorem f_111_2 (m : Mem) : hO (hp m) 111 12 2 = some (.int (m.1 111 2)) := rd_i rfl rfl
theorem f_111_3 (m : Mem) : hO (hp m) 111 12 3 = some (.ref 113) := rd_r rfl rfl
theorem f_111_4 (m : Mem) : hO (hp m) 111 12 4 = some (.int (m.1 111 4)) := rd_i rfl rfl
theorem f_111_5 (m : Mem) : hO (hp m) 111 12 5 = some (.ref 114) := rd_r rfl rfl
theorem f_111_6 (m : Mem) : hO (hp m) 111 12 6 = some (.ref 115) := rd_r rfl rfl
theorem f_111_7 (m : Mem) : hO (hp m) 111 12 7 = some (.ref 116) := rd_r rfl rfl
theorem f_111_8 (m : Mem) : hO (hp m) 111 12 8 = some (.ref 117) := rd_r rfl rfl
theorem f_111_9 (m : Mem) : hO (hp m) 111 12 9 = some (.ref 118) := rd_r rfl rfl
theorem f_111_10 (m : Mem) : hO (hp m) 111 12 10 = some (.int (m.1 111 10)) := rd_i rfl rfl
theorem f_111_11 (m : Mem) : hO (hp m) 111 12 11 = some (.int (m.1 111 11)) := rd_i rfl rfl
theorem f_111_12 (m : Mem) : hO (hp m) 111 12 12 = some (.int (m.1 111 12)) := rd_i rfl rfl
theorem f_111_13 (m : Mem) : hO (hp m) 111 12 13 = some (.int (m.1 111 13)) := rd_i rfl rfl
theorem f_111_14 (m : Mem) : hO (hp m) 111 12 14 = some (.int (m.1 111 14)) := rd_i rfl rfl
theorem f_111_15 (m : Mem) : hO (hp m) 111 12 15 = some (.int (m.1 111 15)) := rd_i rfl rfl
theorem f_111_16 (m : Mem) : hO (hp m) 111 12 16 = some (.int (m.1 111 16)) := rd_i rfl rfl
theorem f_111_17 (m : Mem) : hO (hp m) 111 12 17 = some (.int (m.1 111 17)) := rd_i rfl rfl
theorem f_111_18 (m : Mem) : hO (hp m) 111 12 18 = some (.int (m.1 111 18)) := rd_i rfl rfl
theorem f_111_19 (m : Mem) : hO (hp m) 111 12 19 = some (.int (m.1 111 19)) := rd_i rfl rfl
theorem f_111_20 (m : Mem) : hO (hp m) 111 12 20 = some (.int (m.1 111 20)) := rd_i rfl rfl
theorem f_111_21 (m : Mem) : hO (hp m) 111 12 21 = some (.ref 119) := rd_r rfl rfl
theorem f_111_22 (m : Mem) : hO (hp m) 111 12 22 = some (.ref 120) := rd_r rfl rfl
theorem f_111_23 (m : Mem) : hO (hp m) 111 12 23 = some (.ref 121) := rd_r rfl rfl
theorem f_111_24 (m : Mem) : hO (hp m) 111 12 24 = some (.ref 122) := rd_r rfl rfl
theorem f_111_25 (m : Mem) : hO (hp m) 111 12 25 = some (.ref 123) := rd_r rfl rfl
theorem f_111_26 (m : Mem) : hO (hp m) 111 12 26 = some (.ref 124) := rd_r rfl rfl
theorem f_111_27 (m : Mem) : hO (hp m) 111 12 27 = some (.ref 125) := rd_r rfl rfl
theorem f_111_28 (m : Mem) : hO (hp m) 111 12 28 = some (.ref 126) := rd_r rfl rfl
theorem f_111_29 (m : Mem) : hO (hp m) 111 12 29 = some (.ref 127) := rd_r rfl rfl
theorem f_111_30 (m : Mem) : hO (hp m) 111 12 30 = some (.ref 128) := rd_r rfl rfl
theorem f_111_31 (m : Mem) : hO (hp m) 111 12 31 = some (.ref 129) := rd_r rfl rfl
theorem f_111_32 (m : Mem) : hO (hp m) 111 12 32 = some (.ref 130) := rd_r rfl rfl
theorem f_111_33 (m : Mem) : hO (hp m) 111 12 33 = some (.int (m.1 111 33)) := rd_i rfl rfl
theorem f_111_34 (m : Mem) : hO (hp m) 111 12 34 = some (.ref 131) := rd_r rfl rfl
theorem f_111_35 (m : Mem) : hO (hp m) 111 12 35 = some (.ref 132) := rd_r rfl rfl
theorem f_111_36 (m : Mem) : hO (hp m) 111 12 36 = some (.ref 133) := rd_r rfl rfl
theorem f_111_37 (m : Mem) : hO (hp m) 111 12 37 = some (.ref 134) := rd_r rfl rfl
theorem f_111_38 (m : Mem) : hO (hp m) 111 12 38 = some (.ref 135) := rd_r rfl rfl
theorem f_111_39 (m : Mem) : hO (hp m) 111 12 39 = some (.int (m.1 111 39)) := rd_i rfl rfl
theorem f_111_40 (m : Mem) : hO (hp m) 111 12 40 = some (.ref 136) := rd_r rfl rfl
theorem f_111_41 (m : Mem) : hO (hp m) 111 12 41 = some (.ref 137) := rd_r rfl rfl
theorem f_111_42 (m : Mem) : hO (hp m) 111 12 42 = some (.ref 138) := rd_r rfl rfl
theorem f_111_43 (m : Mem) : hO (hp m) 111 12 43 = some (.int (m.1 111 43)) := rd_i rfl rfl
theorem f_111_44 (m : Mem) : hO (hp m) 111 12 44 = some (.ref 139) := rd_r rfl rfl
theorem f_111_45 (m : Mem) : hO (hp m) 111 12 45 = some (.ref 140) := rd_r rfl rfl
theorem f_111_46 (m : Mem) : hO (hp m) 111 12 46 = some (.int (m.1 111 46)) := rd_i rfl rfl
theorem f_111_47 (m : Mem) : hO (hp m) 111 12 47 = some (.ref 141) := rd_r rfl rfl
theorem f_111_48 (m : Mem) : hO (hp m) 111 12 48 = some (.ref 142) := rd_r rfl rfl
theorem f_111_49 (m : Mem) : hO (hp m) 111 12 49 = some (.int (m.1 111 49)) := rd_i rfl rfl
theorem f_111_50 (m : Mem) : hO (hp m) 111 12 50 = some (.int (m.1 111 50)) := rd_i rfl rfl
theorem f_111_51 (m : Mem) : hO (hp m) 111 12 51 = some (.int (m.1 111 51)) := rd_i rfl rfl
theorem f_111_52 (m : Mem) : hO (hp m) 111 12 52 = some (.ref 143) := rd_r rfl rfl
theorem f_111_53 (m : Mem) : hO (hp m) 111 12 53 = some (.ref 144) := rd_r rfl rfl
theorem f_111_54 (m : Mem) : hO (hp m) 111 12 54 = some (.ref 145) := rd_r rfl rfl
theorem f_111_55 (m : Mem) : hO (hp m) 111 12 55 = some (.ref 146) := rd_r rfl rfl
theorem f_111_56 (m : Mem) : hO (hp m) 111 12 56 = some (.ref 147) := rd_r rfl rfl
theorem f_111_57 (m : Mem) : hO (hp m) 111 12 57 = some (.int (m.1 111 57)) := rd_i rfl rfl
theorem f_111_58 (m : Mem) : hO (hp m) 111 12 58 = some (.ref 148) := rd_r rfl rfl
theorem f_111_59 (m : Mem) : hO (hp m) 111 12 59 = some (.int (m.1 111 59)) := rd_i rfl rfl
theorem f_111_60 (m : Mem) : hO (hp m) 111 12 60 = some (.int (m.1 111 60)) := rd_i rfl rfl
theorem f_111_61 (m : Mem) : hO (hp m) 111 12 61 = some (.int (m.1 111 61)) := rd_i rfl rfl
theorem f_111_62 (m : Mem) : hO (hp m) 111 12 62 = some (.ref 149) := rd_r rfl rfl
theorem f_111_63 (m : Mem) : hO (hp m) 111 12 63 = some (.ref 150) := rd_r rfl rfl
theorem f_111_64 (m : Mem) : hO (hp m) 111 12 64 = some (.ref 151) := rd_r rfl rfl
theorem f_111_65 (m : Mem) : hO (hp m) 111 12 65 = some (.ref 152) := rd_r rfl rfl
theorem f_111_66 (m : Mem) : hO (hp m) 111 12 66 = some (.ref 153) := rd_r rfl rfl
theorem f_111_67 (m : Mem) : hO (hp m) 111 12 67 = some (.int (m.1 111 67)) := rd_i rfl rfl
theorem f_111_68 (m : Mem) : hO (hp m) 111 12 68 = some (.ref 154) := rd_r rfl rfl
theorem f_111_69 (m : Mem) : hO (hp m) 111 12 69 = some (.ref 155) := rd_r rfl rfl
theorem f_111_70 (m : Mem) : hO (hp m) 111 12 70 = some (.ref 156) := rd_r rfl rfl
theorem f_111_71 (m : Mem) : hO (hp m) 111 12 71 = some (.ref 157) := rd_r rfl rfl
theorem f_111_72 (m : Mem) : hO (hp m) 111 12 72 = some (.ref 158) := rd_r rfl rfl
theorem a_112 (m : Mem) : hAI (hp m) 112 1 = some (2000, m.1 112) := ra_b rfl
theorem a_113 (m : Mem) : hAI (hp m) 113 1 = some (2000, m.1 113) := ra_b rfl
theorem a_114 (m : Mem) : hAI (hp m) 114 0 = some (403, m.1 114) := ra_i rfl
theorem a_115 (m : Mem) : hAI (hp m) 115 0 = some (403, m.1 115) := ra_i rfl
theorem a_116 (m : Mem) : hAI (hp m) 116 0 = some (403, m.1 116) := ra_i rfl
theorem a_117 (m : Mem) : hAL (hp m) 117 = some (403, m.2 117) := ra_l rfl
theorem a_118 (m : Mem) : hAL (hp m) 118 = some (20, m.2 118) := ra_l rfl
theorem a_119 (m : Mem) : hAL (hp m) 119 = some (11, m.2 119) := ra_l rfl
theorem a_120 (m : Mem) : hAI (hp m) 120 0 = some (11, m.1 120) := ra_i rfl
theorem a_121 (m : Mem) : hAI (hp m) 121 0 = some (2, m.1 121) := ra_i rfl
theorem a_122 (m : Mem) : hAI (hp m) 122 0 = some (12, m.1 122) := ra_i rfl
theorem a_123 (m : Mem) : hAI (hp m) 123 0 = some (2, m.1 123) := ra_i rfl
theorem a_124 (m : Mem) : hAI (hp m) 124 0 = some (10, m.1 124) := ra_i rfl
theorem a_125 (m : Mem) : hAI (hp m) 125 0 = some (10, m.1 125) := ra_i rfl
theorem a_126 (m : Mem) : hAI (hp m) 126 0 = some (2, m.1 126) := ra_i rfl
theorem a_127 (m : Mem) : hAI (hp m) 127 0 = some (60, m.1 127) := ra_i rfl
theorem a_128 (m : Mem) : hAI (hp m) 128 0 = some (2, m.1 128) := ra_i rfl
theorem a_129 (m : Mem) : hAI (hp m) 129 0 = some (8, m.1 129) := ra_i rfl
theorem a_130 (m : Mem) : hAI (hp m) 130 0 = some (8, m.1 130) := ra_i rfl
theorem a_131 (m : Mem) : hAI (hp m) 131 3 = some (260, m.1 131) := ra_z rfl
theorem a_132 (m : Mem) : hAI (hp m) 132 0 = some (260, m.1 132) := ra_i rfl
theorem a_133 (m : Mem) : hAI (hp m) 133 0 = some (260, m.1 133) := ra_i rfl
theorem a_134 (m : Mem) : hAI (hp m) 134 0 = some (260, m.1 134) := ra_i rfl
theorem a_135 (m : Mem) : hAI (hp m) 135 0 = some (260, m.1 135) := ra_i rfl
theorem a_136 (m : Mem) : hAI (hp m) 136 0 = some (840, m.1 136) := ra_i rfl
theorem a_137 (m : Mem) : hAI (hp m) 137 0 = some (840, m.1 137) := ra_i rfl
theorem a_138 (m : Mem) : hAI (hp m) 138 0 = some (64, m.1 138) := ra_i rfl
theorem a_139 (m : Mem) : hAI (hp m) 139 0 = some (9, m.1 139) := ra_i rfl
theorem a_140 (m : Mem) : hAI (hp m) 140 0 = some (400, m.1 140) := ra_i rfl
theorem a_141 (m : Mem) : hAI (hp m) 141 0 = some (56, m.1 141) := ra_i rfl
theorem a_142 (m : Mem) : hAI (hp m) 142 0 = some (56, m.1 142) := ra_i rfl
theorem a_143 (m : Mem) : hAI (hp m) 143 0 = some (5, m.1 143) := ra_i rfl
theorem a_144 (m : Mem) : hAI (hp m) 144 0 = some (5, m.1 144) := ra_i rfl
theorem a_145 (m : Mem) : hAI (hp m) 145 0 = some (5, m.1 145) := ra_i rfl
theorem a_146 (m : Mem) : hAI (hp m) 146 0 = some (5, m.1 146) := ra_i rfl
theorem a_147 (m : Mem) : hAI (hp m) 147 0 = some (5, m.1 147) := ra_i rfl
theorem a_148 (m : Mem) : hAI (hp m) 148 0 = some (2240, m.1 148) := ra_i rfl
theorem a_149 (m : Mem) : hAI (hp m) 149 0 = some (180, m.1 149) := ra_i rfl
theorem a_150 (m : Mem) : hAI (hp m) 150 0 = some (5, m.1 150) := ra_i rfl
theorem a_151 (m : Mem) : hAI (hp m) 151 0 = some (6, m.1 151) := ra_i rfl
theorem a_152 (m : Mem) : hAI (hp m) 152 0 = some (384, m.1 152) := ra_i rfl
theorem a_153 (m : Mem) : hAI (hp m) 153 0 = some (7, m.1 153) := ra_i rfl
theorem a_154 (m : Mem) : hAI (hp m) 154 0 = some (20, m.1 154) := ra_i rfl
theorem a_155 (m : Mem) : hAI (hp m) 155 0 = some (20, m.1 155) := ra_i rfl
theorem a_156 (m : Mem) : hAI (hp m) 156 3 = some (20, m.1 156) := ra_z rfl
theorem a_157 (m : Mem) : hAI (hp m) 157 3 = some (3, m.1 157) := ra_z rfl
theorem a_158 (m : Mem) : hAI (hp m) 158 0 = some (168, m.1 158) := ra_i rfl
