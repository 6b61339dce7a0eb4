/-! The abstract heap, the words that every method takes, the world. -/
def TB : List Cond := lw_tbl.filter goodWord
theorem tb_mem {i : Nat} {w : Cond} (h : lw_tbl[i]? = some w) (hg : goodWord w = true) : w ∈ TB := List.mem_filter.mpr ⟨List.mem_of_getElem? h, hg⟩
theorem tb_good {w : Cond} (h : w ∈ TB) : (w.onTables && w.keeps) = true ∨ ∃ ty, w = .arrayClass ty := good_of_word (List.mem_filter.mp h).2
theorem tb_sub {ws : List Cond} (ps : List Nat) (h : ws = ps.filterMap (fun i => lw_tbl[i]?)) (hg : ws.all goodWord = true) : ∀ w ∈ ws, w ∈ TB := by
  intro w hw
  have h1 := List.all_eq_true.mp hg w hw
  rw [h] at hw
  obtain ⟨i, -, hi⟩ := List.mem_filterMap.mp hw
  exact tb_mem hi h1
theorem tb_in {w : Cond} (h : w ∈ TB) : GoodIn TB (w :: TB) := fun x hx => by
  rcases List.mem_cons.mp hx with rfl | hx
  · exact ⟨h, tb_good h⟩
  · exact ⟨hx, tb_good hx⟩
/-- a cell: an array (kind, length, contents) or an object (number of its class, fields); references are places in the list -/
abbrev HC : Type := (Nat × vp_A) ⊕ (Nat × List Value)
abbrev Hp : Type := List HC
abbrev Ev : Type := List Value
def cv (b : Nat) (v : Value) : Value := match v with
  | .ref i => .ref (b + i)
  | v => v
theorem cv_cat (b : Nat) (v : Value) : (cv b v).category = v.category := by cases v <;> rfl
theorem cv_cats (b : Nat) (st : List Value) : ((st.map (cv b)).map fun v => v.category).sum = (st.map fun v => v.category).sum := by
  induction st with
  | nil => rfl
  | cons v l ih => simp only [List.map_cons, List.sum_cons, cv_cat, ih]
def cA (b : Nat) (a : vp_A) : vp_A := match a.2 with
  | .inr (.inr (.inr (.inr f))) => (a.1, .inr (.inr (.inr (.inr (fun i => (f i).map (b + ·))))))
  | _ => a
def cE (kA : Nat → ClassId) (b : Nat) (x : HC) : va_E := match x with
  | .inl (t, a) => .inl (kA t, cA b a)
  | .inr (ci, fs) => .inr (ci, fs.map (cv b))
def cW (kA : Nat → ClassId) (b : Nat) (h : Hp) : va_W := h.mapIdx (fun i c => (b + i, cE kA b c))
theorem cW_get (kA : Nat → ClassId) (b : Nat) (h : Hp) (i : Nat) : (cW kA b h)[i]? = (h[i]?).map (fun c => (b + i, cE kA b c)) := by
  unfold cW; rw [List.getElem?_mapIdx]
theorem cW_at {kA : Nat → ClassId} {b : Nat} {h : Hp} {i : Nat} {c : HC} (hc : h[i]? = some c) : (cW kA b h)[i]? = some (b + i, cE kA b c) := by rw [cW_get, hc]; rfl
theorem cW_len (kA : Nat → ClassId) (b : Nat) (h : Hp) : (cW kA b h).length = h.length := by unfold cW; exact List.length_mapIdx
theorem cW_set (kA : Nat → ClassId) (b : Nat) (h : Hp) (i : Nat) (c : HC) : cW kA b (h.set i c) = (cW kA b h).set i (b + i, cE kA b c) := by
  apply List.ext_getElem?
  intro j
  rw [cW_get, List.getElem?_set, List.getElem?_set, cW_len, cW_get]
  by_cases hij : i = j
  · subst hij
    by_cases hl : i < h.length <;> simp [hl]
  · simp [hij]
theorem cW_push (kA : Nat → ClassId) (b : Nat) (h : Hp) (c : HC) : cW kA b (h ++ [c]) = cW kA b h ++ [(b + h.length, cE kA b c)] := by
  unfold cW; rw [List.mapIdx_append]; simp
/-- the cells that may change -/
def Aq (b N : Nat) (zm : Bool) : Nat → Prop := fun q => b ≤ q ∧ (zm = true ∨ q < b + N)
theorem cW_D {kA : Nat → ClassId} {b N : Nat} {zm : Bool} {h : Hp} (hN : zm = true ∨ h.length ≤ N) : va_D (Aq b N zm) (cW kA b h) := by
  refine ⟨fun i j p q hp hq e => ?_, fun k q hk => ?_⟩
  · rw [cW_get] at hp hq
    obtain ⟨c1, -, rfl⟩ := Option.map_eq_some_iff.mp hp
    obtain ⟨c2, -, rfl⟩ := Option.map_eq_some_iff.mp hq
    have e' : b + i = b + j := e
    omega
  · rw [cW_get] at hk
    obtain ⟨c1, h1, rfl⟩ := Option.map_eq_some_iff.mp hk
    have := (List.getElem?_eq_some_iff.mp h1).1
    refine ⟨Nat.le_add_right _ _, ?_⟩
    rcases hN with h | h
    · exact Or.inl h
    · exact Or.inr (by show b + k < b + N; omega)
/-- the kinds of array: 0 int, 1 byte, 2 long, 3 boolean, 4 int[] -/
def tyK (kA : Nat → ClassId) : List (ClassId × FieldType) := [(kA 0, .int), (kA 1, .byte), (kA 2, .long), (kA 3, .boolean), (kA 4, .array .int)]
