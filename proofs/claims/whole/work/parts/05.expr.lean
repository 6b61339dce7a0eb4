/-! Expressions: what they answer, and that the bytes do so. -/
def kI (v : Int32) : Xp Int32 := fun _ h => some (v, h)
def kL (v : Int64) : Xp Int64 := fun _ h => some (v, h)
def vI (k : Nat) : Xp Int32 := fun ls h => match ls[k]? with
  | some (.int v) => some (v, h)
  | _ => none
def vL (k : Nat) : Xp Int64 := fun ls h => match ls[k]? with
  | some (.long v) => some (v, h)
  | _ => none
def vR (k : Nat) : Xp Nat := fun ls h => match ls[k]? with
  | some (.ref v) => some (v, h)
  | _ => none
def o1 {α β : Type} (f : α → β) (a : Xp α) : Xp β := fun ls h => (a ls h).bind fun q => some (f q.1, q.2)
def o2 {α β γ : Type} (f : α → β → γ) (a : Xp α) (b : Xp β) : Xp γ := fun ls h => (a ls h).bind fun q => (b ls q.2).bind fun r => some (f q.1 r.1, r.2)
def oD (a b : Xp Int32) : Xp Int32 := fun ls h => (a ls h).bind fun q => (b ls q.2).bind fun r => if r.1 = 0 then none else some (q.1 / r.1, r.2)
def oR (a b : Xp Int32) : Xp Int32 := fun ls h => (a ls h).bind fun q => (b ls q.2).bind fun r => if r.1 = 0 then none else some (q.1 - q.1 / r.1 * r.1, r.2)
/-- a field of an object -/
def hO (h : Hp) (r ci k : Nat) : Option Value := match h[r]? with
  | some (.inr (c, fs)) => if c = ci then fs[k]? else none
  | _ => none
def hAI (h : Hp) (r t : Nat) : Option (Nat × (Nat → Int32)) := match h[r]? with
  | some (.inl (u, n, .inl f)) => if u = t then some (n, f) else none
  | _ => none
def hAL (h : Hp) (r : Nat) : Option (Nat × (Nat → Int64)) := match h[r]? with
  | some (.inl (u, n, .inr (.inl f))) => if u = 2 then some (n, f) else none
  | _ => none
def hAR (h : Hp) (r : Nat) : Option (Nat × (Nat → Option Nat)) := match h[r]? with
  | some (.inl (u, n, .inr (.inr (.inr (.inr f))))) => if u = 4 then some (n, f) else none
  | _ => none
def hLn (h : Hp) (r t : Nat) : Option Nat := match h[r]? with
  | some (.inl (u, n, _)) => if u = t then some n else none
  | _ => none
def gI (ci k : Nat) (o : Xp Nat) : Xp Int32 := fun ls h => (o ls h).bind fun q => match hO q.2 q.1 ci k with
  | some (.int v) => some (v, q.2)
  | _ => none
def gR (ci k : Nat) (o : Xp Nat) : Xp Nat := fun ls h => (o ls h).bind fun q => match hO q.2 q.1 ci k with
  | some (.ref v) => some (v, q.2)
  | _ => none
def aI (t : Nat) (a : Xp Nat) (i : Xp Int32) : Xp Int32 := fun ls h => (a ls h).bind fun q => (i ls q.2).bind fun r => (hAI r.2 q.1 t).bind fun w => if ¬ (r.1 < 0 ∨ w.1 ≤ r.1.toNatClampNeg) then some (w.2 r.1.toNatClampNeg, r.2) else none
def aL (a : Xp Nat) (i : Xp Int32) : Xp Int64 := fun ls h => (a ls h).bind fun q => (i ls q.2).bind fun r => (hAL r.2 q.1).bind fun w => if ¬ (r.1 < 0 ∨ w.1 ≤ r.1.toNatClampNeg) then some (w.2 r.1.toNatClampNeg, r.2) else none
def aR (a : Xp Nat) (i : Xp Int32) : Xp Nat := fun ls h => (a ls h).bind fun q => (i ls q.2).bind fun r => (hAR r.2 q.1).bind fun w => if ¬ (r.1 < 0 ∨ w.1 ≤ r.1.toNatClampNeg) then (w.2 r.1.toNatClampNeg).bind (fun y => some (y, r.2)) else none
def lnX (t : Nat) (a : Xp Nat) : Xp Int32 := fun ls h => (a ls h).bind fun q => (hLn q.2 q.1 t).bind fun n => some (Int32.ofNat n, q.2)
def iX {α : Type} (c : Xp Bool) (a b : Xp α) : Xp α := fun ls h => (c ls h).bind fun q => if q.1 = true then a ls q.2 else b ls q.2
def bX (c : Xp Bool) : Xp Int32 := fun ls h => (c ls h).bind fun q => some (if q.1 = true then 1 else 0, q.2)
def cAnd (a b : Xp Bool) : Xp Bool := fun ls h => (a ls h).bind fun q => if q.1 = true then b ls q.2 else some (false, q.2)
def cOr (a b : Xp Bool) : Xp Bool := fun ls h => (a ls h).bind fun q => if q.1 = true then some (true, q.2) else b ls q.2
def cNot (a : Xp Bool) : Xp Bool := fun ls h => (a ls h).bind fun q => some (!q.1, q.2)
def asV {α : Type} (ι : α → Value) (a : Xp α) : Xp Value := fun ls h => (a ls h).bind fun q => some (ι q.1, q.2)
/-- two steps of an Option, turned about -/
theorem bnd {α β : Type} {o : Option α} {f : α → Option β} {y : β} (h : o.bind f = some y) : ∃ x, o = some x ∧ f x = some y := Option.bind_eq_some_iff.mp h
theorem zp {sl : List (Nat × Nat)} {ls : Ev} {b k i c0 : Nat} {v : Value} (hs : sl[k]? = some (i, c0)) (hv : ls[k]? = some v) : ((sl.map (·.1)).zip (ls.map (cv b)))[k]? = some (i, cv b v) := by
  rw [List.getElem?_zip_eq_some]
  exact ⟨by rw [List.getElem?_map, hs]; rfl, by rw [List.getElem?_map, hv]; rfl⟩
theorem lgc_all (x y : Int64) : (x < y ∧ lg_cmp x y = -1) ∨ (x = y ∧ lg_cmp x y = 0) ∨ (y < x ∧ lg_cmp x y = 1) := by
  unfold lg_cmp
  by_cases h1 : x > y
  · exact Or.inr (Or.inr ⟨h1, by rw [if_pos h1]⟩)
  · by_cases h2 : x = y
    · exact Or.inr (Or.inl ⟨h2, by rw [if_neg h1, if_pos h2]⟩)
    · refine Or.inl ⟨?_, by rw [if_neg h1, if_neg h2]⟩
      simp only [gt_iff_lt, Int64.lt_iff_toInt_lt, ← Int64.toInt_inj] at h1 h2 ⊢
      omega
section EO
variable {Y : Yt} {sl : List (Nat × Nat)} {d pc : Nat}

theorem e_iconst {n : Int} {v : Int32} (hd : decode Y.1 pc = .ok (.iconst n, 1)) (hv : Int32.ofInt n = v) : EO Y Value.int sl d pc (pc + 1) (kI v) := by
  intro X cs G ls st h v9 h9 hf hdp k hc hl H locs la hP hD hS hz hla
  have hf : some (v, h) = some (v9, h9) := hf
  cases hf
  exact lv_iconst G.1 G.2.1 hd hv (k hc hl H locs la hP hD hS hz hla)
theorem e_bipush {n : Int} {v : Int32} (hd : decode Y.1 pc = .ok (.bipush n, 2)) (hv : (Int8.ofInt n).toInt32 = v) : EO Y Value.int sl d pc (pc + 2) (kI v) := by
  intro X cs G ls st h v9 h9 hf hdp k hc hl H locs la hP hD hS hz hla
  have hf : some (v, h) = some (v9, h9) := hf
  cases hf
  exact lv_bipush G.1 G.2.1 hd hv (k hc hl H locs la hP hD hS hz hla)
theorem e_sipush {n : Int} {v : Int32} (hd : decode Y.1 pc = .ok (.sipush n, 3)) (hv : (Int16.ofInt n).toInt32 = v) : EO Y Value.int sl d pc (pc + 3) (kI v) := by
  intro X cs G ls st h v9 h9 hf hdp k hc hl H locs la hP hD hS hz hla
  have hf : some (v, h) = some (v9, h9) := hf
  cases hf
  exact lv_sipush G.1 G.2.1 hd hv (k hc hl H locs la hP hD hS hz hla)
theorem e_ldc {i : Nat} {v : Int32} (hd : decode Y.1 pc = .ok (.ldc i, 2)) (hw : Cond.constant Y.2.2.1 i v ∈ TB) : EO Y Value.int sl d pc (pc + 2) (kI v) := by
  intro X cs G ls st h v9 h9 hf hdp k hc hl H locs la hP hD hS hz hla
  have hf : some (v, h) = some (v9, h9) := hf
  cases hf
  exact lv_ldc G.1 G.2.1 G.2.2.2.1 (G.2.2.2.2.1 _ hw) hd (k hc hl H locs la hP hD hS hz hla)
theorem e_ldcw {i : Nat} {v : Int32} (hd : decode Y.1 pc = .ok (.ldc_w i, 3)) (hw : Cond.constant Y.2.2.1 i v ∈ TB) : EO Y Value.int sl d pc (pc + 3) (kI v) := by
  intro X cs G ls st h v9 h9 hf hdp k hc hl H locs la hP hD hS hz hla
  have hf : some (v, h) = some (v9, h9) := hf
  cases hf
  exact lv_ldcw G.1 G.2.1 G.2.2.2.1 (G.2.2.2.2.1 _ hw) hd (k hc hl H locs la hP hD hS hz hla)
theorem e_ldc2 {i : Nat} {v : Int64} (hd : decode Y.1 pc = .ok (.ldc2_w i, 3)) (hw : Cond.constantLong Y.2.2.1 i v ∈ TB) : EO Y Value.long sl d pc (pc + 3) (kL v) := by
  intro X cs G ls st h v9 h9 hf hdp k hc hl H locs la hP hD hS hz hla
  have hf : some (v, h) = some (v9, h9) := hf
  cases hf
  exact lv_ldc2 G.1 G.2.1 G.2.2.2.1 (G.2.2.2.2.1 _ hw) hd (k hc hl H locs la hP hD hS hz hla)
theorem e_lconst {n : Fin 2} {v : Int64} (hd : decode Y.1 pc = .ok (.lconst n, 1)) (hv : Int64.ofNat (n : Nat) = v) : EO Y Value.long sl d pc (pc + 1) (kL v) := by
  intro X cs G ls st h v9 h9 hf hdp k hc hl H locs la hP hD hS hz hla
  have hf : some (v, h) = some (v9, h9) := hf
  cases hf
  exact lv_lconst G.1 G.2.1 hd hv (k hc hl H locs la hP hD hS hz hla)
theorem e_iload_n {k0 i c0 : Nat} {n : Fin 4} (hd : decode Y.1 pc = .ok (.iload_n n, 1)) (hi : (n : Nat) = i) (hs : sl[k0]? = some (i, c0)) : EO Y Value.int sl d pc (pc + 1) (vI k0) := by
  intro X cs G ls st h v9 h9 hf hdp k hc hl H locs la hP hD hS hz hla
  have hv : ls[k0]? = some (.int v9) ∧ h9 = h := by
    unfold vI at hf
    split at hf
    · cases hf; exact ⟨by assumption, rfl⟩
    · cases hf
  obtain ⟨hv, rfl⟩ := hv
  exact lv_iload_n G.1 G.2.1 hd hi (lv_at hla k0 (zp hs hv)) (k hc hl H locs la hP hD hS hz hla)
theorem e_iload {k0 i c0 : Nat} (hd : decode Y.1 pc = .ok (.iload i, 2)) (hs : sl[k0]? = some (i, c0)) : EO Y Value.int sl d pc (pc + 2) (vI k0) := by
  intro X cs G ls st h v9 h9 hf hdp k hc hl H locs la hP hD hS hz hla
  have hv : ls[k0]? = some (.int v9) ∧ h9 = h := by
    unfold vI at hf
    split at hf
    · cases hf; exact ⟨by assumption, rfl⟩
    · cases hf
  obtain ⟨hv, rfl⟩ := hv
  exact lv_iload G.1 G.2.1 hd (lv_at hla k0 (zp hs hv)) (k hc hl H locs la hP hD hS hz hla)
theorem e_lload_n {k0 i c0 : Nat} {n : Fin 4} (hd : decode Y.1 pc = .ok (.lload_n n, 1)) (hi : (n : Nat) = i) (hs : sl[k0]? = some (i, c0)) : EO Y Value.long sl d pc (pc + 1) (vL k0) := by
  intro X cs G ls st h v9 h9 hf hdp k hc hl H locs la hP hD hS hz hla
  have hv : ls[k0]? = some (.long v9) ∧ h9 = h := by
    unfold vL at hf
    split at hf
    · cases hf; exact ⟨by assumption, rfl⟩
    · cases hf
  obtain ⟨hv, rfl⟩ := hv
  exact lv_lload_n G.1 G.2.1 hd hi (lv_at hla k0 (zp hs hv)) (k hc hl H locs la hP hD hS hz hla)
theorem e_lload {k0 i c0 : Nat} (hd : decode Y.1 pc = .ok (.lload i, 2)) (hs : sl[k0]? = some (i, c0)) : EO Y Value.long sl d pc (pc + 2) (vL k0) := by
  intro X cs G ls st h v9 h9 hf hdp k hc hl H locs la hP hD hS hz hla
  have hv : ls[k0]? = some (.long v9) ∧ h9 = h := by
    unfold vL at hf
    split at hf
    · cases hf; exact ⟨by assumption, rfl⟩
    · cases hf
  obtain ⟨hv, rfl⟩ := hv
  exact lv_lload G.1 G.2.1 hd (lv_at hla k0 (zp hs hv)) (k hc hl H locs la hP hD hS hz hla)
theorem e_aload_n {k0 i c0 : Nat} {n : Fin 4} (hd : decode Y.1 pc = .ok (.aload_n n, 1)) (hi : (n : Nat) = i) (hs : sl[k0]? = some (i, c0)) : EO Y Value.ref sl d pc (pc + 1) (vR k0) := by
  intro X cs G ls st h v9 h9 hf hdp k hc hl H locs la hP hD hS hz hla
  have hv : ls[k0]? = some (.ref v9) ∧ h9 = h := by
    unfold vR at hf
    split at hf
    · cases hf; exact ⟨by assumption, rfl⟩
    · cases hf
  obtain ⟨hv, rfl⟩ := hv
  exact lv_aload_n G.1 G.2.1 hd hi (lv_at hla k0 (zp hs hv)) (k hc hl H locs la hP hD hS hz hla)
theorem e_aload {k0 i c0 : Nat} (hd : decode Y.1 pc = .ok (.aload i, 2)) (hs : sl[k0]? = some (i, c0)) : EO Y Value.ref sl d pc (pc + 2) (vR k0) := by
  intro X cs G ls st h v9 h9 hf hdp k hc hl H locs la hP hD hS hz hla
  have hv : ls[k0]? = some (.ref v9) ∧ h9 = h := by
    unfold vR at hf
    split at hf
    · cases hf; exact ⟨by assumption, rfl⟩
    · cases hf
  obtain ⟨hv, rfl⟩ := hv
  exact lv_aload G.1 G.2.1 hd (lv_at hla k0 (zp hs hv)) (k hc hl H locs la hP hD hS hz hla)
theorem e_iadd {p1 p2 : Nat} {a b : Xp Int32} (ha : EO Y Value.int sl d pc p1 a) (hb : EO Y Value.int sl (d + 1) p1 p2 b) (hd : decode Y.1 p2 = .ok (.iadd, 1)) : EO Y Value.int sl d pc (p2 + 1) (o2 (fun x y => x + y) a b) := by
  intro X cs G ls st h v9 h9 hf hdp k
  obtain ⟨q, hq, hf⟩ := bnd hf
  obtain ⟨r, hr, hf⟩ := bnd hf
  cases hf
  refine ha X cs G ls st h q.1 q.2 hq hdp (hb X cs G ls _ q.2 r.1 r.2 hr (by simp only [dep, List.map_cons, List.sum_cons, Value.category] at hdp ⊢; omega) ?_)
  intro hc hl H locs la hP hD hS hz hla
  exact lv_iadd G.1 G.2.1 hd (k hc hl H locs la hP hD hS hz hla)
theorem e_isub {p1 p2 : Nat} {a b : Xp Int32} (ha : EO Y Value.int sl d pc p1 a) (hb : EO Y Value.int sl (d + 1) p1 p2 b) (hd : decode Y.1 p2 = .ok (.isub, 1)) : EO Y Value.int sl d pc (p2 + 1) (o2 (fun x y => x - y) a b) := by
  intro X cs G ls st h v9 h9 hf hdp k
  obtain ⟨q, hq, hf⟩ := bnd hf
  obtain ⟨r, hr, hf⟩ := bnd hf
  cases hf
  refine ha X cs G ls st h q.1 q.2 hq hdp (hb X cs G ls _ q.2 r.1 r.2 hr (by simp only [dep, List.map_cons, List.sum_cons, Value.category] at hdp ⊢; omega) ?_)
  intro hc hl H locs la hP hD hS hz hla
  exact lv_isub G.1 G.2.1 hd (k hc hl H locs la hP hD hS hz hla)
theorem e_imul {p1 p2 : Nat} {a b : Xp Int32} (ha : EO Y Value.int sl d pc p1 a) (hb : EO Y Value.int sl (d + 1) p1 p2 b) (hd : decode Y.1 p2 = .ok (.imul, 1)) : EO Y Value.int sl d pc (p2 + 1) (o2 (fun x y => x * y) a b) := by
  intro X cs G ls st h v9 h9 hf hdp k
  obtain ⟨q, hq, hf⟩ := bnd hf
  obtain ⟨r, hr, hf⟩ := bnd hf
  cases hf
  refine ha X cs G ls st h q.1 q.2 hq hdp (hb X cs G ls _ q.2 r.1 r.2 hr (by simp only [dep, List.map_cons, List.sum_cons, Value.category] at hdp ⊢; omega) ?_)
  intro hc hl H locs la hP hD hS hz hla
  exact lv_imul G.1 G.2.1 hd (k hc hl H locs la hP hD hS hz hla)
theorem e_iand {p1 p2 : Nat} {a b : Xp Int32} (ha : EO Y Value.int sl d pc p1 a) (hb : EO Y Value.int sl (d + 1) p1 p2 b) (hd : decode Y.1 p2 = .ok (.iand, 1)) : EO Y Value.int sl d pc (p2 + 1) (o2 (fun x y => x &&& y) a b) := by
  intro X cs G ls st h v9 h9 hf hdp k
  obtain ⟨q, hq, hf⟩ := bnd hf
  obtain ⟨r, hr, hf⟩ := bnd hf
  cases hf
  refine ha X cs G ls st h q.1 q.2 hq hdp (hb X cs G ls _ q.2 r.1 r.2 hr (by simp only [dep, List.map_cons, List.sum_cons, Value.category] at hdp ⊢; omega) ?_)
  intro hc hl H locs la hP hD hS hz hla
  exact lv_iand G.1 G.2.1 hd (k hc hl H locs la hP hD hS hz hla)
theorem e_ior {p1 p2 : Nat} {a b : Xp Int32} (ha : EO Y Value.int sl d pc p1 a) (hb : EO Y Value.int sl (d + 1) p1 p2 b) (hd : decode Y.1 p2 = .ok (.ior, 1)) : EO Y Value.int sl d pc (p2 + 1) (o2 (fun x y => x ||| y) a b) := by
  intro X cs G ls st h v9 h9 hf hdp k
  obtain ⟨q, hq, hf⟩ := bnd hf
  obtain ⟨r, hr, hf⟩ := bnd hf
  cases hf
  refine ha X cs G ls st h q.1 q.2 hq hdp (hb X cs G ls _ q.2 r.1 r.2 hr (by simp only [dep, List.map_cons, List.sum_cons, Value.category] at hdp ⊢; omega) ?_)
  intro hc hl H locs la hP hD hS hz hla
  exact lv_ior G.1 G.2.1 hd (k hc hl H locs la hP hD hS hz hla)
theorem e_ixor {p1 p2 : Nat} {a b : Xp Int32} (ha : EO Y Value.int sl d pc p1 a) (hb : EO Y Value.int sl (d + 1) p1 p2 b) (hd : decode Y.1 p2 = .ok (.ixor, 1)) : EO Y Value.int sl d pc (p2 + 1) (o2 (fun x y => x ^^^ y) a b) := by
  intro X cs G ls st h v9 h9 hf hdp k
  obtain ⟨q, hq, hf⟩ := bnd hf
  obtain ⟨r, hr, hf⟩ := bnd hf
  cases hf
  refine ha X cs G ls st h q.1 q.2 hq hdp (hb X cs G ls _ q.2 r.1 r.2 hr (by simp only [dep, List.map_cons, List.sum_cons, Value.category] at hdp ⊢; omega) ?_)
  intro hc hl H locs la hP hD hS hz hla
  exact lv_ixor G.1 G.2.1 hd (k hc hl H locs la hP hD hS hz hla)
theorem e_ishl {p1 p2 : Nat} {a b : Xp Int32} (ha : EO Y Value.int sl d pc p1 a) (hb : EO Y Value.int sl (d + 1) p1 p2 b) (hd : decode Y.1 p2 = .ok (.ishl, 1)) : EO Y Value.int sl d pc (p2 + 1) (o2 (fun (x y : Int32) => x <<< (y &&& 31)) a b) := by
  intro X cs G ls st h v9 h9 hf hdp k
  obtain ⟨q, hq, hf⟩ := bnd hf
  obtain ⟨r, hr, hf⟩ := bnd hf
  cases hf
  refine ha X cs G ls st h q.1 q.2 hq hdp (hb X cs G ls _ q.2 r.1 r.2 hr (by simp only [dep, List.map_cons, List.sum_cons, Value.category] at hdp ⊢; omega) ?_)
  intro hc hl H locs la hP hD hS hz hla
  exact lv_ishl G.1 G.2.1 hd (k hc hl H locs la hP hD hS hz hla)
theorem e_ishr {p1 p2 : Nat} {a b : Xp Int32} (ha : EO Y Value.int sl d pc p1 a) (hb : EO Y Value.int sl (d + 1) p1 p2 b) (hd : decode Y.1 p2 = .ok (.ishr, 1)) : EO Y Value.int sl d pc (p2 + 1) (o2 (fun (x y : Int32) => x >>> (y &&& 31)) a b) := by
  intro X cs G ls st h v9 h9 hf hdp k
  obtain ⟨q, hq, hf⟩ := bnd hf
  obtain ⟨r, hr, hf⟩ := bnd hf
  cases hf
  refine ha X cs G ls st h q.1 q.2 hq hdp (hb X cs G ls _ q.2 r.1 r.2 hr (by simp only [dep, List.map_cons, List.sum_cons, Value.category] at hdp ⊢; omega) ?_)
  intro hc hl H locs la hP hD hS hz hla
  exact lv_ishr G.1 G.2.1 hd (k hc hl H locs la hP hD hS hz hla)
theorem e_iushr {p1 p2 : Nat} {a b : Xp Int32} (ha : EO Y Value.int sl d pc p1 a) (hb : EO Y Value.int sl (d + 1) p1 p2 b) (hd : decode Y.1 p2 = .ok (.iushr, 1)) : EO Y Value.int sl d pc (p2 + 1) (o2 (fun x y => (x.toUInt32 >>> (y.toUInt32 &&& Int32.toUInt32 31)).toInt32) a b) := by
  intro X cs G ls st h v9 h9 hf hdp k
  obtain ⟨q, hq, hf⟩ := bnd hf
  obtain ⟨r, hr, hf⟩ := bnd hf
  cases hf
  refine ha X cs G ls st h q.1 q.2 hq hdp (hb X cs G ls _ q.2 r.1 r.2 hr (by simp only [dep, List.map_cons, List.sum_cons, Value.category] at hdp ⊢; omega) ?_)
  intro hc hl H locs la hP hD hS hz hla
  exact lv_iushr G.1 G.2.1 hd rfl (k hc hl H locs la hP hD hS hz hla)
theorem e_ladd {p1 p2 : Nat} {a b : Xp Int64} (ha : EO Y Value.long sl d pc p1 a) (hb : EO Y Value.long sl (d + 2) p1 p2 b) (hd : decode Y.1 p2 = .ok (.ladd, 1)) : EO Y Value.long sl d pc (p2 + 1) (o2 (fun x y => x + y) a b) := by
  intro X cs G ls st h v9 h9 hf hdp k
  obtain ⟨q, hq, hf⟩ := bnd hf
  obtain ⟨r, hr, hf⟩ := bnd hf
  cases hf
  refine ha X cs G ls st h q.1 q.2 hq hdp (hb X cs G ls _ q.2 r.1 r.2 hr (by simp only [dep, List.map_cons, List.sum_cons, Value.category] at hdp ⊢; omega) ?_)
  intro hc hl H locs la hP hD hS hz hla
  exact lv_ladd G.1 G.2.1 hd (k hc hl H locs la hP hD hS hz hla)
theorem e_lmul {p1 p2 : Nat} {a b : Xp Int64} (ha : EO Y Value.long sl d pc p1 a) (hb : EO Y Value.long sl (d + 2) p1 p2 b) (hd : decode Y.1 p2 = .ok (.lmul, 1)) : EO Y Value.long sl d pc (p2 + 1) (o2 (fun x y => x * y) a b) := by
  intro X cs G ls st h v9 h9 hf hdp k
  obtain ⟨q, hq, hf⟩ := bnd hf
  obtain ⟨r, hr, hf⟩ := bnd hf
  cases hf
  refine ha X cs G ls st h q.1 q.2 hq hdp (hb X cs G ls _ q.2 r.1 r.2 hr (by simp only [dep, List.map_cons, List.sum_cons, Value.category] at hdp ⊢; omega) ?_)
  intro hc hl H locs la hP hD hS hz hla
  exact lv_lmul G.1 G.2.1 hd (k hc hl H locs la hP hD hS hz hla)
theorem e_idiv {p1 p2 : Nat} {a b : Xp Int32} (ha : EO Y Value.int sl d pc p1 a) (hb : EO Y Value.int sl (d + 1) p1 p2 b) (hd : decode Y.1 p2 = .ok (.idiv, 1)) : EO Y Value.int sl d pc (p2 + 1) (oD a b) := by
  intro X cs G ls st h v9 h9 hf hdp k
  obtain ⟨q, hq, hf⟩ := bnd hf
  obtain ⟨r, hr, hf⟩ := bnd hf
  split at hf
  · cases hf
  rename_i hne
  cases hf
  refine ha X cs G ls st h q.1 q.2 hq hdp (hb X cs G ls _ q.2 r.1 r.2 hr (by simp only [dep, List.map_cons, List.sum_cons, Value.category] at hdp ⊢; omega) ?_)
  intro hc hl H locs la hP hD hS hz hla
  exact lv_idiv G.1 G.2.1 hd hne (k hc hl H locs la hP hD hS hz hla)
theorem e_irem {p1 p2 : Nat} {a b : Xp Int32} (ha : EO Y Value.int sl d pc p1 a) (hb : EO Y Value.int sl (d + 1) p1 p2 b) (hd : decode Y.1 p2 = .ok (.irem, 1)) : EO Y Value.int sl d pc (p2 + 1) (oR a b) := by
  intro X cs G ls st h v9 h9 hf hdp k
  obtain ⟨q, hq, hf⟩ := bnd hf
  obtain ⟨r, hr, hf⟩ := bnd hf
  split at hf
  · cases hf
  rename_i hne
  cases hf
  refine ha X cs G ls st h q.1 q.2 hq hdp (hb X cs G ls _ q.2 r.1 r.2 hr (by simp only [dep, List.map_cons, List.sum_cons, Value.category] at hdp ⊢; omega) ?_)
  intro hc hl H locs la hP hD hS hz hla
  exact lv_irem G.1 G.2.1 hd hne (k hc hl H locs la hP hD hS hz hla)
theorem e_i2l {p1 : Nat} {a : Xp Int32} (ha : EO Y Value.int sl d pc p1 a) (hd : decode Y.1 p1 = .ok (.i2l, 1)) : EO Y Value.long sl d pc (p1 + 1) (o1 (fun x => x.toInt64) a) := by
  intro X cs G ls st h v9 h9 hf hdp k
  obtain ⟨q, hq, hf⟩ := bnd hf
  cases hf
  refine ha X cs G ls st h q.1 q.2 hq hdp ?_
  intro hc hl H locs la hP hD hS hz hla
  exact lv_i2l G.1 G.2.1 hd rfl (k hc hl H locs la hP hD hS hz hla)
theorem e_l2i {p1 : Nat} {a : Xp Int64} (ha : EO Y Value.long sl d pc p1 a) (hd : decode Y.1 p1 = .ok (.l2i, 1)) : EO Y Value.int sl d pc (p1 + 1) (o1 (fun x => x.toInt32) a) := by
  intro X cs G ls st h v9 h9 hf hdp k
  obtain ⟨q, hq, hf⟩ := bnd hf
  cases hf
  refine ha X cs G ls st h q.1 q.2 hq hdp ?_
  intro hc hl H locs la hP hD hS hz hla
  exact lv_l2i G.1 G.2.1 hd rfl (k hc hl H locs la hP hD hS hz hla)
theorem e_i2b {p1 : Nat} {a : Xp Int32} (ha : EO Y Value.int sl d pc p1 a) (hd : decode Y.1 p1 = .ok (.i2b, 1)) : EO Y Value.int sl d pc (p1 + 1) (o1 (fun x => x.toInt8.toInt32) a) := by
  intro X cs G ls st h v9 h9 hf hdp k
  obtain ⟨q, hq, hf⟩ := bnd hf
  cases hf
  refine ha X cs G ls st h q.1 q.2 hq hdp ?_
  intro hc hl H locs la hP hD hS hz hla
  exact lv_i2b G.1 G.2.1 hd rfl (k hc hl H locs la hP hD hS hz hla)
theorem e_i2c {p1 : Nat} {a : Xp Int32} (ha : EO Y Value.int sl d pc p1 a) (hd : decode Y.1 p1 = .ok (.i2c, 1)) : EO Y Value.int sl d pc (p1 + 1) (o1 (fun x => (x.toUInt32 % 65536).toInt32) a) := by
  intro X cs G ls st h v9 h9 hf hdp k
  obtain ⟨q, hq, hf⟩ := bnd hf
  cases hf
  refine ha X cs G ls st h q.1 q.2 hq hdp ?_
  intro hc hl H locs la hP hD hS hz hla
  exact lv_i2c G.1 G.2.1 hd rfl (k hc hl H locs la hP hD hS hz hla)
theorem hO_spec {h : Hp} {r ci k : Nat} {v : Value} (e : hO h r ci k = some v) : ∃ fs, h[r]? = some (.inr (ci, fs)) ∧ fs[k]? = some v := by
  unfold hO at e
  split at e
  · rename_i c fs hr
    split at e
    · rename_i hc; subst hc; exact ⟨fs, hr, e⟩
    · cases e
  · cases e
theorem hAI_spec {h : Hp} {r t : Nat} {w : Nat × (Nat → Int32)} (e : hAI h r t = some w) : h[r]? = some (.inl (t, w.1, .inl w.2)) := by
  unfold hAI at e
  split at e
  · rename_i u n f hr
    split at e
    · rename_i hc; subst hc; cases e; exact hr
    · cases e
  · cases e
theorem hAL_spec {h : Hp} {r : Nat} {w : Nat × (Nat → Int64)} (e : hAL h r = some w) : h[r]? = some (.inl (2, w.1, .inr (.inl w.2))) := by
  unfold hAL at e
  split at e
  · rename_i u n f hr
    split at e
    · rename_i hc; subst hc; cases e; exact hr
    · cases e
  · cases e
theorem hAR_spec {h : Hp} {r : Nat} {w : Nat × (Nat → Option Nat)} (e : hAR h r = some w) : h[r]? = some (.inl (4, w.1, .inr (.inr (.inr (.inr w.2))))) := by
  unfold hAR at e
  split at e
  · rename_i u n f hr
    split at e
    · rename_i hc; subst hc; cases e; exact hr
    · cases e
  · cases e
theorem hLn_spec {h : Hp} {r t n : Nat} (e : hLn h r t = some n) : ∃ x, h[r]? = some (.inl (t, n, x)) := by
  unfold hLn at e
  split at e
  · rename_i u n f hr
    split at e
    · rename_i hc; subst hc; cases e; exact ⟨_, hr⟩
    · cases e
  · cases e
/-- a class of the list: its name, table, number of fields, their types -/
def Cf (ci : Nat) (C : String) (T : u_T) (N : Nat) (ty : Nat → FieldType) : Prop := CL[ci]? = some (C, T, N) ∧ (∀ w ∈ u_ws C T N, w ∈ TB) ∧ (∀ k, k < N → parseFieldDescriptor (T k).2.2.1 = some (ty k)) ∧ (∀ a, a < N → ∀ b, b < N → a ≠ b → (T a).2.1 ≠ (T b).2.1)
theorem e_gI {ci k0 p1 i : Nat} {o : Xp Nat} {C : String} {T : u_T} {N : Nat} {ty : Nat → FieldType} (hC : Cf ci C T N ty) (ho : EO Y Value.ref sl d pc p1 o) (hk : k0 < N) (hw : Cond.fieldLink Y.2.2.1 i (T k0).1 (T k0).2.1 (T k0).2.2.1 ∈ TB) (hd : decode Y.1 p1 = .ok (.getfield i, 3)) : EO Y Value.int sl d pc (p1 + 3) (gI ci k0 o) := by
  intro X cs G ls st h v9 h9 hf hdp k
  obtain ⟨q, hq, hf⟩ := bnd hf
  split at hf
  · rename_i v hv
    cases hf
    obtain ⟨fs, h1, h2⟩ := hO_spec hv
    refine ho X cs G ls st h q.1 q.2 hq hdp ?_
    intro hc hl H locs la hP hD hS hz hla
    refine va_get (D := xD X) (cl := CL) (v := cv (xb X) (.int v9)) G.1 G.2.1 G.2.2.2.2.1 hC.2.1 G.2.2.2.1 G.2.2.2.2.2.1 hP q.1 (cW_at h1) hC.1 k0 hk (G.2.2.2.2.1 _ hw) (fun _ e => e) ?_ hd (k hc hl H locs la hP hD hS hz hla)
    rw [List.getElem?_map, h2]; rfl
  · cases hf
theorem e_gR {ci k0 p1 i : Nat} {o : Xp Nat} {C : String} {T : u_T} {N : Nat} {ty : Nat → FieldType} (hC : Cf ci C T N ty) (ho : EO Y Value.ref sl d pc p1 o) (hk : k0 < N) (hw : Cond.fieldLink Y.2.2.1 i (T k0).1 (T k0).2.1 (T k0).2.2.1 ∈ TB) (hd : decode Y.1 p1 = .ok (.getfield i, 3)) : EO Y Value.ref sl d pc (p1 + 3) (gR ci k0 o) := by
  intro X cs G ls st h v9 h9 hf hdp k
  obtain ⟨q, hq, hf⟩ := bnd hf
  split at hf
  · rename_i v hv
    cases hf
    obtain ⟨fs, h1, h2⟩ := hO_spec hv
    refine ho X cs G ls st h q.1 q.2 hq hdp ?_
    intro hc hl H locs la hP hD hS hz hla
    refine va_get (D := xD X) (cl := CL) (v := cv (xb X) (.ref v9)) G.1 G.2.1 G.2.2.2.2.1 hC.2.1 G.2.2.2.1 G.2.2.2.2.2.1 hP q.1 (cW_at h1) hC.1 k0 hk (G.2.2.2.2.1 _ hw) (fun _ e => e) ?_ hd (k hc hl H locs la hP hD hS hz hla)
    rw [List.getElem?_map, h2]; rfl
  · cases hf
theorem e_iald {p1 p2 : Nat} {a : Xp Nat} {i : Xp Int32} (ha : EO Y Value.ref sl d pc p1 a) (hi : EO Y Value.int sl (d + 1) p1 p2 i) (hd : decode Y.1 p2 = .ok (.iaload, 1)) : EO Y Value.int sl d pc (p2 + 1) (aI 0 a i) := by
  intro X cs G ls st h v9 h9 hf hdp k
  obtain ⟨q, hq, hf⟩ := bnd hf
  obtain ⟨r, hr, hf⟩ := bnd hf
  obtain ⟨w, hw, hf⟩ := bnd hf
  have h1 := hAI_spec hw
  split at hf
  · rename_i hin
    cases hf
    refine ha X cs G ls st h q.1 q.2 hq hdp (hi X cs G ls _ q.2 r.1 r.2 hr (by simp only [dep, List.map_cons, List.sum_cons, Value.category] at hdp ⊢; omega) ?_)
    intro hc hl H locs la hP hD hS hz hla
    exact va_iald (D := xD X) (cl := CL) G.1 G.2.1 G.2.2.2.2.2.1 hP q.1 0 (cW_at h1) rfl hin hd (k hc hl H locs la hP hD hS hz hla)
  · cases hf
theorem e_bald {p1 p2 : Nat} {a : Xp Nat} {i : Xp Int32} (ha : EO Y Value.ref sl d pc p1 a) (hi : EO Y Value.int sl (d + 1) p1 p2 i) (hd : decode Y.1 p2 = .ok (.baload, 1)) : EO Y Value.int sl d pc (p2 + 1) (aI 1 a i) := by
  intro X cs G ls st h v9 h9 hf hdp k
  obtain ⟨q, hq, hf⟩ := bnd hf
  obtain ⟨r, hr, hf⟩ := bnd hf
  obtain ⟨w, hw, hf⟩ := bnd hf
  have h1 := hAI_spec hw
  split at hf
  · rename_i hin
    cases hf
    refine ha X cs G ls st h q.1 q.2 hq hdp (hi X cs G ls _ q.2 r.1 r.2 hr (by simp only [dep, List.map_cons, List.sum_cons, Value.category] at hdp ⊢; omega) ?_)
    intro hc hl H locs la hP hD hS hz hla
    exact va_bald (D := xD X) (cl := CL) G.1 G.2.1 G.2.2.2.2.2.1 hP q.1 1 (cW_at h1) rfl hin hd (k hc hl H locs la hP hD hS hz hla)
  · cases hf
theorem e_zald {p1 p2 : Nat} {a : Xp Nat} {i : Xp Int32} (ha : EO Y Value.ref sl d pc p1 a) (hi : EO Y Value.int sl (d + 1) p1 p2 i) (hd : decode Y.1 p2 = .ok (.baload, 1)) : EO Y Value.int sl d pc (p2 + 1) (aI 3 a i) := by
  intro X cs G ls st h v9 h9 hf hdp k
  obtain ⟨q, hq, hf⟩ := bnd hf
  obtain ⟨r, hr, hf⟩ := bnd hf
  obtain ⟨w, hw, hf⟩ := bnd hf
  have h1 := hAI_spec hw
  split at hf
  · rename_i hin
    cases hf
    refine ha X cs G ls st h q.1 q.2 hq hdp (hi X cs G ls _ q.2 r.1 r.2 hr (by simp only [dep, List.map_cons, List.sum_cons, Value.category] at hdp ⊢; omega) ?_)
    intro hc hl H locs la hP hD hS hz hla
    exact va_zald (D := xD X) (cl := CL) G.1 G.2.1 G.2.2.2.2.2.1 hP q.1 3 (cW_at h1) rfl hin hd (k hc hl H locs la hP hD hS hz hla)
  · cases hf
theorem e_lald {p1 p2 : Nat} {a : Xp Nat} {i : Xp Int32} (ha : EO Y Value.ref sl d pc p1 a) (hi : EO Y Value.int sl (d + 1) p1 p2 i) (hd : decode Y.1 p2 = .ok (.laload, 1)) : EO Y Value.long sl d pc (p2 + 1) (aL a i) := by
  intro X cs G ls st h v9 h9 hf hdp k
  obtain ⟨q, hq, hf⟩ := bnd hf
  obtain ⟨r, hr, hf⟩ := bnd hf
  obtain ⟨w, hw, hf⟩ := bnd hf
  have h1 := hAL_spec hw
  split at hf
  · rename_i hin
    cases hf
    refine ha X cs G ls st h q.1 q.2 hq hdp (hi X cs G ls _ q.2 r.1 r.2 hr (by simp only [dep, List.map_cons, List.sum_cons, Value.category] at hdp ⊢; omega) ?_)
    intro hc hl H locs la hP hD hS hz hla
    exact va_lald (D := xD X) (cl := CL) G.1 G.2.1 G.2.2.2.2.2.1 hP q.1 2 (cW_at h1) rfl hin hd (k hc hl H locs la hP hD hS hz hla)
  · cases hf
theorem e_aald {p1 p2 : Nat} {a : Xp Nat} {i : Xp Int32} (ha : EO Y Value.ref sl d pc p1 a) (hi : EO Y Value.int sl (d + 1) p1 p2 i) (hd : decode Y.1 p2 = .ok (.aaload, 1)) : EO Y Value.ref sl d pc (p2 + 1) (aR a i) := by
  intro X cs G ls st h v9 h9 hf hdp k
  obtain ⟨q, hq, hf⟩ := bnd hf
  obtain ⟨r, hr, hf⟩ := bnd hf
  obtain ⟨w, hw, hf⟩ := bnd hf
  have h1 := hAR_spec hw
  split at hf
  · rename_i hin
    obtain ⟨y, hy, hf⟩ := bnd hf
    cases hf
    refine ha X cs G ls st h q.1 q.2 hq hdp (hi X cs G ls _ q.2 r.1 r.2 hr (by simp only [dep, List.map_cons, List.sum_cons, Value.category] at hdp ⊢; omega) ?_)
    intro hc hl H locs la hP hD hS hz hla
    have hlt : r.1.toNatClampNeg < w.1 := Nat.not_le.mp fun q => hin (Or.inr q)
    have hat : H[xb X + q.1]? = some (arrV (xk X 4) w.1 (fun j => va_rf ((w.2 j).map (xb X + ·)))) := hP q.1 _ (cW_at h1)
    exact W.aald (v := cv (xb X) (.ref v9)) (ty := .array .int) G.1 G.2.1 hat ((G.2.2.2.2.2.1.2 4 _ rfl).1 w.1 (fun j => va_rf ((w.2 j).map (xb X + ·)))) rfl (fun q => by cases q) (by show ¬ (r.1 < 0 ∨ (arrV _ _ _).slots.size ≤ _); rw [arrV_size]; exact hin) (by show (arrV _ _ _).slots[_]? = _; rw [arrV_read _ _ hlt, hy]; rfl) rfl rfl hd (k hc hl H locs la hP hD hS hz hla)
  · cases hf
theorem e_len {t p1 : Nat} {a : Xp Nat} {ty : FieldType} (hty : ∀ kA, (tyK kA)[t]? = some (kA t, ty)) (ha : EO Y Value.ref sl d pc p1 a) (hd : decode Y.1 p1 = .ok (.arraylength, 1)) : EO Y Value.int sl d pc (p1 + 1) (lnX t a) := by
  intro X cs G ls st h v9 h9 hf hdp k
  obtain ⟨q, hq, hf⟩ := bnd hf
  obtain ⟨n, hn, hf⟩ := bnd hf
  cases hf
  obtain ⟨x, h1⟩ := hLn_spec hn
  refine ha X cs G ls st h q.1 q.2 hq hdp ?_
  intro hc hl H locs la hP hD hS hz hla
  refine va_alen (D := xD X) (cl := CL) G.1 G.2.1 G.2.2.2.2.2.1 hP q.1 t (cW_at h1) (hty _) (v := Int32.ofNat n) ?_ hd (k hc hl H locs la hP hD hS hz hla)
  unfold cA; split <;> rfl
theorem e_ite {α : Type} {ι : α → Value} {pt p1 pf p2 : Nat} {off : Int} {c : Xp Bool} {a b : Xp α} (hc : CO Y sl d pc pt pf c) (ha : EO Y ι sl d pt p1 a) (hg : decode Y.1 p1 = .ok (.goto off, 3)) (ho : (p1 : Int) + off = (p2 : Int)) (hb : EO Y ι sl d pf p2 b) : EO Y ι sl d pc p2 (iX c a b) := by
  intro X cs G ls st h v9 h9 hf hdp k
  obtain ⟨q, hq, hf⟩ := bnd hf
  refine hc X cs G ls st h q.1 q.2 hq hdp (fun e => ?_) (fun e => ?_)
  · rw [if_pos e] at hf
    refine ha X cs G ls st q.2 v9 h9 hf hdp ?_
    intro hc hl H locs la hP hD hS hz hla
    exact lv_goto G.1 G.2.1 hg ho (k hc hl H locs la hP hD hS hz hla)
  · rw [if_neg (by rw [e]; decide)] at hf
    exact hb X cs G ls st q.2 v9 h9 hf hdp k
theorem e_bool {pt pf p2 : Nat} {off : Int} {c : Xp Bool} (hc : CO Y sl d pc pt pf c) (h1 : decode Y.1 pt = .ok (.iconst 1, 1)) (hg : decode Y.1 (pt + 1) = .ok (.goto off, 3)) (ho : ((pt + 1 : Nat) : Int) + off = (p2 : Int)) (h0 : decode Y.1 pf = .ok (.iconst 0, 1)) (hp : pf + 1 = p2) : EO Y Value.int sl d pc p2 (bX c) := by
  intro X cs G ls st h v9 h9 hf hdp k
  obtain ⟨q, hq, hf⟩ := bnd hf
  cases hf
  subst hp
  refine hc X cs G ls st h q.1 q.2 hq hdp (fun e => ?_) (fun e => ?_)
  · rw [if_pos e] at k
    intro hc hl H locs la hP hD hS hz hla
    exact lv_iconst G.1 G.2.1 h1 (v := 1) (by decide) (lv_goto G.1 G.2.1 hg ho (k hc hl H locs la hP hD hS hz hla))
  · rw [if_neg (by rw [e]; decide)] at k
    intro hc hl H locs la hP hD hS hz hla
    exact lv_iconst G.1 G.2.1 h0 (v := 0) (by decide) (k hc hl H locs la hP hD hS hz hla)
theorem c_and {p1 pt pf : Nat} {a b : Xp Bool} (ha : CO Y sl d pc p1 pf a) (hb : CO Y sl d p1 pt pf b) : CO Y sl d pc pt pf (cAnd a b) := by
  intro X cs G ls st h v9 h9 hf hdp kt kf
  obtain ⟨q, hq, hf⟩ := bnd hf
  refine ha X cs G ls st h q.1 q.2 hq hdp (fun e => ?_) (fun e => ?_)
  · rw [if_pos e] at hf
    exact hb X cs G ls st q.2 v9 h9 hf hdp kt kf
  · rw [if_neg (by rw [e]; decide)] at hf
    cases hf
    exact kf rfl
theorem c_or {p1 pt pf : Nat} {a b : Xp Bool} (ha : CO Y sl d pc pt p1 a) (hb : CO Y sl d p1 pt pf b) : CO Y sl d pc pt pf (cOr a b) := by
  intro X cs G ls st h v9 h9 hf hdp kt kf
  obtain ⟨q, hq, hf⟩ := bnd hf
  refine ha X cs G ls st h q.1 q.2 hq hdp (fun e => ?_) (fun e => ?_)
  · rw [if_pos e] at hf
    cases hf
    exact kt rfl
  · rw [if_neg (by rw [e]; decide)] at hf
    exact hb X cs G ls st q.2 v9 h9 hf hdp kt kf
theorem c_not {pt pf : Nat} {a : Xp Bool} (ha : CO Y sl d pc pf pt a) : CO Y sl d pc pt pf (cNot a) := by
  intro X cs G ls st h v9 h9 hf hdp kt kf
  obtain ⟨q, hq, hf⟩ := bnd hf
  cases hf
  exact ha X cs G ls st h q.1 q.2 hq hdp (fun e => kf (by rw [e]; rfl)) (fun e => kt (by rw [e]; rfl))
theorem c_icmp_eqT {p1 p2 tg : Nat} {off : Int} {a b : Xp Int32} (ha : EO Y Value.int sl d pc p1 a) (hb : EO Y Value.int sl (d + 1) p1 p2 b) (hd : decode Y.1 p2 = .ok (.if_icmp .eq off, 3)) (ho : (p2 : Int) + off = (tg : Int)) : CO Y sl d pc tg (p2 + 3) (o2 (fun x y => decide (x = y)) a b) := by
  intro X cs G ls st h v9 h9 hf hdp kt kf
  obtain ⟨q, hq, hf⟩ := bnd hf
  obtain ⟨r, hr, hf⟩ := bnd hf
  cases hf
  refine ha X cs G ls st h q.1 q.2 hq hdp (hb X cs G ls _ q.2 r.1 r.2 hr (by simp only [dep, List.map_cons, List.sum_cons, Value.category] at hdp ⊢; omega) ?_)
  intro hc hl H locs la hP hD hS hz hla
  exact lv_icmp_eq G.1 G.2.1 hd ho (fun e => kt (by first | exact decide_eq_true e | exact decide_eq_false e | (simp [Int32.not_le, Int32.not_lt] at e ⊢; exact e)) hc hl H locs la hP hD hS hz hla) (fun e => kf (by first | exact decide_eq_true e | exact decide_eq_false e | (simp [Int32.not_le, Int32.not_lt] at e ⊢; exact e)) hc hl H locs la hP hD hS hz hla)
theorem c_if_eqT {p1 tg : Nat} {off : Int} {a : Xp Int32} (ha : EO Y Value.int sl d pc p1 a) (hd : decode Y.1 p1 = .ok (.ifCond .eq off, 3)) (ho : (p1 : Int) + off = (tg : Int)) : CO Y sl d pc tg (p1 + 3) (o1 (fun x => decide (x = 0)) a) := by
  intro X cs G ls st h v9 h9 hf hdp kt kf
  obtain ⟨q, hq, hf⟩ := bnd hf
  cases hf
  refine ha X cs G ls st h q.1 q.2 hq hdp ?_
  intro hc hl H locs la hP hD hS hz hla
  exact lv_if_eq G.1 G.2.1 hd ho (fun e => kt (by first | exact decide_eq_true e | exact decide_eq_false e | (simp [Int32.not_le, Int32.not_lt] at e ⊢; exact e)) hc hl H locs la hP hD hS hz hla) (fun e => kf (by first | exact decide_eq_true e | exact decide_eq_false e | (simp [Int32.not_le, Int32.not_lt] at e ⊢; exact e)) hc hl H locs la hP hD hS hz hla)
theorem c_icmp_eqF {p1 p2 tg : Nat} {off : Int} {a b : Xp Int32} (ha : EO Y Value.int sl d pc p1 a) (hb : EO Y Value.int sl (d + 1) p1 p2 b) (hd : decode Y.1 p2 = .ok (.if_icmp .eq off, 3)) (ho : (p2 : Int) + off = (tg : Int)) : CO Y sl d pc (p2 + 3) tg (o2 (fun x y => decide (x ≠ y)) a b) := by
  intro X cs G ls st h v9 h9 hf hdp kt kf
  obtain ⟨q, hq, hf⟩ := bnd hf
  obtain ⟨r, hr, hf⟩ := bnd hf
  cases hf
  refine ha X cs G ls st h q.1 q.2 hq hdp (hb X cs G ls _ q.2 r.1 r.2 hr (by simp only [dep, List.map_cons, List.sum_cons, Value.category] at hdp ⊢; omega) ?_)
  intro hc hl H locs la hP hD hS hz hla
  exact lv_icmp_eq G.1 G.2.1 hd ho (fun e => kf (by first | exact decide_eq_true e | exact decide_eq_false e | (simp [Int32.not_le, Int32.not_lt] at e ⊢; exact e)) hc hl H locs la hP hD hS hz hla) (fun e => kt (by first | exact decide_eq_true e | exact decide_eq_false e | (simp [Int32.not_le, Int32.not_lt] at e ⊢; exact e)) hc hl H locs la hP hD hS hz hla)
theorem c_if_eqF {p1 tg : Nat} {off : Int} {a : Xp Int32} (ha : EO Y Value.int sl d pc p1 a) (hd : decode Y.1 p1 = .ok (.ifCond .eq off, 3)) (ho : (p1 : Int) + off = (tg : Int)) : CO Y sl d pc (p1 + 3) tg (o1 (fun x => decide (x ≠ 0)) a) := by
  intro X cs G ls st h v9 h9 hf hdp kt kf
  obtain ⟨q, hq, hf⟩ := bnd hf
  cases hf
  refine ha X cs G ls st h q.1 q.2 hq hdp ?_
  intro hc hl H locs la hP hD hS hz hla
  exact lv_if_eq G.1 G.2.1 hd ho (fun e => kf (by first | exact decide_eq_true e | exact decide_eq_false e | (simp [Int32.not_le, Int32.not_lt] at e ⊢; exact e)) hc hl H locs la hP hD hS hz hla) (fun e => kt (by first | exact decide_eq_true e | exact decide_eq_false e | (simp [Int32.not_le, Int32.not_lt] at e ⊢; exact e)) hc hl H locs la hP hD hS hz hla)
theorem c_icmp_neT {p1 p2 tg : Nat} {off : Int} {a b : Xp Int32} (ha : EO Y Value.int sl d pc p1 a) (hb : EO Y Value.int sl (d + 1) p1 p2 b) (hd : decode Y.1 p2 = .ok (.if_icmp .ne off, 3)) (ho : (p2 : Int) + off = (tg : Int)) : CO Y sl d pc tg (p2 + 3) (o2 (fun x y => decide (x ≠ y)) a b) := by
  intro X cs G ls st h v9 h9 hf hdp kt kf
  obtain ⟨q, hq, hf⟩ := bnd hf
  obtain ⟨r, hr, hf⟩ := bnd hf
  cases hf
  refine ha X cs G ls st h q.1 q.2 hq hdp (hb X cs G ls _ q.2 r.1 r.2 hr (by simp only [dep, List.map_cons, List.sum_cons, Value.category] at hdp ⊢; omega) ?_)
  intro hc hl H locs la hP hD hS hz hla
  exact lv_icmp_ne G.1 G.2.1 hd ho (fun e => kt (by first | exact decide_eq_true e | exact decide_eq_false e | (simp [Int32.not_le, Int32.not_lt] at e ⊢; exact e)) hc hl H locs la hP hD hS hz hla) (fun e => kf (by first | exact decide_eq_true e | exact decide_eq_false e | (simp [Int32.not_le, Int32.not_lt] at e ⊢; exact e)) hc hl H locs la hP hD hS hz hla)
theorem c_if_neT {p1 tg : Nat} {off : Int} {a : Xp Int32} (ha : EO Y Value.int sl d pc p1 a) (hd : decode Y.1 p1 = .ok (.ifCond .ne off, 3)) (ho : (p1 : Int) + off = (tg : Int)) : CO Y sl d pc tg (p1 + 3) (o1 (fun x => decide (x ≠ 0)) a) := by
  intro X cs G ls st h v9 h9 hf hdp kt kf
  obtain ⟨q, hq, hf⟩ := bnd hf
  cases hf
  refine ha X cs G ls st h q.1 q.2 hq hdp ?_
  intro hc hl H locs la hP hD hS hz hla
  exact lv_if_ne G.1 G.2.1 hd ho (fun e => kt (by first | exact decide_eq_true e | exact decide_eq_false e | (simp [Int32.not_le, Int32.not_lt] at e ⊢; exact e)) hc hl H locs la hP hD hS hz hla) (fun e => kf (by first | exact decide_eq_true e | exact decide_eq_false e | (simp [Int32.not_le, Int32.not_lt] at e ⊢; exact e)) hc hl H locs la hP hD hS hz hla)
theorem c_icmp_neF {p1 p2 tg : Nat} {off : Int} {a b : Xp Int32} (ha : EO Y Value.int sl d pc p1 a) (hb : EO Y Value.int sl (d + 1) p1 p2 b) (hd : decode Y.1 p2 = .ok (.if_icmp .ne off, 3)) (ho : (p2 : Int) + off = (tg : Int)) : CO Y sl d pc (p2 + 3) tg (o2 (fun x y => decide (x = y)) a b) := by
  intro X cs G ls st h v9 h9 hf hdp kt kf
  obtain ⟨q, hq, hf⟩ := bnd hf
  obtain ⟨r, hr, hf⟩ := bnd hf
  cases hf
  refine ha X cs G ls st h q.1 q.2 hq hdp (hb X cs G ls _ q.2 r.1 r.2 hr (by simp only [dep, List.map_cons, List.sum_cons, Value.category] at hdp ⊢; omega) ?_)
  intro hc hl H locs la hP hD hS hz hla
  exact lv_icmp_ne G.1 G.2.1 hd ho (fun e => kf (by first | exact decide_eq_true e | exact decide_eq_false e | (simp [Int32.not_le, Int32.not_lt] at e ⊢; exact e)) hc hl H locs la hP hD hS hz hla) (fun e => kt (by first | exact decide_eq_true e | exact decide_eq_false e | (simp [Int32.not_le, Int32.not_lt] at e ⊢; exact e)) hc hl H locs la hP hD hS hz hla)
theorem c_if_neF {p1 tg : Nat} {off : Int} {a : Xp Int32} (ha : EO Y Value.int sl d pc p1 a) (hd : decode Y.1 p1 = .ok (.ifCond .ne off, 3)) (ho : (p1 : Int) + off = (tg : Int)) : CO Y sl d pc (p1 + 3) tg (o1 (fun x => decide (x = 0)) a) := by
  intro X cs G ls st h v9 h9 hf hdp kt kf
  obtain ⟨q, hq, hf⟩ := bnd hf
  cases hf
  refine ha X cs G ls st h q.1 q.2 hq hdp ?_
  intro hc hl H locs la hP hD hS hz hla
  exact lv_if_ne G.1 G.2.1 hd ho (fun e => kf (by first | exact decide_eq_true e | exact decide_eq_false e | (simp [Int32.not_le, Int32.not_lt] at e ⊢; exact e)) hc hl H locs la hP hD hS hz hla) (fun e => kt (by first | exact decide_eq_true e | exact decide_eq_false e | (simp [Int32.not_le, Int32.not_lt] at e ⊢; exact e)) hc hl H locs la hP hD hS hz hla)
theorem c_icmp_ltT {p1 p2 tg : Nat} {off : Int} {a b : Xp Int32} (ha : EO Y Value.int sl d pc p1 a) (hb : EO Y Value.int sl (d + 1) p1 p2 b) (hd : decode Y.1 p2 = .ok (.if_icmp .lt off, 3)) (ho : (p2 : Int) + off = (tg : Int)) : CO Y sl d pc tg (p2 + 3) (o2 (fun x y => decide (x < y)) a b) := by
  intro X cs G ls st h v9 h9 hf hdp kt kf
  obtain ⟨q, hq, hf⟩ := bnd hf
  obtain ⟨r, hr, hf⟩ := bnd hf
  cases hf
  refine ha X cs G ls st h q.1 q.2 hq hdp (hb X cs G ls _ q.2 r.1 r.2 hr (by simp only [dep, List.map_cons, List.sum_cons, Value.category] at hdp ⊢; omega) ?_)
  intro hc hl H locs la hP hD hS hz hla
  exact lv_icmp_lt G.1 G.2.1 hd ho (fun e => kt (by first | exact decide_eq_true e | exact decide_eq_false e | (simp [Int32.not_le, Int32.not_lt] at e ⊢; exact e)) hc hl H locs la hP hD hS hz hla) (fun e => kf (by first | exact decide_eq_true e | exact decide_eq_false e | (simp [Int32.not_le, Int32.not_lt] at e ⊢; exact e)) hc hl H locs la hP hD hS hz hla)
theorem c_if_ltT {p1 tg : Nat} {off : Int} {a : Xp Int32} (ha : EO Y Value.int sl d pc p1 a) (hd : decode Y.1 p1 = .ok (.ifCond .lt off, 3)) (ho : (p1 : Int) + off = (tg : Int)) : CO Y sl d pc tg (p1 + 3) (o1 (fun x => decide (x < 0)) a) := by
  intro X cs G ls st h v9 h9 hf hdp kt kf
  obtain ⟨q, hq, hf⟩ := bnd hf
  cases hf
  refine ha X cs G ls st h q.1 q.2 hq hdp ?_
  intro hc hl H locs la hP hD hS hz hla
  exact lv_if_lt G.1 G.2.1 hd ho (fun e => kt (by first | exact decide_eq_true e | exact decide_eq_false e | (simp [Int32.not_le, Int32.not_lt] at e ⊢; exact e)) hc hl H locs la hP hD hS hz hla) (fun e => kf (by first | exact decide_eq_true e | exact decide_eq_false e | (simp [Int32.not_le, Int32.not_lt] at e ⊢; exact e)) hc hl H locs la hP hD hS hz hla)
theorem c_icmp_ltF {p1 p2 tg : Nat} {off : Int} {a b : Xp Int32} (ha : EO Y Value.int sl d pc p1 a) (hb : EO Y Value.int sl (d + 1) p1 p2 b) (hd : decode Y.1 p2 = .ok (.if_icmp .lt off, 3)) (ho : (p2 : Int) + off = (tg : Int)) : CO Y sl d pc (p2 + 3) tg (o2 (fun x y => decide (x ≥ y)) a b) := by
  intro X cs G ls st h v9 h9 hf hdp kt kf
  obtain ⟨q, hq, hf⟩ := bnd hf
  obtain ⟨r, hr, hf⟩ := bnd hf
  cases hf
  refine ha X cs G ls st h q.1 q.2 hq hdp (hb X cs G ls _ q.2 r.1 r.2 hr (by simp only [dep, List.map_cons, List.sum_cons, Value.category] at hdp ⊢; omega) ?_)
  intro hc hl H locs la hP hD hS hz hla
  exact lv_icmp_lt G.1 G.2.1 hd ho (fun e => kf (by first | exact decide_eq_true e | exact decide_eq_false e | (simp [Int32.not_le, Int32.not_lt] at e ⊢; exact e)) hc hl H locs la hP hD hS hz hla) (fun e => kt (by first | exact decide_eq_true e | exact decide_eq_false e | (simp [Int32.not_le, Int32.not_lt] at e ⊢; exact e)) hc hl H locs la hP hD hS hz hla)
theorem c_if_ltF {p1 tg : Nat} {off : Int} {a : Xp Int32} (ha : EO Y Value.int sl d pc p1 a) (hd : decode Y.1 p1 = .ok (.ifCond .lt off, 3)) (ho : (p1 : Int) + off = (tg : Int)) : CO Y sl d pc (p1 + 3) tg (o1 (fun x => decide (x ≥ 0)) a) := by
  intro X cs G ls st h v9 h9 hf hdp kt kf
  obtain ⟨q, hq, hf⟩ := bnd hf
  cases hf
  refine ha X cs G ls st h q.1 q.2 hq hdp ?_
  intro hc hl H locs la hP hD hS hz hla
  exact lv_if_lt G.1 G.2.1 hd ho (fun e => kf (by first | exact decide_eq_true e | exact decide_eq_false e | (simp [Int32.not_le, Int32.not_lt] at e ⊢; exact e)) hc hl H locs la hP hD hS hz hla) (fun e => kt (by first | exact decide_eq_true e | exact decide_eq_false e | (simp [Int32.not_le, Int32.not_lt] at e ⊢; exact e)) hc hl H locs la hP hD hS hz hla)
theorem c_icmp_geT {p1 p2 tg : Nat} {off : Int} {a b : Xp Int32} (ha : EO Y Value.int sl d pc p1 a) (hb : EO Y Value.int sl (d + 1) p1 p2 b) (hd : decode Y.1 p2 = .ok (.if_icmp .ge off, 3)) (ho : (p2 : Int) + off = (tg : Int)) : CO Y sl d pc tg (p2 + 3) (o2 (fun x y => decide (x ≥ y)) a b) := by
  intro X cs G ls st h v9 h9 hf hdp kt kf
  obtain ⟨q, hq, hf⟩ := bnd hf
  obtain ⟨r, hr, hf⟩ := bnd hf
  cases hf
  refine ha X cs G ls st h q.1 q.2 hq hdp (hb X cs G ls _ q.2 r.1 r.2 hr (by simp only [dep, List.map_cons, List.sum_cons, Value.category] at hdp ⊢; omega) ?_)
  intro hc hl H locs la hP hD hS hz hla
  exact lv_icmp_ge G.1 G.2.1 hd ho (fun e => kt (by first | exact decide_eq_true e | exact decide_eq_false e | (simp [Int32.not_le, Int32.not_lt] at e ⊢; exact e)) hc hl H locs la hP hD hS hz hla) (fun e => kf (by first | exact decide_eq_true e | exact decide_eq_false e | (simp [Int32.not_le, Int32.not_lt] at e ⊢; exact e)) hc hl H locs la hP hD hS hz hla)
theorem c_if_geT {p1 tg : Nat} {off : Int} {a : Xp Int32} (ha : EO Y Value.int sl d pc p1 a) (hd : decode Y.1 p1 = .ok (.ifCond .ge off, 3)) (ho : (p1 : Int) + off = (tg : Int)) : CO Y sl d pc tg (p1 + 3) (o1 (fun x => decide (x ≥ 0)) a) := by
  intro X cs G ls st h v9 h9 hf hdp kt kf
  obtain ⟨q, hq, hf⟩ := bnd hf
  cases hf
  refine ha X cs G ls st h q.1 q.2 hq hdp ?_
  intro hc hl H locs la hP hD hS hz hla
  exact lv_if_ge G.1 G.2.1 hd ho (fun e => kt (by first | exact decide_eq_true e | exact decide_eq_false e | (simp [Int32.not_le, Int32.not_lt] at e ⊢; exact e)) hc hl H locs la hP hD hS hz hla) (fun e => kf (by first | exact decide_eq_true e | exact decide_eq_false e | (simp [Int32.not_le, Int32.not_lt] at e ⊢; exact e)) hc hl H locs la hP hD hS hz hla)
theorem c_icmp_geF {p1 p2 tg : Nat} {off : Int} {a b : Xp Int32} (ha : EO Y Value.int sl d pc p1 a) (hb : EO Y Value.int sl (d + 1) p1 p2 b) (hd : decode Y.1 p2 = .ok (.if_icmp .ge off, 3)) (ho : (p2 : Int) + off = (tg : Int)) : CO Y sl d pc (p2 + 3) tg (o2 (fun x y => decide (x < y)) a b) := by
  intro X cs G ls st h v9 h9 hf hdp kt kf
  obtain ⟨q, hq, hf⟩ := bnd hf
  obtain ⟨r, hr, hf⟩ := bnd hf
  cases hf
  refine ha X cs G ls st h q.1 q.2 hq hdp (hb X cs G ls _ q.2 r.1 r.2 hr (by simp only [dep, List.map_cons, List.sum_cons, Value.category] at hdp ⊢; omega) ?_)
  intro hc hl H locs la hP hD hS hz hla
  exact lv_icmp_ge G.1 G.2.1 hd ho (fun e => kf (by first | exact decide_eq_true e | exact decide_eq_false e | (simp [Int32.not_le, Int32.not_lt] at e ⊢; exact e)) hc hl H locs la hP hD hS hz hla) (fun e => kt (by first | exact decide_eq_true e | exact decide_eq_false e | (simp [Int32.not_le, Int32.not_lt] at e ⊢; exact e)) hc hl H locs la hP hD hS hz hla)
theorem c_if_geF {p1 tg : Nat} {off : Int} {a : Xp Int32} (ha : EO Y Value.int sl d pc p1 a) (hd : decode Y.1 p1 = .ok (.ifCond .ge off, 3)) (ho : (p1 : Int) + off = (tg : Int)) : CO Y sl d pc (p1 + 3) tg (o1 (fun x => decide (x < 0)) a) := by
  intro X cs G ls st h v9 h9 hf hdp kt kf
  obtain ⟨q, hq, hf⟩ := bnd hf
  cases hf
  refine ha X cs G ls st h q.1 q.2 hq hdp ?_
  intro hc hl H locs la hP hD hS hz hla
  exact lv_if_ge G.1 G.2.1 hd ho (fun e => kf (by first | exact decide_eq_true e | exact decide_eq_false e | (simp [Int32.not_le, Int32.not_lt] at e ⊢; exact e)) hc hl H locs la hP hD hS hz hla) (fun e => kt (by first | exact decide_eq_true e | exact decide_eq_false e | (simp [Int32.not_le, Int32.not_lt] at e ⊢; exact e)) hc hl H locs la hP hD hS hz hla)
theorem c_icmp_gtT {p1 p2 tg : Nat} {off : Int} {a b : Xp Int32} (ha : EO Y Value.int sl d pc p1 a) (hb : EO Y Value.int sl (d + 1) p1 p2 b) (hd : decode Y.1 p2 = .ok (.if_icmp .gt off, 3)) (ho : (p2 : Int) + off = (tg : Int)) : CO Y sl d pc tg (p2 + 3) (o2 (fun x y => decide (x > y)) a b) := by
  intro X cs G ls st h v9 h9 hf hdp kt kf
  obtain ⟨q, hq, hf⟩ := bnd hf
  obtain ⟨r, hr, hf⟩ := bnd hf
  cases hf
  refine ha X cs G ls st h q.1 q.2 hq hdp (hb X cs G ls _ q.2 r.1 r.2 hr (by simp only [dep, List.map_cons, List.sum_cons, Value.category] at hdp ⊢; omega) ?_)
  intro hc hl H locs la hP hD hS hz hla
  exact lv_icmp_gt G.1 G.2.1 hd ho (fun e => kt (by first | exact decide_eq_true e | exact decide_eq_false e | (simp [Int32.not_le, Int32.not_lt] at e ⊢; exact e)) hc hl H locs la hP hD hS hz hla) (fun e => kf (by first | exact decide_eq_true e | exact decide_eq_false e | (simp [Int32.not_le, Int32.not_lt] at e ⊢; exact e)) hc hl H locs la hP hD hS hz hla)
theorem c_if_gtT {p1 tg : Nat} {off : Int} {a : Xp Int32} (ha : EO Y Value.int sl d pc p1 a) (hd : decode Y.1 p1 = .ok (.ifCond .gt off, 3)) (ho : (p1 : Int) + off = (tg : Int)) : CO Y sl d pc tg (p1 + 3) (o1 (fun x => decide (x > 0)) a) := by
  intro X cs G ls st h v9 h9 hf hdp kt kf
  obtain ⟨q, hq, hf⟩ := bnd hf
  cases hf
  refine ha X cs G ls st h q.1 q.2 hq hdp ?_
  intro hc hl H locs la hP hD hS hz hla
  exact lv_if_gt G.1 G.2.1 hd ho (fun e => kt (by first | exact decide_eq_true e | exact decide_eq_false e | (simp [Int32.not_le, Int32.not_lt] at e ⊢; exact e)) hc hl H locs la hP hD hS hz hla) (fun e => kf (by first | exact decide_eq_true e | exact decide_eq_false e | (simp [Int32.not_le, Int32.not_lt] at e ⊢; exact e)) hc hl H locs la hP hD hS hz hla)
theorem c_icmp_gtF {p1 p2 tg : Nat} {off : Int} {a b : Xp Int32} (ha : EO Y Value.int sl d pc p1 a) (hb : EO Y Value.int sl (d + 1) p1 p2 b) (hd : decode Y.1 p2 = .ok (.if_icmp .gt off, 3)) (ho : (p2 : Int) + off = (tg : Int)) : CO Y sl d pc (p2 + 3) tg (o2 (fun x y => decide (x ≤ y)) a b) := by
  intro X cs G ls st h v9 h9 hf hdp kt kf
  obtain ⟨q, hq, hf⟩ := bnd hf
  obtain ⟨r, hr, hf⟩ := bnd hf
  cases hf
  refine ha X cs G ls st h q.1 q.2 hq hdp (hb X cs G ls _ q.2 r.1 r.2 hr (by simp only [dep, List.map_cons, List.sum_cons, Value.category] at hdp ⊢; omega) ?_)
  intro hc hl H locs la hP hD hS hz hla
  exact lv_icmp_gt G.1 G.2.1 hd ho (fun e => kf (by first | exact decide_eq_true e | exact decide_eq_false e | (simp [Int32.not_le, Int32.not_lt] at e ⊢; exact e)) hc hl H locs la hP hD hS hz hla) (fun e => kt (by first | exact decide_eq_true e | exact decide_eq_false e | (simp [Int32.not_le, Int32.not_lt] at e ⊢; exact e)) hc hl H locs la hP hD hS hz hla)
theorem c_if_gtF {p1 tg : Nat} {off : Int} {a : Xp Int32} (ha : EO Y Value.int sl d pc p1 a) (hd : decode Y.1 p1 = .ok (.ifCond .gt off, 3)) (ho : (p1 : Int) + off = (tg : Int)) : CO Y sl d pc (p1 + 3) tg (o1 (fun x => decide (x ≤ 0)) a) := by
  intro X cs G ls st h v9 h9 hf hdp kt kf
  obtain ⟨q, hq, hf⟩ := bnd hf
  cases hf
  refine ha X cs G ls st h q.1 q.2 hq hdp ?_
  intro hc hl H locs la hP hD hS hz hla
  exact lv_if_gt G.1 G.2.1 hd ho (fun e => kf (by first | exact decide_eq_true e | exact decide_eq_false e | (simp [Int32.not_le, Int32.not_lt] at e ⊢; exact e)) hc hl H locs la hP hD hS hz hla) (fun e => kt (by first | exact decide_eq_true e | exact decide_eq_false e | (simp [Int32.not_le, Int32.not_lt] at e ⊢; exact e)) hc hl H locs la hP hD hS hz hla)
theorem c_icmp_leT {p1 p2 tg : Nat} {off : Int} {a b : Xp Int32} (ha : EO Y Value.int sl d pc p1 a) (hb : EO Y Value.int sl (d + 1) p1 p2 b) (hd : decode Y.1 p2 = .ok (.if_icmp .le off, 3)) (ho : (p2 : Int) + off = (tg : Int)) : CO Y sl d pc tg (p2 + 3) (o2 (fun x y => decide (x ≤ y)) a b) := by
  intro X cs G ls st h v9 h9 hf hdp kt kf
  obtain ⟨q, hq, hf⟩ := bnd hf
  obtain ⟨r, hr, hf⟩ := bnd hf
  cases hf
  refine ha X cs G ls st h q.1 q.2 hq hdp (hb X cs G ls _ q.2 r.1 r.2 hr (by simp only [dep, List.map_cons, List.sum_cons, Value.category] at hdp ⊢; omega) ?_)
  intro hc hl H locs la hP hD hS hz hla
  exact lv_icmp_le G.1 G.2.1 hd ho (fun e => kt (by first | exact decide_eq_true e | exact decide_eq_false e | (simp [Int32.not_le, Int32.not_lt] at e ⊢; exact e)) hc hl H locs la hP hD hS hz hla) (fun e => kf (by first | exact decide_eq_true e | exact decide_eq_false e | (simp [Int32.not_le, Int32.not_lt] at e ⊢; exact e)) hc hl H locs la hP hD hS hz hla)
theorem c_if_leT {p1 tg : Nat} {off : Int} {a : Xp Int32} (ha : EO Y Value.int sl d pc p1 a) (hd : decode Y.1 p1 = .ok (.ifCond .le off, 3)) (ho : (p1 : Int) + off = (tg : Int)) : CO Y sl d pc tg (p1 + 3) (o1 (fun x => decide (x ≤ 0)) a) := by
  intro X cs G ls st h v9 h9 hf hdp kt kf
  obtain ⟨q, hq, hf⟩ := bnd hf
  cases hf
  refine ha X cs G ls st h q.1 q.2 hq hdp ?_
  intro hc hl H locs la hP hD hS hz hla
  exact lv_if_le G.1 G.2.1 hd ho (fun e => kt (by first | exact decide_eq_true e | exact decide_eq_false e | (simp [Int32.not_le, Int32.not_lt] at e ⊢; exact e)) hc hl H locs la hP hD hS hz hla) (fun e => kf (by first | exact decide_eq_true e | exact decide_eq_false e | (simp [Int32.not_le, Int32.not_lt] at e ⊢; exact e)) hc hl H locs la hP hD hS hz hla)
theorem c_icmp_leF {p1 p2 tg : Nat} {off : Int} {a b : Xp Int32} (ha : EO Y Value.int sl d pc p1 a) (hb : EO Y Value.int sl (d + 1) p1 p2 b) (hd : decode Y.1 p2 = .ok (.if_icmp .le off, 3)) (ho : (p2 : Int) + off = (tg : Int)) : CO Y sl d pc (p2 + 3) tg (o2 (fun x y => decide (x > y)) a b) := by
  intro X cs G ls st h v9 h9 hf hdp kt kf
  obtain ⟨q, hq, hf⟩ := bnd hf
  obtain ⟨r, hr, hf⟩ := bnd hf
  cases hf
  refine ha X cs G ls st h q.1 q.2 hq hdp (hb X cs G ls _ q.2 r.1 r.2 hr (by simp only [dep, List.map_cons, List.sum_cons, Value.category] at hdp ⊢; omega) ?_)
  intro hc hl H locs la hP hD hS hz hla
  exact lv_icmp_le G.1 G.2.1 hd ho (fun e => kf (by first | exact decide_eq_true e | exact decide_eq_false e | (simp [Int32.not_le, Int32.not_lt] at e ⊢; exact e)) hc hl H locs la hP hD hS hz hla) (fun e => kt (by first | exact decide_eq_true e | exact decide_eq_false e | (simp [Int32.not_le, Int32.not_lt] at e ⊢; exact e)) hc hl H locs la hP hD hS hz hla)
theorem c_if_leF {p1 tg : Nat} {off : Int} {a : Xp Int32} (ha : EO Y Value.int sl d pc p1 a) (hd : decode Y.1 p1 = .ok (.ifCond .le off, 3)) (ho : (p1 : Int) + off = (tg : Int)) : CO Y sl d pc (p1 + 3) tg (o1 (fun x => decide (x > 0)) a) := by
  intro X cs G ls st h v9 h9 hf hdp kt kf
  obtain ⟨q, hq, hf⟩ := bnd hf
  cases hf
  refine ha X cs G ls st h q.1 q.2 hq hdp ?_
  intro hc hl H locs la hP hD hS hz hla
  exact lv_if_le G.1 G.2.1 hd ho (fun e => kf (by first | exact decide_eq_true e | exact decide_eq_false e | (simp [Int32.not_le, Int32.not_lt] at e ⊢; exact e)) hc hl H locs la hP hD hS hz hla) (fun e => kt (by first | exact decide_eq_true e | exact decide_eq_false e | (simp [Int32.not_le, Int32.not_lt] at e ⊢; exact e)) hc hl H locs la hP hD hS hz hla)
theorem c_lcmp_eqT {p1 p2 tg : Nat} {off : Int} {a b : Xp Int64} (ha : EO Y Value.long sl d pc p1 a) (hb : EO Y Value.long sl (d + 2) p1 p2 b) (hd0 : decode Y.1 p2 = .ok (.lcmp, 1)) (hd : decode Y.1 (p2 + 1) = .ok (.ifCond .eq off, 3)) (ho : ((p2 + 1 : Nat) : Int) + off = (tg : Int)) : CO Y sl d pc tg (p2 + 1 + 3) (o2 (fun x y => decide (x = y)) a b) := by
  intro X cs G ls st h v9 h9 hf hdp kt kf
  obtain ⟨q, hq, hf⟩ := bnd hf
  obtain ⟨r, hr, hf⟩ := bnd hf
  cases hf
  refine ha X cs G ls st h q.1 q.2 hq hdp (hb X cs G ls _ q.2 r.1 r.2 hr (by simp only [dep, List.map_cons, List.sum_cons, Value.category] at hdp ⊢; omega) ?_)
  intro hc hl H locs la hP hD hS hz hla
  exact W.lcmp G.1 G.2.1 hd0 (lv_if_eq G.1 G.2.1 hd ho (fun e => kt (by rcases lgc_all q.1 r.1 with ⟨h1, h2⟩ | ⟨h1, h2⟩ | ⟨h1, h2⟩ <;> rw [h2] at e <;> first | (exfalso; revert e; decide) | (simp only [decide_eq_true_eq, decide_eq_false_iff_not, Int64.lt_iff_toInt_lt, Int64.le_iff_toInt_le, ge_iff_le, gt_iff_lt, ← Int64.toInt_inj, ne_eq] at h1 ⊢; omega)) hc hl H locs la hP hD hS hz hla) (fun e => kf (by rcases lgc_all q.1 r.1 with ⟨h1, h2⟩ | ⟨h1, h2⟩ | ⟨h1, h2⟩ <;> rw [h2] at e <;> first | (exfalso; revert e; decide) | (simp only [decide_eq_true_eq, decide_eq_false_iff_not, Int64.lt_iff_toInt_lt, Int64.le_iff_toInt_le, ge_iff_le, gt_iff_lt, ← Int64.toInt_inj, ne_eq] at h1 ⊢; omega)) hc hl H locs la hP hD hS hz hla))
theorem c_lcmp_eqF {p1 p2 tg : Nat} {off : Int} {a b : Xp Int64} (ha : EO Y Value.long sl d pc p1 a) (hb : EO Y Value.long sl (d + 2) p1 p2 b) (hd0 : decode Y.1 p2 = .ok (.lcmp, 1)) (hd : decode Y.1 (p2 + 1) = .ok (.ifCond .eq off, 3)) (ho : ((p2 + 1 : Nat) : Int) + off = (tg : Int)) : CO Y sl d pc (p2 + 1 + 3) tg (o2 (fun x y => decide (x ≠ y)) a b) := by
  intro X cs G ls st h v9 h9 hf hdp kt kf
  obtain ⟨q, hq, hf⟩ := bnd hf
  obtain ⟨r, hr, hf⟩ := bnd hf
  cases hf
  refine ha X cs G ls st h q.1 q.2 hq hdp (hb X cs G ls _ q.2 r.1 r.2 hr (by simp only [dep, List.map_cons, List.sum_cons, Value.category] at hdp ⊢; omega) ?_)
  intro hc hl H locs la hP hD hS hz hla
  exact W.lcmp G.1 G.2.1 hd0 (lv_if_eq G.1 G.2.1 hd ho (fun e => kf (by rcases lgc_all q.1 r.1 with ⟨h1, h2⟩ | ⟨h1, h2⟩ | ⟨h1, h2⟩ <;> rw [h2] at e <;> first | (exfalso; revert e; decide) | (simp only [decide_eq_true_eq, decide_eq_false_iff_not, Int64.lt_iff_toInt_lt, Int64.le_iff_toInt_le, ge_iff_le, gt_iff_lt, ← Int64.toInt_inj, ne_eq] at h1 ⊢; omega)) hc hl H locs la hP hD hS hz hla) (fun e => kt (by rcases lgc_all q.1 r.1 with ⟨h1, h2⟩ | ⟨h1, h2⟩ | ⟨h1, h2⟩ <;> rw [h2] at e <;> first | (exfalso; revert e; decide) | (simp only [decide_eq_true_eq, decide_eq_false_iff_not, Int64.lt_iff_toInt_lt, Int64.le_iff_toInt_le, ge_iff_le, gt_iff_lt, ← Int64.toInt_inj, ne_eq] at h1 ⊢; omega)) hc hl H locs la hP hD hS hz hla))
theorem c_lcmp_neT {p1 p2 tg : Nat} {off : Int} {a b : Xp Int64} (ha : EO Y Value.long sl d pc p1 a) (hb : EO Y Value.long sl (d + 2) p1 p2 b) (hd0 : decode Y.1 p2 = .ok (.lcmp, 1)) (hd : decode Y.1 (p2 + 1) = .ok (.ifCond .ne off, 3)) (ho : ((p2 + 1 : Nat) : Int) + off = (tg : Int)) : CO Y sl d pc tg (p2 + 1 + 3) (o2 (fun x y => decide (x ≠ y)) a b) := by
  intro X cs G ls st h v9 h9 hf hdp kt kf
  obtain ⟨q, hq, hf⟩ := bnd hf
  obtain ⟨r, hr, hf⟩ := bnd hf
  cases hf
  refine ha X cs G ls st h q.1 q.2 hq hdp (hb X cs G ls _ q.2 r.1 r.2 hr (by simp only [dep, List.map_cons, List.sum_cons, Value.category] at hdp ⊢; omega) ?_)
  intro hc hl H locs la hP hD hS hz hla
  exact W.lcmp G.1 G.2.1 hd0 (lv_if_ne G.1 G.2.1 hd ho (fun e => kt (by rcases lgc_all q.1 r.1 with ⟨h1, h2⟩ | ⟨h1, h2⟩ | ⟨h1, h2⟩ <;> rw [h2] at e <;> first | (exfalso; revert e; decide) | (simp only [decide_eq_true_eq, decide_eq_false_iff_not, Int64.lt_iff_toInt_lt, Int64.le_iff_toInt_le, ge_iff_le, gt_iff_lt, ← Int64.toInt_inj, ne_eq] at h1 ⊢; omega)) hc hl H locs la hP hD hS hz hla) (fun e => kf (by rcases lgc_all q.1 r.1 with ⟨h1, h2⟩ | ⟨h1, h2⟩ | ⟨h1, h2⟩ <;> rw [h2] at e <;> first | (exfalso; revert e; decide) | (simp only [decide_eq_true_eq, decide_eq_false_iff_not, Int64.lt_iff_toInt_lt, Int64.le_iff_toInt_le, ge_iff_le, gt_iff_lt, ← Int64.toInt_inj, ne_eq] at h1 ⊢; omega)) hc hl H locs la hP hD hS hz hla))
theorem c_lcmp_neF {p1 p2 tg : Nat} {off : Int} {a b : Xp Int64} (ha : EO Y Value.long sl d pc p1 a) (hb : EO Y Value.long sl (d + 2) p1 p2 b) (hd0 : decode Y.1 p2 = .ok (.lcmp, 1)) (hd : decode Y.1 (p2 + 1) = .ok (.ifCond .ne off, 3)) (ho : ((p2 + 1 : Nat) : Int) + off = (tg : Int)) : CO Y sl d pc (p2 + 1 + 3) tg (o2 (fun x y => decide (x = y)) a b) := by
  intro X cs G ls st h v9 h9 hf hdp kt kf
  obtain ⟨q, hq, hf⟩ := bnd hf
  obtain ⟨r, hr, hf⟩ := bnd hf
  cases hf
  refine ha X cs G ls st h q.1 q.2 hq hdp (hb X cs G ls _ q.2 r.1 r.2 hr (by simp only [dep, List.map_cons, List.sum_cons, Value.category] at hdp ⊢; omega) ?_)
  intro hc hl H locs la hP hD hS hz hla
  exact W.lcmp G.1 G.2.1 hd0 (lv_if_ne G.1 G.2.1 hd ho (fun e => kf (by rcases lgc_all q.1 r.1 with ⟨h1, h2⟩ | ⟨h1, h2⟩ | ⟨h1, h2⟩ <;> rw [h2] at e <;> first | (exfalso; revert e; decide) | (simp only [decide_eq_true_eq, decide_eq_false_iff_not, Int64.lt_iff_toInt_lt, Int64.le_iff_toInt_le, ge_iff_le, gt_iff_lt, ← Int64.toInt_inj, ne_eq] at h1 ⊢; omega)) hc hl H locs la hP hD hS hz hla) (fun e => kt (by rcases lgc_all q.1 r.1 with ⟨h1, h2⟩ | ⟨h1, h2⟩ | ⟨h1, h2⟩ <;> rw [h2] at e <;> first | (exfalso; revert e; decide) | (simp only [decide_eq_true_eq, decide_eq_false_iff_not, Int64.lt_iff_toInt_lt, Int64.le_iff_toInt_le, ge_iff_le, gt_iff_lt, ← Int64.toInt_inj, ne_eq] at h1 ⊢; omega)) hc hl H locs la hP hD hS hz hla))
theorem c_lcmp_ltT {p1 p2 tg : Nat} {off : Int} {a b : Xp Int64} (ha : EO Y Value.long sl d pc p1 a) (hb : EO Y Value.long sl (d + 2) p1 p2 b) (hd0 : decode Y.1 p2 = .ok (.lcmp, 1)) (hd : decode Y.1 (p2 + 1) = .ok (.ifCond .lt off, 3)) (ho : ((p2 + 1 : Nat) : Int) + off = (tg : Int)) : CO Y sl d pc tg (p2 + 1 + 3) (o2 (fun x y => decide (x < y)) a b) := by
  intro X cs G ls st h v9 h9 hf hdp kt kf
  obtain ⟨q, hq, hf⟩ := bnd hf
  obtain ⟨r, hr, hf⟩ := bnd hf
  cases hf
  refine ha X cs G ls st h q.1 q.2 hq hdp (hb X cs G ls _ q.2 r.1 r.2 hr (by simp only [dep, List.map_cons, List.sum_cons, Value.category] at hdp ⊢; omega) ?_)
  intro hc hl H locs la hP hD hS hz hla
  exact W.lcmp G.1 G.2.1 hd0 (lv_if_lt G.1 G.2.1 hd ho (fun e => kt (by rcases lgc_all q.1 r.1 with ⟨h1, h2⟩ | ⟨h1, h2⟩ | ⟨h1, h2⟩ <;> rw [h2] at e <;> first | (exfalso; revert e; decide) | (simp only [decide_eq_true_eq, decide_eq_false_iff_not, Int64.lt_iff_toInt_lt, Int64.le_iff_toInt_le, ge_iff_le, gt_iff_lt, ← Int64.toInt_inj, ne_eq] at h1 ⊢; omega)) hc hl H locs la hP hD hS hz hla) (fun e => kf (by rcases lgc_all q.1 r.1 with ⟨h1, h2⟩ | ⟨h1, h2⟩ | ⟨h1, h2⟩ <;> rw [h2] at e <;> first | (exfalso; revert e; decide) | (simp only [decide_eq_true_eq, decide_eq_false_iff_not, Int64.lt_iff_toInt_lt, Int64.le_iff_toInt_le, ge_iff_le, gt_iff_lt, ← Int64.toInt_inj, ne_eq] at h1 ⊢; omega)) hc hl H locs la hP hD hS hz hla))
theorem c_lcmp_ltF {p1 p2 tg : Nat} {off : Int} {a b : Xp Int64} (ha : EO Y Value.long sl d pc p1 a) (hb : EO Y Value.long sl (d + 2) p1 p2 b) (hd0 : decode Y.1 p2 = .ok (.lcmp, 1)) (hd : decode Y.1 (p2 + 1) = .ok (.ifCond .lt off, 3)) (ho : ((p2 + 1 : Nat) : Int) + off = (tg : Int)) : CO Y sl d pc (p2 + 1 + 3) tg (o2 (fun x y => decide (x ≥ y)) a b) := by
  intro X cs G ls st h v9 h9 hf hdp kt kf
  obtain ⟨q, hq, hf⟩ := bnd hf
  obtain ⟨r, hr, hf⟩ := bnd hf
  cases hf
  refine ha X cs G ls st h q.1 q.2 hq hdp (hb X cs G ls _ q.2 r.1 r.2 hr (by simp only [dep, List.map_cons, List.sum_cons, Value.category] at hdp ⊢; omega) ?_)
  intro hc hl H locs la hP hD hS hz hla
  exact W.lcmp G.1 G.2.1 hd0 (lv_if_lt G.1 G.2.1 hd ho (fun e => kf (by rcases lgc_all q.1 r.1 with ⟨h1, h2⟩ | ⟨h1, h2⟩ | ⟨h1, h2⟩ <;> rw [h2] at e <;> first | (exfalso; revert e; decide) | (simp only [decide_eq_true_eq, decide_eq_false_iff_not, Int64.lt_iff_toInt_lt, Int64.le_iff_toInt_le, ge_iff_le, gt_iff_lt, ← Int64.toInt_inj, ne_eq] at h1 ⊢; omega)) hc hl H locs la hP hD hS hz hla) (fun e => kt (by rcases lgc_all q.1 r.1 with ⟨h1, h2⟩ | ⟨h1, h2⟩ | ⟨h1, h2⟩ <;> rw [h2] at e <;> first | (exfalso; revert e; decide) | (simp only [decide_eq_true_eq, decide_eq_false_iff_not, Int64.lt_iff_toInt_lt, Int64.le_iff_toInt_le, ge_iff_le, gt_iff_lt, ← Int64.toInt_inj, ne_eq] at h1 ⊢; omega)) hc hl H locs la hP hD hS hz hla))
theorem c_lcmp_geT {p1 p2 tg : Nat} {off : Int} {a b : Xp Int64} (ha : EO Y Value.long sl d pc p1 a) (hb : EO Y Value.long sl (d + 2) p1 p2 b) (hd0 : decode Y.1 p2 = .ok (.lcmp, 1)) (hd : decode Y.1 (p2 + 1) = .ok (.ifCond .ge off, 3)) (ho : ((p2 + 1 : Nat) : Int) + off = (tg : Int)) : CO Y sl d pc tg (p2 + 1 + 3) (o2 (fun x y => decide (x ≥ y)) a b) := by
  intro X cs G ls st h v9 h9 hf hdp kt kf
  obtain ⟨q, hq, hf⟩ := bnd hf
  obtain ⟨r, hr, hf⟩ := bnd hf
  cases hf
  refine ha X cs G ls st h q.1 q.2 hq hdp (hb X cs G ls _ q.2 r.1 r.2 hr (by simp only [dep, List.map_cons, List.sum_cons, Value.category] at hdp ⊢; omega) ?_)
  intro hc hl H locs la hP hD hS hz hla
  exact W.lcmp G.1 G.2.1 hd0 (lv_if_ge G.1 G.2.1 hd ho (fun e => kt (by rcases lgc_all q.1 r.1 with ⟨h1, h2⟩ | ⟨h1, h2⟩ | ⟨h1, h2⟩ <;> rw [h2] at e <;> first | (exfalso; revert e; decide) | (simp only [decide_eq_true_eq, decide_eq_false_iff_not, Int64.lt_iff_toInt_lt, Int64.le_iff_toInt_le, ge_iff_le, gt_iff_lt, ← Int64.toInt_inj, ne_eq] at h1 ⊢; omega)) hc hl H locs la hP hD hS hz hla) (fun e => kf (by rcases lgc_all q.1 r.1 with ⟨h1, h2⟩ | ⟨h1, h2⟩ | ⟨h1, h2⟩ <;> rw [h2] at e <;> first | (exfalso; revert e; decide) | (simp only [decide_eq_true_eq, decide_eq_false_iff_not, Int64.lt_iff_toInt_lt, Int64.le_iff_toInt_le, ge_iff_le, gt_iff_lt, ← Int64.toInt_inj, ne_eq] at h1 ⊢; omega)) hc hl H locs la hP hD hS hz hla))
theorem c_lcmp_geF {p1 p2 tg : Nat} {off : Int} {a b : Xp Int64} (ha : EO Y Value.long sl d pc p1 a) (hb : EO Y Value.long sl (d + 2) p1 p2 b) (hd0 : decode Y.1 p2 = .ok (.lcmp, 1)) (hd : decode Y.1 (p2 + 1) = .ok (.ifCond .ge off, 3)) (ho : ((p2 + 1 : Nat) : Int) + off = (tg : Int)) : CO Y sl d pc (p2 + 1 + 3) tg (o2 (fun x y => decide (x < y)) a b) := by
  intro X cs G ls st h v9 h9 hf hdp kt kf
  obtain ⟨q, hq, hf⟩ := bnd hf
  obtain ⟨r, hr, hf⟩ := bnd hf
  cases hf
  refine ha X cs G ls st h q.1 q.2 hq hdp (hb X cs G ls _ q.2 r.1 r.2 hr (by simp only [dep, List.map_cons, List.sum_cons, Value.category] at hdp ⊢; omega) ?_)
  intro hc hl H locs la hP hD hS hz hla
  exact W.lcmp G.1 G.2.1 hd0 (lv_if_ge G.1 G.2.1 hd ho (fun e => kf (by rcases lgc_all q.1 r.1 with ⟨h1, h2⟩ | ⟨h1, h2⟩ | ⟨h1, h2⟩ <;> rw [h2] at e <;> first | (exfalso; revert e; decide) | (simp only [decide_eq_true_eq, decide_eq_false_iff_not, Int64.lt_iff_toInt_lt, Int64.le_iff_toInt_le, ge_iff_le, gt_iff_lt, ← Int64.toInt_inj, ne_eq] at h1 ⊢; omega)) hc hl H locs la hP hD hS hz hla) (fun e => kt (by rcases lgc_all q.1 r.1 with ⟨h1, h2⟩ | ⟨h1, h2⟩ | ⟨h1, h2⟩ <;> rw [h2] at e <;> first | (exfalso; revert e; decide) | (simp only [decide_eq_true_eq, decide_eq_false_iff_not, Int64.lt_iff_toInt_lt, Int64.le_iff_toInt_le, ge_iff_le, gt_iff_lt, ← Int64.toInt_inj, ne_eq] at h1 ⊢; omega)) hc hl H locs la hP hD hS hz hla))
theorem c_lcmp_gtT {p1 p2 tg : Nat} {off : Int} {a b : Xp Int64} (ha : EO Y Value.long sl d pc p1 a) (hb : EO Y Value.long sl (d + 2) p1 p2 b) (hd0 : decode Y.1 p2 = .ok (.lcmp, 1)) (hd : decode Y.1 (p2 + 1) = .ok (.ifCond .gt off, 3)) (ho : ((p2 + 1 : Nat) : Int) + off = (tg : Int)) : CO Y sl d pc tg (p2 + 1 + 3) (o2 (fun x y => decide (x > y)) a b) := by
  intro X cs G ls st h v9 h9 hf hdp kt kf
  obtain ⟨q, hq, hf⟩ := bnd hf
  obtain ⟨r, hr, hf⟩ := bnd hf
  cases hf
  refine ha X cs G ls st h q.1 q.2 hq hdp (hb X cs G ls _ q.2 r.1 r.2 hr (by simp only [dep, List.map_cons, List.sum_cons, Value.category] at hdp ⊢; omega) ?_)
  intro hc hl H locs la hP hD hS hz hla
  exact W.lcmp G.1 G.2.1 hd0 (lv_if_gt G.1 G.2.1 hd ho (fun e => kt (by rcases lgc_all q.1 r.1 with ⟨h1, h2⟩ | ⟨h1, h2⟩ | ⟨h1, h2⟩ <;> rw [h2] at e <;> first | (exfalso; revert e; decide) | (simp only [decide_eq_true_eq, decide_eq_false_iff_not, Int64.lt_iff_toInt_lt, Int64.le_iff_toInt_le, ge_iff_le, gt_iff_lt, ← Int64.toInt_inj, ne_eq] at h1 ⊢; omega)) hc hl H locs la hP hD hS hz hla) (fun e => kf (by rcases lgc_all q.1 r.1 with ⟨h1, h2⟩ | ⟨h1, h2⟩ | ⟨h1, h2⟩ <;> rw [h2] at e <;> first | (exfalso; revert e; decide) | (simp only [decide_eq_true_eq, decide_eq_false_iff_not, Int64.lt_iff_toInt_lt, Int64.le_iff_toInt_le, ge_iff_le, gt_iff_lt, ← Int64.toInt_inj, ne_eq] at h1 ⊢; omega)) hc hl H locs la hP hD hS hz hla))
theorem c_lcmp_gtF {p1 p2 tg : Nat} {off : Int} {a b : Xp Int64} (ha : EO Y Value.long sl d pc p1 a) (hb : EO Y Value.long sl (d + 2) p1 p2 b) (hd0 : decode Y.1 p2 = .ok (.lcmp, 1)) (hd : decode Y.1 (p2 + 1) = .ok (.ifCond .gt off, 3)) (ho : ((p2 + 1 : Nat) : Int) + off = (tg : Int)) : CO Y sl d pc (p2 + 1 + 3) tg (o2 (fun x y => decide (x ≤ y)) a b) := by
  intro X cs G ls st h v9 h9 hf hdp kt kf
  obtain ⟨q, hq, hf⟩ := bnd hf
  obtain ⟨r, hr, hf⟩ := bnd hf
  cases hf
  refine ha X cs G ls st h q.1 q.2 hq hdp (hb X cs G ls _ q.2 r.1 r.2 hr (by simp only [dep, List.map_cons, List.sum_cons, Value.category] at hdp ⊢; omega) ?_)
  intro hc hl H locs la hP hD hS hz hla
  exact W.lcmp G.1 G.2.1 hd0 (lv_if_gt G.1 G.2.1 hd ho (fun e => kf (by rcases lgc_all q.1 r.1 with ⟨h1, h2⟩ | ⟨h1, h2⟩ | ⟨h1, h2⟩ <;> rw [h2] at e <;> first | (exfalso; revert e; decide) | (simp only [decide_eq_true_eq, decide_eq_false_iff_not, Int64.lt_iff_toInt_lt, Int64.le_iff_toInt_le, ge_iff_le, gt_iff_lt, ← Int64.toInt_inj, ne_eq] at h1 ⊢; omega)) hc hl H locs la hP hD hS hz hla) (fun e => kt (by rcases lgc_all q.1 r.1 with ⟨h1, h2⟩ | ⟨h1, h2⟩ | ⟨h1, h2⟩ <;> rw [h2] at e <;> first | (exfalso; revert e; decide) | (simp only [decide_eq_true_eq, decide_eq_false_iff_not, Int64.lt_iff_toInt_lt, Int64.le_iff_toInt_le, ge_iff_le, gt_iff_lt, ← Int64.toInt_inj, ne_eq] at h1 ⊢; omega)) hc hl H locs la hP hD hS hz hla))
theorem c_lcmp_leT {p1 p2 tg : Nat} {off : Int} {a b : Xp Int64} (ha : EO Y Value.long sl d pc p1 a) (hb : EO Y Value.long sl (d + 2) p1 p2 b) (hd0 : decode Y.1 p2 = .ok (.lcmp, 1)) (hd : decode Y.1 (p2 + 1) = .ok (.ifCond .le off, 3)) (ho : ((p2 + 1 : Nat) : Int) + off = (tg : Int)) : CO Y sl d pc tg (p2 + 1 + 3) (o2 (fun x y => decide (x ≤ y)) a b) := by
  intro X cs G ls st h v9 h9 hf hdp kt kf
  obtain ⟨q, hq, hf⟩ := bnd hf
  obtain ⟨r, hr, hf⟩ := bnd hf
  cases hf
  refine ha X cs G ls st h q.1 q.2 hq hdp (hb X cs G ls _ q.2 r.1 r.2 hr (by simp only [dep, List.map_cons, List.sum_cons, Value.category] at hdp ⊢; omega) ?_)
  intro hc hl H locs la hP hD hS hz hla
  exact W.lcmp G.1 G.2.1 hd0 (lv_if_le G.1 G.2.1 hd ho (fun e => kt (by rcases lgc_all q.1 r.1 with ⟨h1, h2⟩ | ⟨h1, h2⟩ | ⟨h1, h2⟩ <;> rw [h2] at e <;> first | (exfalso; revert e; decide) | (simp only [decide_eq_true_eq, decide_eq_false_iff_not, Int64.lt_iff_toInt_lt, Int64.le_iff_toInt_le, ge_iff_le, gt_iff_lt, ← Int64.toInt_inj, ne_eq] at h1 ⊢; omega)) hc hl H locs la hP hD hS hz hla) (fun e => kf (by rcases lgc_all q.1 r.1 with ⟨h1, h2⟩ | ⟨h1, h2⟩ | ⟨h1, h2⟩ <;> rw [h2] at e <;> first | (exfalso; revert e; decide) | (simp only [decide_eq_true_eq, decide_eq_false_iff_not, Int64.lt_iff_toInt_lt, Int64.le_iff_toInt_le, ge_iff_le, gt_iff_lt, ← Int64.toInt_inj, ne_eq] at h1 ⊢; omega)) hc hl H locs la hP hD hS hz hla))
theorem c_lcmp_leF {p1 p2 tg : Nat} {off : Int} {a b : Xp Int64} (ha : EO Y Value.long sl d pc p1 a) (hb : EO Y Value.long sl (d + 2) p1 p2 b) (hd0 : decode Y.1 p2 = .ok (.lcmp, 1)) (hd : decode Y.1 (p2 + 1) = .ok (.ifCond .le off, 3)) (ho : ((p2 + 1 : Nat) : Int) + off = (tg : Int)) : CO Y sl d pc (p2 + 1 + 3) tg (o2 (fun x y => decide (x > y)) a b) := by
  intro X cs G ls st h v9 h9 hf hdp kt kf
  obtain ⟨q, hq, hf⟩ := bnd hf
  obtain ⟨r, hr, hf⟩ := bnd hf
  cases hf
  refine ha X cs G ls st h q.1 q.2 hq hdp (hb X cs G ls _ q.2 r.1 r.2 hr (by simp only [dep, List.map_cons, List.sum_cons, Value.category] at hdp ⊢; omega) ?_)
  intro hc hl H locs la hP hD hS hz hla
  exact W.lcmp G.1 G.2.1 hd0 (lv_if_le G.1 G.2.1 hd ho (fun e => kf (by rcases lgc_all q.1 r.1 with ⟨h1, h2⟩ | ⟨h1, h2⟩ | ⟨h1, h2⟩ <;> rw [h2] at e <;> first | (exfalso; revert e; decide) | (simp only [decide_eq_true_eq, decide_eq_false_iff_not, Int64.lt_iff_toInt_lt, Int64.le_iff_toInt_le, ge_iff_le, gt_iff_lt, ← Int64.toInt_inj, ne_eq] at h1 ⊢; omega)) hc hl H locs la hP hD hS hz hla) (fun e => kt (by rcases lgc_all q.1 r.1 with ⟨h1, h2⟩ | ⟨h1, h2⟩ | ⟨h1, h2⟩ <;> rw [h2] at e <;> first | (exfalso; revert e; decide) | (simp only [decide_eq_true_eq, decide_eq_false_iff_not, Int64.lt_iff_toInt_lt, Int64.le_iff_toInt_le, ge_iff_le, gt_iff_lt, ← Int64.toInt_inj, ne_eq] at h1 ⊢; omega)) hc hl H locs la hP hD hS hz hla))
theorem a_nil : AO Y sl d pc pc [] := by
  intro X cs G ls st h vs h9 hf hdp k
  have hf : some (([] : List Value), h) = some (vs, h9) := hf
  cases hf
  exact k
theorem a_cons {α : Type} {ι : α → Value} {p1 p2 k0 : Nat} {a : Xp α} {fs : List (Xp Value)} (hk : ∀ v, (ι v).category = k0) (ha : EO Y ι sl d pc p1 a) (hb : AO Y sl (d + k0) p1 p2 fs) : AO Y sl d pc p2 (asV ι a :: fs) := by
  intro X cs G ls st h vs h9 hf hdp k
  obtain ⟨q, hq, hf⟩ := bnd hf
  obtain ⟨r, hr, hf⟩ := bnd hf
  cases hf
  obtain ⟨w, hw, hq⟩ := bnd hq
  cases hq
  refine ha X cs G ls st h w.1 w.2 hw hdp (hb X cs G ls _ w.2 r.1 r.2 hr ?_ ?_)
  · have := hk w.1
    simp only [dep, List.map_cons, List.sum_cons] at hdp ⊢
    omega
  · rw [List.reverse_cons, List.append_assoc] at k
    exact k
end EO
