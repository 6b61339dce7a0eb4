/-! The two texts: charAt, indexOf. -/
def chX (i : Xp Int32) : Xp Int32 := fun ls h => (i ls h).bind fun q => if ¬ (q.1 < 0 ∨ 160 ≤ q.1.toNatClampNeg) then some ((sxB.getD 0 []).getD q.1.toNatClampNeg 0, q.2) else none
/-- the first place of a byte in a row, from k on -/
def ixOf (b : Int32) : Nat → List Int32 → Int32
  | _, [] => ii (-1)
  | k, x :: xs => if x = b then Int32.ofNat k else ixOf b (k + 1) xs
def idX (c : Xp Int32) : Xp Int32 := fun ls h => (c ls h).bind fun q => some (if q.1 < 0 ∨ ii 255 < q.1 then ii (-1) else ixOf q.1.toInt8.toInt32 0 (sxB.getD 1 []), q.2)
/-- an expression that makes nothing and calls nothing: it goes on over any stack -/
def PO {α : Type} (Y : Yt) (ι : Nat → α → Value) (sl : List (Nat × Nat)) (pc pc' : Nat) (f : Xp α) : Prop :=
  ∀ X cs, Gd X Y → ∀ (ls : Ev) (h : Hp) (v : α) (h' : Hp), f ls h = some (v, h') → h' = h ∧ (cs.1 ≤ (xR X).cells ∧ cs.2 ≤ (xR X).slots → (ls.map fun v => v.category) = sl.map (·.2) → ∀ (H : Heap) (locs : List Loc) (la : Array Slot), va_P (xD X) CL (cW (xk X) (xb X) h) H → va_D (xA X) (cW (xk X) (xb X) h) → va_S (xA X) (xs X).heap H locs →
    (xz X = true → H.size = xb X + h.length) → lv_has la Y.2.1 ((sl.map (·.1)).zip (ls.map (cv (xb X)))) → ∀ st0 : List Value, XW X cs H locs (F0 (xm X) pc' la (ι (xb X) v :: st0)) → XW X cs H locs (F0 (xm X) pc la st0))
abbrev iP : Nat → Int32 → Value := fun _ v => .int v
abbrev rP : Nat → Nat → Value := fun b v => .ref (b + v)
section POS
variable {Y : Yt} {sl : List (Nat × Nat)} {d pc : Nat}
theorem p_iconst {n : Int} {v : Int32} (hd : decode Y.1 pc = .ok (.iconst n, 1)) (hv : Int32.ofInt n = v) : PO Y iP sl pc (pc + 1) (kI v) := by
  intro X cs G ls h v9 h9 hf
  have hf : some (v, h) = some (v9, h9) := hf
  cases hf
  exact ⟨rfl, fun hc hl H locs la hP hD hS hz hla st0 k => lv_iconst G.1 G.2.1 hd hv k⟩
theorem p_bipush {n : Int} {v : Int32} (hd : decode Y.1 pc = .ok (.bipush n, 2)) (hv : (Int8.ofInt n).toInt32 = v) : PO Y iP sl pc (pc + 2) (kI v) := by
  intro X cs G ls h v9 h9 hf
  have hf : some (v, h) = some (v9, h9) := hf
  cases hf
  exact ⟨rfl, fun hc hl H locs la hP hD hS hz hla st0 k => lv_bipush G.1 G.2.1 hd hv k⟩
theorem p_sipush {n : Int} {v : Int32} (hd : decode Y.1 pc = .ok (.sipush n, 3)) (hv : (Int16.ofInt n).toInt32 = v) : PO Y iP sl pc (pc + 3) (kI v) := by
  intro X cs G ls h v9 h9 hf
  have hf : some (v, h) = some (v9, h9) := hf
  cases hf
  exact ⟨rfl, fun hc hl H locs la hP hD hS hz hla st0 k => lv_sipush G.1 G.2.1 hd hv k⟩
theorem p_iload_n {k0 i c0 : Nat} {n : Fin 4} (hd : decode Y.1 pc = .ok (.iload_n n, 1)) (hi : (n : Nat) = i) (hs : sl[k0]? = some (i, c0)) : PO Y iP sl pc (pc + 1) (vI k0) := by
  intro X cs G ls h v9 h9 hf
  have hv : ls[k0]? = some (.int v9) ∧ h9 = h := by
    unfold vI at hf
    split at hf
    · cases hf; exact ⟨by assumption, rfl⟩
    · cases hf
  obtain ⟨hv, rfl⟩ := hv
  exact ⟨rfl, fun hc hl H locs la hP hD hS hz hla st0 k => lv_iload_n G.1 G.2.1 hd hi (lv_at hla k0 (zp hs hv)) k⟩
theorem p_iload {k0 i c0 : Nat} (hd : decode Y.1 pc = .ok (.iload i, 2)) (hs : sl[k0]? = some (i, c0)) : PO Y iP sl pc (pc + 2) (vI k0) := by
  intro X cs G ls h v9 h9 hf
  have hv : ls[k0]? = some (.int v9) ∧ h9 = h := by
    unfold vI at hf
    split at hf
    · cases hf; exact ⟨by assumption, rfl⟩
    · cases hf
  obtain ⟨hv, rfl⟩ := hv
  exact ⟨rfl, fun hc hl H locs la hP hD hS hz hla st0 k => lv_iload G.1 G.2.1 hd (lv_at hla k0 (zp hs hv)) k⟩
theorem p_aload_n {k0 i c0 : Nat} {n : Fin 4} (hd : decode Y.1 pc = .ok (.aload_n n, 1)) (hi : (n : Nat) = i) (hs : sl[k0]? = some (i, c0)) : PO Y rP sl pc (pc + 1) (vR k0) := by
  intro X cs G ls h v9 h9 hf
  have hv : ls[k0]? = some (.ref v9) ∧ h9 = h := by
    unfold vR at hf
    split at hf
    · cases hf; exact ⟨by assumption, rfl⟩
    · cases hf
  obtain ⟨hv, rfl⟩ := hv
  exact ⟨rfl, fun hc hl H locs la hP hD hS hz hla st0 k => lv_aload_n G.1 G.2.1 hd hi (lv_at hla k0 (zp hs hv)) k⟩
theorem p_iadd {p1 p2 : Nat} {a b : Xp Int32} (ha : PO Y iP sl pc p1 a) (hb : PO Y iP sl p1 p2 b) (hd : decode Y.1 p2 = .ok (.iadd, 1)) : PO Y iP sl pc (p2 + 1) (o2 (fun x y => x + y) a b) := by
  intro X cs G ls h v9 h9 hf
  obtain ⟨q, hq, hf⟩ := bnd hf
  obtain ⟨r, hr, hf⟩ := bnd hf
  cases hf
  obtain ⟨e1, k1⟩ := ha X cs G ls h q.1 q.2 hq
  rw [e1] at hr
  obtain ⟨e2, k2⟩ := hb X cs G ls h r.1 r.2 hr
  exact ⟨e2, fun hc hl H locs la hP hD hS hz hla st0 k => k1 hc hl H locs la hP hD hS hz hla st0 (k2 hc hl H locs la hP hD hS hz hla _ (lv_iadd G.1 G.2.1 hd k))⟩
theorem p_imul {p1 p2 : Nat} {a b : Xp Int32} (ha : PO Y iP sl pc p1 a) (hb : PO Y iP sl p1 p2 b) (hd : decode Y.1 p2 = .ok (.imul, 1)) : PO Y iP sl pc (p2 + 1) (o2 (fun x y => x * y) a b) := by
  intro X cs G ls h v9 h9 hf
  obtain ⟨q, hq, hf⟩ := bnd hf
  obtain ⟨r, hr, hf⟩ := bnd hf
  cases hf
  obtain ⟨e1, k1⟩ := ha X cs G ls h q.1 q.2 hq
  rw [e1] at hr
  obtain ⟨e2, k2⟩ := hb X cs G ls h r.1 r.2 hr
  exact ⟨e2, fun hc hl H locs la hP hD hS hz hla st0 k => k1 hc hl H locs la hP hD hS hz hla st0 (k2 hc hl H locs la hP hD hS hz hla _ (lv_imul G.1 G.2.1 hd k))⟩
theorem p_iand {p1 p2 : Nat} {a b : Xp Int32} (ha : PO Y iP sl pc p1 a) (hb : PO Y iP sl p1 p2 b) (hd : decode Y.1 p2 = .ok (.iand, 1)) : PO Y iP sl pc (p2 + 1) (o2 (fun x y => x &&& y) a b) := by
  intro X cs G ls h v9 h9 hf
  obtain ⟨q, hq, hf⟩ := bnd hf
  obtain ⟨r, hr, hf⟩ := bnd hf
  cases hf
  obtain ⟨e1, k1⟩ := ha X cs G ls h q.1 q.2 hq
  rw [e1] at hr
  obtain ⟨e2, k2⟩ := hb X cs G ls h r.1 r.2 hr
  exact ⟨e2, fun hc hl H locs la hP hD hS hz hla st0 k => k1 hc hl H locs la hP hD hS hz hla st0 (k2 hc hl H locs la hP hD hS hz hla _ (lv_iand G.1 G.2.1 hd k))⟩
theorem p_i2c {p1 : Nat} {a : Xp Int32} (ha : PO Y iP sl pc p1 a) (hd : decode Y.1 p1 = .ok (.i2c, 1)) : PO Y iP sl pc (p1 + 1) (o1 (fun x => (x.toUInt32 % 65536).toInt32) a) := by
  intro X cs G ls h v9 h9 hf
  obtain ⟨q, hq, hf⟩ := bnd hf
  cases hf
  obtain ⟨e1, k1⟩ := ha X cs G ls h q.1 q.2 hq
  exact ⟨e1, fun hc hl H locs la hP hD hS hz hla st0 k => k1 hc hl H locs la hP hD hS hz hla st0 (lv_i2c G.1 G.2.1 hd rfl k)⟩
theorem p_gR {ci k0 p1 i : Nat} {o : Xp Nat} {C : String} {T : u_T} {N : Nat} {ty : Nat → FieldType} (hC : Cf ci C T N ty) (ho : PO Y rP sl pc p1 o) (hk : k0 < N) (hw : Cond.fieldLink Y.2.2.1 i (T k0).1 (T k0).2.1 (T k0).2.2.1 ∈ TB) (hd : decode Y.1 p1 = .ok (.getfield i, 3)) : PO Y rP sl pc (p1 + 3) (gR ci k0 o) := by
  intro X cs G ls h v9 h9 hf
  obtain ⟨q, hq, hf⟩ := bnd hf
  split at hf
  · rename_i x hx
    cases hf
    obtain ⟨e1, k1⟩ := ho X cs G ls h q.1 q.2 hq
    obtain ⟨fs, g1, g2⟩ := hO_spec hx
    rw [e1] at g1
    refine ⟨e1, fun hc hl H locs la hP hD hS hz hla st0 k => k1 hc hl H locs la hP hD hS hz hla st0 ?_⟩
    exact va_get (D := xD X) (cl := CL) (v := cv (xb X) (.ref v9)) G.1 G.2.1 G.2.2.2.2.1 hC.2.1 G.2.2.2.1 G.2.2.2.2.2.1 hP q.1 (cW_at g1) hC.1 k0 hk (G.2.2.2.2.1 _ hw) (fun _ e => e) (by rw [List.getElem?_map, g2]; rfl) hd k
  · cases hf
theorem p_bald {p1 p2 : Nat} {a : Xp Nat} {i : Xp Int32} (ha : PO Y rP sl pc p1 a) (hi : PO Y iP sl p1 p2 i) (hd : decode Y.1 p2 = .ok (.baload, 1)) : PO Y iP sl pc (p2 + 1) (aI 1 a i) := by
  intro X cs G ls h v9 h9 hf
  obtain ⟨q, hq, hf⟩ := bnd hf
  obtain ⟨r, hr, hf⟩ := bnd hf
  obtain ⟨w, hw, hf⟩ := bnd hf
  split at hf
  · rename_i hin
    cases hf
    obtain ⟨e1, k1⟩ := ha X cs G ls h q.1 q.2 hq
    rw [e1] at hr
    obtain ⟨e2, k2⟩ := hi X cs G ls h r.1 r.2 hr
    have hw := hAI_spec hw
    rw [e2] at hw
    exact ⟨e2, fun hc hl H locs la hP hD hS hz hla st0 k => k1 hc hl H locs la hP hD hS hz hla st0 (k2 hc hl H locs la hP hD hS hz hla _ (va_bald (D := xD X) (cl := CL) G.1 G.2.1 G.2.2.2.2.2.1 hP q.1 1 (cW_at hw) rfl hin hd k))⟩
  · cases hf
theorem e_chr {p1 i : Nat} {x : Xp Int32} (ho : Y.2.2.1 = "BlinkerCross$Tape") (hd0 : decode Y.1 pc = .ok (.ldc 68, 2)) (hx : PO Y iP sl (pc + 2) p1 x) (hw : Cond.methodLink Y.2.2.1 i ⟨"java/lang/String", "charAt", "(I)C"⟩ ∈ TB) (hd : decode Y.1 p1 = .ok (.invokevirtual i, 3)) (hL : 5 ≤ Y.2.2.2.1) (h8 : d ≤ 8) : EO Y Value.int sl d pc (p1 + 3) (chX x) := by
  sorry
theorem e_idx {p1 i : Nat} {x : Xp Int32} (ho : Y.2.2.1 = "BlinkerCross$Tape") (hd0 : decode Y.1 pc = .ok (.ldc 54, 2)) (hx : PO Y iP sl (pc + 2) p1 x) (hw : Cond.methodLink Y.2.2.1 i ⟨"java/lang/String", "indexOf", "(I)I"⟩ ∈ TB) (hd : decode Y.1 p1 = .ok (.invokevirtual i, 3)) (hL : 5 ≤ Y.2.2.2.1) (h8 : d ≤ 8) : EO Y Value.int sl d pc (p1 + 3) (idX x) := by
  sorry
end POS
