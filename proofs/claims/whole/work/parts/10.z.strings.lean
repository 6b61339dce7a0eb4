/-! The two texts: charAt, indexOf. -/
def chX (i : Xp Int32) : Xp Int32 := fun ls h => (i ls h).bind fun q => if ¬ (q.1 < 0 ∨ 160 ≤ q.1.toNatClampNeg) then some ((sxB.getD 0 []).getD q.1.toNatClampNeg 0, q.2) else none
/-- the first place of a byte in a row, from k on -/
def ixOf (b : Int32) : Nat → List Int32 → Int32
  | _, [] => ii (-1)
  | k, x :: xs => if x = b then Int32.ofNat k else ixOf b (k + 1) xs
def idX (c : Xp Int32) : Xp Int32 := fun ls h => (c ls h).bind fun q => some (if q.1 < 0 ∨ ii 255 < q.1 then ii (-1) else ixOf q.1.toInt8.toInt32 0 (sxB.getD 1 []), q.2)
/-- an expression that makes nothing and calls nothing: it goes on over any stack -/
def PO {α : Type} (Y : Yt) (ι : Nat → α → Value) (sl : List (Nat × Nat)) (pc pc' : Nat) (f : Xp α) : Prop :=
  ∀ X cs, Gd X Y → ∀ (ls : Ev) (h : Hp) (v : α) (h' : Hp), f ls h = some (v, h') → h' = h ∧ (cs.1 ≤ (xR X).cells ∧ cs.2 ≤ (xR X).slots → (ls.map fun v => v.category) = sl.map (·.2) → ∀ (H : Heap) (locs : List Loc) (la : Array Slot), va_P (xD X) CL (cW (xk X) (xb X) h) H → va_D (xA X) (cW (xk X) (xb X) h) → va_S (xA X) (xs X).heap H locs →
    (xz X = true → H.size = xb X + h.length) → lv_has la Y.2.1 ((sl.map (·.1)).zip (ls.map (cv (xb X)))) → ∀ st0 : List Value, XW X cs H locs (F0 (xm X) pc' la (ι (xb X) v :: st0)) → XW X cs H locs (F0 (xm X) pc la st0))
abbrev iP : Nat → Int32 → Value := fun _ v => .int v
abbrev rP : Nat → Nat → Value := fun b v => .ref (b + v)
section POS
variable {Y : Yt} {sl : List (Nat × Nat)} {d pc : Nat}
theorem p_iconst {n : Int} {v : Int32} (hd : decode Y.1 pc = .ok (.iconst n, 1)) (hv : Int32.ofInt n = v) : PO Y iP sl pc (pc + 1) (kI v) := by
  intro X cs G ls h v9 h9 hf
  have hf : some (v, h) = some (v9, h9) := hf
  cases hf
  exact ⟨rfl, fun hc hl H locs la hP hD hS hz hla st0 k => lv_iconst G.1 G.2.1 hd hv k⟩
theorem p_bipush {n : Int} {v : Int32} (hd : decode Y.1 pc = .ok (.bipush n, 2)) (hv : (Int8.ofInt n).toInt32 = v) : PO Y iP sl pc (pc + 2) (kI v) := by
  intro X cs G ls h v9 h9 hf
  have hf : some (v, h) = some (v9, h9) := hf
  cases hf
  exact ⟨rfl, fun hc hl H locs la hP hD hS hz hla st0 k => lv_bipush G.1 G.2.1 hd hv k⟩
theorem p_sipush {n : Int} {v : Int32} (hd : decode Y.1 pc = .ok (.sipush n, 3)) (hv : (Int16.ofInt n).toInt32 = v) : PO Y iP sl pc (pc + 3) (kI v) := by
  intro X cs G ls h v9 h9 hf
  have hf : some (v, h) = some (v9, h9) := hf
  cases hf
  exact ⟨rfl, fun hc hl H locs la hP hD hS hz hla st0 k => lv_sipush G.1 G.2.1 hd hv k⟩
theorem p_iload_n {k0 i c0 : Nat} {n : Fin 4} (hd : decode Y.1 pc = .ok (.iload_n n, 1)) (hi : (n : Nat) = i) (hs : sl[k0]? = some (i, c0)) : PO Y iP sl pc (pc + 1) (vI k0) := by
  intro X cs G ls h v9 h9 hf
  have hv : ls[k0]? = some (.int v9) ∧ h9 = h := by
    unfold vI at hf
    split at hf
    · cases hf; exact ⟨by assumption, rfl⟩
    · cases hf
  obtain ⟨hv, rfl⟩ := hv
  exact ⟨rfl, fun hc hl H locs la hP hD hS hz hla st0 k => lv_iload_n G.1 G.2.1 hd hi (lv_at hla k0 (zp hs hv)) k⟩
theorem p_iload {k0 i c0 : Nat} (hd : decode Y.1 pc = .ok (.iload i, 2)) (hs : sl[k0]? = some (i, c0)) : PO Y iP sl pc (pc + 2) (vI k0) := by
  intro X cs G ls h v9 h9 hf
  have hv : ls[k0]? = some (.int v9) ∧ h9 = h := by
    unfold vI at hf
    split at hf
    · cases hf; exact ⟨by assumption, rfl⟩
    · cases hf
  obtain ⟨hv, rfl⟩ := hv
  exact ⟨rfl, fun hc hl H locs la hP hD hS hz hla st0 k => lv_iload G.1 G.2.1 hd (lv_at hla k0 (zp hs hv)) k⟩
theorem p_aload_n {k0 i c0 : Nat} {n : Fin 4} (hd : decode Y.1 pc = .ok (.aload_n n, 1)) (hi : (n : Nat) = i) (hs : sl[k0]? = some (i, c0)) : PO Y rP sl pc (pc + 1) (vR k0) := by
  intro X cs G ls h v9 h9 hf
  have hv : ls[k0]? = some (.ref v9) ∧ h9 = h := by
    unfold vR at hf
    split at hf
    · cases hf; exact ⟨by assumption, rfl⟩
    · cases hf
  obtain ⟨hv, rfl⟩ := hv
  exact ⟨rfl, fun hc hl H locs la hP hD hS hz hla st0 k => lv_aload_n G.1 G.2.1 hd hi (lv_at hla k0 (zp hs hv)) k⟩
theorem p_iadd {p1 p2 : Nat} {a b : Xp Int32} (ha : PO Y iP sl pc p1 a) (hb : PO Y iP sl p1 p2 b) (hd : decode Y.1 p2 = .ok (.iadd, 1)) : PO Y iP sl pc (p2 + 1) (o2 (fun x y => x + y) a b) := by
  intro X cs G ls h v9 h9 hf
  obtain ⟨q, hq, hf⟩ := bnd hf
  obtain ⟨r, hr, hf⟩ := bnd hf
  cases hf
  obtain ⟨e1, k1⟩ := ha X cs G ls h q.1 q.2 hq
  rw [e1] at hr
  obtain ⟨e2, k2⟩ := hb X cs G ls h r.1 r.2 hr
  exact ⟨e2, fun hc hl H locs la hP hD hS hz hla st0 k => k1 hc hl H locs la hP hD hS hz hla st0 (k2 hc hl H locs la hP hD hS hz hla _ (lv_iadd G.1 G.2.1 hd k))⟩
theorem p_imul {p1 p2 : Nat} {a b : Xp Int32} (ha : PO Y iP sl pc p1 a) (hb : PO Y iP sl p1 p2 b) (hd : decode Y.1 p2 = .ok (.imul, 1)) : PO Y iP sl pc (p2 + 1) (o2 (fun x y => x * y) a b) := by
  intro X cs G ls h v9 h9 hf
  obtain ⟨q, hq, hf⟩ := bnd hf
  obtain ⟨r, hr, hf⟩ := bnd hf
  cases hf
  obtain ⟨e1, k1⟩ := ha X cs G ls h q.1 q.2 hq
  rw [e1] at hr
  obtain ⟨e2, k2⟩ := hb X cs G ls h r.1 r.2 hr
  exact ⟨e2, fun hc hl H locs la hP hD hS hz hla st0 k => k1 hc hl H locs la hP hD hS hz hla st0 (k2 hc hl H locs la hP hD hS hz hla _ (lv_imul G.1 G.2.1 hd k))⟩
theorem p_iand {p1 p2 : Nat} {a b : Xp Int32} (ha : PO Y iP sl pc p1 a) (hb : PO Y iP sl p1 p2 b) (hd : decode Y.1 p2 = .ok (.iand, 1)) : PO Y iP sl pc (p2 + 1) (o2 (fun x y => x &&& y) a b) := by
  intro X cs G ls h v9 h9 hf
  obtain ⟨q, hq, hf⟩ := bnd hf
  obtain ⟨r, hr, hf⟩ := bnd hf
  cases hf
  obtain ⟨e1, k1⟩ := ha X cs G ls h q.1 q.2 hq
  rw [e1] at hr
  obtain ⟨e2, k2⟩ := hb X cs G ls h r.1 r.2 hr
  exact ⟨e2, fun hc hl H locs la hP hD hS hz hla st0 k => k1 hc hl H locs la hP hD hS hz hla st0 (k2 hc hl H locs la hP hD hS hz hla _ (lv_iand G.1 G.2.1 hd k))⟩
theorem p_i2c {p1 : Nat} {a : Xp Int32} (ha : PO Y iP sl pc p1 a) (hd : decode Y.1 p1 = .ok (.i2c, 1)) : PO Y iP sl pc (p1 + 1) (o1 (fun x => (x.toUInt32 % 65536).toInt32) a) := by
  intro X cs G ls h v9 h9 hf
  obtain ⟨q, hq, hf⟩ := bnd hf
  cases hf
  obtain ⟨e1, k1⟩ := ha X cs G ls h q.1 q.2 hq
  exact ⟨e1, fun hc hl H locs la hP hD hS hz hla st0 k => k1 hc hl H locs la hP hD hS hz hla st0 (lv_i2c G.1 G.2.1 hd rfl k)⟩
theorem p_gR {ci k0 p1 i : Nat} {o : Xp Nat} {C : String} {T : u_T} {N : Nat} {ty : Nat → FieldType} (hC : Cf ci C T N ty) (ho : PO Y rP sl pc p1 o) (hk : k0 < N) (hw : Cond.fieldLink Y.2.2.1 i (T k0).1 (T k0).2.1 (T k0).2.2.1 ∈ TB) (hd : decode Y.1 p1 = .ok (.getfield i, 3)) : PO Y rP sl pc (p1 + 3) (gR ci k0 o) := by
  intro X cs G ls h v9 h9 hf
  obtain ⟨q, hq, hf⟩ := bnd hf
  split at hf
  · rename_i x hx
    cases hf
    obtain ⟨e1, k1⟩ := ho X cs G ls h q.1 q.2 hq
    obtain ⟨fs, g1, g2⟩ := hO_spec hx
    rw [e1] at g1
    refine ⟨e1, fun hc hl H locs la hP hD hS hz hla st0 k => k1 hc hl H locs la hP hD hS hz hla st0 ?_⟩
    exact va_get (D := xD X) (cl := CL) (v := cv (xb X) (.ref v9)) G.1 G.2.1 G.2.2.2.2.1 hC.2.1 G.2.2.2.1 G.2.2.2.2.2.1 hP q.1 (cW_at g1) hC.1 k0 hk (G.2.2.2.2.1 _ hw) (fun _ e => e) (by rw [List.getElem?_map, g2]; rfl) hd k
  · cases hf
theorem p_bald {p1 p2 : Nat} {a : Xp Nat} {i : Xp Int32} (ha : PO Y rP sl pc p1 a) (hi : PO Y iP sl p1 p2 i) (hd : decode Y.1 p2 = .ok (.baload, 1)) : PO Y iP sl pc (p2 + 1) (aI 1 a i) := by
  intro X cs G ls h v9 h9 hf
  obtain ⟨q, hq, hf⟩ := bnd hf
  obtain ⟨r, hr, hf⟩ := bnd hf
  obtain ⟨w, hw, hf⟩ := bnd hf
  split at hf
  · rename_i hin
    cases hf
    obtain ⟨e1, k1⟩ := ha X cs G ls h q.1 q.2 hq
    rw [e1] at hr
    obtain ⟨e2, k2⟩ := hi X cs G ls h r.1 r.2 hr
    have hw := hAI_spec hw
    rw [e2] at hw
    exact ⟨e2, fun hc hl H locs la hP hD hS hz hla st0 k => k1 hc hl H locs la hP hD hS hz hla st0 (k2 hc hl H locs la hP hD hS hz hla _ (va_bald (D := xD X) (cl := CL) G.1 G.2.1 G.2.2.2.2.2.1 hP q.1 1 (cW_at hw) rfl hin hd k))⟩
  · cases hf
end POS
/-! The library on the two texts (words and bytes written by wip/whole/gen_h6.py). -/
theorem tw_135 : Cond.initialized "java/lang/String" ∈ TB := tb_mem (i := 135) (by decide +kernel) (by decide +kernel)
theorem tw_136 : Cond.initialized "java/lang/StringLatin1" ∈ TB := tb_mem (i := 136) (by decide +kernel) (by decide +kernel)
theorem tw_137 : Cond.initialized "jdk/internal/util/Preconditions" ∈ TB := tb_mem (i := 137) (by decide +kernel) (by decide +kernel)
theorem tw_649 : Cond.instanceMethod ⟨"java/lang/String", "charAt", "(I)C"⟩ ∈ TB := tb_mem (i := 649) (by decide +kernel) (by decide +kernel)
theorem tw_650 : Cond.selects "java/lang/String" ⟨"java/lang/String", "charAt", "(I)C"⟩ ⟨"java/lang/String", "charAt", "(I)C"⟩ ∈ TB := tb_mem (i := 650) (by decide +kernel) (by decide +kernel)
theorem tw_651 : Cond.code ⟨"java/lang/String", "charAt", "(I)C"⟩ prog_18_method_56_code 2 (some .char) ∈ TB := tb_mem (i := 651) (by decide +kernel) (by decide +kernel)
theorem tw_652 : Cond.methodLink "java/lang/String" 492 ⟨"java/lang/String", "isLatin1", "()Z"⟩ ∈ TB := tb_mem (i := 652) (by decide +kernel) (by decide +kernel)
theorem tw_653 : Cond.instanceMethod ⟨"java/lang/String", "isLatin1", "()Z"⟩ ∈ TB := tb_mem (i := 653) (by decide +kernel) (by decide +kernel)
theorem tw_654 : Cond.selects "java/lang/String" ⟨"java/lang/String", "isLatin1", "()Z"⟩ ⟨"java/lang/String", "isLatin1", "()Z"⟩ ∈ TB := tb_mem (i := 654) (by decide +kernel) (by decide +kernel)
theorem tw_655 : Cond.code ⟨"java/lang/String", "isLatin1", "()Z"⟩ prog_18_method_154_code 1 (some .boolean) ∈ TB := tb_mem (i := 655) (by decide +kernel) (by decide +kernel)
theorem tw_656 : Cond.fieldLink "java/lang/String" 38 "java/lang/String" "COMPACT_STRINGS" "Z" ∈ TB := tb_mem (i := 656) (by decide +kernel) (by decide +kernel)
theorem tw_658 : Cond.methodLink "java/lang/String" 495 ⟨"java/lang/StringLatin1", "charAt", "([BI)C"⟩ ∈ TB := tb_mem (i := 658) (by decide +kernel) (by decide +kernel)
theorem tw_659 : Cond.static ⟨"java/lang/StringLatin1", "charAt", "([BI)C"⟩ ∈ TB := tb_mem (i := 659) (by decide +kernel) (by decide +kernel)
theorem tw_660 : Cond.code ⟨"java/lang/StringLatin1", "charAt", "([BI)C"⟩ prog_19_method_2_code 2 (some .char) ∈ TB := tb_mem (i := 660) (by decide +kernel) (by decide +kernel)
theorem tw_661 : Cond.methodLink "java/lang/StringLatin1" 9 ⟨"java/lang/String", "checkIndex", "(II)V"⟩ ∈ TB := tb_mem (i := 661) (by decide +kernel) (by decide +kernel)
theorem tw_662 : Cond.static ⟨"java/lang/String", "checkIndex", "(II)V"⟩ ∈ TB := tb_mem (i := 662) (by decide +kernel) (by decide +kernel)
theorem tw_663 : Cond.code ⟨"java/lang/String", "checkIndex", "(II)V"⟩ prog_18_method_155_code 2 none ∈ TB := tb_mem (i := 663) (by decide +kernel) (by decide +kernel)
theorem tw_664 : Cond.fieldLink "java/lang/String" 1053 "jdk/internal/util/Preconditions" "SIOOBE_FORMATTER" "Ljava/util/function/BiFunction;" ∈ TB := tb_mem (i := 664) (by decide +kernel) (by decide +kernel)
theorem tw_666 : Cond.methodLink "java/lang/String" 1059 ⟨"jdk/internal/util/Preconditions", "checkIndex", "(IILjava/util/function/BiFunction;)I"⟩ ∈ TB := tb_mem (i := 666) (by decide +kernel) (by decide +kernel)
theorem tw_667 : Cond.static ⟨"jdk/internal/util/Preconditions", "checkIndex", "(IILjava/util/function/BiFunction;)I"⟩ ∈ TB := tb_mem (i := 667) (by decide +kernel) (by decide +kernel)
theorem tw_668 : Cond.code ⟨"jdk/internal/util/Preconditions", "checkIndex", "(IILjava/util/function/BiFunction;)I"⟩ prog_22_method_11_code 3 (some .int) ∈ TB := tb_mem (i := 668) (by decide +kernel) (by decide +kernel)
theorem tw_698 : Cond.instanceMethod ⟨"java/lang/String", "indexOf", "(I)I"⟩ ∈ TB := tb_mem (i := 698) (by decide +kernel) (by decide +kernel)
theorem tw_699 : Cond.selects "java/lang/String" ⟨"java/lang/String", "indexOf", "(I)I"⟩ ⟨"java/lang/String", "indexOf", "(I)I"⟩ ∈ TB := tb_mem (i := 699) (by decide +kernel) (by decide +kernel)
theorem tw_700 : Cond.code ⟨"java/lang/String", "indexOf", "(I)I"⟩ prog_18_method_79_code 2 (some .int) ∈ TB := tb_mem (i := 700) (by decide +kernel) (by decide +kernel)
theorem tw_701 : Cond.methodLink "java/lang/String" 633 ⟨"java/lang/String", "indexOf", "(II)I"⟩ ∈ TB := tb_mem (i := 701) (by decide +kernel) (by decide +kernel)
theorem tw_702 : Cond.instanceMethod ⟨"java/lang/String", "indexOf", "(II)I"⟩ ∈ TB := tb_mem (i := 702) (by decide +kernel) (by decide +kernel)
theorem tw_703 : Cond.selects "java/lang/String" ⟨"java/lang/String", "indexOf", "(II)I"⟩ ⟨"java/lang/String", "indexOf", "(II)I"⟩ ∈ TB := tb_mem (i := 703) (by decide +kernel) (by decide +kernel)
theorem tw_704 : Cond.code ⟨"java/lang/String", "indexOf", "(II)I"⟩ prog_18_method_80_code 3 (some .int) ∈ TB := tb_mem (i := 704) (by decide +kernel) (by decide +kernel)
theorem tw_705 : Cond.methodLink "java/lang/String" 505 ⟨"java/lang/String", "length", "()I"⟩ ∈ TB := tb_mem (i := 705) (by decide +kernel) (by decide +kernel)
theorem tw_706 : Cond.instanceMethod ⟨"java/lang/String", "length", "()I"⟩ ∈ TB := tb_mem (i := 706) (by decide +kernel) (by decide +kernel)
theorem tw_707 : Cond.selects "java/lang/String" ⟨"java/lang/String", "length", "()I"⟩ ⟨"java/lang/String", "length", "()I"⟩ ∈ TB := tb_mem (i := 707) (by decide +kernel) (by decide +kernel)
theorem tw_708 : Cond.code ⟨"java/lang/String", "length", "()I"⟩ prog_18_method_54_code 1 (some .int) ∈ TB := tb_mem (i := 708) (by decide +kernel) (by decide +kernel)
theorem tw_709 : Cond.methodLink "java/lang/String" 335 ⟨"java/lang/String", "coder", "()B"⟩ ∈ TB := tb_mem (i := 709) (by decide +kernel) (by decide +kernel)
theorem tw_710 : Cond.instanceMethod ⟨"java/lang/String", "coder", "()B"⟩ ∈ TB := tb_mem (i := 710) (by decide +kernel) (by decide +kernel)
theorem tw_711 : Cond.selects "java/lang/String" ⟨"java/lang/String", "coder", "()B"⟩ ⟨"java/lang/String", "coder", "()B"⟩ ∈ TB := tb_mem (i := 711) (by decide +kernel) (by decide +kernel)
theorem tw_712 : Cond.code ⟨"java/lang/String", "coder", "()B"⟩ prog_18_method_152_code 1 (some .byte) ∈ TB := tb_mem (i := 712) (by decide +kernel) (by decide +kernel)
theorem tw_713 : Cond.methodLink "java/lang/String" 637 ⟨"java/lang/StringLatin1", "indexOf", "([BIII)I"⟩ ∈ TB := tb_mem (i := 713) (by decide +kernel) (by decide +kernel)
theorem tw_714 : Cond.static ⟨"java/lang/StringLatin1", "indexOf", "([BIII)I"⟩ ∈ TB := tb_mem (i := 714) (by decide +kernel) (by decide +kernel)
theorem tw_715 : Cond.code ⟨"java/lang/StringLatin1", "indexOf", "([BIII)I"⟩ prog_19_method_22_code 4 (some .int) ∈ TB := tb_mem (i := 715) (by decide +kernel) (by decide +kernel)
theorem tw_716 : Cond.methodLink "java/lang/StringLatin1" 88 ⟨"java/lang/StringLatin1", "canEncode", "(I)Z"⟩ ∈ TB := tb_mem (i := 716) (by decide +kernel) (by decide +kernel)
theorem tw_717 : Cond.static ⟨"java/lang/StringLatin1", "canEncode", "(I)Z"⟩ ∈ TB := tb_mem (i := 717) (by decide +kernel) (by decide +kernel)
theorem tw_718 : Cond.code ⟨"java/lang/StringLatin1", "canEncode", "(I)Z"⟩ prog_19_method_4_code 1 (some .boolean) ∈ TB := tb_mem (i := 718) (by decide +kernel) (by decide +kernel)
theorem tw_719 : Cond.methodLink "java/lang/StringLatin1" 92 ⟨"java/lang/Math", "max", "(II)I"⟩ ∈ TB := tb_mem (i := 719) (by decide +kernel) (by decide +kernel)
theorem tw_722 : Cond.methodLink "java/lang/StringLatin1" 38 ⟨"java/lang/Math", "min", "(II)I"⟩ ∈ TB := tb_mem (i := 722) (by decide +kernel) (by decide +kernel)
theorem tw_725 : Cond.methodLink "java/lang/StringLatin1" 95 ⟨"java/lang/StringLatin1", "indexOfChar", "([BIII)I"⟩ ∈ TB := tb_mem (i := 725) (by decide +kernel) (by decide +kernel)
theorem tw_726 : Cond.static ⟨"java/lang/StringLatin1", "indexOfChar", "([BIII)I"⟩ ∈ TB := tb_mem (i := 726) (by decide +kernel) (by decide +kernel)
theorem tw_727 : Cond.code ⟨"java/lang/StringLatin1", "indexOfChar", "([BIII)I"⟩ prog_19_method_23_code 6 (some .int) ∈ TB := tb_mem (i := 727) (by decide +kernel) (by decide +kernel)
theorem tw_2049 : Cond.fieldLink "java/lang/String" 15 "java/lang/String" "coder" "B" ∈ TB := tb_mem (i := 2049) (by decide +kernel) (by decide +kernel)
theorem tw_2050 : Cond.fieldLink "java/lang/String" 9 "java/lang/String" "value" "[B" ∈ TB := tb_mem (i := 2050) (by decide +kernel) (by decide +kernel)
theorem dq_isL_0 : decode prog_18_method_154_code 0 = .ok (.getstatic 38, 3) := by decide +kernel
theorem dq_isL_3 : decode prog_18_method_154_code 3 = .ok (.ifCond .eq 14, 3) := by decide +kernel
theorem dq_isL_6 : decode prog_18_method_154_code 6 = .ok (.aload_n 0, 1) := by decide +kernel
theorem dq_isL_7 : decode prog_18_method_154_code 7 = .ok (.getfield 15, 3) := by decide +kernel
theorem dq_isL_10 : decode prog_18_method_154_code 10 = .ok (.ifCond .ne 7, 3) := by decide +kernel
theorem dq_isL_13 : decode prog_18_method_154_code 13 = .ok (.iconst 1, 1) := by decide +kernel
theorem dq_isL_14 : decode prog_18_method_154_code 14 = .ok (.goto 4, 3) := by decide +kernel
theorem dq_isL_17 : decode prog_18_method_154_code 17 = .ok (.iconst 0, 1) := by decide +kernel
theorem dq_isL_18 : decode prog_18_method_154_code 18 = .ok (.ireturn, 1) := by decide +kernel
theorem dq_cod_0 : decode prog_18_method_152_code 0 = .ok (.getstatic 38, 3) := by decide +kernel
theorem dq_cod_3 : decode prog_18_method_152_code 3 = .ok (.ifCond .eq 10, 3) := by decide +kernel
theorem dq_cod_6 : decode prog_18_method_152_code 6 = .ok (.aload_n 0, 1) := by decide +kernel
theorem dq_cod_7 : decode prog_18_method_152_code 7 = .ok (.getfield 15, 3) := by decide +kernel
theorem dq_cod_10 : decode prog_18_method_152_code 10 = .ok (.goto 4, 3) := by decide +kernel
theorem dq_cod_13 : decode prog_18_method_152_code 13 = .ok (.iconst 1, 1) := by decide +kernel
theorem dq_cod_14 : decode prog_18_method_152_code 14 = .ok (.ireturn, 1) := by decide +kernel
theorem dq_len_0 : decode prog_18_method_54_code 0 = .ok (.aload_n 0, 1) := by decide +kernel
theorem dq_len_1 : decode prog_18_method_54_code 1 = .ok (.getfield 9, 3) := by decide +kernel
theorem dq_len_4 : decode prog_18_method_54_code 4 = .ok (.arraylength, 1) := by decide +kernel
theorem dq_len_5 : decode prog_18_method_54_code 5 = .ok (.aload_n 0, 1) := by decide +kernel
theorem dq_len_6 : decode prog_18_method_54_code 6 = .ok (.invokevirtual 335, 3) := by decide +kernel
theorem dq_len_9 : decode prog_18_method_54_code 9 = .ok (.ishr, 1) := by decide +kernel
theorem dq_len_10 : decode prog_18_method_54_code 10 = .ok (.ireturn, 1) := by decide +kernel
theorem dq_pci_0 : decode prog_22_method_11_code 0 = .ok (.iload_n 0, 1) := by decide +kernel
theorem dq_pci_1 : decode prog_22_method_11_code 1 = .ok (.ifCond .lt 8, 3) := by decide +kernel
theorem dq_pci_4 : decode prog_22_method_11_code 4 = .ok (.iload_n 0, 1) := by decide +kernel
theorem dq_pci_5 : decode prog_22_method_11_code 5 = .ok (.iload_n 1, 1) := by decide +kernel
theorem dq_pci_6 : decode prog_22_method_11_code 6 = .ok (.if_icmp .lt 10, 3) := by decide +kernel
theorem dq_pci_9 : decode prog_22_method_11_code 9 = .ok (.aload_n 2, 1) := by decide +kernel
theorem dq_pci_10 : decode prog_22_method_11_code 10 = .ok (.iload_n 0, 1) := by decide +kernel
theorem dq_pci_11 : decode prog_22_method_11_code 11 = .ok (.iload_n 1, 1) := by decide +kernel
theorem dq_pci_12 : decode prog_22_method_11_code 12 = .ok (.invokestatic 95, 3) := by decide +kernel
theorem dq_pci_16 : decode prog_22_method_11_code 16 = .ok (.iload_n 0, 1) := by decide +kernel
theorem dq_pci_17 : decode prog_22_method_11_code 17 = .ok (.ireturn, 1) := by decide +kernel
theorem dq_sci_0 : decode prog_18_method_155_code 0 = .ok (.iload_n 0, 1) := by decide +kernel
theorem dq_sci_1 : decode prog_18_method_155_code 1 = .ok (.iload_n 1, 1) := by decide +kernel
theorem dq_sci_2 : decode prog_18_method_155_code 2 = .ok (.getstatic 1053, 3) := by decide +kernel
theorem dq_sci_5 : decode prog_18_method_155_code 5 = .ok (.invokestatic 1059, 3) := by decide +kernel
theorem dq_sci_8 : decode prog_18_method_155_code 8 = .ok (.pop, 1) := by decide +kernel
theorem dq_sci_9 : decode prog_18_method_155_code 9 = .ok (.return_, 1) := by decide +kernel
theorem dq_lch_0 : decode prog_19_method_2_code 0 = .ok (.iload_n 1, 1) := by decide +kernel
theorem dq_lch_1 : decode prog_19_method_2_code 1 = .ok (.aload_n 0, 1) := by decide +kernel
theorem dq_lch_2 : decode prog_19_method_2_code 2 = .ok (.arraylength, 1) := by decide +kernel
theorem dq_lch_3 : decode prog_19_method_2_code 3 = .ok (.invokestatic 9, 3) := by decide +kernel
theorem dq_lch_6 : decode prog_19_method_2_code 6 = .ok (.aload_n 0, 1) := by decide +kernel
theorem dq_lch_7 : decode prog_19_method_2_code 7 = .ok (.iload_n 1, 1) := by decide +kernel
theorem dq_lch_8 : decode prog_19_method_2_code 8 = .ok (.baload, 1) := by decide +kernel
theorem dq_lch_9 : decode prog_19_method_2_code 9 = .ok (.sipush 255, 3) := by decide +kernel
theorem dq_lch_12 : decode prog_19_method_2_code 12 = .ok (.iand, 1) := by decide +kernel
theorem dq_lch_13 : decode prog_19_method_2_code 13 = .ok (.i2c, 1) := by decide +kernel
theorem dq_lch_14 : decode prog_19_method_2_code 14 = .ok (.ireturn, 1) := by decide +kernel
theorem dq_sch_0 : decode prog_18_method_56_code 0 = .ok (.aload_n 0, 1) := by decide +kernel
theorem dq_sch_1 : decode prog_18_method_56_code 1 = .ok (.invokevirtual 492, 3) := by decide +kernel
theorem dq_sch_4 : decode prog_18_method_56_code 4 = .ok (.ifCond .eq 12, 3) := by decide +kernel
theorem dq_sch_7 : decode prog_18_method_56_code 7 = .ok (.aload_n 0, 1) := by decide +kernel
theorem dq_sch_8 : decode prog_18_method_56_code 8 = .ok (.getfield 9, 3) := by decide +kernel
theorem dq_sch_11 : decode prog_18_method_56_code 11 = .ok (.iload_n 1, 1) := by decide +kernel
theorem dq_sch_12 : decode prog_18_method_56_code 12 = .ok (.invokestatic 495, 3) := by decide +kernel
theorem dq_sch_15 : decode prog_18_method_56_code 15 = .ok (.ireturn, 1) := by decide +kernel
theorem dq_sch_16 : decode prog_18_method_56_code 16 = .ok (.aload_n 0, 1) := by decide +kernel
theorem dq_sch_17 : decode prog_18_method_56_code 17 = .ok (.getfield 9, 3) := by decide +kernel
theorem dq_sch_20 : decode prog_18_method_56_code 20 = .ok (.iload_n 1, 1) := by decide +kernel
theorem dq_sch_21 : decode prog_18_method_56_code 21 = .ok (.invokestatic 498, 3) := by decide +kernel
theorem dq_sch_24 : decode prog_18_method_56_code 24 = .ok (.ireturn, 1) := by decide +kernel
theorem dq_ioc_0 : decode prog_19_method_23_code 0 = .ok (.iload_n 1, 1) := by decide +kernel
theorem dq_ioc_1 : decode prog_19_method_23_code 1 = .ok (.i2b, 1) := by decide +kernel
theorem dq_ioc_2 : decode prog_19_method_23_code 2 = .ok (.istore 4, 2) := by decide +kernel
theorem dq_ioc_4 : decode prog_19_method_23_code 4 = .ok (.iload_n 2, 1) := by decide +kernel
theorem dq_ioc_5 : decode prog_19_method_23_code 5 = .ok (.istore 5, 2) := by decide +kernel
theorem dq_ioc_7 : decode prog_19_method_23_code 7 = .ok (.iload 5, 2) := by decide +kernel
theorem dq_ioc_9 : decode prog_19_method_23_code 9 = .ok (.iload_n 3, 1) := by decide +kernel
theorem dq_ioc_10 : decode prog_19_method_23_code 10 = .ok (.if_icmp .ge 21, 3) := by decide +kernel
theorem dq_ioc_13 : decode prog_19_method_23_code 13 = .ok (.aload_n 0, 1) := by decide +kernel
theorem dq_ioc_14 : decode prog_19_method_23_code 14 = .ok (.iload 5, 2) := by decide +kernel
theorem dq_ioc_16 : decode prog_19_method_23_code 16 = .ok (.baload, 1) := by decide +kernel
theorem dq_ioc_17 : decode prog_19_method_23_code 17 = .ok (.iload 4, 2) := by decide +kernel
theorem dq_ioc_19 : decode prog_19_method_23_code 19 = .ok (.if_icmp .ne 6, 3) := by decide +kernel
theorem dq_ioc_22 : decode prog_19_method_23_code 22 = .ok (.iload 5, 2) := by decide +kernel
theorem dq_ioc_24 : decode prog_19_method_23_code 24 = .ok (.ireturn, 1) := by decide +kernel
theorem dq_ioc_25 : decode prog_19_method_23_code 25 = .ok (.iinc 5 1, 3) := by decide +kernel
theorem dq_ioc_28 : decode prog_19_method_23_code 28 = .ok (.goto (-21), 3) := by decide +kernel
theorem dq_ioc_31 : decode prog_19_method_23_code 31 = .ok (.iconst (-1), 1) := by decide +kernel
theorem dq_ioc_32 : decode prog_19_method_23_code 32 = .ok (.ireturn, 1) := by decide +kernel
theorem dq_enc_0 : decode prog_19_method_4_code 0 = .ok (.iload_n 0, 1) := by decide +kernel
theorem dq_enc_1 : decode prog_19_method_4_code 1 = .ok (.ifCond .lt 14, 3) := by decide +kernel
theorem dq_enc_4 : decode prog_19_method_4_code 4 = .ok (.iload_n 0, 1) := by decide +kernel
theorem dq_enc_5 : decode prog_19_method_4_code 5 = .ok (.sipush 255, 3) := by decide +kernel
theorem dq_enc_8 : decode prog_19_method_4_code 8 = .ok (.if_icmp .gt 7, 3) := by decide +kernel
theorem dq_enc_11 : decode prog_19_method_4_code 11 = .ok (.iconst 1, 1) := by decide +kernel
theorem dq_enc_12 : decode prog_19_method_4_code 12 = .ok (.goto 4, 3) := by decide +kernel
theorem dq_enc_15 : decode prog_19_method_4_code 15 = .ok (.iconst 0, 1) := by decide +kernel
theorem dq_enc_16 : decode prog_19_method_4_code 16 = .ok (.ireturn, 1) := by decide +kernel
theorem dq_lix_0 : decode prog_19_method_22_code 0 = .ok (.iload_n 1, 1) := by decide +kernel
theorem dq_lix_1 : decode prog_19_method_22_code 1 = .ok (.invokestatic 88, 3) := by decide +kernel
theorem dq_lix_4 : decode prog_19_method_22_code 4 = .ok (.ifCond .ne 5, 3) := by decide +kernel
theorem dq_lix_7 : decode prog_19_method_22_code 7 = .ok (.iconst (-1), 1) := by decide +kernel
theorem dq_lix_8 : decode prog_19_method_22_code 8 = .ok (.ireturn, 1) := by decide +kernel
theorem dq_lix_9 : decode prog_19_method_22_code 9 = .ok (.iload_n 2, 1) := by decide +kernel
theorem dq_lix_10 : decode prog_19_method_22_code 10 = .ok (.iconst 0, 1) := by decide +kernel
theorem dq_lix_11 : decode prog_19_method_22_code 11 = .ok (.invokestatic 92, 3) := by decide +kernel
theorem dq_lix_14 : decode prog_19_method_22_code 14 = .ok (.istore_n 2, 1) := by decide +kernel
theorem dq_lix_15 : decode prog_19_method_22_code 15 = .ok (.iload_n 3, 1) := by decide +kernel
theorem dq_lix_16 : decode prog_19_method_22_code 16 = .ok (.aload_n 0, 1) := by decide +kernel
theorem dq_lix_17 : decode prog_19_method_22_code 17 = .ok (.arraylength, 1) := by decide +kernel
theorem dq_lix_18 : decode prog_19_method_22_code 18 = .ok (.invokestatic 38, 3) := by decide +kernel
theorem dq_lix_21 : decode prog_19_method_22_code 21 = .ok (.istore_n 3, 1) := by decide +kernel
theorem dq_lix_22 : decode prog_19_method_22_code 22 = .ok (.iload_n 2, 1) := by decide +kernel
theorem dq_lix_23 : decode prog_19_method_22_code 23 = .ok (.iload_n 3, 1) := by decide +kernel
theorem dq_lix_24 : decode prog_19_method_22_code 24 = .ok (.if_icmp .lt 5, 3) := by decide +kernel
theorem dq_lix_27 : decode prog_19_method_22_code 27 = .ok (.iconst (-1), 1) := by decide +kernel
theorem dq_lix_28 : decode prog_19_method_22_code 28 = .ok (.ireturn, 1) := by decide +kernel
theorem dq_lix_29 : decode prog_19_method_22_code 29 = .ok (.aload_n 0, 1) := by decide +kernel
theorem dq_lix_30 : decode prog_19_method_22_code 30 = .ok (.iload_n 1, 1) := by decide +kernel
theorem dq_lix_31 : decode prog_19_method_22_code 31 = .ok (.iload_n 2, 1) := by decide +kernel
theorem dq_lix_32 : decode prog_19_method_22_code 32 = .ok (.iload_n 3, 1) := by decide +kernel
theorem dq_lix_33 : decode prog_19_method_22_code 33 = .ok (.invokestatic 95, 3) := by decide +kernel
theorem dq_lix_36 : decode prog_19_method_22_code 36 = .ok (.ireturn, 1) := by decide +kernel
theorem dq_si2_0 : decode prog_18_method_80_code 0 = .ok (.aload_n 0, 1) := by decide +kernel
theorem dq_si2_1 : decode prog_18_method_80_code 1 = .ok (.invokevirtual 492, 3) := by decide +kernel
theorem dq_si2_4 : decode prog_18_method_80_code 4 = .ok (.ifCond .eq 19, 3) := by decide +kernel
theorem dq_si2_7 : decode prog_18_method_80_code 7 = .ok (.aload_n 0, 1) := by decide +kernel
theorem dq_si2_8 : decode prog_18_method_80_code 8 = .ok (.getfield 9, 3) := by decide +kernel
theorem dq_si2_11 : decode prog_18_method_80_code 11 = .ok (.iload_n 1, 1) := by decide +kernel
theorem dq_si2_12 : decode prog_18_method_80_code 12 = .ok (.iload_n 2, 1) := by decide +kernel
theorem dq_si2_13 : decode prog_18_method_80_code 13 = .ok (.aload_n 0, 1) := by decide +kernel
theorem dq_si2_14 : decode prog_18_method_80_code 14 = .ok (.invokevirtual 505, 3) := by decide +kernel
theorem dq_si2_17 : decode prog_18_method_80_code 17 = .ok (.invokestatic 637, 3) := by decide +kernel
theorem dq_si2_20 : decode prog_18_method_80_code 20 = .ok (.goto 16, 3) := by decide +kernel
theorem dq_si2_23 : decode prog_18_method_80_code 23 = .ok (.aload_n 0, 1) := by decide +kernel
theorem dq_si2_24 : decode prog_18_method_80_code 24 = .ok (.getfield 9, 3) := by decide +kernel
theorem dq_si2_27 : decode prog_18_method_80_code 27 = .ok (.iload_n 1, 1) := by decide +kernel
theorem dq_si2_28 : decode prog_18_method_80_code 28 = .ok (.iload_n 2, 1) := by decide +kernel
theorem dq_si2_29 : decode prog_18_method_80_code 29 = .ok (.aload_n 0, 1) := by decide +kernel
theorem dq_si2_30 : decode prog_18_method_80_code 30 = .ok (.invokevirtual 505, 3) := by decide +kernel
theorem dq_si2_33 : decode prog_18_method_80_code 33 = .ok (.invokestatic 640, 3) := by decide +kernel
theorem dq_si2_36 : decode prog_18_method_80_code 36 = .ok (.ireturn, 1) := by decide +kernel
theorem dq_si1_0 : decode prog_18_method_79_code 0 = .ok (.aload_n 0, 1) := by decide +kernel
theorem dq_si1_1 : decode prog_18_method_79_code 1 = .ok (.iload_n 1, 1) := by decide +kernel
theorem dq_si1_2 : decode prog_18_method_79_code 2 = .ok (.iconst 0, 1) := by decide +kernel
theorem dq_si1_3 : decode prog_18_method_79_code 3 = .ok (.invokevirtual 633, 3) := by decide +kernel
theorem dq_si1_6 : decode prog_18_method_79_code 6 = .ok (.ireturn, 1) := by decide +kernel
section JDK
variable {p : Program} {l : Launch} {e : Env} {R : Room} {s : State} {m : MethodId} {args : Array Value} {below : List Frame} {meth : Method} {c : Code} {H : Heap} {locs : List Loc} {cells slots : Nat} {Q : State → Prop} {z : Zt} {A : Nat → Prop}
/-- inside a method of the library -/
def jqC (p : Program) (R : Room) (s : State) (m : MethodId) (args : Array Value) (meth : Method) (c : Code) (cc : ByteArray) (mL : Nat) (own : String) (lev : Nat) (rt : Option FieldType) (z : Zt) (A : Nat → Prop) : Prop :=
  p.tables.exec = Jvm.exec ∧ c.code = cc ∧ c.maxLocals = mL ∧ s.vm.findClass own = some m.cls ∧ (∀ w ∈ TB, w.before args s = true) ∧ meth.locks = false ∧ meth.sig.returnType = rt ∧ R.frames = lev ∧ R.locals = 64 * lev ∧ Sx z A s s.heap
/-- it answers r and touches nothing -/
def jqQ (r : Option Value) : Array Value → State → Outcome → State → Prop := fun _ st o t => o = .returned r ∧ t.heap = st.heap
def jqM (y : MethodName) (cc : ByteArray) (mL : Nat) (rt : Option FieldType) (lev : Nat) (z : Zt) (A : Nat → Prop) (av : List Value) (r : Option Value) : Prop :=
  ∀ l : Launch, Met l y (.code y cc mL rt :: TB) (rmL lev 0 0) (va_Pc av (fun U => Sx z A U U.heap)) (jqQ r) 0 0 A
theorem jqM.start {y : MethodName} {cc : ByteArray} {mL : Nat} {rt : Option FieldType} {lev : Nat} {av : List Value} {r : Option Value} (hy : plainName y.cls = true) (hs : (lg_sl av).length ≤ mL)
    (hb : ∀ (p : Program) (l : Launch) (e : Env) (R : Room) (s : State) (m : MethodId) (args : Array Value) (below : List Frame) (meth : Method) (c : Code) (la : Array Slot), jqC p R s m args meth c cc mL y.cls lev rt z A → lv_has la mL (lv_args 0 av) → va_S A s.heap s.heap [] → W p l e R s m args below meth c s.heap [] 0 0 (MQ below (jqQ r) args s 0 0 A) (F0 m 0 la [])) :
    jqM y cc mL rt lev z A av r := by
  intro l
  refine Met.ofW (cc := cc) (maxL := mL) (ret := rt) hy rfl ?_
  intro p e s m args below meth c s₁ B hml hv
  obtain ⟨rfl, hSx⟩ := hv
  have hts := atoms_spec (ws := .code y cc mL rt :: TB) B.pre
  rw [lg_entry_eq]
  exact hb p l e (rmL lev 0 0) s m av.toArray below meth c _ ⟨B.exec, B.bytes, hml, findClass_of_methodNamed B.named, fun w hw => hts w (List.mem_cons_of_mem _ hw), B.notSynchronized, B.returns, rfl, rfl, hSx⟩ (lv_entry av hs) va_S.rf
theorem jq_blind {av : List Value} : FrameBlind (va_Pc av (fun U => Sx z A U U.heap)) := by
  intro a U g mk q
  exact ⟨q.1, q.2.same rfl⟩
theorem jq_go {r : Option Value} {pc : Nat} {la : Array Slot} {st0 rest : List Value} {av : Array Value} (hr : va_Run p l e R s m args below meth c H locs cells slots 0 0 (F0 m pc la st0) rest (jqQ r av) A) (hS : va_S A s.heap H locs)
    (k : ∀ locs', va_S A s.heap H locs' → W p l e R s m args below meth c H locs' cells slots Q (F0 m (pc + 3) la (r.toList ++ rest))) : W p l e R s m args below meth c H locs cells slots Q (F0 m pc la st0) := by
  intro T hT X
  obtain ⟨v, st₀, t, T', L, h0, X', hL, e1, e2, ⟨hv, hh⟩, stp⟩ := hr T hT X
  have hv : v = r := Outcome.returned.inj hv
  subst hv
  have hS' : va_S A s.heap H (locs ++ L) := ⟨hS.1, hS.2.1, fun q hq => (List.mem_append.mp hq).elim (hS.2.2 q) (hL q)⟩
  obtain ⟨t2, a1, b1⟩ := k (locs ++ L) hS' T' (by rw [e1, hh, h0]) X'
  exact ⟨t2, stp t2 a1, b1⟩
section CALLS
variable {own : String} {cc cc' : ByteArray} {mL mL' lev lev' n i pc : Nat} {rt rt' : Option FieldType} {y' : MethodName} {r : Option Value} {la : Array Slot} {st0 : List Value}
theorem jq_S (G : jqC p R s m args meth c cc mL own lev rt z A) (As rest : List Value) (hM : jqM y' cc' mL' rt' lev' z A As r) (hf : Mf y' cc' mL' rt' n) (hv : Cond.static y' ∈ TB) (hw : Cond.methodLink own i y' ∈ TB) (hd : decode cc pc = .ok (.invokestatic i, 3)) (hL : lev' + 1 ≤ lev) (hm : mL' ≤ 45) (hn : As.length = n) (hW : (rest.map fun v => v.category).sum ≤ 8) (hla : la.size = mL) (hc : cells ≤ R.cells ∧ slots ≤ R.slots) (hS : va_S A s.heap H locs) (hst : st0 = As.reverse ++ rest)
    (k : ∀ locs', va_S A s.heap H locs' → W p l e R s m args below meth c H locs' cells slots Q (F0 m (pc + 3) la (r.toList ++ rest))) : W p l e R s m args below meth c H locs cells slots Q (F0 m pc la st0) := by
  have cb : CallB R s args own i y' cc' mL' rt' (.code y' cc' mL' rt' :: TB) (rmL lev' 0 0) 0 0 n := callB_of (Ts := TB) n G.2.2.2.2.1 (tb_in hf.1) rfl rfl rfl (G.2.2.2.2.1 _ hf.2.1) (G.2.2.2.2.1 _ hw) hf.2.2 (by rw [G.2.2.2.2.2.2.2.1, G.2.2.2.2.2.2.2.2.1]; exact lvok hL hm)
  refine jq_go (va_runS (Ts := TB) (As := As) (rest := rest) ⟨G.1, G.2.1, G.2.2.1, G.2.2.2.1, G.2.2.2.2.1⟩ (hM l) ⟨cb, G.2.2.2.2.1 _ hv⟩ ⟨jq_blind, ?_⟩ rfl hn hla hst (lv_room hW) hd hc) hS k
  intro U hU hWm
  exact ⟨rfl, by show Sx z A U U.heap; rw [hU]; exact G.2.2.2.2.2.2.2.2.2.go hWm hS.2.1⟩
theorem jq_V {j : Nat} (hj : j < 2) (G : jqC p R s m args meth c cc mL own lev rt z A) (As rest : List Value) (hM : jqM y' cc' mL' rt' lev' z A (.ref (z.1 j) :: As) r) (hf : Mf y' cc' mL' rt' n) (hv : Cond.instanceMethod y' ∈ TB ∧ Cond.selects "java/lang/String" y' y' ∈ TB) (hw : Cond.methodLink own i y' ∈ TB) (hd : decode cc pc = .ok (.invokevirtual i, 3)) (hL : lev' + 1 ≤ lev) (hm : mL' ≤ 45) (hn : As.length = n) (hW : (rest.map fun v => v.category).sum ≤ 8) (hla : la.size = mL) (hc : cells ≤ R.cells ∧ slots ≤ R.slots) (hS : va_S A s.heap H locs) (hst : st0 = As.reverse ++ .ref (z.1 j) :: rest)
    (k : ∀ locs', va_S A s.heap H locs' → W p l e R s m args below meth c H locs' cells slots Q (F0 m (pc + 3) la (r.toList ++ rest))) : W p l e R s m args below meth c H locs cells slots Q (F0 m pc la st0) := by
  have cb : CallB R s args own i y' cc' mL' rt' (.code y' cc' mL' rt' :: TB) (rmL lev' 0 0) 0 0 n := callB_of (Ts := TB) n G.2.2.2.2.1 (tb_in hf.1) rfl rfl rfl (G.2.2.2.2.1 _ hf.2.1) (G.2.2.2.2.1 _ hw) hf.2.2 (by rw [G.2.2.2.2.2.2.2.1, G.2.2.2.2.2.2.2.2.1]; exact lvok hL hm)
  have hSx := G.2.2.2.2.2.2.2.2.2
  refine jq_go (va_runV (C := "java/lang/String") (Ts := TB) (As := As) (b := z.1 j) (rest := rest) ⟨G.1, G.2.1, G.2.2.1, G.2.2.2.1, G.2.2.2.2.1⟩ (hM l) ⟨cb, G.2.2.2.2.1 _ hv.1, G.2.2.2.2.1 _ hv.2⟩ ⟨jq_blind, vk_recv hSx.2.2.2.2.2.2.1 hj hS, ?_⟩ rfl hn hla hst (lv_room hW) hd hc) hS k
  intro U hU hWm
  exact ⟨rfl, by show Sx z A U U.heap; rw [hU]; exact hSx.go hWm hS.2.1⟩
end CALLS
theorem jq_0 {R : Room} : (0 : Nat) ≤ R.cells ∧ (0 : Nat) ≤ R.slots := ⟨Nat.zero_le _, Nat.zero_le _⟩
theorem jq_isL {j : Nat} (hj : j < 2) : jqM ⟨"java/lang/String", "isLatin1", "()Z"⟩ prog_18_method_154_code 1 (some .boolean) 0 z A [.ref (z.1 j)] (some (.int 1)) := by
  refine jqM.start (by decide +kernel) (Nat.le_refl _) ?_
  intro p l e R s m args below meth c la G hla hS
  have hs := G.2.2.2.2.2.2.2.2.2
  have T := G.2.2.2.2.1
  refine va_gets G.1 G.2.1 hs.2.2.2.2.2.2.2.1 hS G.2.2.2.1 (T _ tw_656) (fun _ e => e) dq_isL_0 ?_
  refine lv_if_eq G.1 G.2.1 dq_isL_3 (tgt := 17) rfl (fun h => absurd h (by decide)) (fun _ => ?_)
  refine lv_aload_n G.1 G.2.1 dq_isL_6 rfl (lv_at hla 0 rfl) ?_
  refine vk_getf G.1 G.2.1 (hs.2.2.2.2.2.2.1.1 j hj).2.1 hS G.2.2.2.1 (T _ tw_2049) (fun _ e => e) dq_isL_7 ?_
  refine lv_if_ne G.1 G.2.1 dq_isL_10 (tgt := 17) rfl (fun h => absurd rfl h) (fun _ => ?_)
  refine lv_iconst (v := 1) G.1 G.2.1 dq_isL_13 (by decide) ?_
  refine lv_goto G.1 G.2.1 dq_isL_14 (tgt := 18) rfl ?_
  exact W.zret (ty := .boolean) G.1 G.2.1 G.2.2.2.2.2.2.1 (z_nar (Or.inr rfl)).1 (fun t ht _ => ⟨rfl, ht⟩) hS.2.2 dq_isL_18 G.2.2.2.2.2.1
theorem jq_cod {j : Nat} (hj : j < 2) : jqM ⟨"java/lang/String", "coder", "()B"⟩ prog_18_method_152_code 1 (some .byte) 0 z A [.ref (z.1 j)] (some (.int 0)) := by
  refine jqM.start (by decide +kernel) (Nat.le_refl _) ?_
  intro p l e R s m args below meth c la G hla hS
  have hs := G.2.2.2.2.2.2.2.2.2
  have T := G.2.2.2.2.1
  refine va_gets G.1 G.2.1 hs.2.2.2.2.2.2.2.1 hS G.2.2.2.1 (T _ tw_656) (fun _ e => e) dq_cod_0 ?_
  refine lv_if_eq G.1 G.2.1 dq_cod_3 (tgt := 13) rfl (fun h => absurd h (by decide)) (fun _ => ?_)
  refine lv_aload_n G.1 G.2.1 dq_cod_6 rfl (lv_at hla 0 rfl) ?_
  refine vk_getf G.1 G.2.1 (hs.2.2.2.2.2.2.1.1 j hj).2.1 hS G.2.2.2.1 (T _ tw_2049) (fun _ e => e) dq_cod_7 ?_
  refine lv_goto G.1 G.2.1 dq_cod_10 (tgt := 14) rfl ?_
  exact W.zret (ty := .byte) G.1 G.2.1 G.2.2.2.2.2.2.1 (by decide) (fun t ht _ => ⟨rfl, ht⟩) hS.2.2 dq_cod_14 G.2.2.2.2.2.1
theorem jq_pci {i n : Int32} {w : Value} (hi : ¬ i < 0) (hn : i < n) (hw : (lg_sl [.int i, .int n, w]).length ≤ 3) : jqM ⟨"jdk/internal/util/Preconditions", "checkIndex", "(IILjava/util/function/BiFunction;)I"⟩ prog_22_method_11_code 3 (some .int) 0 z A [.int i, .int n, w] (some (.int i)) := by
  refine jqM.start (by decide +kernel) hw ?_
  intro p l e R s m args below meth c la G hla hS
  refine lv_iload_n G.1 G.2.1 dq_pci_0 rfl (lv_at hla 0 rfl) ?_
  refine lv_if_lt G.1 G.2.1 dq_pci_1 (tgt := 9) rfl (fun h => absurd h hi) (fun _ => ?_)
  refine lv_iload_n G.1 G.2.1 dq_pci_4 rfl (lv_at hla 0 rfl) ?_
  refine lv_iload_n G.1 G.2.1 dq_pci_5 rfl (lv_at hla 1 rfl) ?_
  refine lv_icmp_lt G.1 G.2.1 dq_pci_6 (tgt := 16) rfl (fun _ => ?_) (fun h => absurd hn h)
  refine lv_iload_n G.1 G.2.1 dq_pci_16 rfl (lv_at hla 0 rfl) ?_
  exact W.iret G.1 G.2.1 G.2.2.2.2.2.2.1 (fun t ht _ => ⟨rfl, ht⟩) hS.2.2 dq_pci_17 G.2.2.2.2.2.1
theorem jq_sci {i n : Int32} (hi : ¬ i < 0) (hn : i < n) : jqM ⟨"java/lang/String", "checkIndex", "(II)V"⟩ prog_18_method_155_code 2 none 1 z A [.int i, .int n] none := by
  refine jqM.start (by decide +kernel) (Nat.le_refl _) ?_
  intro p l e R s m args below meth c la G hla hS
  have hs := G.2.2.2.2.2.2.2.2.2
  have T := G.2.2.2.2.1
  refine lv_iload_n G.1 G.2.1 dq_sci_0 rfl (lv_at hla 0 rfl) ?_
  refine lv_iload_n G.1 G.2.1 dq_sci_1 rfl (lv_at hla 1 rfl) ?_
  have key : ∀ w : Value, va_Z "jdk/internal/util/Preconditions" "SIOOBE_FORMATTER" "Ljava/util/function/BiFunction;" w A s s.heap → (lg_sl [.int i, .int n, w]).length ≤ 3 → W p l e R s m args below meth c s.heap [] 0 0 (MQ below (jqQ none) args s 0 0 A) (F0 m (0 + 1 + 1) la [.int n, .int i]) := by
    intro w hZ hw
    refine va_gets G.1 G.2.1 hZ hS G.2.2.2.1 (T _ tw_664) (fun _ e => e) dq_sci_2 ?_
    refine jq_S (n := 3) G [.int i, .int n, w] [] (jq_pci hi hn hw) ⟨tw_668, tw_137, by decide, by decide, by decide +kernel⟩ tw_667 tw_666 dq_sci_5 (by decide) (by decide) rfl (by decide) hla.1 jq_0 hS rfl ?_
    intro locs' hS'
    refine lv_pop G.1 G.2.1 dq_sci_8 rfl ?_
    exact W.vret G.1 G.2.1 G.2.2.2.2.2.2.1 (fun t ht _ => ⟨rfl, ht⟩) hS'.2.2 dq_sci_9 G.2.2.2.2.2.1
  rcases hs.2.2.2.2.2.2.2.2 with hZ | ⟨t, hZ⟩
  · exact key _ hZ (Nat.le_refl _)
  · exact key _ hZ (Nat.le_refl _)
theorem jq_lt {i : Int32} (h : ¬ (i < 0 ∨ 160 ≤ i.toNatClampNeg)) : i < 160 := by
  rw [Int32.lt_iff_toInt_lt]
  have h2 : ¬ 160 ≤ i.toInt.toNat := fun q => h (Or.inr q)
  have : (160 : Int32).toInt = 160 := by decide
  omega
theorem jq_by : ∀ k : Nat, k < 160 → (((sxB.getD 0 []).getD k 0 &&& 255).toUInt32 % 65536).toInt32 = (sxB.getD 0 []).getD k 0 ∧ narrow .char (.int ((sxB.getD 0 []).getD k 0)) = .int ((sxB.getD 0 []).getD k 0) := by decide +kernel
theorem jq_lch {i : Int32} (hi : ¬ (i < 0 ∨ 160 ≤ i.toNatClampNeg)) : jqM ⟨"java/lang/StringLatin1", "charAt", "([BI)C"⟩ prog_19_method_2_code 2 (some .char) 2 z A [.ref (z.2.1 0), .int i] (some (.int ((sxB.getD 0 []).getD i.toNatClampNeg 0))) := by
  refine jqM.start (by decide +kernel) (Nat.le_refl _) ?_
  intro p l e R s m args below meth c la G hla hS
  have hs := G.2.2.2.2.2.2.2.2.2
  have hT := (hs.2.2.2.2.2.2.1.1 0 (by decide)).2.2.2
  have hb := jq_by i.toNatClampNeg (Nat.not_le.mp fun q => hi (Or.inr q))
  refine lv_iload_n G.1 G.2.1 dq_lch_0 rfl (lv_at hla 1 rfl) ?_
  refine lv_aload_n G.1 G.2.1 dq_lch_1 rfl (lv_at hla 0 rfl) ?_
  refine va_tlen (v := 160) G.1 G.2.1 hT hS (by decide) dq_lch_2 ?_
  refine jq_S (n := 2) G [.int i, .int 160] [] (jq_sci (fun q => hi (Or.inl q)) (jq_lt hi)) ⟨tw_663, tw_135, by decide, by decide, by decide +kernel⟩ tw_662 tw_661 dq_lch_3 (by decide) (by decide) rfl (by decide) hla.1 jq_0 hS rfl ?_
  intro locs' hS'
  refine lv_aload_n G.1 G.2.1 dq_lch_6 rfl (lv_at hla 0 rfl) ?_
  refine lv_iload_n G.1 G.2.1 dq_lch_7 rfl (lv_at hla 1 rfl) ?_
  refine va_tb G.1 G.2.1 hT hS' hi rfl dq_lch_8 ?_
  refine lv_sipush (v := 255) G.1 G.2.1 dq_lch_9 (by decide) ?_
  refine lv_iand G.1 G.2.1 dq_lch_12 ?_
  refine lv_i2c G.1 G.2.1 dq_lch_13 hb.1 ?_
  exact W.zret (ty := .char) G.1 G.2.1 G.2.2.2.2.2.2.1 hb.2 (fun t ht _ => ⟨rfl, ht⟩) hS'.2.2 dq_lch_14 G.2.2.2.2.2.1
theorem jq_sch {i : Int32} (hi : ¬ (i < 0 ∨ 160 ≤ i.toNatClampNeg)) : jqM ⟨"java/lang/String", "charAt", "(I)C"⟩ prog_18_method_56_code 2 (some .char) 3 z A [.ref (z.1 0), .int i] (some (.int ((sxB.getD 0 []).getD i.toNatClampNeg 0))) := by
  refine jqM.start (by decide +kernel) (Nat.le_refl _) ?_
  intro p l e R s m args below meth c la G hla hS
  have hs := G.2.2.2.2.2.2.2.2.2
  have hb := jq_by i.toNatClampNeg (Nat.not_le.mp fun q => hi (Or.inr q))
  refine lv_aload_n G.1 G.2.1 dq_sch_0 rfl (lv_at hla 0 rfl) ?_
  refine jq_V (n := 0) (j := 0) (by decide) G [] [] (jq_isL (by decide)) ⟨tw_655, tw_135, by decide, by decide, by decide +kernel⟩ ⟨tw_653, tw_654⟩ tw_652 dq_sch_1 (by decide) (by decide) rfl (by decide) hla.1 jq_0 hS rfl ?_
  intro locs1 hS1
  refine lv_if_eq G.1 G.2.1 dq_sch_4 (tgt := 16) rfl (fun h => absurd h (by decide)) (fun _ => ?_)
  refine lv_aload_n G.1 G.2.1 dq_sch_7 rfl (lv_at hla 0 rfl) ?_
  refine vk_getf G.1 G.2.1 (hs.2.2.2.2.2.2.1.1 0 (by decide)).2.2.1 hS1 G.2.2.2.1 (G.2.2.2.2.1 _ tw_2050) (fun _ e => e) dq_sch_8 ?_
  refine lv_iload_n G.1 G.2.1 dq_sch_11 rfl (lv_at hla 1 rfl) ?_
  refine jq_S (n := 2) G [.ref (z.2.1 0), .int i] [] (jq_lch hi) ⟨tw_660, tw_136, by decide, by decide, by decide +kernel⟩ tw_659 tw_658 dq_sch_12 (by decide) (by decide) rfl (by decide) hla.1 jq_0 hS1 rfl ?_
  intro locs2 hS2
  exact W.zret (ty := .char) G.1 G.2.1 G.2.2.2.2.2.2.1 hb.2 (fun t ht _ => ⟨rfl, ht⟩) hS2.2.2 dq_sch_15 G.2.2.2.2.2.1
theorem jq_len : jqM ⟨"java/lang/String", "length", "()I"⟩ prog_18_method_54_code 1 (some .int) 1 z A [.ref (z.1 1)] (some (.int 9)) := by
  refine jqM.start (by decide +kernel) (Nat.le_refl _) ?_
  intro p l e R s m args below meth c la G hla hS
  have hs := G.2.2.2.2.2.2.2.2.2
  have h1 := hs.2.2.2.2.2.2.1.1 1 (by decide)
  refine lv_aload_n G.1 G.2.1 dq_len_0 rfl (lv_at hla 0 rfl) ?_
  refine vk_getf G.1 G.2.1 h1.2.2.1 hS G.2.2.2.1 (G.2.2.2.2.1 _ tw_2050) (fun _ e => e) dq_len_1 ?_
  refine va_tlen (v := 9) G.1 G.2.1 h1.2.2.2 hS (by decide) dq_len_4 ?_
  refine lv_aload_n G.1 G.2.1 dq_len_5 rfl (lv_at hla 0 rfl) ?_
  refine jq_V (n := 0) (j := 1) (by decide) G [] [.int 9] (jq_cod (by decide)) ⟨tw_712, tw_135, by decide, by decide, by decide +kernel⟩ ⟨tw_710, tw_711⟩ tw_709 dq_len_6 (by decide) (by decide) rfl (by decide) hla.1 jq_0 hS rfl ?_
  intro locs1 hS1
  refine lv_ishr G.1 G.2.1 dq_len_9 ?_
  rw [show (9 : Int32) >>> (0 &&& 31) = 9 from by decide]
  exact W.iret G.1 G.2.1 G.2.2.2.2.2.2.1 (fun t ht _ => ⟨rfl, ht⟩) hS1.2.2 dq_len_10 G.2.2.2.2.2.1
theorem jq_enc0 {x : Int32} (hx : x < 0 ∨ ii 255 < x) : jqM ⟨"java/lang/StringLatin1", "canEncode", "(I)Z"⟩ prog_19_method_4_code 1 (some .boolean) 0 z A [.int x] (some (.int 0)) := by
  refine jqM.start (by decide +kernel) (Nat.le_refl _) ?_
  intro p l e R s m args below meth c la G hla hS
  have kf : W p l e R s m args below meth c s.heap [] 0 0 (MQ below (jqQ (some (.int 0))) args s 0 0 A) (F0 m 15 la []) := by
    refine lv_iconst (v := 0) G.1 G.2.1 dq_enc_15 (by decide) ?_
    exact W.zret (ty := .boolean) G.1 G.2.1 G.2.2.2.2.2.2.1 (z_nar (Or.inl rfl)).1 (fun t ht _ => ⟨rfl, ht⟩) hS.2.2 dq_enc_16 G.2.2.2.2.2.1
  refine lv_iload_n G.1 G.2.1 dq_enc_0 rfl (lv_at hla 0 rfl) ?_
  refine lv_if_lt G.1 G.2.1 dq_enc_1 (tgt := 15) rfl (fun _ => kf) (fun h => ?_)
  refine lv_iload_n G.1 G.2.1 dq_enc_4 rfl (lv_at hla 0 rfl) ?_
  refine lv_sipush (v := ii 255) G.1 G.2.1 dq_enc_5 (by decide) ?_
  exact lv_icmp_gt G.1 G.2.1 dq_enc_8 (tgt := 15) rfl (fun _ => kf) (fun h2 => absurd (hx.resolve_left h) h2)
theorem jq_enc1 {x : Int32} (hx : ¬ (x < 0 ∨ ii 255 < x)) : jqM ⟨"java/lang/StringLatin1", "canEncode", "(I)Z"⟩ prog_19_method_4_code 1 (some .boolean) 0 z A [.int x] (some (.int 1)) := by
  refine jqM.start (by decide +kernel) (Nat.le_refl _) ?_
  intro p l e R s m args below meth c la G hla hS
  refine lv_iload_n G.1 G.2.1 dq_enc_0 rfl (lv_at hla 0 rfl) ?_
  refine lv_if_lt G.1 G.2.1 dq_enc_1 (tgt := 15) rfl (fun h => absurd (Or.inl h) hx) (fun h => ?_)
  refine lv_iload_n G.1 G.2.1 dq_enc_4 rfl (lv_at hla 0 rfl) ?_
  refine lv_sipush (v := ii 255) G.1 G.2.1 dq_enc_5 (by decide) ?_
  refine lv_icmp_gt G.1 G.2.1 dq_enc_8 (tgt := 15) rfl (fun h => absurd (Or.inr h) hx) (fun h2 => ?_)
  refine lv_iconst (v := 1) G.1 G.2.1 dq_enc_11 (by decide) ?_
  refine lv_goto G.1 G.2.1 dq_enc_12 (tgt := 16) rfl ?_
  exact W.zret (ty := .boolean) G.1 G.2.1 G.2.2.2.2.2.2.1 (z_nar (Or.inr rfl)).1 (fun t ht _ => ⟨rfl, ht⟩) hS.2.2 dq_enc_16 G.2.2.2.2.2.1
theorem jq_ar : ∀ k : Nat, k < 9 → Int32.ofNat k + Int32.ofInt 1 = Int32.ofNat (k + 1) ∧ (¬ (Int32.ofNat k < 0 ∨ 9 ≤ (Int32.ofNat k).toNatClampNeg)) ∧ (Int32.ofNat k).toNatClampNeg = k ∧ (¬ (9 : Int32) ≤ Int32.ofNat k) ∧ (sxB.getD 1 []).drop k = (sxB.getD 1 []).getD k 0 :: (sxB.getD 1 []).drop (k + 1) := by decide +kernel
theorem jq_lp {b x : Int32} {ans : Int32} (G : jqC p R s m args meth c prog_19_method_23_code 6 "java/lang/StringLatin1" 0 (some .int) z A) : ∀ (n k : Nat), k + n = 9 → ans = ixOf b k ((sxB.getD 1 []).drop k) → ∀ (la : Array Slot) (locs : List Loc), va_S A s.heap s.heap locs →
    lv_has la 6 [(5, .int (Int32.ofNat k)), (4, .int b), (0, .ref (z.2.1 1)), (1, .int x), (2, .int 0), (3, .int 9)] → W p l e R s m args below meth c s.heap locs 0 0 (MQ below (jqQ (some (.int ans))) args s 0 0 A) (F0 m 7 la [])
  | 0, k, hk, ha, la, locs, hS, hla => by
    have hk : k = 9 := by omega
    subst hk
    have ha : ans = ii (-1) := ha
    subst ha
    refine lv_iload G.1 G.2.1 dq_ioc_7 (lv_at hla 0 rfl) ?_
    refine lv_iload_n G.1 G.2.1 dq_ioc_9 rfl (lv_at hla 5 rfl) ?_
    refine lv_icmp_ge G.1 G.2.1 dq_ioc_10 (tgt := 31) rfl (fun _ => ?_) (fun h => absurd (by decide) h)
    refine lv_iconst (v := ii (-1)) G.1 G.2.1 dq_ioc_31 (by decide) ?_
    exact W.iret G.1 G.2.1 G.2.2.2.2.2.2.1 (fun t ht _ => ⟨rfl, ht⟩) hS.2.2 dq_ioc_32 G.2.2.2.2.2.1
  | n + 1, k, hk, ha, la, locs, hS, hla => by
    obtain ⟨a1, a2, a3, a4, a5⟩ := jq_ar k (by omega)
    have hT := (G.2.2.2.2.2.2.2.2.2.2.2.2.2.2.2.1.1 1 (by decide)).2.2.2
    rw [a5] at ha
    unfold ixOf at ha
    refine lv_iload G.1 G.2.1 dq_ioc_7 (lv_at hla 0 rfl) ?_
    refine lv_iload_n G.1 G.2.1 dq_ioc_9 rfl (lv_at hla 5 rfl) ?_
    refine lv_icmp_ge G.1 G.2.1 dq_ioc_10 (tgt := 31) rfl (fun h => absurd h a4) (fun _ => ?_)
    refine lv_aload_n G.1 G.2.1 dq_ioc_13 rfl (lv_at hla 2 rfl) ?_
    refine lv_iload G.1 G.2.1 dq_ioc_14 (lv_at hla 0 rfl) ?_
    refine va_tb (v := .int ((sxB.getD 1 []).getD k 0)) G.1 G.2.1 hT hS a2 (by rw [a3]) dq_ioc_16 ?_
    refine lv_iload G.1 G.2.1 dq_ioc_17 (lv_at hla 1 rfl) ?_
    refine lv_icmp_ne G.1 G.2.1 dq_ioc_19 (tgt := 25) rfl (fun h => ?_) (fun h => ?_)
    · rw [if_neg h] at ha
      refine lv_iinc (k := 0) (v := Int32.ofNat (k + 1)) G.1 G.2.1 dq_ioc_25 hla rfl a1 (by decide) rfl ?_
      intro la' hla'
      refine lv_goto G.1 G.2.1 dq_ioc_28 (tgt := 7) rfl ?_
      exact jq_lp G n (k + 1) (by omega) ha la' locs hS hla'
    · rw [if_pos h] at ha
      subst ha
      refine lv_iload G.1 G.2.1 dq_ioc_22 (lv_at hla 0 rfl) ?_
      exact W.iret G.1 G.2.1 G.2.2.2.2.2.2.1 (fun t ht _ => ⟨rfl, ht⟩) hS.2.2 dq_ioc_24 G.2.2.2.2.2.1
theorem jq_ioc {x : Int32} : jqM ⟨"java/lang/StringLatin1", "indexOfChar", "([BIII)I"⟩ prog_19_method_23_code 6 (some .int) 0 z A [.ref (z.2.1 1), .int x, .int 0, .int 9] (some (.int (ixOf x.toInt8.toInt32 0 (sxB.getD 1 [])))) := by
  refine jqM.start (by decide +kernel) (by show 4 ≤ 6; decide) ?_
  intro p l e R s m args below meth c la G hla hS
  refine lv_iload_n G.1 G.2.1 dq_ioc_0 rfl (lv_at hla 1 rfl) ?_
  refine lv_i2b G.1 G.2.1 dq_ioc_1 rfl ?_
  refine lv_istore G.1 G.2.1 dq_ioc_2 hla (by decide) rfl ?_
  intro la1 hla1
  refine lv_iload_n G.1 G.2.1 dq_ioc_4 rfl (lv_at hla1 3 rfl) ?_
  refine lv_istore G.1 G.2.1 dq_ioc_5 hla1 (by decide) rfl ?_
  intro la2 hla2
  exact jq_lp (b := x.toInt8.toInt32) (x := x) G 9 0 rfl rfl la2 [] hS hla2
theorem jq_lix {x : Int32} : jqM ⟨"java/lang/StringLatin1", "indexOf", "([BIII)I"⟩ prog_19_method_22_code 4 (some .int) 1 z A [.ref (z.2.1 1), .int x, .int 0, .int 9] (some (.int (if x < 0 ∨ ii 255 < x then ii (-1) else ixOf x.toInt8.toInt32 0 (sxB.getD 1 [])))) := by
  refine jqM.start (by decide +kernel) (Nat.le_refl _) ?_
  intro p l e R s m args below meth c la G hla hS
  have T := G.2.2.2.2.1
  have hT := (G.2.2.2.2.2.2.2.2.2.2.2.2.2.2.2.1.1 1 (by decide)).2.2.2
  refine lv_iload_n G.1 G.2.1 dq_lix_0 rfl (lv_at hla 1 rfl) ?_
  by_cases hx : x < 0 ∨ ii 255 < x
  · rw [if_pos hx]
    refine jq_S (n := 1) G [.int x] [] (jq_enc0 hx) ⟨tw_718, tw_136, by decide, by decide, by decide +kernel⟩ tw_717 tw_716 dq_lix_1 (by decide) (by decide) rfl (by decide) hla.1 jq_0 hS rfl ?_
    intro locs1 hS1
    refine lv_if_ne G.1 G.2.1 dq_lix_4 (tgt := 9) rfl (fun h => absurd rfl h) (fun _ => ?_)
    refine lv_iconst (v := ii (-1)) G.1 G.2.1 dq_lix_7 (by decide) ?_
    exact W.iret G.1 G.2.1 G.2.2.2.2.2.2.1 (fun t ht _ => ⟨rfl, ht⟩) hS1.2.2 dq_lix_8 G.2.2.2.2.2.1
  · rw [if_neg hx]
    refine jq_S (n := 1) G [.int x] [] (jq_enc1 hx) ⟨tw_718, tw_136, by decide, by decide, by decide +kernel⟩ tw_717 tw_716 dq_lix_1 (by decide) (by decide) rfl (by decide) hla.1 jq_0 hS rfl ?_
    intro locs1 hS1
    refine lv_if_ne G.1 G.2.1 dq_lix_4 (tgt := 9) rfl (fun _ => ?_) (fun h => absurd h (by decide))
    refine lv_iload_n G.1 G.2.1 dq_lix_9 rfl (lv_at hla 2 rfl) ?_
    refine lv_iconst (v := 0) G.1 G.2.1 dq_lix_10 (by decide) ?_
    refine va_mmax G.1 G.2.1 (G.2.2.1.trans hla.1.symm) G.2.2.2.1 (T _ tw_719) (T _ tw_720) (T _ tw_139) (T _ tw_721) (by rw [G.2.2.2.2.2.2.2.1]; decide) (by rw [G.2.2.2.2.2.2.2.2.1]; decide) jq_0.1 jq_0.2 dq_lix_11 ?_
    rw [show (if (0 : Int32) < 0 then (0 : Int32) else 0) = 0 from by decide]
    refine lv_istore_n G.1 G.2.1 dq_lix_14 rfl hla (by decide) rfl ?_
    intro la1 hla1
    refine lv_iload_n G.1 G.2.1 dq_lix_15 rfl (lv_at hla1 3 rfl) ?_
    refine lv_aload_n G.1 G.2.1 dq_lix_16 rfl (lv_at hla1 1 rfl) ?_
    refine va_tlen (v := 9) G.1 G.2.1 hT hS1 (by decide) dq_lix_17 ?_
    refine va_mmin G.1 G.2.1 (G.2.2.1.trans hla1.1.symm) G.2.2.2.1 (T _ tw_722) (T _ tw_723) (T _ tw_139) (T _ tw_724) (by rw [G.2.2.2.2.2.2.2.1]; decide) (by rw [G.2.2.2.2.2.2.2.2.1]; decide) jq_0.1 jq_0.2 dq_lix_18 ?_
    rw [show (if (9 : Int32) < 9 then (9 : Int32) else 9) = 9 from by decide]
    refine lv_istore_n G.1 G.2.1 dq_lix_21 rfl hla1 (by decide) rfl ?_
    intro la2 hla2
    refine lv_iload_n G.1 G.2.1 dq_lix_22 rfl (lv_at hla2 1 rfl) ?_
    refine lv_iload_n G.1 G.2.1 dq_lix_23 rfl (lv_at hla2 0 rfl) ?_
    refine lv_icmp_lt G.1 G.2.1 dq_lix_24 (tgt := 29) rfl (fun _ => ?_) (fun h => absurd (by decide) h)
    refine lv_aload_n G.1 G.2.1 dq_lix_29 rfl (lv_at hla2 2 rfl) ?_
    refine lv_iload_n G.1 G.2.1 dq_lix_30 rfl (lv_at hla2 3 rfl) ?_
    refine lv_iload_n G.1 G.2.1 dq_lix_31 rfl (lv_at hla2 1 rfl) ?_
    refine lv_iload_n G.1 G.2.1 dq_lix_32 rfl (lv_at hla2 0 rfl) ?_
    refine jq_S (n := 4) G [.ref (z.2.1 1), .int x, .int 0, .int 9] [] jq_ioc ⟨tw_727, tw_136, by decide, by decide, by decide +kernel⟩ tw_726 tw_725 dq_lix_33 (by decide) (by decide) rfl (by decide) hla2.1 jq_0 hS1 rfl ?_
    intro locs2 hS2
    exact W.iret G.1 G.2.1 G.2.2.2.2.2.2.1 (fun t ht _ => ⟨rfl, ht⟩) hS2.2.2 dq_lix_36 G.2.2.2.2.2.1
theorem jq_si2 {x : Int32} : jqM ⟨"java/lang/String", "indexOf", "(II)I"⟩ prog_18_method_80_code 3 (some .int) 2 z A [.ref (z.1 1), .int x, .int 0] (some (.int (if x < 0 ∨ ii 255 < x then ii (-1) else ixOf x.toInt8.toInt32 0 (sxB.getD 1 [])))) := by
  refine jqM.start (by decide +kernel) (Nat.le_refl _) ?_
  intro p l e R s m args below meth c la G hla hS
  have hs := G.2.2.2.2.2.2.2.2.2
  refine lv_aload_n G.1 G.2.1 dq_si2_0 rfl (lv_at hla 0 rfl) ?_
  refine jq_V (n := 0) (j := 1) (by decide) G [] [] (jq_isL (by decide)) ⟨tw_655, tw_135, by decide, by decide, by decide +kernel⟩ ⟨tw_653, tw_654⟩ tw_652 dq_si2_1 (by decide) (by decide) rfl (by decide) hla.1 jq_0 hS rfl ?_
  intro locs1 hS1
  refine lv_if_eq G.1 G.2.1 dq_si2_4 (tgt := 23) rfl (fun h => absurd h (by decide)) (fun _ => ?_)
  refine lv_aload_n G.1 G.2.1 dq_si2_7 rfl (lv_at hla 0 rfl) ?_
  refine vk_getf G.1 G.2.1 (hs.2.2.2.2.2.2.1.1 1 (by decide)).2.2.1 hS1 G.2.2.2.1 (G.2.2.2.2.1 _ tw_2050) (fun _ e => e) dq_si2_8 ?_
  refine lv_iload_n G.1 G.2.1 dq_si2_11 rfl (lv_at hla 1 rfl) ?_
  refine lv_iload_n G.1 G.2.1 dq_si2_12 rfl (lv_at hla 2 rfl) ?_
  refine lv_aload_n G.1 G.2.1 dq_si2_13 rfl (lv_at hla 0 rfl) ?_
  refine jq_V (n := 0) (j := 1) (by decide) G [] [.int 0, .int x, .ref (z.2.1 1)] jq_len ⟨tw_708, tw_135, by decide, by decide, by decide +kernel⟩ ⟨tw_706, tw_707⟩ tw_705 dq_si2_14 (by decide) (by decide) rfl (by simp only [List.map_cons, List.map_nil, Value.category]; decide) hla.1 jq_0 hS1 rfl ?_
  intro locs2 hS2
  refine jq_S (n := 4) G [.ref (z.2.1 1), .int x, .int 0, .int 9] [] jq_lix ⟨tw_715, tw_136, by decide, by decide, by decide +kernel⟩ tw_714 tw_713 dq_si2_17 (by decide) (by decide) rfl (by decide) hla.1 jq_0 hS2 rfl ?_
  intro locs3 hS3
  refine lv_goto G.1 G.2.1 dq_si2_20 (tgt := 36) rfl ?_
  exact W.iret G.1 G.2.1 G.2.2.2.2.2.2.1 (fun t ht _ => ⟨rfl, ht⟩) hS3.2.2 dq_si2_36 G.2.2.2.2.2.1
theorem jq_si1 {x : Int32} : jqM ⟨"java/lang/String", "indexOf", "(I)I"⟩ prog_18_method_79_code 2 (some .int) 3 z A [.ref (z.1 1), .int x] (some (.int (if x < 0 ∨ ii 255 < x then ii (-1) else ixOf x.toInt8.toInt32 0 (sxB.getD 1 [])))) := by
  refine jqM.start (by decide +kernel) (Nat.le_refl _) ?_
  intro p l e R s m args below meth c la G hla hS
  refine lv_aload_n G.1 G.2.1 dq_si1_0 rfl (lv_at hla 0 rfl) ?_
  refine lv_iload_n G.1 G.2.1 dq_si1_1 rfl (lv_at hla 1 rfl) ?_
  refine lv_iconst (v := 0) G.1 G.2.1 dq_si1_2 (by decide) ?_
  refine jq_V (n := 2) (j := 1) (by decide) G [.int x, .int 0] [] jq_si2 ⟨tw_704, tw_135, by decide, by decide, by decide +kernel⟩ ⟨tw_702, tw_703⟩ tw_701 dq_si1_3 (by decide) (by decide) rfl (by decide) hla.1 jq_0 hS rfl ?_
  intro locs1 hS1
  exact W.iret G.1 G.2.1 G.2.2.2.2.2.2.1 (fun t ht _ => ⟨rfl, ht⟩) hS1.2.2 dq_si1_6 G.2.2.2.2.2.1
end JDK
section POJ
variable {Y : Yt} {sl : List (Nat × Nat)} {d pc : Nat}
theorem Gd.jq {X : Cxt} (G : Gd X Y) : jqC (xp X) (xR X) (xs X) (xm X) (xa X) (xh X) (xc X) Y.1 Y.2.1 Y.2.2.1 Y.2.2.2.1 Y.2.2.2.2.1 (xZ X) (xA X) :=
  ⟨G.1, G.2.1, G.2.2.1, G.2.2.2.1, G.2.2.2.2.1, G.2.2.2.2.2.2.1, G.2.2.2.2.2.2.2.1, G.2.2.2.2.2.2.2.2.2.1, G.2.2.2.2.2.2.2.2.2.2.1, G.2.2.2.2.2.2.2.2.2.2.2⟩
theorem e_chr {p1 i : Nat} {x : Xp Int32} (ho : Y.2.2.1 = "BlinkerCross$Tape") (hd0 : decode Y.1 pc = .ok (.ldc 68, 2)) (hx : PO Y iP sl (pc + 2) p1 x) (hw : Cond.methodLink Y.2.2.1 i ⟨"java/lang/String", "charAt", "(I)C"⟩ ∈ TB) (hd : decode Y.1 p1 = .ok (.invokevirtual i, 3)) (hL : 5 ≤ Y.2.2.2.1) (h8 : d ≤ 8) : EO Y Value.int sl d pc (p1 + 3) (chX x) := by
  intro X cs G ls st h v9 h9 hf hdp k hc hl H locs la hP hD hS hz hla
  obtain ⟨q, hq, hf⟩ := bnd hf
  split at hf
  · rename_i hin
    cases hf
    obtain ⟨e1, k1⟩ := hx X cs G ls h q.1 q.2 hq
    rw [e1] at k
    have hSx := G.2.2.2.2.2.2.2.2.2.2.2
    refine va_ldcS G.1 G.2.1 (ho ▸ G.2.2.2.1) hSx.2.2.2.2.1 hd0 ?_
    refine k1 hc hl H locs la hP hD hS hz hla _ ?_
    refine jq_V (n := 1) (j := 0) (by decide) G.jq [.int q.1] (st.map (cv (xb X))) (jq_sch hin) ⟨tw_651, tw_135, by decide, by decide, by decide +kernel⟩ ⟨tw_649, tw_650⟩ hw hd (by omega) (by decide) rfl (by rw [cv_cats]; exact Nat.le_trans hdp h8) hla.1 hc hS rfl ?_
    intro locs' hS'
    exact k hc hl H locs' la hP hD hS' hz hla
  · cases hf
theorem e_idx {p1 i : Nat} {x : Xp Int32} (ho : Y.2.2.1 = "BlinkerCross$Tape") (hd0 : decode Y.1 pc = .ok (.ldc 54, 2)) (hx : PO Y iP sl (pc + 2) p1 x) (hw : Cond.methodLink Y.2.2.1 i ⟨"java/lang/String", "indexOf", "(I)I"⟩ ∈ TB) (hd : decode Y.1 p1 = .ok (.invokevirtual i, 3)) (hL : 5 ≤ Y.2.2.2.1) (h8 : d ≤ 8) : EO Y Value.int sl d pc (p1 + 3) (idX x) := by
  intro X cs G ls st h v9 h9 hf hdp k hc hl H locs la hP hD hS hz hla
  obtain ⟨q, hq, hf⟩ := bnd hf
  cases hf
  obtain ⟨e1, k1⟩ := hx X cs G ls h q.1 q.2 hq
  rw [e1] at k
  have hSx := G.2.2.2.2.2.2.2.2.2.2.2
  refine va_ldcS G.1 G.2.1 (ho ▸ G.2.2.2.1) hSx.2.2.2.2.2.1 hd0 ?_
  refine k1 hc hl H locs la hP hD hS hz hla _ ?_
  refine jq_V (n := 1) (j := 1) (by decide) G.jq [.int q.1] (st.map (cv (xb X))) jq_si1 ⟨tw_700, tw_135, by decide, by decide, by decide +kernel⟩ ⟨tw_698, tw_699⟩ hw hd (by omega) (by decide) rfl (by rw [cv_cats]; exact Nat.le_trans hdp h8) hla.1 hc hS rfl ?_
  intro locs' hS'
  exact k hc hl H locs' la hP hD hS' hz hla
end POJ
