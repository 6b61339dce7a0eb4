/-! What makes cells: new, newarray, multianewarray of two dimensions; constructors. -/
theorem xA_top {X : Cxt} (hzm : xz X = true) (n : Nat) : xA X (xb X + n) := ⟨Nat.le_add_right _ _, Or.inl hzm⟩
section ALC
variable {X : Cxt} {Y : Yt} {cs : Nat × Nat} {sl : List (Nat × Nat)} {pc : Nat} {ls : Ev} {st : List Value} {h : Hp}
theorem al_new {cj index N : Nat} {C : String} {T : u_T} {ty : Nat → FieldType} {dfs : List Value} (G : Gd X Y) (hzm : xz X = true) (hC : Cf cj C T N ty) (hcl : Cond.classLink Y.2.2.1 index C ∈ TB) (hin : Cond.instantiable C N ∈ TB) (hini : Cond.initialized C ∈ TB) (hfs : ∀ b j, j < N → defaultValue (ty j) = vp_V (dfs.map (cv b)) j)
    (hd : decode Y.1 pc = .ok (.new index, 3)) (h1 : cs.1 + 1 ≤ (xR X).cells) (h2 : cs.2 + N ≤ (xR X).slots) (k : AW X Y (cs.1 + 1, cs.2 + N) sl (pc + 3) ls (.ref h.length :: st) (h ++ [.inr (cj, dfs)])) : AW X Y cs sl pc ls st h := by
  intro hc hl H locs la hP hD hS hz hla
  have hsz := hz hzm
  have hKn := G.2.2.2.2.2.1.1 cj _ hC.1
  refine W.newcK (h := xb X + h.length) G.1 G.2.1 G.2.2.2.1 (G.2.2.2.2.1 _ hcl) (G.2.2.2.2.1 _ hin) (G.2.2.2.2.1 _ hini) rfl hd h1 h2 hKn.2.1 hsz fun H1 kC hkC e1 z1 o1 => ?_
  have hk : ∀ (j : Nat) (x : Nat × va_E), (cW (xk X) (xb X) h)[j]? = some x → H1[x.1]? = H[x.1]? := fun j x hx => o1 x.1 (by rw [← hsz]; exact (hP j x hx).lt)
  refine k ⟨h1, h2⟩ hl H1 locs la ?_ ?_ ⟨Nat.le_trans hS.1 (by omega), fun x g1 g2 => (o1 x (by rw [← hsz]; exact Nat.lt_of_lt_of_le g1 hS.1)).trans (hS.2.1 x g1 g2), hS.2.2⟩ (fun _ => by rw [z1]; simp only [List.length_append, List.length_cons, List.length_nil]; omega) hla
  · rw [cW_push]
    refine (hP.kept hk).app (fun j x hx => ?_)
    have hz0 : j < 1 := (List.getElem?_eq_some_iff.mp hx).1
    rw [show j = 0 by omega] at hx
    cases hx
    exact ⟨_, hC.1, (u_born ty G.2.2.2.2.1 hC.2.1 hKn hkC e1 hC.2.2.1).to (fun j hj => hfs _ j hj)⟩
  · rw [cW_push]
    exact hD.push hP hsz.symm (xA_top hzm _)
theorem al_newa {t N : Nat} {nv : Int32} {atype : ArrayType} {ty : FieldType} {a0 : vp_A} (G : Gd X Y) (hzm : xz X = true) (hty : newarray.typeOf atype = ty) (htk : ∀ kA, (tyK kA)[t]? = some (kA t, ty)) (hra : ∀ U c, va_RA U c ty → U.vm.findClass ("[" ++ ty.toString) = some c) (hca : ∀ b, cA b a0 = a0) (ha : ∀ c : ClassId, vp_cell c a0 = arrV c N (fun _ => defaultValue ty))
    (hw : Cond.arrayClass ty ∈ TB) (hn : ¬ nv < 0) (hN : nv.toNatClampNeg = N) (hby : N * componentBytes ty ≤ 536870912) (hd : decode Y.1 pc = .ok (.newarray atype, 2)) (h1 : cs.1 + 1 ≤ (xR X).cells) (h2 : cs.2 + N ≤ (xR X).slots) (k : AW X Y (cs.1 + 1, cs.2 + N) sl (pc + 2) ls (.ref h.length :: st) (h ++ [.inl (t, a0)])) : AW X Y cs sl pc ls (.int nv :: st) h := by
  subst hty
  intro hc hl H locs la hP hD hS hz hla
  have hsz := hz hzm
  refine va_newaK (h := xb X + h.length) G.1 G.2.1 (G.2.2.2.2.1 _ hw) rfl hd rfl hn hN hby h1 h2 hsz fun H1 c0 e1 z1 o1 hAr hNm => ?_
  have hc0 : c0 = xk X t := Option.some.inj (hNm.symm.trans (hra _ _ (G.2.2.2.2.2.1.2 t _ (htk _)).2))
  subst hc0
  have hk : ∀ (j : Nat) (x : Nat × va_E), (cW (xk X) (xb X) h)[j]? = some x → H1[x.1]? = H[x.1]? := fun j x hx => o1 x.1 (by rw [← hsz]; exact (hP j x hx).lt)
  refine k ⟨h1, h2⟩ hl H1 locs la ?_ ?_ ⟨Nat.le_trans hS.1 (by omega), fun x g1 g2 => (o1 x (by rw [← hsz]; exact Nat.lt_of_lt_of_le g1 hS.1)).trans (hS.2.1 x g1 g2), hS.2.2⟩ (fun _ => by rw [z1]; simp only [List.length_append, List.length_cons, List.length_nil]; omega) hla
  · rw [cW_push]
    refine (hP.kept hk).app (fun j x hx => ?_)
    have hz0 : j < 1 := (List.getElem?_eq_some_iff.mp hx).1
    rw [show j = 0 by omega] at hx
    cases hx
    show H1[xb X + h.length]? = some (vp_cell (xk X t) (cA (xb X) a0))
    rw [hca, ha]
    exact e1
  · rw [cW_push]
    exact hD.push hP hsz.symm (xA_top hzm _)
end ALC
/-! multianewarray: the outer row with i rows made, then the rows -/
def mgI (c : ClassId) (M : Nat) : Cell := { cls := c, slots := Array.replicate M (.int 0), vm := .none }
def mgO (c : ClassId) (N b : Nat) : Nat → Cell
  | 0 => { cls := c, slots := Array.replicate N .null, vm := .none }
  | i + 1 => (mgO c N b i).setSlot i (.ref (b + 1 + i))
def mgS (s : State) (c ci : ClassId) (N M : Nat) : Nat → State
  | 0 => s.pushCell (mgO c N s.heap.size 0)
  | i + 1 => ((mgS s c ci N M i).pushCell (mgI ci M)).setCell s.heap.size (mgO c N s.heap.size (i + 1))
theorem mgO_f (c : ClassId) (N b : Nat) : ∀ i, (mgO c N b i).cls = c ∧ (mgO c N b i).vm = .none ∧ (mgO c N b i).slots.size = N
  | 0 => ⟨rfl, rfl, by simp [mgO]⟩
  | i + 1 => by
    obtain ⟨h1, h2, h3⟩ := mgO_f c N b i
    refine ⟨?_, ?_, ?_⟩ <;> simp [mgO, Cell.setSlot, h1, h2, h3]
theorem mgO_at (c : ClassId) (N b : Nat) : ∀ i j, j < N → (mgO c N b i).slots[j]? = some (if j < i then .ref (b + 1 + j) else .null)
  | 0, j, h => by simp [mgO, h]
  | i + 1, j, h => by
    have ih := mgO_at c N b i j h
    have hs := (mgO_f c N b i).2.2
    show ((mgO c N b i).setSlot i (.ref (b + 1 + i))).slots[j]? = _
    simp only [Cell.setSlot, Array.getElem?_setIfInBounds]
    by_cases e : i = j
    · subst e; simp [hs, h]
    · rw [if_neg e, ih]
      by_cases hj : j < i
      · rw [if_pos hj, if_pos (by omega)]
      · rw [if_neg hj, if_neg (by omega)]
theorem mgS_f (s : State) (c ci : ClassId) (N M : Nat) : ∀ i, (mgS s c ci N M i).heap.size = s.heap.size + 1 + i ∧ (mgS s c ci N M i).heap[s.heap.size]? = some (mgO c N s.heap.size i) ∧ (mgS s c ci N M i).vm = s.vm ∧ (mgS s c ci N M i).slotsUsed = s.slotsUsed + N + i * M
  | 0 => ⟨by simp [mgS], by simp [mgS], rfl, by simp [mgS, mgO]⟩
  | i + 1 => by
    obtain ⟨h1, h2, h3, h4⟩ := mgS_f s c ci N M i
    have hlt : s.heap.size < (mgS s c ci N M i).heap.size := by omega
    have hb : ((mgS s c ci N M i).pushCell (mgI ci M)).heap[s.heap.size]? = some (mgO c N s.heap.size i) := by rw [State.heap_pushCell_of_lt (h := hlt)]; exact h2
    refine ⟨?_, State.heap_setCell_self hb, by simp [mgS, h3], ?_⟩
    · simp [mgS, State.setCell, h1]; omega
    · simp [mgS, h4, mgI, Nat.succ_mul]; omega
theorem mgS_old (s : State) (c ci : ClassId) (N M : Nat) {a : Addr} (ha : a < s.heap.size) : ∀ i, (mgS s c ci N M i).heap[a]? = s.heap[a]?
  | 0 => State.heap_pushCell_of_lt _ _ ha
  | i + 1 => by
    have h1 := (mgS_f s c ci N M i).1
    have hlt : a < (mgS s c ci N M i).heap.size := Nat.lt_of_lt_of_le ha (by rw [h1]; omega)
    show (((mgS s c ci N M i).pushCell (mgI ci M)).setCell s.heap.size _).heap[a]? = _
    rw [State.heap_setCell_other (Nat.ne_of_gt ha), State.heap_pushCell_of_lt (h := hlt)]
    exact mgS_old s c ci N M ha i
theorem mgS_row (s : State) (c ci : ClassId) (N M : Nat) : ∀ i j, j < i → (mgS s c ci N M i).heap[s.heap.size + 1 + j]? = some (mgI ci M)
  | 0, _, h => absurd h (Nat.not_lt_zero _)
  | i + 1, j, h => by
    have h1 := (mgS_f s c ci N M i).1
    show (((mgS s c ci N M i).pushCell (mgI ci M)).setCell s.heap.size _).heap[s.heap.size + 1 + j]? = _
    rw [State.heap_setCell_other (show s.heap.size ≠ s.heap.size + 1 + j by omega)]
    rcases Nat.lt_or_ge j i with hj | hj
    · have hlt : s.heap.size + 1 + j < (mgS s c ci N M i).heap.size := by rw [h1]; omega
      rw [State.heap_pushCell_of_lt (h := hlt)]
      exact mgS_row s c ci N M i j hj
    · have e : j = i := by omega
      subst e
      rw [← h1]
      exact State.heap_pushCell_size _ _
theorem mgS_top (s : State) (f : JFrame) (c ci : ClassId) (N M : Nat) : ∀ i, mgS (s.setTop f) c ci N M i = (mgS s c ci N M i).setTop f
  | 0 => rfl
  | i + 1 => by simp only [mgS, mgS_top s f c ci N M i, State.heap_setTop, State.pushCell_setTop, State.setCell_setTop]
section MGW
variable {E : CtlPost} {e : Env} {d : Bool} {acts : List Action} {s : State}
theorem mg_arr {c comp : ClassId} {k : Class} {type : FieldType} {len : Nat} {init : Value} (hk : s.vm.classes[c]? = some k) (hkind : k.kind = .array comp type)
    (hlimit : ¬ len > e.platform.arrayLengthLimit) (hheap : ¬ len * componentBytes type > e.platform.maxHeapBytes) (hfit : fits type init = true) (hdef : init.isDefault = true) {Q : Addr → Pre}
    (h1 : s.heap.size < e.platform.maxCells) (h2 : s.slotsUsed + len ≤ e.platform.maxSlots)
    (hq : Q s.heap.size d acts (s.pushCell { cls := c, slots := Array.replicate len init, vm := .none })) : wp (Jvm.newArray c len init) Q E e d acts s := by
  have hfits : ∀ i v, (Array.replicate len init)[i]? = some v → s.fitsSlot c .none i v = true := by
    intro i v hv
    simp only [Array.getElem?_replicate] at hv
    split at hv
    · cases hv; simp [State.fitsSlot, State.slotType?, hk, hkind, hfit]
    · cases hv
  have hda : allocActs (Array.replicate len init) s.heap.size acts = acts := by
    have hall : ((Array.replicate len init).all (·.isDefault)) = true := by
      rw [Array.all_replicate]; split <;> simp [hdef]
    unfold allocActs; rw [if_pos hall]
  simp only [Jvm.newArray, Jvm.arrayFits, wp_bind', W.ask, W.ite, hlimit, if_false, wp_pure', W.theClass, hk, hkind, hheap, W.alloc, W.stop, Option.some.injEq, exists_eq_left', Array.size_replicate, hda]
  rw [if_neg (by omega)]
  exact ⟨h1, h2, hfits, hq⟩
theorem mg_one {comp cc : ClassId} {kc : Class} {m : Int32} (hkc : s.vm.classes[comp]? = some kc) (hkindc : kc.kind = .array cc .int) (hm : ¬ m < 0)
    (hl2 : ¬ m.toNatClampNeg > e.platform.arrayLengthLimit) (hh2 : ¬ m.toNatClampNeg * 4 > e.platform.maxHeapBytes) (h1 : s.heap.size < e.platform.maxCells) (h2 : s.slotsUsed + m.toNatClampNeg ≤ e.platform.maxSlots)
    {Q : Addr → Pre} (hq : Q s.heap.size d acts (s.pushCell (mgI comp m.toNatClampNeg))) : wp (multianewarray.make comp [m]) Q E e d acts s := by
  rw [multianewarray.make]
  simp only [wp_bind', W.ite, hm, if_false, wp_pure', W.theClass, hkc, hkindc, Option.some.injEq, exists_eq_left']
  exact mg_arr hkc hkindc hl2 hh2 rfl rfl h1 h2 hq
theorem mg_two {c comp cc : ClassId} {k kc : Class} {n m : Int32} (hk : s.vm.classes[c]? = some k) (hkind : k.kind = .array comp (.array .int)) (hkc : s.vm.classes[comp]? = some kc) (hkindc : kc.kind = .array cc .int) (hn : ¬ n < 0) (hm : ¬ m < 0)
    (hl1 : ¬ n.toNatClampNeg > e.platform.arrayLengthLimit) (hh1 : ¬ n.toNatClampNeg * 4 > e.platform.maxHeapBytes) (hl2 : ¬ m.toNatClampNeg > e.platform.arrayLengthLimit) (hh2 : ¬ m.toNatClampNeg * 4 > e.platform.maxHeapBytes)
    (hc : s.heap.size + 1 + n.toNatClampNeg ≤ e.platform.maxCells) (hs : s.slotsUsed + n.toNatClampNeg + n.toNatClampNeg * m.toNatClampNeg ≤ e.platform.maxSlots)
    {Q : Addr → Pre} (hq : ∀ d' acts', Q s.heap.size d' acts' (mgS s c comp n.toNatClampNeg m.toNatClampNeg n.toNatClampNeg)) : wp (multianewarray.make c [n, m]) Q E e d acts s := by
  have hfind : ([m].find? (· < 0)) = none := by simp [hm]
  rw [multianewarray.make]
  simp only [wp_bind', W.ite, hn, if_false, wp_pure', W.theClass, hk, hkind, Option.some.injEq, exists_eq_left']
  refine mg_arr hk hkind hl1 hh1 rfl rfl (by omega) (by have := Nat.zero_le (n.toNatClampNeg * m.toNatClampNeg); omega) ?_
  simp only [hfind]
  rw [ite_self, wp_bind', Std.Legacy.Range.forIn_eq_forIn_range']
  have hsz : ([:n.toNatClampNeg] : Std.Legacy.Range).size = n.toNatClampNeg := by simp [Std.Legacy.Range.size]
  rw [hsz]
  show wp (forIn (List.range' 0 n.toNatClampNeg 1) PUnit.unit _) _ E e d acts _
  refine wp_forIn_inv (fun rest s' => ∃ i, i ≤ n.toNatClampNeg ∧ rest = List.range' i (n.toNatClampNeg - i) ∧ s' = mgS s c comp n.toNatClampNeg m.toNatClampNeg i) _ _ ⟨0, Nat.zero_le _, rfl, rfl⟩ ?_ ?_
  · rintro x rest s' d' acts' Q' ⟨i, hi, hl, rfl⟩ hnext
    have hlt : i < n.toNatClampNeg := by
      rcases Nat.lt_or_ge i n.toNatClampNeg with h | h
      · exact h
      · rw [show n.toNatClampNeg - i = 0 from by omega] at hl; simp at hl
    obtain ⟨rfl, hrest⟩ : x = i ∧ rest = List.range' (i + 1) (n.toNatClampNeg - (i + 1)) := by
      rw [show n.toNatClampNeg - i = (n.toNatClampNeg - (i + 1)) + 1 from by omega, List.range'_succ] at hl
      exact ⟨(List.cons.inj hl).1, (List.cons.inj hl).2⟩
    obtain ⟨f1, f2, f3, f4⟩ := mgS_f s c comp n.toNatClampNeg m.toNatClampNeg x
    obtain ⟨o1, o2, o3⟩ := mgO_f c n.toNatClampNeg s.heap.size x
    have hmul : x * m.toNatClampNeg + m.toNatClampNeg ≤ n.toNatClampNeg * m.toNatClampNeg := by
      have := Nat.mul_le_mul_right m.toNatClampNeg (show x + 1 ≤ n.toNatClampNeg from hlt)
      rw [Nat.succ_mul] at this; exact this
    simp only [wp_bind']
    refine mg_one (by rw [f3]; exact hkc) hkindc hm hl2 hh2 (by rw [f1]; omega) (by rw [f4]; omega) ?_
    have hlt0 : s.heap.size < (mgS s c comp n.toNatClampNeg m.toNatClampNeg x).heap.size := by rw [f1]; omega
    simp only [wp_bind', W.writeLoc, wp_pure']
    refine ⟨mgO c n.toNatClampNeg s.heap.size x, by rw [State.heap_pushCell_of_lt (h := hlt0)]; exact f2, by rw [o2]; simp, by rw [o3]; exact hlt, ?_, hnext _ _ _ ⟨x + 1, hlt, hrest, ?_⟩⟩
    · rw [o1, o2]
      simp [State.fitsSlot, State.slotType?, f3, hk, hkind]
      rfl
    · rw [f1]; rfl
  · rintro s' d' acts' ⟨i, hi, hl, rfl⟩
    have hiN : i = n.toNatClampNeg := by
      rcases Nat.lt_or_ge i n.toNatClampNeg with h | h
      · rw [show n.toNatClampNeg - i = (n.toNatClampNeg - (i + 1)) + 1 from by omega, List.range'_succ] at hl; cases hl
      · omega
    subst hiN
    simp only [wp_pure']
    exact hq _ _
end MGW
section MGT
variable {p : Program} {l : Launch} {e : Env} {R : Room} {s : State} {m : MethodId} {args : Array Value} {below : List Frame} {meth : Method} {c : Code} {T : State} {locs : List Loc} {cells slots : Nat}
theorem mg_stand (X : Stand p l e R s m args below meth c T locs cells slots) (cA comp : ClassId) (N M : Nat) :
    ∀ i, Stand p l e R s m args below meth c (mgS T cA comp N M i) (locs ++ (List.range i).map fun j => ⟨T.heap.size, j⟩) (cells + 1 + i) (slots + N + i * M)
  | 0 => by
    have h := X.pushed (mgO cA N T.heap.size 0)
    rw [(mgO_f cA N T.heap.size 0).2.2] at h
    simpa [mgS] using h
  | i + 1 => by
    have Xi := mg_stand X cA comp N M i
    obtain ⟨f1, f2, f3, f4⟩ := mgS_f T cA comp N M i
    have hlt0 : T.heap.size < (mgS T cA comp N M i).heap.size := by rw [f1]; omega
    have hcell : ((mgS T cA comp N M i).pushCell (mgI comp M)).heap[T.heap.size]? = some (mgO cA N T.heap.size i) := by rw [State.heap_pushCell_of_lt (h := hlt0)]; exact f2
    have h := (Xi.pushed (mgI comp M)).stored hcell i (.ref (T.heap.size + 1 + i))
    have e1 : (mgI comp M).slots.size = M := by simp [mgI]
    rw [e1] at h
    have e2 : (locs ++ (List.range (i + 1)).map fun j => (⟨T.heap.size, j⟩ : Loc)) = (locs ++ (List.range i).map fun j => (⟨T.heap.size, j⟩ : Loc)) ++ [⟨T.heap.size, i⟩] := by simp [List.range_succ, List.append_assoc]
    have e3 : slots + N + (i + 1) * M = slots + N + i * M + M := by rw [Nat.succ_mul]; omega
    rw [e2, e3]
    exact h
theorem mg_over {args : Array Value} {s : State} (h : (Cond.arrayOver (.array .int)).before args s = true) : ∃ comp c k, s.vm.findClass (FieldType.array .int).toString = some comp ∧ s.vm.classes[c]? = some k ∧ k.kind = .array comp (.array .int) ∧ s.vm.findClass ("[" ++ (FieldType.array .int).toString) = some c := by
  have h : (Cond.arrayOver (.array .int)).holds args s none s [] = true := h
  simp only [Cond.holds, Cond.value, beq_iff_eq] at h
  cases hc : s.vm.findClass (FieldType.array FieldType.int).toString with
  | none => simp [hc] at h
  | some comp =>
    simp only [hc, Option.bind_some, Option.bind_eq_some_iff, Option.map_eq_some_iff] at h
    obtain ⟨c, hi, k, hk, hb⟩ := h
    obtain ⟨hlt, hp, -⟩ := Array.findIdx?_eq_some_iff_getElem.mp hi
    have hkk : s.vm.classes[c] = k := (Array.getElem?_eq_some_iff.mp hk).2
    rw [hkk] at hp
    cases hkind : k.kind with
    | array component ty =>
      rw [hkind] at hb hp
      simp at hb hp
      exact ⟨comp, c, k, rfl, hk, by rw [hkind, hp, hb.1], hb.2⟩
    | _ => rw [hkind] at hb; simp at hb
theorem mg_step (X : Stand p l e R s m args below meth c T locs cells slots) (hexec : p.tables.exec = Jvm.exec) {own : String} {index : Nat} (hown : s.vm.findClass own = some m.cls) (hclink : (Cond.classLink own index ("[" ++ (FieldType.array .int).toString)).before args s = true)
    {a0 : Array Value} (hover : (Cond.arrayOver (.array .int)).before a0 s = true) (harr : (Cond.arrayClass .int).before args s = true)
    {g : JFrame} (hg : g.method = m) (hdg : decode c.code g.pc = .ok (.multianewarray index 2, 4)) {n k : Int32} {rest : List Value} (hstack : g.stack = .int k :: .int n :: rest)
    (hn : ¬ n < 0) (hk : ¬ k < 0) (hb1 : n.toNatClampNeg * 4 ≤ 536870912) (hb2 : k.toNatClampNeg * 4 ≤ 536870912) (hcells : cells + (1 + n.toNatClampNeg) ≤ R.cells) (hslots : slots + (n.toNatClampNeg + n.toNatClampNeg * k.toNatClampNeg) ≤ R.slots) :
    ∃ (vm₁ : Vm) (cA comp : ClassId), s.vm.findClass ("[" ++ (FieldType.array .int).toString) = some cA ∧ s.vm.findClass (FieldType.array .int).toString = some comp ∧
      Stand p l e R s m args below meth c (mgS (T.setVm vm₁) cA comp n.toNatClampNeg k.toNatClampNeg n.toNatClampNeg) (locs ++ (List.range n.toNatClampNeg).map fun j => ⟨T.heap.size, j⟩) (cells + 1 + n.toNatClampNeg) (slots + n.toNatClampNeg + n.toNatClampNeg * k.toNatClampNeg) ∧
      ∀ target, Steps p.tables e below ((mgS (T.setVm vm₁) cA comp n.toNatClampNeg k.toNatClampNeg n.toNatClampNeg).setTop { g with pc := g.pc + 4, stack := .ref T.heap.size :: rest }) target → Steps p.tables e below (T.setTop g) target := by
  subst hg
  have hpl : e.platform.magicAccessors = ({} : Platform).magicAccessors := by rw [X.admits.platform]
  obtain ⟨comp, cA, kA, hcomp, hkA, hkindA, hnameA⟩ := mg_over hover
  obtain ⟨comp', kC, cc, hcomp', hkC, hkindC⟩ := Cond.arrayClass_spec harr
  have ecomp : comp' = comp := Option.some.inj (hcomp'.symm.trans hcomp)
  subst ecomp
  obtain ⟨c0, hfc0, hcl⟩ := Cond.classLink_spec hown hclink e.platform hpl
  cases hnameA.symm.trans hfc0
  obtain ⟨hg₁, hwarm₁, hready₁⟩ := State.classEntry (e := e) X.warmed hcl
  generalize T.vm.noted g.method.cls index (.cls cA) = vm₁ at hg₁ hwarm₁ hready₁
  have hal : s.vm.Alike vm₁ := hwarm₁.alike
  obtain ⟨kA₁, hkA₁, heA⟩ := hal.2.2 _ _ hkA
  obtain ⟨kC₁, hkC₁, heC⟩ := hal.2.2 _ _ hkC
  have hkindA₁ : kA₁.kind = .array comp' (.array .int) := by rw [heA]; exact hkindA
  have hkindC₁ : kC₁.kind = .array cc .int := by rw [heC]; exact hkindC
  have X₁ := X.noted hwarm₁
  obtain ⟨hr1, hr2⟩ := X.roomAbove hcells hslots
  refine ⟨vm₁, cA, comp', hnameA, hcomp, mg_stand X₁ cA comp' _ _ _, fun target hrest => ?_⟩
  have hl1 : ¬ n.toNatClampNeg > e.platform.arrayLengthLimit := by rw [Launch.admits_arrayLengthLimit X.admits]; omega
  have hh1 : ¬ n.toNatClampNeg * 4 > e.platform.maxHeapBytes := by rw [Launch.admits_maxHeapBytes X.admits]; omega
  have hl2 : ¬ k.toNatClampNeg > e.platform.arrayLengthLimit := by rw [Launch.admits_arrayLengthLimit X.admits]; omega
  have hh2 : ¬ k.toNatClampNeg * 4 > e.platform.maxHeapBytes := by rw [Launch.admits_maxHeapBytes X.admits]; omega
  jvm_step X.here [hexec, hdg]
  simp only [multianewarray.sem, wp_bind', W.resolveClassAt_links (State.method?_setTop g X.here.top) hg₁]
  rw [W.popN, if_neg (by decide)]
  refine ⟨g, State.topJava?_setTop' (s := T.setVm vm₁) g X.here.top, [.int n, .int k], rest, rfl, hstack, ?_⟩
  simp only [List.mapM_cons, List.mapM_nil, wp_bind', wp_pure']
  refine mg_two (k := kA₁) (kc := kC₁) (comp := comp') (cc := cc) hkA₁ hkindA₁ hkC₁ hkindC₁ hn hk hl1 hh1 hl2 hh2 (by show T.heap.size + 1 + _ ≤ _; omega) (by show T.slotsUsed + _ + _ ≤ _; omega) (fun d' acts' => ?_)
  have XF := mg_stand X₁ cA comp' n.toNatClampNeg k.toNatClampNeg n.toNatClampNeg
  have eS : ((T.setTop g).setVm vm₁).setTop { g with stack := rest } = (T.setVm vm₁).setTop { g with stack := rest } := by
    show ((T.setVm vm₁).setTop g).setTop _ = _
    rw [State.setTop_setTop]
  rw [eS, mgS_top]
  simp only [wp_bind', W.mark, W.pushRef, State.topJava?_setTop' _ XF.here.top, Option.some.injEq, exists_eq_left', State.setTop_setTop, State.heap_setTop]
  intro acts
  simp [jvm, XF.here.top]
  exact hrest
end MGT
