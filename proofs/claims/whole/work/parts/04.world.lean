/-! What a walk stands on besides its cells: nest mates, int[][], the two texts and two statics of the JDK. -/
def sxW : String := "road    goer    wants   stands  crowds  keeps   turns   seed    if      then    else    seen    want    next    wide    here    day     which   stood   roads   "
def sxG : String := ";=+-*/<()"
def sxL : List Nat := [160, 9]
def sxB : List (List Int32) := [[114, 111, 97, 100, 32, 32, 32, 32, 103, 111, 101, 114, 32, 32, 32, 32, 119, 97, 110, 116, 115, 32, 32, 32, 115, 116, 97, 110, 100, 115, 32, 32, 99, 114, 111, 119, 100, 115, 32, 32, 107, 101, 101, 112, 115, 32, 32, 32, 116, 117, 114, 110, 115, 32, 32, 32, 115, 101, 101, 100, 32, 32, 32, 32, 105, 102, 32, 32, 32, 32, 32, 32, 116, 104, 101, 110, 32, 32, 32, 32, 101, 108, 115, 101, 32, 32, 32, 32, 115, 101, 101, 110, 32, 32, 32, 32, 119, 97, 110, 116, 32, 32, 32, 32, 110, 101, 120, 116, 32, 32, 32, 32, 119, 105, 100, 101, 32, 32, 32, 32, 104, 101, 114, 101, 32, 32, 32, 32, 100, 97, 121, 32, 32, 32, 32, 32, 119, 104, 105, 99, 104, 32, 32, 32, 115, 116, 111, 111, 100, 32, 32, 32, 114, 111, 97, 100, 115, 32, 32, 32], [59, 61, 43, 45, 42, 47, 60, 40, 41]]
def AOI (U : State) : Prop := (Cond.arrayOver (.array .int)).before #[] U = true
theorem AOI.moved {u U : State} (hvm : u.vm.Alike U.vm) (h : AOI u) : AOI U := by
  have h1 : (Cond.arrayOver (.array .int)).before #[] (u.setVm U.vm) = true := by rw [Cond.arrayOver_setVmC hvm]; exact h
  have e : (Cond.arrayOver (.array .int)).before #[] U = (Cond.arrayOver (.array .int)).before #[] (u.setVm U.vm) := by rfl
  show (Cond.arrayOver (.array .int)).before #[] U = true
  rw [e]; exact h1
abbrev sN1 : Cond := .methodLinkNest "BlinkerCross" 11 ⟨"BlinkerCross$Tape", "<init>", "()V"⟩ "BlinkerCross"
abbrev sN2 : Cond := .methodLinkNest "BlinkerCross" 91 ⟨"BlinkerCross$History", "<init>", "()V"⟩ "BlinkerCross"
abbrev sN3 : Cond := .methodLinkNest "BlinkerCross$Laws" 48 ⟨"BlinkerCross", "heldTo", "(II)I"⟩ "BlinkerCross"
abbrev Zt : Type := (Nat → Nat) × (Nat → Nat) × Nat
def Sx (z : Zt) (A : Nat → Prop) (U : State) (H : Heap) : Prop :=
  va_Nw sN1 U ∧ va_Nw sN2 U ∧ va_Nw sN3 U ∧ AOI U ∧ vk_R "BlinkerCross$Tape" 68 sxW (z.1 0) U ∧ vk_R "BlinkerCross$Tape" 54 sxG (z.1 1) U ∧ vk_S 2 sxL sxB z.1 z.2.1 A U H ∧
  va_Z "java/lang/String" "COMPACT_STRINGS" "Z" (.int 1) A U H ∧ va_Zq "jdk/internal/util/Preconditions" "SIOOBE_FORMATTER" "Ljava/util/function/BiFunction;" A U H
theorem Sx.go {z : Zt} {A : Nat → Prop} {s U : State} {H H1 : Heap} (h : Sx z A s H) (hW : s.WarmedH U.vm) (hq : ∀ a : Nat, a < H.size → ¬ A a → H1[a]? = H[a]?) : Sx z A U H1 := by
  obtain ⟨h1, h2, h3, h4, h5, h6, h7, h8, h9⟩ := h
  exact ⟨h1.warmM hW, h2.warmM hW, h3.warmM hW, h4.moved hW.alike, h5.warm hW, h6.warm hW, (h7.moved hW.alike).kept hq, (h8.moved hW.alike).kept hq, (h9.moved hW.alike).kept hq⟩
theorem Sx.same {z : Zt} {A : Nat → Prop} {s U : State} {H : Heap} (h : Sx z A s H) (hv : U.vm = s.vm) : Sx z A U H := by
  obtain ⟨h1, h2, h3, h4, h5, h6, h7, h8, h9⟩ := h
  have ha : s.vm.Alike U.vm := by rw [hv]; exact Vm.Alike.refl _
  exact ⟨h1.same rfl hv.symm, h2.same rfl hv.symm, h3.same rfl hv.symm, h4.moved ha, h5.same hv, h6.same hv, h7.moved ha, h8.moved ha, h9.moved ha⟩
/-- the world of a method: its cells at b, b + 1 .. ; with zm nothing lies behind them -/
def Wd (D : va_G) (kA : Nat → ClassId) (b : Nat) (zm : Bool) (z : Zt) (A : Nat → Prop) (h : Hp) (U : State) : Prop :=
  va_P D CL (cW kA b h) U.heap ∧ va_K D CL (tyK kA) U ∧ (zm = true → U.heap.size = b + h.length) ∧ Sx z A U U.heap
/-- its end -/
def Qm (D : va_G) (kA : Nat → ClassId) (b : Nat) (zm : Bool) (A : Nat → Prop) (Ex : Option Value × Hp) : Array Value → State → Outcome → State → Prop := fun _ st o t =>
  o = .returned (Ex.1.map (cv b)) ∧ va_P D CL (cW kA b Ex.2) t.heap ∧ va_D A (cW kA b Ex.2) ∧ (zm = true → t.heap.size = b + Ex.2.length) ∧ va_F A st t
/-- what a walk's judgements speak of: the machine; the frame; the tables; the place of the world; the end -/
abbrev Cxt : Type := (Program × Launch × Env × Room × State) × (MethodId × Array Value × List Frame × Method × Code) × (va_G × (Nat → ClassId)) × (Nat × Nat × Bool × Zt) × (State → Prop)
abbrev xp (X : Cxt) : Program := X.1.1
abbrev xl (X : Cxt) : Launch := X.1.2.1
abbrev xe (X : Cxt) : Env := X.1.2.2.1
abbrev xR (X : Cxt) : Room := X.1.2.2.2.1
abbrev xs (X : Cxt) : State := X.1.2.2.2.2
abbrev xm (X : Cxt) : MethodId := X.2.1.1
abbrev xa (X : Cxt) : Array Value := X.2.1.2.1
abbrev xw (X : Cxt) : List Frame := X.2.1.2.2.1
abbrev xh (X : Cxt) : Method := X.2.1.2.2.2.1
abbrev xc (X : Cxt) : Code := X.2.1.2.2.2.2
abbrev xD (X : Cxt) : va_G := X.2.2.1.1
abbrev xk (X : Cxt) : Nat → ClassId := X.2.2.1.2
abbrev xb (X : Cxt) : Nat := X.2.2.2.1.1
abbrev xN (X : Cxt) : Nat := X.2.2.2.1.2.1
abbrev xz (X : Cxt) : Bool := X.2.2.2.1.2.2.1
abbrev xZ (X : Cxt) : Zt := X.2.2.2.1.2.2.2
abbrev xQ (X : Cxt) : State → Prop := X.2.2.2.2
abbrev xA (X : Cxt) : Nat → Prop := Aq (xb X) (xN X) (xz X)
/-- a method: code, locals, class, level, answer, name -/
abbrev Yt : Type := ByteArray × Nat × String × Nat × Option FieldType × String
def Gd (X : Cxt) (Y : Yt) : Prop :=
  (xp X).tables.exec = Jvm.exec ∧ (xc X).code = Y.1 ∧ (xc X).maxLocals = Y.2.1 ∧ (xs X).vm.findClass Y.2.2.1 = some (xm X).cls ∧ (∀ w ∈ TB, w.before (xa X) (xs X) = true) ∧ va_K (xD X) CL (tyK (xk X)) (xs X) ∧
  (xh X).locks = false ∧ (xh X).sig.returnType = Y.2.2.2.2.1 ∧ (xh X).name = Y.2.2.2.2.2 ∧ (xR X).frames = Y.2.2.2.1 ∧ (xR X).locals = 64 * Y.2.2.2.1 ∧ Sx (xZ X) (xA X) (xs X) (xs X).heap
abbrev XW (X : Cxt) (cs : Nat × Nat) (H : Heap) (locs : List Loc) (g : JFrame) : Prop := W (xp X) (xl X) (xe X) (xR X) (xs X) (xm X) (xa X) (xw X) (xh X) (xc X) H locs cs.1 cs.2 (xQ X) g
/-- the walk at pc, locals ls (in the slots sl), operand stack st, heap h -/
def AW (X : Cxt) (Y : Yt) (cs : Nat × Nat) (sl : List (Nat × Nat)) (pc : Nat) (ls : Ev) (st : List Value) (h : Hp) : Prop :=
  cs.1 ≤ (xR X).cells ∧ cs.2 ≤ (xR X).slots → (ls.map fun v => v.category) = sl.map (·.2) → ∀ (H : Heap) (locs : List Loc) (la : Array Slot), va_P (xD X) CL (cW (xk X) (xb X) h) H → va_D (xA X) (cW (xk X) (xb X) h) → va_S (xA X) (xs X).heap H locs →
    (xz X = true → H.size = xb X + h.length) → lv_has la Y.2.1 ((sl.map (·.1)).zip (ls.map (cv (xb X)))) → XW X cs H locs (F0 (xm X) pc la (st.map (cv (xb X))))
abbrev dep (st : List Value) : Nat := (st.map fun v => v.category).sum
abbrev Xp (α : Type) : Type := Ev → Hp → Option (α × Hp)
def EO {α : Type} (Y : Yt) (ι : α → Value) (sl : List (Nat × Nat)) (d pc pc' : Nat) (f : Xp α) : Prop :=
  ∀ X cs, Gd X Y → ∀ (ls : Ev) (st : List Value) (h : Hp) (v : α) (h' : Hp), f ls h = some (v, h') → dep st ≤ d → AW X Y cs sl pc' ls (ι v :: st) h' → AW X Y cs sl pc ls st h
def CO (Y : Yt) (sl : List (Nat × Nat)) (d pc pt pf : Nat) (f : Xp Bool) : Prop :=
  ∀ X cs, Gd X Y → ∀ (ls : Ev) (st : List Value) (h : Hp) (v : Bool) (h' : Hp), f ls h = some (v, h') → dep st ≤ d → (v = true → AW X Y cs sl pt ls st h') → (v = false → AW X Y cs sl pf ls st h') → AW X Y cs sl pc ls st h
def evs : List (Xp Value) → Xp (List Value)
  | [] => fun _ h => some ([], h)
  | f :: fs => fun ls h => (f ls h).bind fun q => (evs fs ls q.2).bind fun r => some (q.1 :: r.1, r.2)
def AO (Y : Yt) (sl : List (Nat × Nat)) (d pc pc' : Nat) (fs : List (Xp Value)) : Prop :=
  ∀ X cs, Gd X Y → ∀ (ls : Ev) (st : List Value) (h : Hp) (vs : List Value) (h' : Hp), evs fs ls h = some (vs, h') → dep st ≤ d → AW X Y cs sl pc' ls (vs.reverse ++ st) h' → AW X Y cs sl pc ls st h
/-- how a statement ends: 0 goes on, 1 break, 2 continue, 3 return -/
abbrev Rs : Type := Nat × Option Value
abbrev Sm : Type := Ev → Hp → Option (Rs × Ev × Hp)
abbrev Jt : Type := (List (Nat × Nat) × Nat) × (List (Nat × Nat) × Nat)
def Kn (X : Cxt) (Y : Yt) (cs : Nat × Nat) (sl' : List (Nat × Nat)) (pc' : Nat) (J : Jt) (Ex : Option Value × Hp) (r : Rs) (ls' : Ev) (h' : Hp) : Prop := match r.1 with
  | 0 => AW X Y cs sl' pc' ls' [] h'
  | 1 => AW X Y cs J.1.1 J.1.2 ls' [] h'
  | 2 => AW X Y cs J.2.1 J.2.2 ls' [] h'
  | _ => (r.2, h') = Ex
def Qs (X : Cxt) (cs : Nat × Nat) (Ex : Option Value × Hp) : Prop := xQ X = MQ (xw X) (Qm (xD X) (xk X) (xb X) (xz X) (xA X) Ex) (xa X) (xs X) cs.1 cs.2 (xA X)
def SO (Y : Yt) (sl sl' : List (Nat × Nat)) (pc pc' : Nat) (J : Jt) (f : Sm) : Prop :=
  ∀ X cs Ex, Gd X Y → Qs X cs Ex → ∀ (ls : Ev) (h : Hp) (r : Rs) (ls' : Ev) (h' : Hp), f ls h = some (r, ls', h') → Kn X Y cs sl' pc' J Ex r ls' h' → AW X Y cs sl pc ls [] h
/-- a statement that may make cells: k cells of n slots -/
def SA (Y : Yt) (sl sl' : List (Nat × Nat)) (pc pc' k n : Nat) (f : Sm) : Prop :=
  ∀ X cs, Gd X Y → xz X = true → xb X ≤ (xs X).heap.size → cs.1 + k ≤ (xR X).cells → cs.2 + n ≤ (xR X).slots → ∀ (ls : Ev) (h : Hp) (r : Rs) (ls' : Ev) (h' : Hp), f ls h = some (r, ls', h') → r.1 = 0 ∧ (AW X Y (cs.1 + k, cs.2 + n) sl' pc' ls' [] h' → AW X Y cs sl pc ls [] h)
