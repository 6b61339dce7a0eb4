/-! Statements, methods, calls. -/
abbrev Dn : Type := Ev → Hp → Option (Option Value × Hp)
def slc : Nat → List Nat → List (Nat × Nat)
  | _, [] => []
  | i, c :: cs => (i, c) :: slc (if c = 2 then i + 2 else i + 1) cs
theorem slc_args (b : Nat) : ∀ (as : Ev) (i : Nat), lv_args i (as.map (cv b)) = ((slc i (as.map fun v => v.category)).map (·.1)).zip (as.map (cv b))
  | [], i => rfl
  | v :: as, i => by
    simp only [List.map_cons, lv_args, slc, List.zip_cons_cons, cv_cat]
    rw [slc_args b as]
theorem slc_cat : ∀ (cs : List Nat) (i : Nat), (slc i cs).map (·.2) = cs
  | [], _ => rfl
  | c :: cs, i => by simp only [slc, List.map_cons, slc_cat cs]
theorem lg_len (b : Nat) (as : Ev) : (lg_sl (as.map (cv b))).length = (as.map fun v => v.category).sum := by
  unfold lg_sl
  induction as with
  | nil => rfl
  | cons v as ih =>
    simp only [List.map_cons, List.flatMap_cons, List.length_append, ih, List.sum_cons, cv_cat]
    rcases lv_cat v with h | h <;> simp [h]
/-- a method by its body: the arguments' sizes, the body -/
def runS (cts : List Nat) (F : Sm) : Dn := fun as h => if (as.map fun v => v.category) = cts then (F as h).bind fun q => match q.1.1 with
  | 3 => some (q.1.2, q.2.2)
  | _ => none
  else none
def isO (h : Hp) (as : Ev) (ci : Nat) : Bool := match as with
  | .ref r :: _ => (match h[r]? with
    | some (.inr (c, _)) => c == ci
    | _ => false)
  | _ => false
def mV (ci : Nat) (D : Dn) : Dn := fun as h => if isO h as ci = true then D as h else none
def rmL (lev mc ms : Nat) : Room := { frames := lev, cells := mc, slots := ms, locals := 64 * lev }
def MOK (y : MethodName) (cc : ByteArray) (mL : Nat) (rt : Option FieldType) (lev mc ms : Nat) (D : Dn) : Prop :=
  ∀ (l : Launch) (G : va_G) (kA : Nat → ClassId) (b N : Nat) (zm : Bool) (z : Zt) (as : Ev) (h : Hp) (r : Option Value) (h' : Hp), (mc = 0 ∨ zm = true) → D as h = some (r, h') → va_D (Aq b N zm) (cW kA b h) →
    Met l y (.code y cc mL rt :: TB) (rmL lev mc ms) (va_Pc (as.map (cv b)) (Wd G kA b zm z (Aq b N zm) h)) (Qm G kA b zm (Aq b N zm) (r, h')) mc ms (Aq b N zm)
theorem MOK.start {y : MethodName} {cc : ByteArray} {mL : Nat} {rt : Option FieldType} {lev mc ms : Nat} {cts : List Nat} {F : Sm} (hy : plainName y.cls = true) (hs : cts.sum ≤ mL)
    (hb : ∀ X Ex, Gd X (cc, mL, y.cls, lev, rt, y.name) → Qs X (mc, ms) Ex → (mc = 0 ∨ (xz X = true ∧ xb X ≤ (xs X).heap.size)) → (xR X).cells = mc → (xR X).slots = ms → ∀ (ls : Ev) (h : Hp) (v : Option Value) (ls' : Ev) (h' : Hp), F ls h = some ((3, v), ls', h') → (v, h') = Ex → AW X (cc, mL, y.cls, lev, rt, y.name) (0, 0) (slc 0 cts) 0 ls [] h) :
    MOK y cc mL rt lev mc ms (runS cts F) := by
  intro l G kA b N zm z as h r h' hmc hD hDw
  unfold runS at hD
  split at hD
  · rename_i hct
    obtain ⟨q, hq, hD⟩ := bnd hD
    obtain ⟨⟨n, v⟩, ls', h2⟩ := q
    split at hD
    · rename_i e3
      have e3 : n = 3 := e3
      subst e3
      cases hD
      refine Met.ofW (cc := cc) (maxL := mL) (ret := rt) hy rfl ?_
      intro p e s m args below meth c s₁ B hml hv
      obtain ⟨rfl, hP, hK, hz, hSx⟩ := hv
      have hts := atoms_spec (ws := .code y cc mL rt :: TB) B.pre
      have hAW := hb ((p, l, e, rmL lev mc ms, s), (m, (as.map (cv b)).toArray, below, meth, c), (G, kA), (b, N, zm, z), MQ below (Qm G kA b zm (Aq b N zm) (v, h2)) (as.map (cv b)).toArray s mc ms (Aq b N zm)) (v, h2)
        ⟨B.exec, B.bytes, hml, findClass_of_methodNamed B.named, fun w hw => hts w (List.mem_cons_of_mem _ hw), hK, B.notSynchronized, B.returns, (name_of_methodNamed B.named B.method).1, rfl, rfl, hSx⟩ rfl
        (hmc.imp_right fun e => ⟨e, by show b ≤ s.heap.size; rw [hz e]; omega⟩) rfl rfl as h v ls' h2 hq rfl
      have hl := lv_entry (as.map (cv b)) (n := mL) (by rw [lg_len, hct]; exact hs)
      rw [lg_entry_eq]
      rw [slc_args, hct] at hl
      exact hAW ⟨Nat.zero_le _, Nat.zero_le _⟩ (by rw [slc_cat, hct]) s.heap [] _ hP hDw va_S.rf hz hl
    · cases hD
  · cases hD
theorem MOK.of {y : MethodName} {cc : ByteArray} {mL : Nat} {rt : Option FieldType} {lev pc' : Nat} {sl' : List (Nat × Nat)} {J : Jt} {cts : List Nat} {F : Sm} (hy : plainName y.cls = true) (hs : cts.sum ≤ mL)
    (hb : SO (cc, mL, y.cls, lev, rt, y.name) (slc 0 cts) sl' 0 pc' J F) : MOK y cc mL rt lev 0 0 (runS cts F) :=
  MOK.start hy hs fun X Ex G Q _ _ _ ls h v ls' h' hF e => hb X (0, 0) Ex G Q ls h (3, v) ls' h' hF e
theorem MOK.V {y : MethodName} {cc : ByteArray} {mL : Nat} {rt : Option FieldType} {lev mc ms ci : Nat} {D : Dn} (h : MOK y cc mL rt lev mc ms D) : MOK y cc mL rt lev mc ms (mV ci D) := by
  intro l G kA b N zm z as hh r h' hmc hD hDw
  unfold mV at hD
  split at hD
  · exact h l G kA b N zm z as hh r h' hmc hD hDw
  · cases hD
/-- of a method that is called: its words -/
def Mf (y : MethodName) (cc : ByteArray) (mL : Nat) (rt : Option FieldType) (n : Nat) : Prop :=
  Cond.code y cc mL rt ∈ TB ∧ Cond.initialized y.cls ∈ TB ∧ (y.cls ≠ "java/lang/invoke/MethodHandle" ∧ y.cls ≠ "java/lang/invoke/VarHandle" ∧ (parseMethodDescriptor y.desc).map (fun d => d.parameters.length) = some n)
theorem Wd.blind {D : va_G} {kA : Nat → ClassId} {b : Nat} {zm : Bool} {z : Zt} {A : Nat → Prop} {h : Hp} {av : List Value} : FrameBlind (va_Pc av (Wd D kA b zm z A h)) := by
  intro a U g mk q
  obtain ⟨q0, qP, qK, qz, qS⟩ := q
  exact ⟨q0, qP, va_K.moved (u := U) (U := U.calling g mk a) (Vm.Alike.refl U.vm) qK, qz, qS.same rfl⟩
theorem Wd.at {X : Cxt} {Y : Yt} {h : Hp} {H : Heap} {locs : List Loc} (G : Gd X Y) (hP : va_P (xD X) CL (cW (xk X) (xb X) h) H) (hS : va_S (xA X) (xs X).heap H locs) (hz : xz X = true → H.size = xb X + h.length) (U : State) (hU : U.heap = H) (hW : (xs X).WarmedH U.vm) : Wd (xD X) (xk X) (xb X) (xz X) (xZ X) (xA X) h U := by
  refine ⟨by rw [hU]; exact hP, va_K.moved hW.alike G.2.2.2.2.2.1, by rw [hU]; exact hz, ?_⟩
  rw [hU]
  exact G.2.2.2.2.2.2.2.2.2.2.2.go hW hS.2.1
/-- behind a call -/
theorem run_go {X : Cxt} {Y : Yt} {cs : Nat × Nat} {sl : List (Nat × Nat)} {pc mc ms : Nat} {ls : Ev} {st st0 : List Value} {h2 : Hp} {r : Option Value} {H : Heap} {locs : List Loc} {la : Array Slot} {av : Array Value}
    (hr : va_Run (xp X) (xl X) (xe X) (xR X) (xs X) (xm X) (xa X) (xw X) (xh X) (xc X) H locs cs.1 cs.2 mc ms (F0 (xm X) pc la st0) (st.map (cv (xb X))) (Qm (xD X) (xk X) (xb X) (xz X) (xA X) (r, h2) av) (xA X))
    (hf : cs.1 + mc ≤ (xR X).cells ∧ cs.2 + ms ≤ (xR X).slots) (hl : (ls.map fun v => v.category) = sl.map (·.2)) (hS : va_S (xA X) (xs X).heap H locs) (hla : lv_has la Y.2.1 ((sl.map (·.1)).zip (ls.map (cv (xb X)))))
    (k : AW X Y (cs.1 + mc, cs.2 + ms) sl (pc + 3) ls (r.toList ++ st) h2) : XW X cs H locs (F0 (xm X) pc la st0) := by
  intro T hT Xs
  obtain ⟨v, st₀, t, T', L, h0, X', hL, e1, e2, ⟨hv, hP, hD, hz, hF1, hF2⟩, stp⟩ := hr T hT Xs
  have hv : v = r.map (cv (xb X)) := Outcome.returned.inj hv
  rw [h0] at hF1 hF2
  have hS' : va_S (xA X) (xs X).heap t.heap (locs ++ L) := ⟨Nat.le_trans hS.1 hF1, fun q h1 h2 => by rw [hF2 q (Nat.lt_of_lt_of_le h1 hS.1) h2]; exact hS.2.1 q h1 h2, fun q hq => (List.mem_append.mp hq).elim (hS.2.2 q) (hL q)⟩
  obtain ⟨t2, a1, b1⟩ := k hf hl t.heap (locs ++ L) la hP hD hS' hz hla T' e1 X'
  refine ⟨t2, stp t2 ?_, b1⟩
  have e : (F0 (xm X) (pc + 3) la ((r.toList ++ st).map (cv (xb X)))) = { F0 (xm X) pc la st0 with pc := (F0 (xm X) pc la st0).pc + 3, stack := v.toList ++ st.map (cv (xb X)) } := by
    rw [hv, List.map_append]; cases r <;> rfl
  rw [e] at a1
  exact a1
theorem evs_len : ∀ {fs : List (Xp Value)} {ls : Ev} {h h' : Hp} {vs : List Value}, evs fs ls h = some (vs, h') → vs.length = fs.length
  | [], ls, h, h', vs, e => by
    have e : some (([] : List Value), h) = some (vs, h') := e
    cases e; rfl
  | f :: fs, ls, h, h', vs, e => by
    obtain ⟨q, hq, e⟩ := bnd e
    obtain ⟨r, hr, e⟩ := bnd e
    cases e
    simp only [List.length_cons]
    rw [evs_len (vs := r.1) (h' := r.2) hr]
section CALL
variable {Y : Yt} {sl : List (Nat × Nat)} {d pc p1 i n : Nat} {y : MethodName} {cc : ByteArray} {mL : Nat} {rt : Option FieldType} {lev : Nat} {D : Dn} {fs : List (Xp Value)}
/-- a call as a step: args on the stack, then the answer -/
def KO (Y : Yt) (sl : List (Nat × Nat)) (d p1 : Nat) (len : Nat) (D : Dn) : Prop :=
  ∀ X cs, Gd X Y → ∀ (ls : Ev) (st vs : List Value) (h1 h2 : Hp) (r : Option Value), vs.length = len → D vs h1 = some (r, h2) → dep st ≤ d → AW X Y cs sl (p1 + 3) ls (r.toList ++ st) h2 → AW X Y cs sl p1 ls (vs.reverse ++ st) h1
theorem isO_spec {h : Hp} {as : Ev} {ci : Nat} (e : isO h as ci = true) : ∃ r rest fs, as = .ref r :: rest ∧ h[r]? = some (.inr (ci, fs)) := by
  unfold isO at e
  split at e
  · rename_i r rest
    split at e
    · rename_i c fs hc
      have : c = ci := by simpa using e
      subst this
      exact ⟨r, rest, fs, rfl, hc⟩
    · cases e
  · cases e
theorem lvok {lv mL L : Nat} (h1 : lv + 1 ≤ L) (h2 : mL ≤ 45) : lv + 1 ≤ L ∧ 8 + (mL + 11) + 64 * lv ≤ 64 * L := by omega
theorem cg (b : Nat) (st : List Value) (h : dep st ≤ 8) (m : MethodId) (pc : Nat) (la : Array Slot) (s0 : List Value) : 2 * (F0 m pc la s0).monitorRoom + ((st.map (cv b)).map fun v => v.category).sum ≤ 8 := lv_room (by rw [cv_cats]; exact h)
theorem k_virt {ci N : Nat} {T : u_T} (hm : MOK y cc mL rt lev 0 0 D) (hf : Mf y cc mL rt n) (hv : Cond.instanceMethod y ∈ TB ∧ Cond.selects y.cls y y ∈ TB) (hC : CL[ci]? = some (y.cls, T, N)) (hw : Cond.methodLink Y.2.2.1 i y ∈ TB) (hd : decode Y.1 p1 = .ok (.invokevirtual i, 3)) (hL : lev + 1 ≤ Y.2.2.2.1) (hM : mL ≤ 45) (h8 : d ≤ 8) : KO Y sl d p1 (n + 1) (mV ci D) := by
  intro X cs G ls st vs h1 h2 r hlen hD hdp k hc hl H locs la hP hDw hS hz hla
  unfold mV at hD
  split at hD
  · rename_i ho
    obtain ⟨r0, As, fs0, rfl, hr0⟩ := isO_spec ho
    have hmet := hm (xl X) (xD X) (xk X) (xb X) (xN X) (xz X) (xZ X) _ h1 r h2 (Or.inl rfl) hD hDw
    have cb : CallB (xR X) (xs X) (xa X) Y.2.2.1 i y cc mL rt (.code y cc mL rt :: TB) (rmL lev 0 0) 0 0 n := callB_of (Ts := TB) n G.2.2.2.2.1 (tb_in hf.1) rfl rfl rfl (G.2.2.2.2.1 _ hf.2.1) (G.2.2.2.2.1 _ hw) hf.2.2 (by rw [G.2.2.2.2.2.2.2.2.2.1, G.2.2.2.2.2.2.2.2.2.2.1]; exact lvok hL hM)
    refine run_go (cs := cs) (mc := 0) (ms := 0) (st := st) (r := r) (h2 := h2) (va_runV (C := y.cls) (Ts := TB) (As := As.map (cv (xb X))) (b := xb X + r0) (rest := st.map (cv (xb X))) ⟨G.1, G.2.1, G.2.2.1, G.2.2.2.1, G.2.2.2.2.1⟩ hmet ⟨cb, G.2.2.2.2.1 _ hv.1, G.2.2.2.2.1 _ hv.2⟩ ⟨Wd.blind, ?_, ?_⟩ rfl ?_ hla.1 ?_ (cg _ _ (Nat.le_trans hdp h8) _ _ _ _) hd hc) hc hl hS hla k
    · have := va_recv (q := (y.cls, T, N)) G.2.2.2.2.2.1 hP hC (cW_at hr0)
      exact this
    · intro U hU hW
      exact ⟨rfl, Wd.at G hP hS hz U hU hW⟩
    · rw [List.length_map]; simpa using hlen
    · simp [cv]
  · cases hD
theorem k_stat (hm : MOK y cc mL rt lev 0 0 D) (hf : Mf y cc mL rt n) (hv : Cond.static y ∈ TB) (hw : Cond.methodLink Y.2.2.1 i y ∈ TB) (hd : decode Y.1 p1 = .ok (.invokestatic i, 3)) (hL : lev + 1 ≤ Y.2.2.2.1) (hM : mL ≤ 45) (h8 : d ≤ 8) : KO Y sl d p1 n D := by
  intro X cs G ls st vs h1 h2 r hlen hD hdp k hc hl H locs la hP hDw hS hz hla
  have hmet := hm (xl X) (xD X) (xk X) (xb X) (xN X) (xz X) (xZ X) _ h1 r h2 (Or.inl rfl) hD hDw
  have cb : CallB (xR X) (xs X) (xa X) Y.2.2.1 i y cc mL rt (.code y cc mL rt :: TB) (rmL lev 0 0) 0 0 n := callB_of (Ts := TB) n G.2.2.2.2.1 (tb_in hf.1) rfl rfl rfl (G.2.2.2.2.1 _ hf.2.1) (G.2.2.2.2.1 _ hw) hf.2.2 (by rw [G.2.2.2.2.2.2.2.2.2.1, G.2.2.2.2.2.2.2.2.2.2.1]; exact lvok hL hM)
  refine run_go (cs := cs) (mc := 0) (ms := 0) (st := st) (r := r) (h2 := h2) (va_runS (Ts := TB) (As := vs.map (cv (xb X))) (rest := st.map (cv (xb X))) ⟨G.1, G.2.1, G.2.2.1, G.2.2.2.1, G.2.2.2.2.1⟩ hmet ⟨cb, G.2.2.2.2.1 _ hv⟩ ⟨Wd.blind, ?_⟩ rfl ?_ hla.1 ?_ (cg _ _ (Nat.le_trans hdp h8) _ _ _ _) hd hc) hc hl hS hla k
  · intro U hU hW
    exact ⟨rfl, Wd.at G hP hS hz U hU hW⟩
  · rw [List.length_map]; exact hlen
  · simp
theorem k_heldTo (hm : MOK ⟨"BlinkerCross", "heldTo", "(II)I"⟩ cc mL rt lev 0 0 D) (hf : Mf ⟨"BlinkerCross", "heldTo", "(II)I"⟩ cc mL rt n) (hv : Cond.static ⟨"BlinkerCross", "heldTo", "(II)I"⟩ ∈ TB) (ho : Y.2.2.1 = "BlinkerCross$Laws") (hd : decode Y.1 p1 = .ok (.invokestatic 48, 3)) (hL : lev + 1 ≤ Y.2.2.2.1) (hM : mL ≤ 45) (h8 : d ≤ 8) : KO Y sl d p1 n D := by
  intro X cs G ls st vs h1 h2 r hlen hD hdp k hc hl H locs la hP hDw hS hz hla
  have hmet := hm (xl X) (xD X) (xk X) (xb X) (xN X) (xz X) (xZ X) _ h1 r h2 (Or.inl rfl) hD hDw
  have cb : va_CN (xR X) (xs X) (xa X) "BlinkerCross$Laws" 48 ⟨"BlinkerCross", "heldTo", "(II)I"⟩ "BlinkerCross" cc mL rt (.code ⟨"BlinkerCross", "heldTo", "(II)I"⟩ cc mL rt :: TB) (rmL lev 0 0) 0 0 n := va_cnB (Ts := TB) n G.2.2.2.2.1 (tb_in hf.1) rfl rfl rfl G.2.2.2.2.2.2.2.2.2.2.2.2.2.1 (G.2.2.2.2.1 _ hf.2.1) hf.2.2 (by rw [G.2.2.2.2.2.2.2.2.2.1, G.2.2.2.2.2.2.2.2.2.2.1]; exact lvok hL hM)
  refine run_go (cs := cs) (mc := 0) (ms := 0) (st := st) (r := r) (h2 := h2) (va_runSN (Ts := TB) (As := vs.map (cv (xb X))) (rest := st.map (cv (xb X))) ⟨G.1, G.2.1, G.2.2.1, ho ▸ G.2.2.2.1, G.2.2.2.2.1⟩ hmet ⟨cb, G.2.2.2.2.1 _ hv, trivial⟩ ⟨Wd.blind, ?_⟩ rfl ?_ hla.1 ?_ (cg _ _ (Nat.le_trans hdp h8) _ _ _ _) hd hc) hc hl hS hla k
  · intro U hU hW
    exact ⟨rfl, Wd.at G hP hS hz U hU hW⟩
  · rw [List.length_map]; exact hlen
  · simp
def cI (D : Dn) (fs : List (Xp Value)) : Xp Int32 := fun ls h => (evs fs ls h).bind fun q => (D q.1 q.2).bind fun r => match r.1 with
  | some (.int v) => some (v, r.2)
  | _ => none
def cL (D : Dn) (fs : List (Xp Value)) : Xp Int64 := fun ls h => (evs fs ls h).bind fun q => (D q.1 q.2).bind fun r => match r.1 with
  | some (.long v) => some (v, r.2)
  | _ => none
def cR (D : Dn) (fs : List (Xp Value)) : Xp Nat := fun ls h => (evs fs ls h).bind fun q => (D q.1 q.2).bind fun r => match r.1 with
  | some (.ref v) => some (v, r.2)
  | _ => none
def sCall (D : Dn) (fs : List (Xp Value)) : Sm := fun ls h => (evs fs ls h).bind fun q => (D q.1 q.2).bind fun r => match r.1 with
  | none => some ((0, none), ls, r.2)
  | _ => none
theorem e_cI (ha : AO Y sl d pc p1 fs) (hk : KO Y sl d p1 fs.length D) : EO Y Value.int sl d pc (p1 + 3) (cI D fs) := by
  intro X cs G ls st h v9 h9 hf hdp k
  obtain ⟨q, hq, hf⟩ := bnd hf
  obtain ⟨r, hr, hf⟩ := bnd hf
  split at hf
  · rename_i v hv
    cases hf
    exact ha X cs G ls st h q.1 q.2 hq hdp (hk X cs G ls st q.1 q.2 r.2 (some (.int v9)) (evs_len hq) (by rw [hr, ← hv]) hdp k)
  · cases hf
theorem e_cL (ha : AO Y sl d pc p1 fs) (hk : KO Y sl d p1 fs.length D) : EO Y Value.long sl d pc (p1 + 3) (cL D fs) := by
  intro X cs G ls st h v9 h9 hf hdp k
  obtain ⟨q, hq, hf⟩ := bnd hf
  obtain ⟨r, hr, hf⟩ := bnd hf
  split at hf
  · rename_i v hv
    cases hf
    exact ha X cs G ls st h q.1 q.2 hq hdp (hk X cs G ls st q.1 q.2 r.2 (some (.long v9)) (evs_len hq) (by rw [hr, ← hv]) hdp k)
  · cases hf
theorem e_cR (ha : AO Y sl d pc p1 fs) (hk : KO Y sl d p1 fs.length D) : EO Y Value.ref sl d pc (p1 + 3) (cR D fs) := by
  intro X cs G ls st h v9 h9 hf hdp k
  obtain ⟨q, hq, hf⟩ := bnd hf
  obtain ⟨r, hr, hf⟩ := bnd hf
  split at hf
  · rename_i v hv
    cases hf
    exact ha X cs G ls st h q.1 q.2 hq hdp (hk X cs G ls st q.1 q.2 r.2 (some (.ref v9)) (evs_len hq) (by rw [hr, ← hv]) hdp k)
  · cases hf
theorem s_call {J : Jt} (ha : AO Y sl 0 pc p1 fs) (hk : KO Y sl 0 p1 fs.length D) : SO Y sl sl pc (p1 + 3) J (sCall D fs) := by
  intro X cs Ex G Q ls h r ls' h' hf k
  obtain ⟨q, hq, hf⟩ := bnd hf
  obtain ⟨w, hr, hf⟩ := bnd hf
  split at hf
  · rename_i hv
    cases hf
    exact ha X cs G ls [] h q.1 q.2 hq (Nat.le_refl _) (hk X cs G ls [] q.1 q.2 w.2 none (evs_len hq) (by rw [hr, ← hv]) (Nat.le_refl _) k)
  · cases hf
theorem e_max {p2 : Nat} {a b : Xp Int32} (ha : EO Y Value.int sl d pc p1 a) (hb : EO Y Value.int sl (d + 1) p1 p2 b) (hw : Cond.methodLink Y.2.2.1 i Lib.Math.max.name ∈ TB ∧ Cond.static Lib.Math.max.name ∈ TB ∧ Cond.initialized "java/lang/Math" ∈ TB ∧ Cond.code Lib.Math.max.name Lib.Math.max.code 2 (some .int) ∈ TB) (hd : decode Y.1 p2 = .ok (.invokestatic i, 3)) (hL : 1 ≤ Y.2.2.2.1) (h8 : d ≤ 8) : EO Y Value.int sl d pc (p2 + 3) (o2 (fun x y => if x < y then y else x) a b) := by
  intro X cs G ls st h v9 h9 hf hdp k
  obtain ⟨q, hq, hf⟩ := bnd hf
  obtain ⟨r, hr, hf⟩ := bnd hf
  cases hf
  refine ha X cs G ls st h q.1 q.2 hq hdp (hb X cs G ls _ q.2 r.1 r.2 hr (by simp only [dep, List.map_cons, List.sum_cons, Value.category] at hdp ⊢; omega) ?_)
  intro hc hl H locs la hP hD hS hz hla
  exact va_mmax G.1 G.2.1 (G.2.2.1.trans hla.1.symm) G.2.2.2.1 (G.2.2.2.2.1 _ hw.1) (G.2.2.2.2.1 _ hw.2.1) (G.2.2.2.2.1 _ hw.2.2.1) (G.2.2.2.2.1 _ hw.2.2.2) (by rw [G.2.2.2.2.2.2.2.2.2.1]; exact hL) (by rw [cv_cats, G.2.2.2.2.2.2.2.2.2.2.1]; have := hdp; unfold dep at this; omega) hc.1 hc.2 hd (k hc hl H locs la hP hD hS hz hla)
theorem e_min {p2 : Nat} {a b : Xp Int32} (ha : EO Y Value.int sl d pc p1 a) (hb : EO Y Value.int sl (d + 1) p1 p2 b) (hw : Cond.methodLink Y.2.2.1 i Lib.Math.min.name ∈ TB ∧ Cond.static Lib.Math.min.name ∈ TB ∧ Cond.initialized "java/lang/Math" ∈ TB ∧ Cond.code Lib.Math.min.name Lib.Math.min.code 2 (some .int) ∈ TB) (hd : decode Y.1 p2 = .ok (.invokestatic i, 3)) (hL : 1 ≤ Y.2.2.2.1) (h8 : d ≤ 8) : EO Y Value.int sl d pc (p2 + 3) (o2 (fun x y => if y < x then y else x) a b) := by
  intro X cs G ls st h v9 h9 hf hdp k
  obtain ⟨q, hq, hf⟩ := bnd hf
  obtain ⟨r, hr, hf⟩ := bnd hf
  cases hf
  refine ha X cs G ls st h q.1 q.2 hq hdp (hb X cs G ls _ q.2 r.1 r.2 hr (by simp only [dep, List.map_cons, List.sum_cons, Value.category] at hdp ⊢; omega) ?_)
  intro hc hl H locs la hP hD hS hz hla
  exact va_mmin G.1 G.2.1 (G.2.2.1.trans hla.1.symm) G.2.2.2.1 (G.2.2.2.2.1 _ hw.1) (G.2.2.2.2.1 _ hw.2.1) (G.2.2.2.2.1 _ hw.2.2.1) (G.2.2.2.2.1 _ hw.2.2.2) (by rw [G.2.2.2.2.2.2.2.2.2.1]; exact hL) (by rw [cv_cats, G.2.2.2.2.2.2.2.2.2.2.1]; have := hdp; unfold dep at this; omega) hc.1 hc.2 hd (k hc hl H locs la hP hD hS hz hla)
end CALL
