/-! Constructors: rules for what they do. -/
theorem cW_P {D : va_G} {kA : Nat → ClassId} {b : Nat} {h : Hp} {H : Heap} (hp : ∀ (k : Nat) (c : HC), h[k]? = some c → va_at D CL (b + k, cE kA b c) H) : va_P D CL (cW kA b h) H := by
  intro k q hq
  rw [cW_get] at hq
  obtain ⟨c, hc, rfl⟩ := Option.map_eq_some_iff.mp hq
  exact hp k c hc
/-- a row of rows, at the place a -/
def grO (a n : Nat) : HC := .inl (4, n, .inr (.inr (.inr (.inr (fun i => some (a + 1 + i))))))
def grR (m : Nat) : HC := .inl (0, m, .inl (fun _ => 0))
theorem mgO_shape (c : ClassId) (N b : Nat) : ∀ i, mgO c N b i = { cls := c, slots := (mgO c N b i).slots, vm := .none }
  | 0 => rfl
  | i + 1 => by
    have ih := mgO_shape c N b i
    show (mgO c N b i).setSlot i (.ref (b + 1 + i)) = { cls := c, slots := ((mgO c N b i).setSlot i (.ref (b + 1 + i))).slots, vm := .none }
    generalize mgO c N b i = z at ih ⊢
    rw [ih]
    rfl
theorem mgO_arr (c : ClassId) (N b : Nat) : mgO c N b N = arrV c N (fun j => va_rf (some (b + 1 + j))) := by
  have hs : (mgO c N b N).slots = Array.ofFn (n := N) fun j => va_rf (some (b + 1 + j.val)) := by
    have h3 := (mgO_f c N b N).2.2
    apply Array.ext_getElem?
    intro j
    by_cases hj : j < N
    · rw [mgO_at c N b N j hj, if_pos hj]; simp [hj, va_rf]
    · rw [Array.getElem?_eq_none (by rw [h3]; omega), Array.getElem?_eq_none (by simp; omega)]
  rw [mgO_shape, hs]
  rfl
theorem mgI_arr (c : ClassId) (M : Nat) : mgI c M = arrV c M (fun _ => .int 0) := by
  unfold mgI arrV
  congr 1
  apply Array.ext_getElem?
  intro j
  by_cases hj : j < M <;> simp [hj]
section ALM
variable {X : Cxt} {Y : Yt} {cs : Nat × Nat} {sl : List (Nat × Nat)} {pc : Nat} {ls : Ev} {st : List Value} {h : Hp}
theorem al_multi {index n m : Nat} {nv mv : Int32} (G : Gd X Y) (hzm : xz X = true) (hcl : Cond.classLink Y.2.2.1 index "[[I" ∈ TB) (hw : Cond.arrayClass .int ∈ TB) (hn : ¬ nv < 0) (hm : ¬ mv < 0) (hN : nv.toNatClampNeg = n) (hM : mv.toNatClampNeg = m) (hb1 : n * 4 ≤ 536870912) (hb2 : m * 4 ≤ 536870912)
    (hd : decode Y.1 pc = .ok (.multianewarray index 2, 4)) (h1 : cs.1 + (1 + n) ≤ (xR X).cells) (h2 : cs.2 + (n + n * m) ≤ (xR X).slots) (k : AW X Y (cs.1 + (1 + n), cs.2 + (n + n * m)) sl (pc + 4) ls (.ref h.length :: st) (h ++ grO h.length n :: List.replicate n (grR m))) : AW X Y cs sl pc ls (.int mv :: .int nv :: st) h := by
  subst hN hM
  intro hc hl H locs la hP hD hS hz hla T hT Xs
  have hsz := hz hzm
  have hTs : T.heap.size = xb X + h.length := by rw [hT]; exact hsz
  obtain ⟨vm₁, c4, c0, hf4, hf0, X', step⟩ := mg_step Xs G.1 (own := Y.2.2.1) (index := index) G.2.2.2.1 (G.2.2.2.2.1 _ hcl) G.2.2.2.2.2.2.2.2.2.2.2.2.2.2.1 (G.2.2.2.2.1 _ hw) (g := F0 (xm X) pc la ((Value.int mv :: .int nv :: st).map (cv (xb X)))) rfl (by rw [G.2.1]; exact hd) (n := nv) (k := mv) (rest := st.map (cv (xb X))) rfl hn hm hb1 hb2 h1 h2
  have e4 : c4 = xk X 4 := Option.some.inj (hf4.symm.trans (G.2.2.2.2.2.1.2 4 _ rfl).2)
  have e0 : c0 = xk X 0 := Option.some.inj (hf0.symm.trans (G.2.2.2.2.2.1.2 0 _ rfl).2)
  subst e4 e0
  have hT1 : (T.setVm vm₁).heap.size = xb X + h.length := hTs
  obtain ⟨f1, f2, f3, f4⟩ := mgS_f (T.setVm vm₁) (xk X 4) (xk X 0) nv.toNatClampNeg mv.toNatClampNeg nv.toNatClampNeg
  have old : ∀ a, a < xb X + h.length → (mgS (T.setVm vm₁) (xk X 4) (xk X 0) nv.toNatClampNeg mv.toNatClampNeg nv.toNatClampNeg).heap[a]? = H[a]? := fun a ha => by
    rw [mgS_old _ _ _ _ _ (by rw [hT1]; exact ha), ← hT]; rfl
  have row := fun j (hj : j < nv.toNatClampNeg) => mgS_row (T.setVm vm₁) (xk X 4) (xk X 0) nv.toNatClampNeg mv.toNatClampNeg nv.toNatClampNeg j hj
  generalize mgS (T.setVm vm₁) (xk X 4) (xk X 0) nv.toNatClampNeg mv.toNatClampNeg nv.toNatClampNeg = T9 at X' step f1 f2 f3 f4 old row
  rw [hT1] at f1 f2 row
  rw [hTs] at X' step
  have hcell : cs.1 + 1 + nv.toNatClampNeg = cs.1 + (1 + nv.toNatClampNeg) := by omega
  have hslot : cs.2 + nv.toNatClampNeg + nv.toNatClampNeg * mv.toNatClampNeg = cs.2 + (nv.toNatClampNeg + nv.toNatClampNeg * mv.toNatClampNeg) := by omega
  rw [hcell, hslot] at X'
  have P1 : va_P (xD X) CL (cW (xk X) (xb X) (h ++ grO h.length nv.toNatClampNeg :: List.replicate nv.toNatClampNeg (grR mv.toNatClampNeg))) T9.heap := by
    refine cW_P fun j c hj => ?_
    by_cases hj1 : j < h.length
    · rw [List.getElem?_append_left hj1] at hj
      refine va_at.kept (hP j _ (cW_at hj)) (old _ ?_)
      show xb X + j < _
      omega
    · rw [List.getElem?_append_right (by omega)] at hj
      by_cases hj2 : j = h.length
      · subst hj2
        rw [Nat.sub_self] at hj
        cases hj
        show T9.heap[xb X + h.length]? = some (arrV (xk X 4) nv.toNatClampNeg (fun i => va_rf (some (xb X + (h.length + 1 + i)))))
        rw [f2, mgO_arr]
        simp only [Nat.add_assoc]
      · obtain ⟨i, rfl⟩ : ∃ i, j = h.length + 1 + i := ⟨j - h.length - 1, by omega⟩
        rw [show h.length + 1 + i - h.length = i + 1 by omega, List.getElem?_cons_succ] at hj
        have hi : i < nv.toNatClampNeg := by
          have := (List.getElem?_eq_some_iff.mp hj).1
          rwa [List.length_replicate] at this
        rw [List.getElem?_replicate, if_pos hi] at hj
        cases hj
        show T9.heap[xb X + (h.length + 1 + i)]? = some (arrV (xk X 0) mv.toNatClampNeg (fun _ => .int 0))
        rw [show xb X + (h.length + 1 + i) = xb X + h.length + 1 + i by omega, row i hi, mgI_arr]
  have S1 : va_S (xA X) (xs X).heap T9.heap (locs ++ (List.range nv.toNatClampNeg).map fun j => (⟨xb X + h.length, j⟩ : Loc)) := by
    refine ⟨by rw [f1]; have := hS.1; omega, fun x g1 g2 => (old x (by rw [← hsz]; exact Nat.lt_of_lt_of_le g1 hS.1)).trans (hS.2.1 x g1 g2), fun q hq => ?_⟩
    rcases List.mem_append.mp hq with g | g
    · exact hS.2.2 q g
    · obtain ⟨j, -, rfl⟩ := List.mem_map.mp g
      exact xA_top hzm _
  obtain ⟨t, a1, b1⟩ := k ⟨h1, h2⟩ hl T9.heap _ la P1 (cW_D (Or.inl hzm)) S1 (fun _ => by rw [f1]; simp only [List.length_append, List.length_cons, List.length_replicate]; omega) hla T9 rfl X'
  exact ⟨t, step t a1, b1⟩
/-- a constructor's call as a step -/
def KI (Y : Yt) (sl : List (Nat × Nat)) (d p1 n mc ms : Nat) (D : Dn) : Prop :=
  ∀ X cs, Gd X Y → xz X = true → cs.1 + mc ≤ (xR X).cells → cs.2 + ms ≤ (xR X).slots → ∀ (ls : Ev) (st vs : List Value) (h1 h2 : Hp) (r : Nat), vs.length = n → D (.ref r :: vs) h1 = some (none, h2) → dep st ≤ d → AW X Y (cs.1 + mc, cs.2 + ms) sl (p1 + 3) ls st h2 → AW X Y cs sl p1 ls (vs.reverse ++ .ref r :: st) h1
end ALM
section CTR
variable {Y : Yt} {sl sl1 sl2 : List (Nat × Nat)} {d pc p1 p2 p3 i n : Nat} {y : MethodName} {cc : ByteArray} {mL : Nat} {lev mc ms : Nat} {D : Dn}
theorem k_init (hm : MOK y cc mL none lev mc ms D) (hf : Mf y cc mL none n) (hy : y.name = "<init>") (hv : Cond.instanceMethod y ∈ TB) (hw : Cond.methodLink Y.2.2.1 i y ∈ TB) (hd : decode Y.1 p1 = .ok (.invokespecial i, 3)) (hL : lev + 1 ≤ Y.2.2.2.1) (hM : mL ≤ 45) (h8 : d ≤ 8) : KI Y sl d p1 n mc ms D := by
  intro X cs G hzm hc1 hc2 ls st vs h1 h2 r hlen hD hdp k hc hl H locs la hP hDw hS hz hla
  have hmet := hm (xl X) (xD X) (xk X) (xb X) (xN X) (xz X) (xZ X) _ h1 none h2 (Or.inr hzm) hD hDw
  have cb : CallB (xR X) (xs X) (xa X) Y.2.2.1 i y cc mL none (.code y cc mL none :: TB) (rmL lev mc ms) mc ms n := callB_of (Ts := TB) n G.2.2.2.2.1 (tb_in hf.1) rfl rfl rfl (G.2.2.2.2.1 _ hf.2.1) (G.2.2.2.2.1 _ hw) hf.2.2 (by rw [G.2.2.2.2.2.2.2.2.2.1, G.2.2.2.2.2.2.2.2.2.2.1]; exact lvok hL hM)
  refine run_go (cs := cs) (mc := mc) (ms := ms) (st := st) (r := none) (h2 := h2) (va_runI (Ts := TB) (As := vs.map (cv (xb X))) (b := xb X + r) (rest := st.map (cv (xb X))) ⟨G.1, G.2.1, G.2.2.1, G.2.2.2.1, G.2.2.2.2.1⟩ hmet ⟨cb, hy, G.2.2.2.2.1 _ hv⟩ ⟨Wd.blind, ?_⟩ rfl ?_ hla.1 ?_ (cg _ _ (Nat.le_trans hdp h8) _ _ _ _) hd ⟨hc1, hc2⟩) ⟨hc1, hc2⟩ hl hS hla k
  · intro U hU hW
    exact ⟨rfl, Wd.at G hP hS hz U hU hW⟩
  · rw [List.length_map]; exact hlen
  · simp [cv]
theorem k_initN {host : String} (hm : MOK y cc mL none lev mc ms D) (hf : Mf y cc mL none n) (hy : y.name = "<init>") (hv : Cond.instanceMethod y ∈ TB) (hw : ∀ X, Gd X Y → va_Nw (.methodLinkNest Y.2.2.1 i y host) (xs X)) (hd : decode Y.1 p1 = .ok (.invokespecial i, 3)) (hL : lev + 1 ≤ Y.2.2.2.1) (hM : mL ≤ 45) (h8 : d ≤ 8) : KI Y sl d p1 n mc ms D := by
  intro X cs G hzm hc1 hc2 ls st vs h1 h2 r hlen hD hdp k hc hl H locs la hP hDw hS hz hla
  have hmet := hm (xl X) (xD X) (xk X) (xb X) (xN X) (xz X) (xZ X) _ h1 none h2 (Or.inr hzm) hD hDw
  have cb : va_CN (xR X) (xs X) (xa X) Y.2.2.1 i y host cc mL none (.code y cc mL none :: TB) (rmL lev mc ms) mc ms n := va_cnB (Ts := TB) n G.2.2.2.2.1 (tb_in hf.1) rfl rfl rfl (hw X G) (G.2.2.2.2.1 _ hf.2.1) hf.2.2 (by rw [G.2.2.2.2.2.2.2.2.2.1, G.2.2.2.2.2.2.2.2.2.2.1]; exact lvok hL hM)
  refine run_go (cs := cs) (mc := mc) (ms := ms) (st := st) (r := none) (h2 := h2) (va_runIN (Ts := TB) (As := vs.map (cv (xb X))) (b := xb X + r) (rest := st.map (cv (xb X))) ⟨G.1, G.2.1, G.2.2.1, G.2.2.2.1, G.2.2.2.2.1⟩ hmet ⟨cb, hy, G.2.2.2.2.1 _ hv⟩ ⟨Wd.blind, ?_⟩ rfl ?_ hla.1 ?_ (cg _ _ (Nat.le_trans hdp h8) _ _ _ _) hd ⟨hc1, hc2⟩) ⟨hc1, hc2⟩ hl hS hla k
  · intro U hU hW
    exact ⟨rfl, Wd.at G hP hS hz U hU hW⟩
  · rw [List.length_map]; exact hlen
  · simp [cv]
def sNewA (ci k0 t : Nat) (a0 : vp_A) : Sm := fun ls h => match ls[(0 : Nat)]? with
  | some (.ref r) => (hPut (h ++ [.inl (t, a0)]) r ci k0 (.ref h.length)).bind fun h1 => some ((0, none), ls, h1)
  | _ => none
def sNewM (ci k0 n m : Nat) : Sm := fun ls h => match ls[(0 : Nat)]? with
  | some (.ref r) => (hPut (h ++ grO h.length n :: List.replicate n (grR m)) r ci k0 (.ref h.length)).bind fun h1 => some ((0, none), ls, h1)
  | _ => none
def sNewO (ci k0 cj : Nat) (dfs : List Value) (D : Dn) (fs : List (Xp Value)) : Sm := fun ls h => match ls[(0 : Nat)]? with
  | some (.ref r) => (evs fs ls (h ++ [.inr (cj, dfs)])).bind fun q => (D (.ref h.length :: q.1) q.2).bind fun w => (match w.1 with
    | none => hPut w.2 r ci k0 (.ref h.length)
    | _ => none).bind fun h1 => some ((0, none), ls, h1)
  | _ => none
theorem vR_0 {ls : Ev} {h : Hp} {r : Nat} (e : ls[0]? = some (.ref r)) : vR 0 ls h = some (r, h) := by unfold vR; rw [e]
/-- the kinds of array that newarray makes -/
def Ak (t : Nat) (atype : ArrayType) (ty : FieldType) (N : Nat) (a0 : vp_A) : Prop := newarray.typeOf atype = ty ∧ (∀ kA, (tyK kA)[t]? = some (kA t, ty)) ∧ (∀ U c, va_RA U c ty → U.vm.findClass ("[" ++ ty.toString) = some c) ∧ (∀ b, cA b a0 = a0) ∧ (∀ c : ClassId, vp_cell c a0 = arrV c N (fun _ => defaultValue ty)) ∧ Cond.arrayClass ty ∈ TB ∧ N * componentBytes ty ≤ 536870912
section
variable {ci k0 : Nat} {C : String} {T : u_T} {N : Nat} {ty : Nat → FieldType}
theorem sa_super (h0 : EO Y Value.ref sl 0 pc p1 (vR 0)) (hw : Cond.methodLink Y.2.2.1 i Lib.objectInit ∈ TB ∧ Cond.instanceMethod Lib.objectInit ∈ TB ∧ Cond.code Lib.objectInit ⟨#[0xb1]⟩ 1 none ∈ TB) (hL : 1 ≤ Y.2.2.2.1) (hd : decode Y.1 p1 = .ok (.invokespecial i, 3)) (hthis : ∀ ls h, sl.length = ls.length → (∃ r, vR 0 ls h = some (r, h)) ∨ True) : SA Y sl sl pc (p1 + 3) 0 0 (sSeq (sDecl (asV Value.ref (vR 0))) (sBlk sl.length sSkip)) := by
  intro X cs G hzm hxb hc1 hc2 ls h r ls' h' hf
  obtain ⟨q, hq, hf⟩ := bnd hf
  obtain ⟨w, hw1, hq⟩ := bnd hq
  cases hq
  obtain ⟨x, hx, hw1⟩ := bnd hw1
  cases hw1
  have hf : some (((0 : Nat), (none : Option Value)), (ls ++ [Value.ref x.1]).take sl.length, x.2) = some (r, ls', h') := hf
  cases hf
  refine ⟨rfl, fun k => ?_⟩
  refine h0 X cs G ls [] h x.1 x.2 hx (Nat.le_refl _) ?_
  intro hc hl H locs la hP hD hS hz hla
  have hlen : ls.length = sl.length := by have := congrArg List.length hl; simpa using this
  have hk : AW X Y cs sl (p1 + 3) ls [] x.2 := by
    have e : (ls ++ [Value.ref x.1]).take sl.length = ls := by rw [← hlen]; simp
    rw [e] at k
    exact k
  exact W.objInit G.1 G.2.1 G.2.2.2.1 (G.2.2.2.2.1 _ hw.1) (G.2.2.2.2.1 _ hw.2.1) (G.2.2.2.2.1 _ hw.2.2) rfl (by rw [G.2.2.1]; exact hla.1) rfl hd (by rw [G.2.2.2.2.2.2.2.2.2.1]; exact hL) (by rw [G.2.2.2.2.2.2.2.2.2.2.1]; show 2 * 0 + 0 + 12 ≤ _; omega) (hk hc hl H locs la hP hD hS hz hla)
theorem sa_newa {t M : Nat} {nv : Int32} {atype : ArrayType} {ty1 ty2 : FieldType} {a0 : vp_A} (hA : Ak t atype ty1 M a0) (hC : Cf ci C T N ty) (h0 : EO Y Value.ref sl 0 pc p1 (vR 0)) (hn : EO Y Value.int sl 1 p1 p2 (kI nv)) (hv : ¬ nv < 0 ∧ nv.toNatClampNeg = M) (hd : decode Y.1 p2 = .ok (.newarray atype, 2)) (hk : k0 < N) (hty : ty k0 = .array ty2)
    (hw : Cond.fieldLink Y.2.2.1 i (T k0).1 (T k0).2.1 (T k0).2.2.1 ∈ TB) (hfin : (T k0).2.2.2 = false ∨ ((T k0).2.2.2 = true ∧ Y.2.2.2.2.2 = "<init>" ∧ (T k0).1 = Y.2.2.1)) (hd2 : decode Y.1 (p2 + 2) = .ok (.putfield i, 3)) : SA Y sl sl pc (p2 + 2 + 3) 1 M (sNewA ci k0 t a0) := by
  intro X cs G hzm hxb hc1 hc2 ls h r ls' h' hf
  unfold sNewA at hf
  split at hf
  · rename_i r0 hr0
    obtain ⟨h1, hp, hf⟩ := bnd hf
    cases hf
    refine ⟨rfl, fun k => ?_⟩
    refine h0 X cs G ls [] h r0 h (vR_0 hr0) (Nat.le_refl _) (hn X cs G ls _ h nv h rfl (Nat.le_refl _) ?_)
    exact al_newa G hzm hA.1 hA.2.1 hA.2.2.1 hA.2.2.2.1 hA.2.2.2.2.1 hA.2.2.2.2.2.1 hv.1 hv.2 hA.2.2.2.2.2.2 hd hc1 hc2 (pf_go G hC hk hw hfin hd2 (by rw [hty]; rfl) (by rw [hty]; rfl) hp k)
  · cases hf
theorem sa_newm {n m : Nat} {nv mv : Int32} {ty2 : FieldType} {index : Nat} (hC : Cf ci C T N ty) (h0 : EO Y Value.ref sl 0 pc p1 (vR 0)) (hn : EO Y Value.int sl 1 p1 p2 (kI nv)) (hm : EO Y Value.int sl 2 p2 p3 (kI mv)) (hv : ¬ nv < 0 ∧ nv.toNatClampNeg = n) (hv2 : ¬ mv < 0 ∧ mv.toNatClampNeg = m) (hcl : Cond.classLink Y.2.2.1 index "[[I" ∈ TB) (hw0 : Cond.arrayClass .int ∈ TB) (hb : n * 4 ≤ 536870912 ∧ m * 4 ≤ 536870912) (hd : decode Y.1 p3 = .ok (.multianewarray index 2, 4)) (hk : k0 < N) (hty : ty k0 = .array ty2)
    (hw : Cond.fieldLink Y.2.2.1 i (T k0).1 (T k0).2.1 (T k0).2.2.1 ∈ TB) (hfin : (T k0).2.2.2 = false ∨ ((T k0).2.2.2 = true ∧ Y.2.2.2.2.2 = "<init>" ∧ (T k0).1 = Y.2.2.1)) (hd2 : decode Y.1 (p3 + 4) = .ok (.putfield i, 3)) : SA Y sl sl pc (p3 + 4 + 3) (1 + n) (n + n * m) (sNewM ci k0 n m) := by
  intro X cs G hzm hxb hc1 hc2 ls h r ls' h' hf
  unfold sNewM at hf
  split at hf
  · rename_i r0 hr0
    obtain ⟨h1, hp, hf⟩ := bnd hf
    cases hf
    refine ⟨rfl, fun k => ?_⟩
    refine h0 X cs G ls [] h r0 h (vR_0 hr0) (Nat.le_refl _) (hn X cs G ls _ h nv h rfl (Nat.le_refl _) (hm X cs G ls _ h mv h rfl (Nat.le_refl _) ?_))
    exact al_multi G hzm hcl hw0 hv.1 hv2.1 hv.2 hv2.2 hb.1 hb.2 hd hc1 hc2 (pf_go G hC hk hw hfin hd2 (by rw [hty]; rfl) (by rw [hty]; rfl) hp k)
  · cases hf
theorem sa_newo {cj index N1 : Nat} {C1 C2 : String} {T1 : u_T} {ty1 : Nat → FieldType} {dfs : List Value} {fs : List (Xp Value)} (hC1 : Cf cj C1 T1 N1 ty1) (hfs : ∀ b j, j < N1 → defaultValue (ty1 j) = vp_V (dfs.map (cv b)) j) (hC : Cf ci C T N ty) (h0 : EO Y Value.ref sl 0 pc p1 (vR 0)) (hcl : Cond.classLink Y.2.2.1 index C1 ∈ TB) (hin : Cond.instantiable C1 N1 ∈ TB) (hini : Cond.initialized C1 ∈ TB) (hd : decode Y.1 p1 = .ok (.new index, 3)) (hd1 : decode Y.1 (p1 + 3) = .ok (.dup, 1))
    (ha : AO Y sl 3 (p1 + 3 + 1) p2 fs) (hki : KI Y sl 3 p2 fs.length mc ms D) (hk : k0 < N) (hty : ty k0 = .object C2)
    (hw : Cond.fieldLink Y.2.2.1 i (T k0).1 (T k0).2.1 (T k0).2.2.1 ∈ TB) (hfin : (T k0).2.2.2 = false ∨ ((T k0).2.2.2 = true ∧ Y.2.2.2.2.2 = "<init>" ∧ (T k0).1 = Y.2.2.1)) (hd2 : decode Y.1 (p2 + 3) = .ok (.putfield i, 3)) : SA Y sl sl pc (p2 + 3 + 3) (1 + mc) (N1 + ms) (sNewO ci k0 cj dfs D fs) := by
  intro X cs G hzm hxb hc1 hc2 ls h r ls' h' hf
  unfold sNewO at hf
  split at hf
  · rename_i r0 hr0
    obtain ⟨q, hq, hf⟩ := bnd hf
    obtain ⟨w, hwD, hf⟩ := bnd hf
    obtain ⟨h1, hp, hf⟩ := bnd hf
    cases hf
    split at hp
    · rename_i hw0
      refine ⟨rfl, fun k => ?_⟩
      refine h0 X cs G ls [] h r0 h (vR_0 hr0) (Nat.le_refl _) ?_
      refine al_new G hzm hC1 hcl hin hini hfs hd (by omega) (by omega) ?_
      have k2 : AW X Y (cs.1 + 1, cs.2 + N1) sl (p1 + 3 + 1) ls [.ref h.length, .ref h.length, .ref r0] (h ++ [.inr (cj, dfs)]) := by
        refine ha X _ G ls [.ref h.length, .ref h.length, .ref r0] _ q.1 q.2 hq (Nat.le_refl _) ?_
        refine hki X (cs.1 + 1, cs.2 + N1) G hzm (by show cs.1 + 1 + mc ≤ _; omega) (by show cs.2 + N1 + ms ≤ _; omega) ls [.ref h.length, .ref r0] q.1 q.2 w.2 h.length (evs_len hq) (by rw [hwD, ← hw0]) (by show 2 ≤ 3; omega) ?_
        have e1 : ((cs.1 + 1, cs.2 + N1).1 + mc, (cs.1 + 1, cs.2 + N1).2 + ms) = (cs.1 + (1 + mc), cs.2 + (N1 + ms)) := by simp only [Nat.add_assoc]
        rw [e1]
        exact pf_go G hC hk hw hfin hd2 (by rw [hty]; rfl) (by rw [hty]; rfl) hp k
      intro hc hl H locs la hP hD hS hz hla
      exact lv_dup G.1 G.2.1 hd1 rfl (k2 hc hl H locs la hP hD hS hz hla)
    · cases hp
  · cases hf
theorem sa_put {α : Type} {ι : α → Value} {o : Xp Nat} {e : Xp α} (hC : Cf ci C T N ty) (ho : EO Y Value.ref sl 0 pc p1 o) (he : EO Y ι sl 1 p1 p2 e) (hk : k0 < N) (hF : Fk ι (ty k0)) (hw : Cond.fieldLink Y.2.2.1 i (T k0).1 (T k0).2.1 (T k0).2.2.1 ∈ TB) (hfin : (T k0).2.2.2 = false ∨ ((T k0).2.2.2 = true ∧ Y.2.2.2.2.2 = "<init>" ∧ (T k0).1 = Y.2.2.1)) (hd : decode Y.1 p2 = .ok (.putfield i, 3)) : SA Y sl sl pc (p2 + 3) 0 0 (sPut ci k0 o (asV ι e)) := by
  intro X cs G hzm hxb hc1 hc2 ls h r ls' h' hf
  obtain ⟨q, hq, hf⟩ := bnd hf
  obtain ⟨w, hw1, hf⟩ := bnd hf
  obtain ⟨h1, hp, hf⟩ := bnd hf
  cases hf
  obtain ⟨x, hx, hw1⟩ := bnd hw1
  cases hw1
  exact ⟨rfl, fun k => ho X cs G ls [] h q.1 q.2 hq (Nat.le_refl _) (he X cs G ls _ q.2 x.1 x.2 hx (Nat.le_refl _) (pf_go G hC hk hw hfin hd (hF _ _).1 (hF _ _).2 hp k))⟩
theorem sa_call {fs : List (Xp Value)} (ha : AO Y sl 0 pc p1 fs) (hk : KO Y sl 0 p1 fs.length D) : SA Y sl sl pc (p1 + 3) 0 0 (sCall D fs) := by
  intro X cs G hzm hxb hc1 hc2 ls h r ls' h' hf
  obtain ⟨q, hq, hf⟩ := bnd hf
  obtain ⟨w, hr, hf⟩ := bnd hf
  split at hf
  · rename_i hv
    cases hf
    exact ⟨rfl, fun k => ha X cs G ls [] h q.1 q.2 hq (Nat.le_refl _) (hk X cs G ls [] q.1 q.2 w.2 none (evs_len hq) (by rw [hr, ← hv]) (Nat.le_refl _) k)⟩
  · cases hf
theorem sa_seq {a b : Sm} {k1 n1 k2 n2 : Nat} (ha : SA Y sl sl1 pc p1 k1 n1 a) (hb : SA Y sl1 sl2 p1 p2 k2 n2 b) : SA Y sl sl2 pc p2 (k1 + k2) (n1 + n2) (sSeq a b) := by
  intro X cs G hzm hxb hc1 hc2 ls h r ls' h' hf
  obtain ⟨q, hq, hf⟩ := bnd hf
  obtain ⟨e1, k1'⟩ := ha X cs G hzm hxb (by omega) (by omega) ls h q.1 q.2.1 q.2.2 hq
  rw [if_pos e1] at hf
  obtain ⟨e2, k2'⟩ := hb X (cs.1 + k1, cs.2 + n1) G hzm hxb (by show cs.1 + k1 + k2 ≤ _; omega) (by show cs.2 + n1 + n2 ≤ _; omega) q.2.1 q.2.2 r ls' h' hf
  refine ⟨e2, fun k => k1' (k2' ?_)⟩
  have e1 : ((cs.1 + k1, cs.2 + n1).1 + k2, (cs.1 + k1, cs.2 + n1).2 + n2) = (cs.1 + (k1 + k2), cs.2 + (n1 + n2)) := by simp only [Nat.add_assoc]
  rw [e1]
  exact k
end
theorem MOK.init {y : MethodName} {cc : ByteArray} {mL lev mc ms pc' : Nat} {sl' : List (Nat × Nat)} {cts : List Nat} {F : Sm} (hy : plainName y.cls = true) (hs : cts.sum ≤ mL) (h0 : mc ≠ 0) (hb : SA (cc, mL, y.cls, lev, none, y.name) (slc 0 cts) sl' 0 pc' mc ms F) (hd : decode cc pc' = .ok (.return_, 1)) : MOK y cc mL none lev mc ms (runS cts (sSeq F sRetV)) := by
  refine MOK.start hy hs fun X Ex G Q hmc hc hs ls h v ls' h' hF e => ?_
  obtain ⟨q, hq, hF⟩ := bnd hF
  obtain ⟨hzm, hxb⟩ := hmc.resolve_left h0
  obtain ⟨e1, k1⟩ := hb X (0, 0) G hzm hxb (by show 0 + mc ≤ _; omega) (by show 0 + ms ≤ _; omega) ls h q.1 q.2.1 q.2.2 hq
  rw [if_pos e1] at hF
  have e2 : ((0, 0).1 + mc, (0, 0).2 + ms) = (mc, ms) := by simp
  rw [e2] at k1
  refine k1 ?_
  exact s_retV (J := (([], 0), ([], 0))) (sl1 := []) (p2 := 0) rfl hd X (mc, ms) Ex G Q q.2.1 q.2.2 (3, v) ls' h' hF e
end CTR
