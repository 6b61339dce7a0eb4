/-! Statements: locals, fields, arrays, branches, loops, ends. -/
theorem lv_mono {la : Array Slot} {nL : Nat} {l l' : List (Nat × Value)} (h : lv_has la nL l) (hs : ∀ q ∈ l', q ∈ l) : lv_has la nL l' := ⟨h.1, h.2.1, fun q hq => h.2.2 q (hs q hq)⟩
def fl (i c : Nat) (q : Nat × Value) : Bool := !(q.1 == i) && ((c == 1 || !(q.1 == i + 1)) && !(q.1 + 1 == i && q.2.category == 2))
/-- a slot that may be written beside these -/
def sk (i c : Nat) (q : Nat × Nat) : Bool := !(q.1 == i) && ((c == 1 || !(q.1 == i + 1)) && !(q.1 + 1 == i && q.2 == 2))
/-- a store: the top of the stack into slot i -/
def TO {α : Type} (Y : Yt) (ι : α → Value) (p p' i c : Nat) : Prop :=
  (∀ v, (ι v).category = c) ∧ ∀ X cs, Gd X Y → ∀ (v : α) (lv : List (Nat × Value)) (la : Array Slot) (H : Heap) (locs : List Loc) (st : List Value), lv_has la Y.2.1 lv →
    (∀ la', lv_has la' Y.2.1 ((i, cv (xb X) (ι v)) :: lv.filter (fl i c)) → XW X cs H locs (F0 (xm X) p' la' st)) → XW X cs H locs (F0 (xm X) p la (cv (xb X) (ι v) :: st))
theorem fl1 {i : Nat} (lv : List (Nat × Value)) : lv.filter (fun q => !(q.1 == i) && !(q.1 + 1 == i && q.2.category == 2)) = lv.filter (fl i 1) := by
  congr 1
theorem fl2 {i : Nat} (lv : List (Nat × Value)) : lv.filter (fun q => !(q.1 == i) && (!(q.1 == i + 1) && !(q.1 + 1 == i && q.2.category == 2))) = lv.filter (fl i 2) := by
  congr 1
section TO
variable {Y : Yt} {p i : Nat}
theorem t_istore_n {n : Fin 4} (hd : decode Y.1 p = .ok (.istore_n n, 1)) (hi : (n : Nat) = i) (hn : i < Y.2.1) : TO Y Value.int p (p + 1) i 1 :=
  ⟨fun _ => rfl, fun X cs G v lv la H locs st hl k => lv_istore_n G.1 G.2.1 hd hi hl hn rfl (fun la' h => k la' (by rw [← fl1]; exact h))⟩
theorem t_istore (hd : decode Y.1 p = .ok (.istore i, 2)) (hn : i < Y.2.1) : TO Y Value.int p (p + 2) i 1 :=
  ⟨fun _ => rfl, fun X cs G v lv la H locs st hl k => lv_istore G.1 G.2.1 hd hl hn rfl (fun la' h => k la' (by rw [← fl1]; exact h))⟩
theorem t_astore_n {n : Fin 4} (hd : decode Y.1 p = .ok (.astore_n n, 1)) (hi : (n : Nat) = i) (hn : i < Y.2.1) : TO Y Value.ref p (p + 1) i 1 :=
  ⟨fun _ => rfl, fun X cs G v lv la H locs st hl k => lv_astore_n G.1 G.2.1 hd hi hl hn rfl (fun la' h => k la' (by rw [← fl1]; exact h))⟩
theorem t_astore (hd : decode Y.1 p = .ok (.astore i, 2)) (hn : i < Y.2.1) : TO Y Value.ref p (p + 2) i 1 :=
  ⟨fun _ => rfl, fun X cs G v lv la H locs st hl k => lv_astore G.1 G.2.1 hd hl hn rfl (fun la' h => k la' (by rw [← fl1]; exact h))⟩
theorem t_lstore_n {n : Fin 4} (hd : decode Y.1 p = .ok (.lstore_n n, 1)) (hi : (n : Nat) = i) (hn : i + 1 < Y.2.1) : TO Y Value.long p (p + 1) i 2 :=
  ⟨fun _ => rfl, fun X cs G v lv la H locs st hl k => lv_lstore_n G.1 G.2.1 hd hi hl hn rfl (fun la' h => k la' (by rw [← fl2]; exact h))⟩
theorem t_lstore (hd : decode Y.1 p = .ok (.lstore i, 2)) (hn : i + 1 < Y.2.1) : TO Y Value.long p (p + 2) i 2 :=
  ⟨fun _ => rfl, fun X cs G v lv la H locs st hl k => lv_lstore G.1 G.2.1 hd hl hn rfl (fun la' h => k la' (by rw [← fl2]; exact h))⟩
end TO
theorem zmem {sl : List (Nat × Nat)} {ls : Ev} {b : Nat} (hl : (ls.map fun v => v.category) = sl.map (·.2)) {q : Nat × Value} (hq : q ∈ (sl.map (·.1)).zip (ls.map (cv b))) : ∃ (k : Nat) (s : Nat × Nat) (v : Value), sl[k]? = some s ∧ ls[k]? = some v ∧ q = (s.1, cv b v) ∧ v.category = s.2 := by
  obtain ⟨k, hk⟩ := List.getElem?_of_mem hq
  rw [List.getElem?_zip_eq_some, List.getElem?_map, List.getElem?_map] at hk
  obtain ⟨h1, h2⟩ := hk
  obtain ⟨s, hs, e1⟩ := Option.map_eq_some_iff.mp h1
  obtain ⟨v, hv, e2⟩ := Option.map_eq_some_iff.mp h2
  have h3 : (ls.map fun v => v.category)[k]? = (sl.map (·.2))[k]? := by rw [hl]
  rw [List.getElem?_map, List.getElem?_map, hs, hv] at h3
  exact ⟨k, s, v, hs, hv, Prod.ext e1.symm e2.symm, Option.some.inj h3⟩
theorem fl_sk {s : Nat × Nat} {v : Value} {b i c : Nat} (hc : v.category = s.2) (h : sk i c s = true) : fl i c (s.1, cv b v) = true := by
  unfold sk at h; unfold fl; simp only [cv_cat, hc]; exact h
def sSeq (a b : Sm) : Sm := fun ls h => (a ls h).bind fun q => if q.1.1 = 0 then b q.2.1 q.2.2 else some q
def sSkip : Sm := fun ls h => some ((0, none), ls, h)
def sDecl (e : Xp Value) : Sm := fun ls h => (e ls h).bind fun q => some ((0, none), ls ++ [q.1], q.2)
def sSet (k : Nat) (e : Xp Value) : Sm := fun ls h => (e ls h).bind fun q => some ((0, none), ls.set k q.1, q.2)
def sInc (k : Nat) (c : Int32) : Sm := fun ls h => match ls[k]? with
  | some (.int v) => some ((0, none), ls.set k (.int (v + c)), h)
  | _ => none
def hPut (h : Hp) (r ci k : Nat) (v : Value) : Option Hp := match h[r]? with
  | some (.inr (c, fs)) => if c = ci ∧ k < fs.length then some (h.set r (.inr (c, fs.set k v))) else none
  | _ => none
def hAst (h : Hp) (r t : Nat) (i : Int32) (x : Int32) : Option Hp := (hAI h r t).bind fun w => if ¬ (i < 0 ∨ w.1 ≤ i.toNatClampNeg) then some (h.set r (.inl (t, w.1, .inl (upd w.2 i.toNatClampNeg x)))) else none
def hAstL (h : Hp) (r : Nat) (i : Int32) (x : Int64) : Option Hp := (hAL h r).bind fun w => if ¬ (i < 0 ∨ w.1 ≤ i.toNatClampNeg) then some (h.set r (.inl (2, w.1, .inr (.inl (vp_updL w.2 i.toNatClampNeg x))))) else none
def sPut (ci k : Nat) (o : Xp Nat) (e : Xp Value) : Sm := fun ls h => (o ls h).bind fun q => (e ls q.2).bind fun r => (hPut r.2 q.1 ci k r.1).bind fun h1 => some ((0, none), ls, h1)
def sPutZ (ci k : Nat) (o : Xp Nat) (e : Xp Int32) : Sm := fun ls h => (o ls h).bind fun q => (e ls q.2).bind fun r => if r.1 = 0 ∨ r.1 = 1 then (hPut r.2 q.1 ci k (.int r.1)).bind fun h1 => some ((0, none), ls, h1) else none
def sFop (ci k : Nat) (o : Xp Nat) (f : Int32 → Int32 → Int32) (e : Xp Int32) : Sm := fun ls h => (o ls h).bind fun q => match hO q.2 q.1 ci k with
  | some (.int x) => (e ls q.2).bind fun r => (hPut r.2 q.1 ci k (.int (f x r.1))).bind fun h1 => some ((0, none), ls, h1)
  | _ => none
def nrw (t : Nat) (x : Int32) : Int32 := if t = 1 then vp_nar .byte x else if t = 3 then vp_nar .boolean x else x
def sAst (t : Nat) (a : Xp Nat) (i e : Xp Int32) : Sm := fun ls h => (a ls h).bind fun q => (i ls q.2).bind fun r => (e ls r.2).bind fun w => (hAst w.2 q.1 t r.1 (nrw t w.1)).bind fun h1 => some ((0, none), ls, h1)
def sAstL (a : Xp Nat) (i : Xp Int32) (e : Xp Int64) : Sm := fun ls h => (a ls h).bind fun q => (i ls q.2).bind fun r => (e ls r.2).bind fun w => (hAstL w.2 q.1 r.1 w.1).bind fun h1 => some ((0, none), ls, h1)
def sAop (t : Nat) (a : Xp Nat) (i : Xp Int32) (f : Int32 → Int32 → Int32) (e : Xp Int32) : Sm := fun ls h => (a ls h).bind fun q => (i ls q.2).bind fun r => (hAI r.2 q.1 t).bind fun u => if ¬ (r.1 < 0 ∨ u.1 ≤ r.1.toNatClampNeg) then (e ls r.2).bind fun w => (hAst w.2 q.1 t r.1 (nrw t (f (u.2 r.1.toNatClampNeg) w.1))).bind fun h1 => some ((0, none), ls, h1) else none
def sIf (c : Xp Bool) (a b : Sm) : Sm := fun ls h => (c ls h).bind fun q => if q.1 = true then a ls q.2 else b ls q.2
def sBlk (n : Nat) (f : Sm) : Sm := fun ls h => (f ls h).bind fun q => some (q.1, if q.1.1 = 0 then q.2.1.take n else q.2.1, q.2.2)
def sBrk (n : Nat) : Sm := fun ls h => some ((1, none), ls.take n, h)
def sCnt (n : Nat) : Sm := fun ls h => some ((2, none), ls.take n, h)
def sRet (e : Xp Value) : Sm := fun ls h => (e ls h).bind fun q => some ((3, some q.1), ls, q.2)
def sRetZ (e : Xp Int32) : Sm := fun ls h => (e ls h).bind fun q => if q.1 = 0 ∨ q.1 = 1 then some ((3, some (.int q.1)), ls, q.2) else none
def sRetV : Sm := fun ls h => some ((3, none), ls, h)
/-- for and while, n rounds at most -/
def lpN (c : Xp Bool) (b u : Sm) : Nat → Sm
  | 0 => fun _ _ => none
  | n + 1 => fun ls h => (c ls h).bind fun q => if q.1 = true then (b ls q.2).bind fun r => (if r.1.1 = 0 ∨ r.1.1 = 2 then (u r.2.1 r.2.2).bind fun w => if w.1.1 = 0 then lpN c b u n w.2.1 w.2.2 else none else if r.1.1 = 1 then some ((0, none), r.2.1, r.2.2) else some r) else some ((0, none), ls, q.2)

noncomputable def sWh (c : Xp Bool) (b u : Sm) : Sm := fun ls h => @dite _ (∃ n, lpN c b u n ls h ≠ none) (Classical.propDecidable _) (fun hx => lpN c b u (Classical.choose hx) ls h) (fun _ => none)
def SwF : List (Int32 × Sm) → Sm → Int32 → Sm
  | [], d, _ => d
  | (k, f) :: T, d, v => if v = k then f else SwF T d v
def sSw (e : Xp Int32) (T : List (Int32 × Sm)) (d : Sm) : Sm := fun ls h => (e ls h).bind fun q => (SwF T d q.1 ls q.2).bind fun r => if r.1.1 = 1 then some ((0, none), r.2.1, r.2.2) else some r
/-- System.arraycopy of ints -/
def sCpy (a : Xp Nat) (sp : Xp Int32) (b : Xp Nat) (dp n : Xp Int32) : Sm := fun ls h => (a ls h).bind fun q1 => (sp ls q1.2).bind fun q2 => (b ls q2.2).bind fun q3 => (dp ls q3.2).bind fun q4 => (n ls q4.2).bind fun q5 => (hAI q5.2 q1.1 0).bind fun f => (hAI q5.2 q3.1 0).bind fun g =>
  if ¬ q2.1 < 0 ∧ ¬ q4.1 < 0 ∧ ¬ q5.1 < 0 ∧ q2.1.toNatClampNeg + q5.1.toNatClampNeg ≤ f.1 ∧ q4.1.toNatClampNeg + q5.1.toNatClampNeg ≤ g.1 then some ((0, none), ls, q5.2.set q3.1 (.inl (0, g.1, .inl (va_cpy f.2 g.2 q2.1.toNatClampNeg q4.1.toNatClampNeg q5.1.toNatClampNeg)))) else none
section SOR
variable {Y : Yt} {sl sl1 sl2 : List (Nat × Nat)} {pc p1 p2 p3 : Nat} {J : Jt}
theorem AW.take {X : Cxt} {cs : Nat × Nat} {ls : Ev} {st : List Value} {h : Hp} (n : Nat) (k : AW X Y cs (sl.take n) pc (ls.take n) st h) : AW X Y cs sl pc ls st h := by
  intro hc hl H locs la hP hD hS hz hla
  refine k hc (by rw [List.map_take, hl, ← List.map_take]) H locs la hP hD hS hz (lv_mono hla fun q hq => ?_)
  obtain ⟨j, hj⟩ := List.getElem?_of_mem hq
  rw [List.map_take, List.map_take, List.getElem?_zip_eq_some, List.getElem?_take, List.getElem?_take] at hj
  by_cases e : j < n
  · rw [if_pos e, if_pos e] at hj
    exact List.mem_of_getElem? (i := j) (List.getElem?_zip_eq_some.mpr hj)
  · rw [if_neg e] at hj
    cases hj.1
theorem s_seq {a b : Sm} (ha : SO Y sl sl1 pc p1 J a) (hb : SO Y sl1 sl2 p1 p2 J b) : SO Y sl sl2 pc p2 J (sSeq a b) := by
  intro X cs Ex G Q ls h r ls' h' hf k
  obtain ⟨q, hq, hf⟩ := bnd hf
  refine ha X cs Ex G Q ls h q.1 q.2.1 q.2.2 hq ?_
  split at hf
  · rename_i e0
    unfold Kn; rw [e0]
    exact hb X cs Ex G Q _ _ r ls' h' hf k
  · rename_i e0
    cases hf
    unfold Kn at k ⊢
    split
    · rename_i e; exact absurd e e0
    all_goals (rename_i e; first | (rw [e] at k; exact k) | (split at k <;> first | (exfalso; simp_all; done) | exact k))
theorem s_goto {f : Sm} {off : Int} (ha : SO Y sl sl1 pc p1 J f) (hd : decode Y.1 p1 = .ok (.goto off, 3)) (ho : (p1 : Int) + off = (p2 : Int)) : SO Y sl sl1 pc p2 J f := by
  intro X cs Ex G Q ls h r ls' h' hf k
  refine ha X cs Ex G Q ls h r ls' h' hf ?_
  unfold Kn at k ⊢
  split at k
  · intro hc hl H locs la hP hD hS hz hla
    exact lv_goto G.1 G.2.1 hd ho (k hc hl H locs la hP hD hS hz hla)
  all_goals exact k
theorem c_gotoT {d pt pf : Nat} {c : Xp Bool} {off : Int} (hc : CO Y sl d pc p1 pf c) (hd : decode Y.1 p1 = .ok (.goto off, 3)) (ho : (p1 : Int) + off = (pt : Int)) : CO Y sl d pc pt pf c := by
  intro X cs G ls st h v9 h9 hf hdp kt kf
  refine hc X cs G ls st h v9 h9 hf hdp (fun e => ?_) kf
  intro hc hl H locs la hP hD hS hz hla
  exact lv_goto G.1 G.2.1 hd ho (kt e hc hl H locs la hP hD hS hz hla)
theorem c_gotoF {d pt pf : Nat} {c : Xp Bool} {off : Int} (hc : CO Y sl d pc pt p1 c) (hd : decode Y.1 p1 = .ok (.goto off, 3)) (ho : (p1 : Int) + off = (pf : Int)) : CO Y sl d pc pt pf c := by
  intro X cs G ls st h v9 h9 hf hdp kt kf
  refine hc X cs G ls st h v9 h9 hf hdp kt (fun e => ?_)
  intro hc hl H locs la hP hD hS hz hla
  exact lv_goto G.1 G.2.1 hd ho (kf e hc hl H locs la hP hD hS hz hla)
theorem s_skip : SO Y sl sl pc pc J sSkip := by
  intro X cs Ex G Q ls h r ls' h' hf k
  have hf : some (((0 : Nat), (none : Option Value)), ls, h) = some (r, ls', h') := hf
  cases hf
  exact k
theorem s_decl {α : Type} {ι : α → Value} {i c : Nat} {e : Xp α} (he : EO Y ι sl 0 pc p1 e) (ht : TO Y ι p1 p2 i c) (hs : sl.all (sk i c) = true) : SO Y sl (sl ++ [(i, c)]) pc p2 J (sDecl (asV ι e)) := by
  intro X cs Ex G Q ls h r ls' h' hf k
  obtain ⟨q, hq, hf⟩ := bnd hf
  cases hf
  obtain ⟨w, hw, hq⟩ := bnd hq
  cases hq
  refine he X cs G ls [] h w.1 w.2 hw (Nat.le_refl _) ?_
  intro hc hl H locs la hP hD hS hz hla
  refine ht.2 X cs G w.1 _ la H locs [] hla fun la' hla' => ?_
  refine k hc ?_ H locs la' hP hD hS hz (lv_mono hla' fun q hq => ?_)
  · rw [List.map_append, List.map_append, hl]; simp [ht.1]
  · rw [List.map_append, List.map_append, List.zip_append (by rw [List.length_map, List.length_map]; have := congrArg List.length hl; simpa using this.symm)] at hq
    rcases List.mem_append.mp hq with hq | hq
    · refine List.mem_cons_of_mem _ (List.mem_filter.mpr ⟨hq, ?_⟩)
      obtain ⟨k9, s9, v9, a1, a2, a3, a4⟩ := zmem hl hq
      rw [a3]
      exact fl_sk a4 (List.all_eq_true.mp hs _ (List.mem_of_getElem? a1))
    · have hq : q ∈ [(i, cv (xb X) (ι w.1))] := hq
      rw [List.mem_singleton.mp hq]
      exact List.mem_cons_self
theorem setmem {sl : List (Nat × Nat)} {ls : Ev} {b k i c : Nat} {v : Value} {la : Array Slot} {nL : Nat} (hl : (ls.map fun v => v.category) = sl.map (·.2)) (hk : sl[k]? = some (i, c)) (hs : (sl.eraseIdx k).all (sk i c) = true)
    (h : lv_has la nL ((i, cv b v) :: ((sl.map (·.1)).zip (ls.map (cv b))).filter (fl i c))) : lv_has la nL ((sl.map (·.1)).zip ((ls.set k v).map (cv b))) := by
  refine lv_mono h fun q hq => ?_
  obtain ⟨j, hj⟩ := List.getElem?_of_mem hq
  rw [List.getElem?_zip_eq_some, List.getElem?_map, List.getElem?_map, List.getElem?_set] at hj
  obtain ⟨h1, h2⟩ := hj
  by_cases e : k = j
  · subst e
    rw [hk] at h1
    by_cases hlt : k < ls.length
    · simp [hlt] at h2 h1
      have : q = (i, cv b v) := Prod.ext h1.symm h2.symm
      rw [this]; exact List.mem_cons_self
    · simp [hlt] at h2
  · rw [if_neg e] at h2
    have hq2 : q ∈ (sl.map (·.1)).zip (ls.map (cv b)) := by
      apply List.mem_of_getElem? (i := j)
      rw [List.getElem?_zip_eq_some, List.getElem?_map, List.getElem?_map]
      exact ⟨h1, h2⟩
    refine List.mem_cons_of_mem _ (List.mem_filter.mpr ⟨hq2, ?_⟩)
    obtain ⟨s, hs1, e1⟩ := Option.map_eq_some_iff.mp h1
    obtain ⟨w, hw1, e2⟩ := Option.map_eq_some_iff.mp h2
    have h3 : (ls.map fun v => v.category)[j]? = (sl.map (·.2))[j]? := by rw [hl]
    rw [List.getElem?_map, List.getElem?_map, hs1, hw1] at h3
    have : q = (s.1, cv b w) := Prod.ext e1.symm e2.symm
    rw [this]
    exact fl_sk (Option.some.inj h3) (List.all_eq_true.mp hs _ (List.mem_eraseIdx_iff_getElem?.mpr ⟨j, fun e9 => e e9.symm, hs1⟩))
theorem setcat {sl : List (Nat × Nat)} {ls : Ev} {k i c : Nat} {v : Value} (hl : (ls.map fun v => v.category) = sl.map (·.2)) (hk : sl[k]? = some (i, c)) (hv : v.category = c) : ((ls.set k v).map fun v => v.category) = sl.map (·.2) := by
  rw [List.map_set, hl, hv]
  apply List.ext_getElem?
  intro j
  rw [List.getElem?_set]
  by_cases e : k = j
  · subst e
    rw [List.getElem?_map, hk]
    have : k < (sl.map (·.2)).length := by rw [List.length_map]; exact (List.getElem?_eq_some_iff.mp hk).1
    rw [if_pos rfl, if_pos this]; rfl
  · rw [if_neg e]
theorem s_set {α : Type} {ι : α → Value} {i c k0 : Nat} {e : Xp α} (he : EO Y ι sl 0 pc p1 e) (ht : TO Y ι p1 p2 i c) (hk : sl[k0]? = some (i, c)) (hs : (sl.eraseIdx k0).all (sk i c) = true) : SO Y sl sl pc p2 J (sSet k0 (asV ι e)) := by
  intro X cs Ex G Q ls h r ls' h' hf k
  obtain ⟨q, hq, hf⟩ := bnd hf
  cases hf
  obtain ⟨w, hw, hq⟩ := bnd hq
  cases hq
  refine he X cs G ls [] h w.1 w.2 hw (Nat.le_refl _) ?_
  intro hc hl H locs la hP hD hS hz hla
  refine ht.2 X cs G w.1 _ la H locs [] hla fun la' hla' => ?_
  exact k hc (setcat hl hk (ht.1 _)) H locs la' hP hD hS hz (setmem hl hk hs hla')
theorem s_inc {i k0 : Nat} {n : Int} {c : Int32} (hd : decode Y.1 pc = .ok (.iinc i n, 3)) (hn : Int32.ofInt n = c) (hk : sl[k0]? = some (i, 1)) (hi : i < Y.2.1) (hs : (sl.eraseIdx k0).all (sk i 1) = true) : SO Y sl sl pc (pc + 3) J (sInc k0 c) := by
  intro X cs Ex G Q ls h r ls' h' hf k
  unfold sInc at hf
  split at hf
  · rename_i v hv
    cases hf
    intro hc hl H locs la hP hD hS hz hla
    subst hn
    refine lv_iinc (v := v + Int32.ofInt n) G.1 G.2.1 hd hla (zp hk hv) rfl hi rfl (fun la' hla' => ?_)
    exact k hc (setcat hl hk rfl) H locs la' hP hD hS hz (setmem (v := .int (v + Int32.ofInt n)) hl hk hs (by rw [← fl1]; exact hla'))
  · cases hf
theorem hPut_spec {h h1 : Hp} {r ci k : Nat} {v : Value} (e : hPut h r ci k v = some h1) : ∃ fs, h[r]? = some (.inr (ci, fs)) ∧ k < fs.length ∧ h1 = h.set r (.inr (ci, fs.set k v)) := by
  unfold hPut at e
  split at e
  · rename_i c fs hr
    split at e
    · rename_i hc; obtain ⟨rfl, hk⟩ := hc; cases e; exact ⟨fs, hr, hk, rfl⟩
    · cases e
  · cases e
/-- putfield, the object and the value on the stack -/
theorem pf_go {X : Cxt} {cs : Nat × Nat} {ls : Ev} {st : List Value} {h h1 : Hp} {ci k0 i r : Nat} {v : Value} {C : String} {T : u_T} {N : Nat} {ty : Nat → FieldType} (G : Gd X Y) (hC : Cf ci C T N ty) (hk : k0 < N) (hw : Cond.fieldLink Y.2.2.1 i (T k0).1 (T k0).2.1 (T k0).2.2.1 ∈ TB) (hfin : (T k0).2.2.2 = false ∨ ((T k0).2.2.2 = true ∧ Y.2.2.2.2.2 = "<init>" ∧ (T k0).1 = Y.2.2.1))
    (hd : decode Y.1 pc = .ok (.putfield i, 3)) (hn : narrow (ty k0) (cv (xb X) v) = cv (xb X) v) (hft : fits (ty k0) (cv (xb X) v) = true) (hp : hPut h r ci k0 v = some h1) (k : AW X Y cs sl (pc + 3) ls st h1) : AW X Y cs sl pc ls (v :: .ref r :: st) h := by
  intro hc hl H locs la hP hD hS hz hla
  obtain ⟨fs, h2, hlt, rfl⟩ := hPut_spec hp
  have e1 : cW (xk X) (xb X) (h.set r (.inr (ci, fs.set k0 v))) = (cW (xk X) (xb X) h).set r (xb X + r, .inr (ci, (fs.map (cv (xb X))).set k0 (cv (xb X) v))) := by
    rw [cW_set]; show _ = _; congr 2; show (Sum.inr (ci, (fs.set k0 v).map (cv (xb X))) : va_E) = _; rw [List.map_set]
  have hap := va_apart (own := Y.2.2.1) G.2.2.2.2.1 hC.2.1 ty hC.2.2.1 hC.2.2.2 G.2.2.2.2.2.1 hC.1
  obtain ⟨r9, g1, cell, q1, q2, q3, q4⟩ := hP r _ (cW_at h2)
  have hr : r9 = (C, T, N) := Option.some.inj (g1.symm.trans hC.1)
  subst hr
  obtain ⟨hSl, hfc, kC, hkC, hkind⟩ := G.2.2.2.2.2.1.1 ci _ hC.1
  obtain ⟨cf, kf, fi, f, hi, hsl⟩ := hSl k0 hk
  have hlay := G.2.2.2.2.1 _ (hC.2.1 _ (u_in_lay hk))
  have hst := (u_facts hfc hkC (u_lays G.2.2.2.2.1 hC.2.1 hk) hi).1
  have fin : ∀ (H1 : Heap), H1[xb X + r]? = some (cell.setSlot (xD X |>.2 ci k0) (cv (xb X) v)) → H1.size = H.size → (∀ q : Nat, q ≠ xb X + r → H1[q]? = H[q]?) → XW X cs H1 (locs ++ [⟨xb X + r, (xD X).2 ci k0⟩]) (F0 (xm X) (pc + 3) la (st.map (cv (xb X)))) := by
    intro H1 e2 e3 e4
    refine k hc hl H1 _ la ?_ ?_ (hS.put e3 e4 (hD.2 r _ (cW_at h2))) (fun e => by rw [e3, List.length_set]; exact hz e) hla
    · rw [e1]
      exact hP.set hD (cW_at h2) ⟨_, hC.1, t_OB.to (V := updV (vp_V (fs.map (cv (xb X)))) k0 (cv (xb X) v)) ⟨_, e2, q2, q3, t_set q4 hap hk _⟩ (fun j _ => vp_updV_set (by rw [List.length_map]; exact hlt) _ j)⟩ e4
    · rw [e1]
      exact hD.set (cW_at h2)
  unfold u_lay at hlay
  rcases hfin with hfin | ⟨hfin, hin, hdc⟩
  · rw [if_neg (by rw [hfin]; decide)] at hlay
    have h6 := u_store hfc hkC hkind hlay hi (hC.2.2.1 k0 hk) hn hft
    refine W.putK G.1 G.2.1 (f := f) ⟨G.2.2.2.1, G.2.2.2.2.1 _ hw, ⟨_, _, _, hi⟩, hst⟩ (by rw [q2]; exact h6) q1 q3 (by rw [hsl]; exact k2_hasslot (q4 k0 hk)) rfl rfl hd fun H' a1 a2 a3 => ?_
    rw [hsl] at a1 ⊢
    exact fin H' a1 a2 a3
  · rw [if_pos hfin] at hlay
    have hcf : (xm X).cls = cf := by
      obtain ⟨_, _, c', _, _, _, -, -, hf', -, -, -, hown2, -⟩ := Cond.laysFinal_spec hlay
      have e1 : c' = cf := by have := hi.symm.trans hf'; simp at this; exact this.1.symm
      rw [hdc] at hown2
      rw [← e1]; exact Option.some.inj (G.2.2.2.1.symm.trans hown2)
    have h6 := u_fits hfc hkC hkind (Or.inr hlay) hi (hC.2.2.1 k0 hk) hn hft
    refine W.putFinK G.1 G.2.1 G.2.2.2.1 (G.2.2.2.2.1 _ hw) hi hst hcf (G.2.2.2.2.2.2.2.2.1.trans hin) (by rw [q2]; exact h6) q1 q3 (by rw [hsl]; exact k2_hasslot (q4 k0 hk)) rfl rfl hd fun H' a1 a2 a3 => ?_
    rw [hsl] at a1 ⊢
    exact fin H' a1 a2 a3
/-- the kinds of value that a field takes as they are -/
def Fk {α : Type} (ι : α → Value) (ty : FieldType) : Prop := ∀ b x, narrow ty (cv b (ι x)) = cv b (ι x) ∧ fits ty (cv b (ι x)) = true
theorem fk_i : Fk Value.int .int := fun _ _ => ⟨rfl, rfl⟩
theorem fk_o {n : String} : Fk Value.ref (.object n) := fun _ _ => ⟨rfl, rfl⟩
theorem fk_a {t : FieldType} : Fk Value.ref (.array t) := fun _ _ => ⟨rfl, rfl⟩
section PUT
variable {ci k0 i : Nat} {C : String} {T : u_T} {N : Nat} {ty : Nat → FieldType}
theorem s_put {α : Type} {ι : α → Value} {o : Xp Nat} {e : Xp α} (hC : Cf ci C T N ty) (ho : EO Y Value.ref sl 0 pc p1 o) (he : EO Y ι sl 1 p1 p2 e) (hk : k0 < N) (hF : Fk ι (ty k0)) (hw : Cond.fieldLink Y.2.2.1 i (T k0).1 (T k0).2.1 (T k0).2.2.1 ∈ TB) (hfin : (T k0).2.2.2 = false ∨ ((T k0).2.2.2 = true ∧ Y.2.2.2.2.2 = "<init>" ∧ (T k0).1 = Y.2.2.1)) (hd : decode Y.1 p2 = .ok (.putfield i, 3)) : SO Y sl sl pc (p2 + 3) J (sPut ci k0 o (asV ι e)) := by
  intro X cs Ex G Q ls h r ls' h' hf k
  obtain ⟨q, hq, hf⟩ := bnd hf
  obtain ⟨w, hw1, hf⟩ := bnd hf
  obtain ⟨h1, hp, hf⟩ := bnd hf
  cases hf
  obtain ⟨x, hx, hw1⟩ := bnd hw1
  cases hw1
  exact ho X cs G ls [] h q.1 q.2 hq (Nat.le_refl _) (he X cs G ls _ q.2 x.1 x.2 hx (Nat.le_refl _) (pf_go G hC hk hw hfin hd (hF _ _).1 (hF _ _).2 hp k))
theorem z_nar {v : Int32} (h : v = 0 ∨ v = 1) : narrow .boolean (.int v) = .int v ∧ fits .boolean (.int v) = true := by
  rcases h with rfl | rfl <;> exact ⟨rfl, rfl⟩
theorem s_putZ {o : Xp Nat} {e : Xp Int32} (hC : Cf ci C T N ty) (ho : EO Y Value.ref sl 0 pc p1 o) (he : EO Y Value.int sl 1 p1 p2 e) (hk : k0 < N) (hF : ty k0 = .boolean) (hw : Cond.fieldLink Y.2.2.1 i (T k0).1 (T k0).2.1 (T k0).2.2.1 ∈ TB) (hfin : (T k0).2.2.2 = false) (hd : decode Y.1 p2 = .ok (.putfield i, 3)) : SO Y sl sl pc (p2 + 3) J (sPutZ ci k0 o e) := by
  intro X cs Ex G Q ls h r ls' h' hf k
  obtain ⟨q, hq, hf⟩ := bnd hf
  obtain ⟨x, hx, hf⟩ := bnd hf
  split at hf
  · rename_i hz
    obtain ⟨h1, hp, hf⟩ := bnd hf
    cases hf
    exact ho X cs G ls [] h q.1 q.2 hq (Nat.le_refl _) (he X cs G ls _ q.2 x.1 x.2 hx (Nat.le_refl _) (pf_go G hC hk hw (Or.inl hfin) hd (by rw [hF]; exact (z_nar hz).1) (by rw [hF]; exact (z_nar hz).2) hp k))
  · cases hf
/-- an instruction of two ints -/
def OP (Y : Yt) (p : Nat) (f : Int32 → Int32 → Int32) : Prop := ∀ X cs, Gd X Y → ∀ (sl : List (Nat × Nat)) (ls : Ev) (st : List Value) (h : Hp) (x y : Int32), AW X Y cs sl (p + 1) ls (.int (f x y) :: st) h → AW X Y cs sl p ls (.int y :: .int x :: st) h
theorem op_iadd {p : Nat} (hd : decode Y.1 p = .ok (.iadd, 1)) : OP Y p (fun x y => x + y) := fun X cs G sl ls st h x y k hc hl H locs la hP hD hS hz hla => lv_iadd G.1 G.2.1 hd (k hc hl H locs la hP hD hS hz hla)
theorem op_isub {p : Nat} (hd : decode Y.1 p = .ok (.isub, 1)) : OP Y p (fun x y => x - y) := fun X cs G sl ls st h x y k hc hl H locs la hP hD hS hz hla => lv_isub G.1 G.2.1 hd (k hc hl H locs la hP hD hS hz hla)
theorem op_ior {p : Nat} (hd : decode Y.1 p = .ok (.ior, 1)) : OP Y p (fun x y => x ||| y) := fun X cs G sl ls st h x y k hc hl H locs la hP hD hS hz hla => lv_ior G.1 G.2.1 hd (k hc hl H locs la hP hD hS hz hla)
theorem s_fop {o : Xp Nat} {e : Xp Int32} {f : Int32 → Int32 → Int32} {j : Nat} (hC : Cf ci C T N ty) (ho : EO Y Value.ref sl 0 pc p1 o) (hdup : decode Y.1 p1 = .ok (.dup, 1)) (hdg : decode Y.1 (p1 + 1) = .ok (.getfield j, 3)) (he : EO Y Value.int sl 2 (p1 + 4) p2 e) (hop : OP Y p2 f) (hk : k0 < N) (hF : ty k0 = .int) (hw : Cond.fieldLink Y.2.2.1 i (T k0).1 (T k0).2.1 (T k0).2.2.1 ∈ TB) (hwj : Cond.fieldLink Y.2.2.1 j (T k0).1 (T k0).2.1 (T k0).2.2.1 ∈ TB) (hfin : (T k0).2.2.2 = false) (hd : decode Y.1 (p2 + 1) = .ok (.putfield i, 3)) : SO Y sl sl pc (p2 + 4) J (sFop ci k0 o f e) := by
  intro X cs Ex G Q ls h r ls' h' hf k
  obtain ⟨q, hq, hf⟩ := bnd hf
  split at hf
  · rename_i x hx
    obtain ⟨w, hw1, hf⟩ := bnd hf
    obtain ⟨h1, hp, hf⟩ := bnd hf
    cases hf
    have k2 := he X cs G ls [.int x, .ref q.1] q.2 w.1 w.2 hw1 (Nat.le_refl _) (hop X cs G sl ls _ _ _ _ (pf_go G hC hk hw (Or.inl hfin) hd (by rw [hF]; rfl) (by rw [hF]; rfl) hp k))
    refine ho X cs G ls [] h q.1 q.2 hq (Nat.le_refl _) ?_
    obtain ⟨fs, g1, g2⟩ := hO_spec hx
    intro hc hl H locs la hP hD hS hz hla
    refine lv_dup G.1 G.2.1 hdup rfl ?_
    refine va_get (D := xD X) (cl := CL) (v := cv (xb X) (.int x)) G.1 G.2.1 G.2.2.2.2.1 hC.2.1 G.2.2.2.1 G.2.2.2.2.2.1 hP q.1 (cW_at g1) hC.1 k0 hk (G.2.2.2.2.1 _ hwj) (fun _ e => e) ?_ hdg (k2 hc hl H locs la hP hD hS hz hla)
    rw [List.getElem?_map, g2]; rfl
  · cases hf
end PUT
theorem hAst_spec {h h1 : Hp} {r t : Nat} {i x : Int32} (e : hAst h r t i x = some h1) : ∃ n f, h[r]? = some (.inl (t, n, .inl f)) ∧ vp_in i n ∧ h1 = h.set r (.inl (t, n, .inl (upd f i.toNatClampNeg x))) := by
  obtain ⟨w, hw, e⟩ := bnd e
  split at e
  · rename_i hin; cases e; exact ⟨w.1, w.2, hAI_spec hw, hin, rfl⟩
  · cases e
theorem hAstL_spec {h h1 : Hp} {r : Nat} {i : Int32} {x : Int64} (e : hAstL h r i x = some h1) : ∃ n f, h[r]? = some (.inl (2, n, .inr (.inl f))) ∧ vp_in i n ∧ h1 = h.set r (.inl (2, n, .inr (.inl (vp_updL f i.toNatClampNeg x)))) := by
  obtain ⟨w, hw, e⟩ := bnd e
  split at e
  · rename_i hin; cases e; exact ⟨w.1, w.2, hAL_spec hw, hin, rfl⟩
  · cases e
/-- an array's cell changed in place -/
theorem ar_go {X : Cxt} {cs : Nat × Nat} {ls : Ev} {st : List Value} {h : Hp} {r t : Nat} {a a' : vp_A} {H H1 : Heap} {locs : List Loc} {la : Array Slot} {j : Nat} (k : AW X Y cs sl pc ls st (h.set r (.inl (t, a')))) (h2 : h[r]? = some (.inl (t, a))) (hc : cs.1 ≤ (xR X).cells ∧ cs.2 ≤ (xR X).slots) (hl : (ls.map fun v => v.category) = sl.map (·.2)) (hP : va_P (xD X) CL (cW (xk X) (xb X) h) H) (hD : va_D (xA X) (cW (xk X) (xb X) h)) (hS : va_S (xA X) (xs X).heap H locs) (hz : xz X = true → H.size = xb X + h.length) (hla : lv_has la Y.2.1 ((sl.map (·.1)).zip (ls.map (cv (xb X)))))
    (e2 : H1[xb X + r]? = some (vp_cell (xk X t) (cA (xb X) a'))) (e3 : H1.size = H.size) (e4 : ∀ q : Nat, q ≠ xb X + r → H1[q]? = H[q]?) : XW X cs H1 (locs ++ [⟨xb X + r, j⟩]) (F0 (xm X) pc la (st.map (cv (xb X)))) := by
  refine k hc hl H1 _ la ?_ ?_ (hS.put e3 e4 (hD.2 r _ (cW_at h2))) (fun e => by rw [e3, List.length_set]; exact hz e) hla
  · rw [cW_set]
    exact hP.set hD (cW_at h2) e2 e4
  · rw [cW_set]
    exact hD.set (cW_at h2)
/-- an array store, by kind -/
def AS (Y : Yt) (p t : Nat) : Prop := ∀ X cs, Gd X Y → ∀ (sl : List (Nat × Nat)) (ls : Ev) (st : List Value) (h h1 : Hp) (r : Nat) (i x : Int32), hAst h r t i (nrw t x) = some h1 → AW X Y cs sl (p + 1) ls st h1 → AW X Y cs sl p ls (.int x :: .int i :: .ref r :: st) h
theorem as_i {p : Nat} (hd : decode Y.1 p = .ok (.iastore, 1)) : AS Y p 0 := by
  intro X cs G sl ls st h h1 r i x hp k hc hl H locs la hP hD hS hz hla
  obtain ⟨n, f, h2, hin, rfl⟩ := hAst_spec hp
  have hat : H[xb X + r]? = some (arrV (xk X 0) n (fun j => .int (f j))) := hP r _ (cW_at h2)
  refine W.iast G.1 G.2.1 hat ((G.2.2.2.2.2.1.2 0 _ rfl).1 n (fun j => .int (f j))) (fun q => by cases q) (by rw [arrV_size]; exact hin) rfl rfl hd fun H1 e z oq => ?_
  refine ar_go k h2 hc hl hP hD hS hz hla ?_ z oq
  rw [e]
  show _ = some (arrV (xk X 0) n (fun j => .int (upd f i.toNatClampNeg (nrw 0 x) j)))
  rw [arrV_store]
  congr 2
  funext q
  by_cases hq : q = i.toNatClampNeg
  · subst hq; simp [updV, upd, nrw]
  · simp [updV, upd, hq]
theorem as_b {p : Nat} (hd : decode Y.1 p = .ok (.bastore, 1)) : AS Y p 1 := by
  intro X cs G sl ls st h h1 r i x hp k hc hl H locs la hP hD hS hz hla
  obtain ⟨n, f, h2, hin, rfl⟩ := hAst_spec hp
  have hat : H[xb X + r]? = some (arrV (xk X 1) n (fun j => .int (f j))) := hP r _ (cW_at h2)
  refine W.bast G.1 G.2.1 hat ((G.2.2.2.2.2.1.2 1 _ rfl).1 n (fun j => .int (f j))) (fun q => by cases q) (by rw [arrV_size]; exact hin) rfl rfl hd fun H1 e z oq => ?_
  refine ar_go k h2 hc hl hP hD hS hz hla ?_ z oq
  rw [e]
  show _ = some (arrV (xk X 1) n (fun j => .int (upd f i.toNatClampNeg (nrw 1 x) j)))
  rw [arrV_store]
  congr 2
  funext q
  by_cases hq : q = i.toNatClampNeg
  · subst hq; simp [updV, upd, nrw, vp_nar]; rfl
  · simp [updV, upd, hq]
theorem as_z {p : Nat} (hd : decode Y.1 p = .ok (.bastore, 1)) : AS Y p 3 := by
  intro X cs G sl ls st h h1 r i x hp k hc hl H locs la hP hD hS hz hla
  obtain ⟨n, f, h2, hin, rfl⟩ := hAst_spec hp
  have hat : H[xb X + r]? = some (arrV (xk X 3) n (fun j => .int (f j))) := hP r _ (cW_at h2)
  refine W.zast G.1 G.2.1 hat ((G.2.2.2.2.2.1.2 3 _ rfl).1 n (fun j => .int (f j))) (fun q => by cases q) (by rw [arrV_size]; exact hin) rfl rfl hd fun H1 e z oq => ?_
  refine ar_go k h2 hc hl hP hD hS hz hla ?_ z oq
  rw [e]
  show _ = some (arrV (xk X 3) n (fun j => .int (upd f i.toNatClampNeg (nrw 3 x) j)))
  rw [arrV_store]
  congr 2
  funext q
  by_cases hq : q = i.toNatClampNeg
  · subst hq; simp [updV, upd, nrw, vp_nar]; rfl
  · simp [updV, upd, hq]
theorem s_ast {t : Nat} {a : Xp Nat} {i e : Xp Int32} (ha : EO Y Value.ref sl 0 pc p1 a) (hi : EO Y Value.int sl 1 p1 p2 i) (he : EO Y Value.int sl 2 p2 p3 e) (hs : AS Y p3 t) : SO Y sl sl pc (p3 + 1) J (sAst t a i e) := by
  intro X cs Ex G Q ls h r ls' h' hf k
  obtain ⟨q, hq, hf⟩ := bnd hf
  obtain ⟨w, hw, hf⟩ := bnd hf
  obtain ⟨x, hx, hf⟩ := bnd hf
  obtain ⟨h1, hp, hf⟩ := bnd hf
  cases hf
  exact ha X cs G ls [] h q.1 q.2 hq (Nat.le_refl _) (hi X cs G ls _ q.2 w.1 w.2 hw (Nat.le_refl _) (he X cs G ls _ w.2 x.1 x.2 hx (Nat.le_refl _) (hs X cs G sl ls [] _ _ _ _ _ hp k)))
theorem s_astL {a : Xp Nat} {i : Xp Int32} {e : Xp Int64} (ha : EO Y Value.ref sl 0 pc p1 a) (hi : EO Y Value.int sl 1 p1 p2 i) (he : EO Y Value.long sl 2 p2 p3 e) (hd : decode Y.1 p3 = .ok (.lastore, 1)) : SO Y sl sl pc (p3 + 1) J (sAstL a i e) := by
  intro X cs Ex G Q ls h r ls' h' hf k
  obtain ⟨q, hq, hf⟩ := bnd hf
  obtain ⟨w, hw, hf⟩ := bnd hf
  obtain ⟨x, hx, hf⟩ := bnd hf
  obtain ⟨h1, hp, hf⟩ := bnd hf
  cases hf
  refine ha X cs G ls [] h q.1 q.2 hq (Nat.le_refl _) (hi X cs G ls _ q.2 w.1 w.2 hw (Nat.le_refl _) (he X cs G ls _ w.2 x.1 x.2 hx (Nat.le_refl _) ?_))
  intro hc hl H locs la hP hD hS hz hla
  obtain ⟨n, f, h2, hin, rfl⟩ := hAstL_spec hp
  have hat : H[xb X + q.1]? = some (arrV (xk X 2) n (fun j => .long (f j))) := hP q.1 _ (cW_at h2)
  refine W.last G.1 G.2.1 hat ((G.2.2.2.2.2.1.2 2 _ rfl).1 n (fun j => .long (f j))) (fun q => by cases q) (by rw [arrV_size]; exact hin) rfl rfl hd fun H1 e z oq => ?_
  refine ar_go (st := []) k h2 hc hl hP hD hS hz hla ?_ z oq
  rw [e]
  show _ = some (arrV (xk X 2) n (fun j => .long (vp_updL f w.1.toNatClampNeg x.1 j)))
  rw [arrV_store]
  congr 2
  funext j
  by_cases hq : j = w.1.toNatClampNeg
  · subst hq; simp [updV, vp_updL]
  · simp [updV, vp_updL, hq]
end SOR
