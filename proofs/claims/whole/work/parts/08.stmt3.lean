/-! Branches, loops, switches, ends, copies. -/
section SOT
variable {Y : Yt} {sl sl1 sl2 : List (Nat × Nat)} {pc p1 p2 p3 pt pf : Nat} {J : Jt}
/-- an array read that leaves the array and the index, by kind -/
def AD (Y : Yt) (p t : Nat) : Prop := ∀ X cs, Gd X Y → ∀ (sl : List (Nat × Nat)) (ls : Ev) (st : List Value) (h : Hp) (r : Nat) (i : Int32) (w : Nat × (Nat → Int32)), hAI h r t = some w → ¬ (i < 0 ∨ w.1 ≤ i.toNatClampNeg) → AW X Y cs sl (p + 1) ls (.int (w.2 i.toNatClampNeg) :: st) h → AW X Y cs sl p ls (.int i :: .ref r :: st) h
theorem ad_i {p : Nat} (hd : decode Y.1 p = .ok (.iaload, 1)) : AD Y p 0 := fun X cs G sl ls st h r i w hw hin k hc hl H locs la hP hD hS hz hla =>
  va_iald (D := xD X) (cl := CL) G.1 G.2.1 G.2.2.2.2.2.1 hP r 0 (cW_at (hAI_spec hw)) rfl hin hd (k hc hl H locs la hP hD hS hz hla)
theorem s_aop {t : Nat} {a : Xp Nat} {i e : Xp Int32} {f : Int32 → Int32 → Int32} (ha : EO Y Value.ref sl 0 pc p1 a) (hi : EO Y Value.int sl 1 p1 p2 i) (hdup : decode Y.1 p2 = .ok (.dup2, 1)) (hld : AD Y (p2 + 1) t) (he : EO Y Value.int sl 3 (p2 + 2) p3 e) (hop : OP Y p3 f) (hs : AS Y (p3 + 1) t) : SO Y sl sl pc (p3 + 2) J (sAop t a i f e) := by
  intro X cs Ex G Q ls h r ls' h' hf k
  obtain ⟨q, hq, hf⟩ := bnd hf
  obtain ⟨w, hw, hf⟩ := bnd hf
  obtain ⟨u, hu, hf⟩ := bnd hf
  split at hf
  · rename_i hin
    obtain ⟨x, hx, hf⟩ := bnd hf
    obtain ⟨h1, hp, hf⟩ := bnd hf
    cases hf
    have k2 := hld X cs G sl ls [.int w.1, .ref q.1] w.2 q.1 w.1 u hu hin (he X cs G ls _ w.2 x.1 x.2 hx (Nat.le_refl _) (hop X cs G sl ls _ _ _ _ (hs X cs G sl ls [] _ _ _ _ _ hp k)))
    refine ha X cs G ls [] h q.1 q.2 hq (Nat.le_refl _) (hi X cs G ls _ q.2 w.1 w.2 hw (Nat.le_refl _) ?_)
    intro hc hl H locs la hP hD hS hz hla
    exact lv_dup2_11 G.1 G.2.1 hdup rfl rfl (k2 hc hl H locs la hP hD hS hz hla)
  · cases hf
theorem s_if {c : Xp Bool} {a b : Sm} (hc : CO Y sl 0 pc pt pf c) (ha : SO Y sl sl1 pt p1 J a) (hb : SO Y sl sl1 pf p1 J b) : SO Y sl sl1 pc p1 J (sIf c a b) := by
  intro X cs Ex G Q ls h r ls' h' hf k
  obtain ⟨q, hq, hf⟩ := bnd hf
  refine hc X cs G ls [] h q.1 q.2 hq (Nat.le_refl _) (fun e => ?_) (fun e => ?_)
  · rw [if_pos e] at hf
    exact ha X cs Ex G Q ls _ r ls' h' hf k
  · rw [if_neg (by rw [e]; decide)] at hf
    exact hb X cs Ex G Q ls _ r ls' h' hf k
theorem s_blk {n : Nat} {f : Sm} (hf0 : SO Y sl sl1 pc p1 J f) (hs : sl1.take n = sl2) : SO Y sl sl2 pc p1 J (sBlk n f) := by
  intro X cs Ex G Q ls h r ls' h' hf k
  obtain ⟨q, hq, hf⟩ := bnd hf
  cases hf
  refine hf0 X cs Ex G Q ls h q.1 q.2.1 q.2.2 hq ?_
  unfold Kn at k ⊢
  subst hs
  split at k
  · rename_i e
    rw [if_pos e] at k
    exact k.take n
  · rename_i e
    rw [if_neg (by rw [e]; decide)] at k
    exact k
  · rename_i e
    rw [if_neg (by rw [e]; decide)] at k
    exact k
  · exact k
/-- break and continue: the jump is the statement's ahead, or s_goto's -/
theorem s_brk {n : Nat} (hJ : J.1 = (sl.take n, pc)) : SO Y sl sl1 pc p1 J (sBrk n) := by
  intro X cs Ex G Q ls h r ls' h' hf k
  have hf : some (((1 : Nat), (none : Option Value)), ls.take n, h) = some (r, ls', h') := hf
  cases hf
  have k : AW X Y cs J.1.1 J.1.2 (ls.take n) [] h := k
  rw [hJ] at k
  exact k.take n
theorem s_cnt {n : Nat} (hJ : J.2 = (sl.take n, pc)) : SO Y sl sl1 pc p1 J (sCnt n) := by
  intro X cs Ex G Q ls h r ls' h' hf k
  have hf : some (((2 : Nat), (none : Option Value)), ls.take n, h) = some (r, ls', h') := hf
  cases hf
  have k : AW X Y cs J.2.1 J.2.2 (ls.take n) [] h := k
  rw [hJ] at k
  exact k.take n
/-- a goto ahead of a statement -/
theorem s_ahead {f : Sm} {off : Int} (hd : decode Y.1 pc = .ok (.goto off, 3)) (ho : (pc : Int) + off = (p2 : Int)) (hf : SO Y sl sl1 p2 p1 J f) : SO Y sl sl1 pc p1 J f := by
  intro X cs Ex G Q ls h r ls' h' hq k hc hl H locs la hP hD hS hz hla
  exact lv_goto G.1 G.2.1 hd ho (hf X cs Ex G Q ls h r ls' h' hq k hc hl H locs la hP hD hS hz hla)
theorem Qm.of {X : Cxt} {cs : Nat × Nat} {v : Option Value} {h : Hp} {Ex : Option Value × Hp} {H : Heap} {locs : List Loc} (hE : (v, h) = Ex) (hP : va_P (xD X) CL (cW (xk X) (xb X) h) H) (hD : va_D (xA X) (cW (xk X) (xb X) h)) (hS : va_S (xA X) (xs X).heap H locs) (hz : xz X = true → H.size = xb X + h.length) (o : Option Value) (ho : o = v.map (cv (xb X))) (t : State) (ht : t.heap = H) : Qm (xD X) (xk X) (xb X) (xz X) (xA X) Ex (xa X) (xs X) (.returned o) t := by
  subst hE
  subst ho
  exact ⟨rfl, by rw [ht]; exact hP, hD, by rw [ht]; exact hz, hS.F ht⟩
theorem s_ret {e : Xp Int32} (he : EO Y Value.int sl 0 pc p1 e) (hr : Y.2.2.2.2.1 = some .int) (hd : decode Y.1 p1 = .ok (.ireturn, 1)) : SO Y sl sl1 pc p2 J (sRet (asV Value.int e)) := by
  intro X cs Ex G Q ls h r ls' h' hf k
  obtain ⟨q, hq, hf⟩ := bnd hf
  cases hf
  obtain ⟨w, hw, hq⟩ := bnd hq
  cases hq
  refine he X cs G ls [] h w.1 w.2 hw (Nat.le_refl _) ?_
  intro hc hl H locs la hP hD hS hz hla
  have k : (some (Value.int w.1), w.2) = Ex := k
  show W _ _ _ _ _ _ _ _ _ _ _ _ _ _ (xQ X) _
  rw [show xQ X = _ from Q]
  exact W.iret G.1 G.2.1 (G.2.2.2.2.2.2.2.1.trans hr) (fun t ht _ => Qm.of (cs := cs) k hP hD hS hz _ rfl t ht) hS.2.2 hd G.2.2.2.2.2.2.1
theorem s_retZ {e : Xp Int32} (he : EO Y Value.int sl 0 pc p1 e) (hr : Y.2.2.2.2.1 = some .boolean) (hd : decode Y.1 p1 = .ok (.ireturn, 1)) : SO Y sl sl1 pc p2 J (sRetZ e) := by
  intro X cs Ex G Q ls h r ls' h' hf k
  obtain ⟨w, hw, hf⟩ := bnd hf
  split at hf
  · rename_i hz9
    cases hf
    refine he X cs G ls [] h w.1 w.2 hw (Nat.le_refl _) ?_
    intro hc hl H locs la hP hD hS hz hla
    have k : (some (Value.int w.1), w.2) = Ex := k
    show W _ _ _ _ _ _ _ _ _ _ _ _ _ _ (xQ X) _
    rw [show xQ X = _ from Q]
    exact W.zret (ty := .boolean) G.1 G.2.1 (G.2.2.2.2.2.2.2.1.trans hr) (z_nar hz9).1 (fun t ht _ => Qm.of (cs := cs) k hP hD hS hz _ rfl t ht) hS.2.2 hd G.2.2.2.2.2.2.1
  · cases hf
theorem s_retL {e : Xp Int64} (he : EO Y Value.long sl 0 pc p1 e) (hr : Y.2.2.2.2.1 = some .long) (hd : decode Y.1 p1 = .ok (.lreturn, 1)) : SO Y sl sl1 pc p2 J (sRet (asV Value.long e)) := by
  intro X cs Ex G Q ls h r ls' h' hf k
  obtain ⟨q, hq, hf⟩ := bnd hf
  cases hf
  obtain ⟨w, hw, hq⟩ := bnd hq
  cases hq
  refine he X cs G ls [] h w.1 w.2 hw (Nat.le_refl _) ?_
  intro hc hl H locs la hP hD hS hz hla
  have k : (some (Value.long w.1), w.2) = Ex := k
  show W _ _ _ _ _ _ _ _ _ _ _ _ _ _ (xQ X) _
  rw [show xQ X = _ from Q]
  exact W.lret G.1 G.2.1 (G.2.2.2.2.2.2.2.1.trans hr) (fun t ht _ => Qm.of (cs := cs) k hP hD hS hz _ rfl t ht) hS.2.2 hd G.2.2.2.2.2.2.1
theorem s_retR {n : String} {e : Xp Nat} (he : EO Y Value.ref sl 0 pc p1 e) (hr : Y.2.2.2.2.1 = some (.object n)) (hd : decode Y.1 p1 = .ok (.areturn, 1)) : SO Y sl sl1 pc p2 J (sRet (asV Value.ref e)) := by
  intro X cs Ex G Q ls h r ls' h' hf k
  obtain ⟨q, hq, hf⟩ := bnd hf
  cases hf
  obtain ⟨w, hw, hq⟩ := bnd hq
  cases hq
  refine he X cs G ls [] h w.1 w.2 hw (Nat.le_refl _) ?_
  intro hc hl H locs la hP hD hS hz hla
  have k : (some (Value.ref w.1), w.2) = Ex := k
  show W _ _ _ _ _ _ _ _ _ _ _ _ _ _ (xQ X) _
  rw [show xQ X = _ from Q]
  exact W.aret G.1 G.2.1 (G.2.2.2.2.2.2.2.1.trans hr) (Or.inl ⟨_, rfl⟩) (Or.inr ⟨_, rfl⟩) (fun t ht _ => Qm.of (cs := cs) k hP hD hS hz _ rfl t ht) hS.2.2 hd G.2.2.2.2.2.2.1
theorem s_retV (hr : Y.2.2.2.2.1 = none) (hd : decode Y.1 pc = .ok (.return_, 1)) : SO Y sl sl1 pc p2 J sRetV := by
  intro X cs Ex G Q ls h r ls' h' hf k
  have hf : some (((3 : Nat), (none : Option Value)), ls, h) = some (r, ls', h') := hf
  cases hf
  intro hc hl H locs la hP hD hS hz hla
  have k : ((none : Option Value), h) = Ex := k
  show W _ _ _ _ _ _ _ _ _ _ _ _ _ _ (xQ X) _
  rw [show xQ X = _ from Q]
  exact W.vret G.1 G.2.1 (G.2.2.2.2.2.2.2.1.trans hr) (fun t ht _ => Qm.of (cs := cs) k hP hD hS hz _ rfl t ht) hS.2.2 hd G.2.2.2.2.2.2.1
theorem sWh_n {c : Xp Bool} {b u : Sm} {ls : Ev} {h : Hp} {r : Rs × Ev × Hp} (e : sWh c b u ls h = some r) : ∃ n, lpN c b u n ls h = some r := by
  unfold sWh at e
  split at e
  · exact ⟨_, e⟩
  · cases e
/-- for: test, body, step, back; a while has no step -/
theorem s_for {c : Xp Bool} {b u : Sm} {pu pg : Nat} (hc : CO Y sl 0 pc pt pf c) (hb : SO Y sl sl pt pu ((sl, pf), (sl, pu)) b) (hu : SO Y sl sl pu pc J u) : SO Y sl sl pc pf J (sWh c b u) := by
  intro X cs Ex G Q ls h r ls' h' hf k
  obtain ⟨n, hn⟩ := sWh_n hf
  clear hf
  induction n generalizing ls h with
  | zero => cases hn
  | succ n ih =>
    obtain ⟨q, hq, hn⟩ := bnd hn
    refine hc X cs G ls [] h q.1 q.2 hq (Nat.le_refl _) (fun e => ?_) (fun e => ?_)
    · rw [if_pos e] at hn
      obtain ⟨w, hw, hn⟩ := bnd hn
      refine hb X cs Ex G Q ls q.2 w.1 w.2.1 w.2.2 hw ?_
      unfold Kn
      split at hn
      · rename_i e0
        obtain ⟨x, hx, hn⟩ := bnd hn
        split at hn
        · rename_i ex
          have k2 : AW X Y cs sl pu w.2.1 [] w.2.2 := by
            refine hu X cs Ex G Q w.2.1 w.2.2 x.1 x.2.1 x.2.2 hx ?_
            unfold Kn
            rw [ex]
            exact ih x.2.1 x.2.2 hn
          rcases e0 with e0 | e0 <;> rw [e0] <;> exact k2
        · cases hn
      · rename_i e0
        split at hn
        · rename_i e1
          cases hn
          rw [e1]
          exact k
        · rename_i e1
          cases hn
          unfold Kn at k
          split
          · rename_i e2; exact absurd (Or.inl e2) e0
          · rename_i e2; exact absurd e2 e1
          · rename_i e2; exact absurd (Or.inr e2) e0
          · split at k
            · rename_i e2; exact absurd (Or.inl e2) e0
            · rename_i e2; exact absurd e2 e1
            · rename_i e2; exact absurd (Or.inr e2) e0
            · exact k
    · rw [if_neg (by rw [e]; decide)] at hn
      cases hn
      exact k
def SwOK (Y : Yt) (sl sl1 : List (Nat × Nat)) (pe : Nat) (J : Jt) : List (Int32 × Sm) → List (Int32 × Nat) → Prop
  | [], [] => True
  | (k, f) :: T, (k', q) :: P => k = k' ∧ SO Y sl sl1 q pe J f ∧ SwOK Y sl sl1 pe J T P
  | _, _ => False
def SwP : List (Int32 × Nat) → Nat → Int32 → Nat
  | [], d, _ => d
  | (k, q) :: P, d, v => if v = k then q else SwP P d v
theorem SwOK.at {pe pd : Nat} {d : Sm} (hd : SO Y sl sl1 pd pe J d) : ∀ {T : List (Int32 × Sm)} {P : List (Int32 × Nat)}, SwOK Y sl sl1 pe J T P → ∀ v, SO Y sl sl1 (SwP P pd v) pe J (SwF T d v)
  | [], [], _, _ => hd
  | (k, f) :: T, (k', q) :: P, ⟨e, h1, h2⟩, v => by
    subst e
    unfold SwP SwF
    by_cases hv : v = k
    · rw [if_pos hv, if_pos hv]; exact h1
    · rw [if_neg hv, if_neg hv]; exact SwOK.at hd h2 v
  | [], _ :: _, h, _ => h.elim
  | _ :: _, [], h, _ => h.elim
/-- a table's targets are the list's -/
def swChk (pc : Nat) (dflt lo : Int) (offs : Array Int) (P : List (Int32 × Nat)) (pd : Nat) : Bool :=
  decide ((pc : Int) + dflt = (pd : Int)) && (P.all fun q => decide (lo ≤ q.1.toInt) && decide (q.1.toInt < lo + offs.size)) && (List.range offs.size).all fun i => decide ((pc : Int) + offs.getD i 0 = (SwP P pd (Int32.ofInt (lo + i)) : Int)) && decide ((Int32.ofInt (lo + i)).toInt = lo + i)
theorem SwP_out {pd : Nat} {v : Int32} : ∀ {P : List (Int32 × Nat)}, (∀ q ∈ P, q.1 ≠ v) → SwP P pd v = pd
  | [], _ => rfl
  | (k, q) :: P, h => by
    unfold SwP
    rw [if_neg (fun e => h (k, q) List.mem_cons_self e.symm)]
    exact SwP_out fun q hq => h q (List.mem_cons_of_mem _ hq)
theorem s_tab {e : Xp Int32} {T : List (Int32 × Sm)} {P : List (Int32 × Nat)} {d : Sm} {pe pd len : Nat} {dflt lo hi : Int} {offs : Array Int} {jc : List (Nat × Nat) × Nat} (he : EO Y Value.int sl 0 pc p1 e) (hd : decode Y.1 p1 = .ok (.tableswitch dflt lo hi offs, len)) (hh : hi = lo + offs.size - 1) (hch : swChk p1 dflt lo offs P pd = true) (hT : SwOK Y sl sl pe ((sl, pe), J.2) T P) (hD : SO Y sl sl pd pe ((sl, pe), J.2) d) : SO Y sl sl pc pe J (sSw e T d) := by
  intro X cs Ex G Q ls h r ls' h' hf k
  obtain ⟨q, hq, hf⟩ := bnd hf
  obtain ⟨w, hw, hf⟩ := bnd hf
  have hb := (SwOK.at hD hT q.1) X cs Ex G Q ls q.2 w.1 w.2.1 w.2.2 hw (by
    unfold Kn at k ⊢
    split at hf
    · rename_i e1
      cases hf
      rw [e1]; exact k
    · rename_i e1
      cases hf
      split
      · rename_i e2; rw [e2] at k; exact k
      · rename_i e2; exact absurd e2 e1
      · rename_i e2; rw [e2] at k; exact k
      · rename_i n0 n1 n2
        split at k
        · rename_i e2; exact (n0 e2).elim
        · rename_i e2; exact (n1 e2).elim
        · rename_i e2; exact (n2 e2).elim
        · exact k)
  refine he X cs G ls [] h q.1 q.2 hq (Nat.le_refl _) ?_
  intro hc hl H locs la hP hDw hS hz hla
  unfold swChk at hch
  simp only [Bool.and_eq_true, decide_eq_true_eq, List.all_eq_true] at hch
  obtain ⟨⟨h1, h2⟩, h3⟩ := hch
  by_cases ho : q.1.toInt < lo ∨ hi < q.1.toInt
  · rw [SwP_out (pd := pd) (fun x hx ex => by have := h2 x hx; rw [ex] at this; omega)] at hb
    exact lv_tableOut G.1 G.2.1 hd ho h1 (hb hc hl H locs la hP hDw hS hz hla)
  · have hlo : lo ≤ q.1.toInt := by omega
    have hhi : q.1.toInt ≤ hi := by omega
    have hlt : (q.1.toInt - lo).toNat < offs.size := by omega
    have e3 := h3 (q.1.toInt - lo).toNat (List.mem_range.mpr hlt)
    have e4 : lo + ((q.1.toInt - lo).toNat : Int) = q.1.toInt := by omega
    rw [e4, Int32.ofInt_toInt] at e3
    refine lv_tableIn G.1 G.2.1 hd (by omega) (by omega) (off := offs.getD (q.1.toInt - lo).toNat 0) ?_ e3.1 (hb hc hl H locs la hP hDw hS hz hla)
    rw [Array.getD_eq_getD_getElem?]
    rw [Array.getElem?_eq_getElem hlt]
    rfl
end SOT
