/-! The law's loop and its start; the first rows are the kit's skeleton's (kit/laws). -/
def R_law : String := "BlinkerCrossLaw"
def lw_P (b : Addr) (xs : List Int32) (args : Array Value) (s : State) : Prop := args = #[.ref b] ∧ s.IntsAt b xs ∧ xs.length ≤ 3072 ∧ (Jvm.Cond.and given_1 narrow_1).before args s = true
def lw_Q (_ : Array Value) (s : State) (o : Outcome) (t : State) : Prop := o = .returned (some (.int 1)) ∧ Framed s o t [] 600000 7302250
def lw_Z (below : List Frame) (a : Array Value) (s : State) : State → Prop := fun t => ∃ o, t.status = .running ∧ Ended t below o ∧ lw_Q a s o t
/-- the law's own end, with 1 on the stack, nothing written that was there before, its room as the claim has it -/
theorem lw_ret {p : Program} {l : Launch} {e : Env} {s : State} {m : MethodId} {below : List Frame} {meth : Method} {c : Code} {b : Nat} (hx : p.tables.exec = Jvm.exec) (hb : c.code = code) (hr : meth.sig.returnType = ret) (hlocks : meth.locks = false) {pc : Nat} {H : Heap} {ls : Array Slot} (hdg : decode code pc = .ok (.ireturn, 1)) : W p l e room_1 s m #[Value.ref b] below meth c H [] 600000 7302250 (lw_Z below #[Value.ref b] s) (F0 m pc ls [.int 1]) := by
  intro T hT X
  obtain ⟨fs, hret, hrun, hended, hW, hframe⟩ := X.leave (v := some (.int 1)) (hlocks := hlocks) (fun h => by rw [hr] at h; cases h)
  have hmeth' : T.vm.method? m = some meth := X.method'
  refine ⟨T.setFrames fs, ?_, .returned (some (.int 1)), hrun, hended, rfl, ⟨_, rfl⟩, hW, hframe⟩
  jvm_step X.here [X.here.top, hx, hb, hdg, hmeth', hr, ret, narrow_b1]
  (try refine ⟨rfl, ?_⟩); (try refine ⟨rfl, ?_⟩)
  first | (intro acts; rw [hret _ acts rfl rfl rfl]) | rw [hret _ _ rfl rfl rfl]
  exact Steps.refl _
/-- what holds at the law's entry: the machine, the code, the tables' words (any of lw_tbl by 'hts w (by decide +kernel)'), the script of L ints xs at the cell b, what the Statement gives of the start (any of its parts by flat_of_before) -/
def lw_At (p : Program) (s : State) (m : MethodId) (meth : Method) (c : Code) (b L : Nat) (xs : Nat → Int32) : Prop :=
  p.tables.exec = Jvm.exec ∧ c.code = code ∧ meth.sig.returnType = ret ∧ c.maxLocals = 4 ∧ s.vm.findClass R_law = some m.cls ∧ (∀ w ∈ lw_tbl, w.before #[Value.ref b] s = true) ∧ va_X b L xs s s.heap ∧ b < s.heap.size ∧ meth.locks = false ∧ (Jvm.Cond.and given_1 narrow_1).before #[Value.ref b] s = true
theorem law_end {X : Cxt} {b0 L : Nat} {sc : Nat → Int32} {cs : Nat × Nat} {I : Nat} {h : Hp} (G : GL X b0 L sc) (hcs : cs.1 ≤ 600000 ∧ cs.2 ≤ 7302250) (hQ : xQ X = lw_Z (xw X) #[.ref b0] (xs X)) (ha : xa X = #[.ref b0]) (hr : (xh X).sig.returnType = ret) (hlocks : (xh X).locks = false) (hL2 : L ≤ 3072) (hI4 : I ≤ 10000) (hIL : L < I + 6) : LW X b0 cs (ii I) 18 [] h := by
  intro H locs la hP hD hS hz hla
  have e1 : Int32.ofNat L - (Int8.ofInt 6).toInt32 = ii ((L : Int) - 6) := by rw [← ii_sub]; congr 1
  refine lv_iload_n G.1 G.2.1 d_law_18 rfl (lv_at hla 3 rfl) ?_
  refine lv_aload_n G.1 G.2.1 d_law_19 rfl (lv_at hla 0 rfl) ?_
  refine va_slen (A := xA X) G.1 G.2.1 G.2.2.2.2.2.2.2.2.1 G.2.2.2.2.2.2.2.2.2.1 (l_out G) hS d_law_20 ?_
  refine lv_bipush G.1 G.2.1 d_law_21 rfl ?_
  refine lv_isub G.1 G.2.1 d_law_23 ?_
  rw [e1]
  refine lv_icmp_gt (tgt := 1269) G.1 G.2.1 d_law_24 rfl (fun _ => ?_) (fun hgt => ?_)
  · refine lv_iconst G.1 G.2.1 d_law_1269 (v := 1) (by decide) ?_
    refine va_forget (fun q hq => by have := (hS.2.2 q hq).1; rw [G.2.2.2.2.2.2.2.2.2.2.1] at this; exact this) ?_
    refine W.widen (k := 600000) (n := 7302250) hcs.1 hcs.2 ?_
    show W (xp X) (xl X) (xe X) (xR X) (xs X) (xm X) (xa X) (xw X) (xh X) (xc X) H [] 600000 7302250 (xQ X) _
    rw [hQ, ha, G.2.2.2.2.2.2.1]
    exact lw_ret G.1 G.2.1 hr hlocks d_law_1270
  · exfalso
    rw [ii_lt (by omega) (by omega) (by omega) (by omega)] at hgt
    omega
theorem law_case {X : Cxt} {b0 L : Nat} {sc : Nat → Int32} {cs : Nat × Nat} {Inv Jnv : Hp → Prop} {I k : Nat} {h : Hp} {w : Int32} (G : GL X b0 L sc) (hL : I + 6 ≤ L) (hL2 : L ≤ 3072) (hcs : cs.1 ≤ 600000 ∧ cs.2 ≤ 7302250) (P : PureOps Inv Jnv) (hi : Inv h) (kk : ∀ h2, Jnv h2 → LW X b0 cs (ii I) 1263 [] h2) (hk : k ≤ 36) (hw : w.toInt = (k : Int)) : LW X b0 cs (ii I) 33 [.int w] h := by
  obtain ⟨P0, P1, P2, P3, P4, P5, P6, P7, P8, P9, P10, P11, P12, P13, P14, P15, P16, P17, P18, P19, P20, P21, P22, P23, P24, P25, P26, P27, P28, P29, P30, P31, P32, P33, P34, P35, P36⟩ := P
  have hc : k = 0 ∨ k = 1 ∨ k = 2 ∨ k = 3 ∨ k = 4 ∨ k = 5 ∨ k = 6 ∨ k = 7 ∨ k = 8 ∨ k = 9 ∨ k = 10 ∨ k = 11 ∨ k = 12 ∨ k = 13 ∨ k = 14 ∨ k = 15 ∨ k = 16 ∨ k = 17 ∨ k = 18 ∨ k = 19 ∨ k = 20 ∨ k = 21 ∨ k = 22 ∨ k = 23 ∨ k = 24 ∨ k = 25 ∨ k = 26 ∨ k = 27 ∨ k = 28 ∨ k = 29 ∨ k = 30 ∨ k = 31 ∨ k = 32 ∨ k = 33 ∨ k = 34 ∨ k = 35 ∨ k = 36 := by omega
  rcases hc with rfl | rfl | rfl | rfl | rfl | rfl | rfl | rfl | rfl | rfl | rfl | rfl | rfl | rfl | rfl | rfl | rfl | rfl | rfl | rfl | rfl | rfl | rfl | rfl | rfl | rfl | rfl | rfl | rfl | rfl | rfl | rfl | rfl | rfl | rfl | rfl | rfl
  · exact fun H locs la hP hD hS hz hla => lv_tableIn (off := 163) (tgt := 196) G.1 G.2.1 d_law_33 (by omega) (by omega) (by rw [hw]; rfl) rfl (lc_feed G hL hL2 hcs P0 hi kk H locs la hP hD hS hz hla)
  · exact fun H locs la hP hD hS hz hla => lv_tableIn (off := 226) (tgt := 259) G.1 G.2.1 d_law_33 (by omega) (by omega) (by rw [hw]; rfl) rfl (lc_back G hL hL2 hcs P1 hi kk H locs la hP hD hS hz hla)
  · exact fun H locs la hP hD hS hz hla => lv_tableIn (off := 249) (tgt := 282) G.1 G.2.1 d_law_33 (by omega) (by omega) (by rw [hw]; rfl) rfl (lc_read G hL hL2 hcs P2 hi kk H locs la hP hD hS hz hla)
  · exact fun H locs la hP hD hS hz hla => lv_tableIn (off := 262) (tgt := 295) G.1 G.2.1 d_law_33 (by omega) (by omega) (by rw [hw]; rfl) rfl (lc_place G hL hL2 hcs P3 hi kk H locs la hP hD hS hz hla)
  · exact fun H locs la hP hD hS hz hla => lv_tableIn (off := 275) (tgt := 308) G.1 G.2.1 d_law_33 (by omega) (by omega) (by rw [hw]; rfl) rfl (lc_road G hL hL2 hcs P4 hi kk H locs la hP hD hS hz hla)
  · exact fun H locs la hP hD hS hz hla => lv_tableIn (off := 308) (tgt := 341) G.1 G.2.1 d_law_33 (by omega) (by omega) (by rw [hw]; rfl) rfl (lc_goer G hL hL2 hcs P5 hi kk H locs la hP hD hS hz hla)
  · exact fun H locs la hP hD hS hz hla => lv_tableIn (off := 341) (tgt := 374) G.1 G.2.1 d_law_33 (by omega) (by omega) (by rw [hw]; rfl) rfl (lc_gained G hL hL2 hcs P6 hi kk H locs la hP hD hS hz hla)
  · exact fun H locs la hP hD hS hz hla => lv_tableIn (off := 364) (tgt := 397) G.1 G.2.1 d_law_33 (by omega) (by omega) (by rw [hw]; rfl) rfl (lc_want G hL hL2 hcs P7 hi kk H locs la hP hD hS hz hla)
  · exact fun H locs la hP hD hS hz hla => lv_tableIn (off := 397) (tgt := 430) G.1 G.2.1 d_law_33 (by omega) (by omega) (by rw [hw]; rfl) rfl (lc_crowds G hL hL2 hcs P8 hi kk H locs la hP hD hS hz hla)
  · exact fun H locs la hP hD hS hz hla => lv_tableIn (off := 440) (tgt := 473) G.1 G.2.1 d_law_33 (by omega) (by omega) (by rw [hw]; rfl) rfl (lc_flap G hL hL2 hcs P9 hi kk H locs la hP hD hS hz hla)
  · exact fun H locs la hP hD hS hz hla => lv_tableIn (off := 473) (tgt := 506) G.1 G.2.1 d_law_33 (by omega) (by omega) (by rw [hw]; rfl) rfl (lc_turn G hL hL2 hcs P10 hi kk H locs la hP hD hS hz hla)
  · exact fun H locs la hP hD hS hz hla => lv_tableIn (off := 506) (tgt := 539) G.1 G.2.1 d_law_33 (by omega) (by omega) (by rw [hw]; rfl) rfl (lc_wish G hL hL2 hcs P11 hi kk H locs la hP hD hS hz hla)
  · exact fun H locs la hP hD hS hz hla => lv_tableIn (off := 549) (tgt := 582) G.1 G.2.1 d_law_33 (by omega) (by omega) (by rw [hw]; rfl) rfl (lc_days G hL hL2 hcs P12 hi kk H locs la hP hD hS hz hla)
  · exact fun H locs la hP hD hS hz hla => lv_tableIn (off := 572) (tgt := 605) G.1 G.2.1 d_law_33 (by omega) (by omega) (by rw [hw]; rfl) rfl (lc_undo G hL hL2 hcs P13 hi kk H locs la hP hD hS hz hla)
  · exact fun H locs la hP hD hS hz hla => lv_tableIn (off := 585) (tgt := 618) G.1 G.2.1 d_law_33 (by omega) (by omega) (by rw [hw]; rfl) rfl (lc_plan G hL hL2 hcs P14 hi kk H locs la hP hD hS hz hla)
  · exact fun H locs la hP hD hS hz hla => lv_tableIn (off := 618) (tgt := 651) G.1 G.2.1 d_law_33 (by omega) (by omega) (by rw [hw]; rfl) rfl (lc_rests G hL hL2 hcs P15 hi kk H locs la hP hD hS hz hla)
  · exact fun H locs la hP hD hS hz hla => lv_tableIn (off := 631) (tgt := 664) G.1 G.2.1 d_law_33 (by omega) (by omega) (by rw [hw]; rfl) rfl (lc_bestRest G hL hL2 hcs P16 hi kk H locs la hP hD hS hz hla)
  · exact fun H locs la hP hD hS hz hla => lv_tableIn (off := 654) (tgt := 687) G.1 G.2.1 d_law_33 (by omega) (by omega) (by rw [hw]; rfl) rfl (lc_bestGiving G hL hL2 hcs P17 hi kk H locs la hP hD hS hz hla)
  · exact fun H locs la hP hD hS hz hla => lv_tableIn (off := 677) (tgt := 710) G.1 G.2.1 d_law_33 (by omega) (by omega) (by rw [hw]; rfl) rfl (lc_settles G hL hL2 hcs P18 hi kk H locs la hP hD hS hz hla)
  · exact fun H locs la hP hD hS hz hla => lv_tableIn (off := 690) (tgt := 723) G.1 G.2.1 d_law_33 (by omega) (by omega) (by rw [hw]; rfl) rfl (lc_oneEach G hL hL2 hcs P19 hi kk H locs la hP hD hS hz hla)
  · exact fun H locs la hP hD hS hz hla => lv_tableIn (off := 713) (tgt := 746) G.1 G.2.1 d_law_33 (by omega) (by omega) (by rw [hw]; rfl) rfl (lc_closing G hL hL2 hcs P20 hi kk H locs la hP hD hS hz hla)
  · exact fun H locs la hP hD hS hz hla => lv_tableIn (off := 726) (tgt := 759) G.1 G.2.1 d_law_33 (by omega) (by omega) (by rw [hw]; rfl) rfl (lc_search G hL hL2 hcs P21 hi kk H locs la hP hD hS hz hla)
  · exact fun H locs la hP hD hS hz hla => lv_tableIn (off := 759) (tgt := 792) G.1 G.2.1 d_law_33 (by omega) (by omega) (by rw [hw]; rfl) rfl (lc_bar G hL hL2 hcs P22 hi kk H locs la hP hD hS hz hla)
  · exact fun H locs la hP hD hS hz hla => lv_tableIn (off := 792) (tgt := 825) G.1 G.2.1 d_law_33 (by omega) (by omega) (by rw [hw]; rfl) rfl (lc_enough G hL hL2 hcs P23 hi kk H locs la hP hD hS hz hla)
  · exact fun H locs la hP hD hS hz hla => lv_tableIn (off := 825) (tgt := 858) G.1 G.2.1 d_law_33 (by omega) (by omega) (by rw [hw]; rfl) rfl (lc_open G hL hL2 hcs P24 hi kk H locs la hP hD hS hz hla)
  · exact fun H locs la hP hD hS hz hla => lv_tableIn (off := 848) (tgt := 881) G.1 G.2.1 d_law_33 (by omega) (by omega) (by rw [hw]; rfl) rfl (lc_crowded G hL hL2 hcs P25 hi kk H locs la hP hD hS hz hla)
  · exact fun H locs la hP hD hS hz hla => lv_tableIn (off := 871) (tgt := 904) G.1 G.2.1 d_law_33 (by omega) (by omega) (by rw [hw]; rfl) rfl (lc_same G hL hL2 hcs P26 hi kk H locs la hP hD hS hz hla)
  · exact fun H locs la hP hD hS hz hla => lv_tableIn (off := 894) (tgt := 927) G.1 G.2.1 d_law_33 (by omega) (by omega) (by rw [hw]; rfl) rfl (lc_then G hL hL2 hcs P27 hi kk H locs la hP hD hS hz hla)
  · exact fun H locs la hP hD hS hz hla => lv_tableIn (off := 937) (tgt := 970) G.1 G.2.1 d_law_33 (by omega) (by omega) (by rw [hw]; rfl) rfl (lc_gainedIn G hL hL2 hcs P28 hi kk H locs la hP hD hS hz hla)
  · exact fun H locs la hP hD hS hz hla => lv_tableIn (off := 970) (tgt := 1003) G.1 G.2.1 d_law_33 (by omega) (by omega) (by rw [hw]; rfl) rfl (lc_year G hL hL2 hcs P29 hi kk H locs la hP hD hS hz hla)
  · exact fun H locs la hP hD hS hz hla => lv_tableIn (off := 1023) (tgt := 1056) G.1 G.2.1 d_law_33 (by omega) (by omega) (by rw [hw]; rfl) rfl (lc_tell G hL hL2 hcs P30 hi kk H locs la hP hD hS hz hla)
  · exact fun H locs la hP hD hS hz hla => lv_tableIn (off := 1082) (tgt := 1115) G.1 G.2.1 d_law_33 (by omega) (by omega) (by rw [hw]; rfl) rfl (lc_forget G hL hL2 hcs P31 hi kk H locs la hP hD hS hz hla)
  · exact fun H locs la hP hD hS hz hla => lv_tableIn (off := 1095) (tgt := 1128) G.1 G.2.1 d_law_33 (by omega) (by omega) (by rw [hw]; rfl) rfl (lc_who G hL hL2 hcs P32 hi kk H locs la hP hD hS hz hla)
  · exact fun H locs la hP hD hS hz hla => lv_tableIn (off := 1128) (tgt := 1161) G.1 G.2.1 d_law_33 (by omega) (by omega) (by rw [hw]; rfl) rfl (lc_look G hL hL2 hcs P33 hi kk H locs la hP hD hS hz hla)
  · exact fun H locs la hP hD hS hz hla => lv_tableIn (off := 1161) (tgt := 1194) G.1 G.2.1 d_law_33 (by omega) (by omega) (by rw [hw]; rfl) rfl (lc_hold G hL hL2 hcs P34 hi kk H locs la hP hD hS hz hla)
  · exact fun H locs la hP hD hS hz hla => lv_tableIn (off := 1184) (tgt := 1217) G.1 G.2.1 d_law_33 (by omega) (by omega) (by rw [hw]; rfl) rfl (lc_restore G hL hL2 hcs P35 hi kk H locs la hP hD hS hz hla)
  · exact fun H locs la hP hD hS hz hla => lv_tableIn (off := 1207) (tgt := 1240) G.1 G.2.1 d_law_33 (by omega) (by omega) (by rw [hw]; rfl) rfl (lc_count G hL hL2 hcs P36 hi kk H locs la hP hD hS hz hla)
theorem law_loop {X : Cxt} {b0 L : Nat} {sc : Nat → Int32} {cs : Nat × Nat} {Inv : Nat → Hp → Prop} (G : GL X b0 L sc) (hL2 : L ≤ 3072) (hcs : cs.1 ≤ 600000 ∧ cs.2 ≤ 7302250) (hQ : xQ X = lw_Z (xw X) #[.ref b0] (xs X)) (ha : xa X = #[.ref b0]) (hr : (xh X).sig.returnType = ret) (hlocks : (xh X).locks = false) (P : ∀ n, PureOps (Inv (n + 1)) (Inv n)) (hmono : ∀ n h, Inv (n + 1) h → Inv n h) : ∀ (n I : Nat) (h : Hp), L ≤ I + n → Inv n h → I ≤ 4000 → LW X b0 cs (ii I) 18 [] h := by
  intro n
  induction n with
  | zero =>
    intro I h hn hi hI4
    exact law_end G hcs hQ ha hr hlocks hL2 (by omega) (by omega)
  | succ n ih =>
    intro I h hn hi hI4
    by_cases hIL : I + 6 ≤ L
    · have kk : ∀ h2, Inv n h2 → LW X b0 cs (ii I) 1263 [] h2 := by
        intro h2 hi2 H locs la hP hD hS hz hla
        refine lv_iinc (lv' := [(3, .int (ii ((I + 6 : Nat) : Int))), (0, .ref b0), (1, .ref (xb X + 0)), (2, .ref (xb X + 111))]) (k := 3) G.1 G.2.1 d_law_1263 hla rfl (v := ii ((I + 6 : Nat) : Int)) (by show ii _ + ii _ = _; rw [ii_add]; rfl) (by decide) rfl (fun la' hla' => ?_)
        refine lv_goto (tgt := 18) G.1 G.2.1 d_law_1266 rfl ?_
        exact ih (I + 6) h2 (by omega) hi2 (by omega) H locs la' hP hD hS hz (lv_sub hla' [1, 2, 3, 0] rfl)
      intro H locs la hP hD hS hz hla
      have e1 : Int32.ofNat L - (Int8.ofInt 6).toInt32 = ii ((L : Int) - 6) := by rw [← ii_sub]; congr 1
      have e2 := ii_in (show I < L by omega) (by omega)
      refine lv_iload_n G.1 G.2.1 d_law_18 rfl (lv_at hla 3 rfl) ?_
      refine lv_aload_n G.1 G.2.1 d_law_19 rfl (lv_at hla 0 rfl) ?_
      refine va_slen (A := xA X) G.1 G.2.1 G.2.2.2.2.2.2.2.2.1 G.2.2.2.2.2.2.2.2.2.1 (l_out G) hS d_law_20 ?_
      refine lv_bipush G.1 G.2.1 d_law_21 rfl ?_
      refine lv_isub G.1 G.2.1 d_law_23 ?_
      rw [e1]
      refine lv_icmp_gt (tgt := 1269) G.1 G.2.1 d_law_24 rfl (fun hgt => ?_) (fun _ => ?_)
      · exfalso
        rw [ii_lt (by omega) (by omega) (by omega) (by omega)] at hgt
        omega
      refine lv_aload_n G.1 G.2.1 d_law_27 rfl (lv_at hla 0 rfl) ?_
      refine lv_iload_n G.1 G.2.1 d_law_28 rfl (lv_at hla 3 rfl) ?_
      refine va_sld (A := xA X) G.1 G.2.1 G.2.2.2.2.2.2.2.2.1 G.2.2.2.2.2.2.2.2.2.1 (l_out G) hS e2.1 d_law_29 ?_
      rw [e2.2]
      refine lv_bipush G.1 G.2.1 d_law_30 rfl ?_
      refine lv_iand G.1 G.2.1 d_law_32 ?_
      generalize (sc I &&& (Int8.ofInt 63).toInt32) = w
      by_cases ho : w.toInt < 0 ∨ 36 < w.toInt
      · exact lv_tableOut (tgt := 1263) G.1 G.2.1 d_law_33 ho rfl (kk h (hmono n h hi) H locs la hP hD hS hz hla)
      · obtain ⟨k, hk, hw⟩ : ∃ k : Nat, k ≤ 36 ∧ w.toInt = (k : Int) := ⟨w.toInt.toNat, by omega, by omega⟩
        exact law_case G hIL hL2 hcs (P n) hi kk hk hw H locs la hP hD hS hz hla
    · exact law_end G hcs hQ ha hr hlocks hL2 (by omega) (by omega)
