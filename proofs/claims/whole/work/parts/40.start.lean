/-! From the law's entry to its loop. -/
def LR (X : Cxt) (cs : Nat × Nat) (lv : List (Nat × Value)) (pc : Nat) (st : List Value) (h : Hp) : Prop := ∀ (H : Heap) (locs : List Loc) (la : Array Slot), va_P (xD X) CL (cW (xk X) (xb X) h) H → va_D (xA X) (cW (xk X) (xb X) h) → va_S (xA X) (xs X).heap H locs → H.size = xb X + h.length → lv_has la 4 lv → XW X cs H locs (F0 (xm X) pc la st)
section LRS
variable {X : Cxt} {b0 L : Nat} {sc : Nat → Int32} {cs : Nat × Nat} {lv : List (Nat × Value)} {pc : Nat} {st : List Value} {h : Hp}
theorem lr_new {cj index N : Nat} {C : String} {T : u_T} {ty : Nat → FieldType} {dfs : List Value} (G : GL X b0 L sc) (hC : Cf cj C T N ty) (hcl : Cond.classLink "BlinkerCrossLaw" index C ∈ TB) (hin : Cond.instantiable C N ∈ TB) (hini : Cond.initialized C ∈ TB) (hfs : ∀ b j, j < N → defaultValue (ty j) = vp_V (dfs.map (cv b)) j)
    (hd : decode code pc = .ok (.new index, 3)) (h1 : cs.1 + 1 ≤ 600000) (h2 : cs.2 + N ≤ 7302250) (k : LR X (cs.1 + 1, cs.2 + N) lv (pc + 3) (.ref (xb X + h.length) :: st) (h ++ [.inr (cj, dfs)])) : LR X cs lv pc st h := by
  intro H locs la hP hD hS hsz hla
  have hzm := G.2.2.2.2.2.2.2.2.2.2.2
  have hR : xR X = room_1 := G.2.2.2.2.2.2.1
  have hKn := G.2.2.2.2.2.1.1 cj _ hC.1
  refine W.newcK (h := xb X + h.length) G.1 G.2.1 G.2.2.2.1 (G.2.2.2.2.1 _ hcl) (G.2.2.2.2.1 _ hin) (G.2.2.2.2.1 _ hini) rfl hd (by rw [hR]; exact h1) (by rw [hR]; exact h2) hKn.2.1 hsz fun H1 kC hkC e1 z1 o1 => ?_
  have hk : ∀ (j : Nat) (x : Nat × va_E), (cW (xk X) (xb X) h)[j]? = some x → H1[x.1]? = H[x.1]? := fun j x hx => o1 x.1 (by rw [← hsz]; exact (hP j x hx).lt)
  refine k H1 locs la ?_ ?_ ⟨Nat.le_trans hS.1 (by omega), fun x g1 g2 => (o1 x (by rw [← hsz]; exact Nat.lt_of_lt_of_le g1 hS.1)).trans (hS.2.1 x g1 g2), hS.2.2⟩ (by rw [z1]; simp only [List.length_append, List.length_cons, List.length_nil]; omega) hla
  · rw [cW_push]
    refine (hP.kept hk).app (fun j x hx => ?_)
    have hz0 : j < 1 := (List.getElem?_eq_some_iff.mp hx).1
    rw [show j = 0 by omega] at hx
    cases hx
    exact ⟨_, hC.1, (u_born ty G.2.2.2.2.1 hC.2.1 hKn hkC e1 hC.2.2.1).to (fun j hj => hfs _ j hj)⟩
  · rw [cW_push]
    exact hD.push hP hsz.symm (xA_top hzm _)
theorem lr_init {y : MethodName} {cc : ByteArray} {mL lev mc ms i r : Nat} {D : Dn} {h2 : Hp} (G : GL X b0 L sc) (hm : MOK y cc mL none lev mc ms D) (hf : Mf y cc mL none 0) (hy : y.name = "<init>") (hv : Cond.instanceMethod y ∈ TB) (hw : Cond.methodLink "BlinkerCrossLaw" i y ∈ TB) (hd : decode code pc = .ok (.invokespecial i, 3)) (hr : lev + 1 ≤ 2048 ∧ 8 + (mL + 11) + 64 * lev ≤ 84000) (hc : cs.1 + mc ≤ 600000 ∧ cs.2 + ms ≤ 7302250)
    (h8 : (st.map fun v => v.category).sum ≤ 8) (hD : D [.ref r] h = some (none, h2)) (k : LR X (cs.1 + mc, cs.2 + ms) lv (pc + 3) st h2) : LR X cs lv pc (.ref (xb X + r) :: st) h := by
  intro H locs la hP hDw hS hz hla
  have hzm := G.2.2.2.2.2.2.2.2.2.2.2
  have hR : xR X = room_1 := G.2.2.2.2.2.2.1
  have hmet := hm (xl X) (xD X) (xk X) (xb X) (xN X) (xz X) (xZ X) _ h none h2 (Or.inr hzm) hD hDw
  have cb : CallB (xR X) (xs X) (xa X) "BlinkerCrossLaw" i y cc mL none (.code y cc mL none :: TB) (rmL lev mc ms) mc ms 0 := callB_of (Ts := TB) 0 G.2.2.2.2.1 (tb_in hf.1) rfl rfl rfl (G.2.2.2.2.1 _ hf.2.1) (G.2.2.2.2.1 _ hw) hf.2.2 (by rw [hR]; exact hr)
  have hrun := va_runI (Ts := TB) (As := []) (b := xb X + r) (rest := st) (cells := cs.1) (slots := cs.2) (locs := locs) (H := H) (g := F0 (xm X) pc la (.ref (xb X + r) :: st)) (below := xw X) (meth := xh X) (e := xe X) ⟨G.1, G.2.1, G.2.2.1, G.2.2.2.1, G.2.2.2.2.1⟩ hmet ⟨cb, hy, G.2.2.2.2.1 _ hv⟩ ⟨Wd.blind, fun U hU hW => ⟨rfl, by rw [hU]; exact hP, va_K.moved hW.alike G.2.2.2.2.2.1, by rw [hU]; exact fun _ => hz, by rw [hU]; exact G.2.2.2.2.2.2.2.1.go hW hS.2.1⟩⟩ rfl rfl hla.1 rfl (lv_room h8) hd (by rw [hR]; exact hc)
  intro T9 hT Xs
  obtain ⟨v9, st₀, t, T', L9, h0, X', hL, e1, e2, ⟨hv9, hP1, hD1, hz1, hF1, hF2⟩, stp⟩ := hrun T9 hT Xs
  have hv9 : v9 = none := Outcome.returned.inj hv9
  rw [h0] at hF1 hF2
  have hS' : va_S (xA X) (xs X).heap t.heap (locs ++ L9) := ⟨Nat.le_trans hS.1 hF1, fun q h1 h2 => by rw [hF2 q (Nat.lt_of_lt_of_le h1 hS.1) h2]; exact hS.2.1 q h1 h2, fun q hq => (List.mem_append.mp hq).elim (hS.2.2 q) (hL q)⟩
  obtain ⟨t2, a1, b1⟩ := k t.heap (locs ++ L9) la hP1 hD1 hS' (hz1 hzm) hla T' e1 X'
  refine ⟨t2, stp t2 ?_, b1⟩
  subst hv9
  exact a1
theorem lr_dup {v : Value} (G : GL X b0 L sc) (hv : v.category = 1) (hd : decode code pc = .ok (.dup, 1)) (k : LR X cs lv (pc + 1) (v :: v :: st) h) : LR X cs lv pc (v :: st) h := fun H locs la hP hD hS hz hla => lv_dup G.1 G.2.1 hd hv (k H locs la hP hD hS hz hla)
theorem lr_astore {n : Fin 4} {a : Nat} {lv' : List (Nat × Value)} (G : GL X b0 L sc) (hd : decode code pc = .ok (.astore_n n, 1)) (hn : (n : Nat) < 4) (hl : ((n : Nat), Value.ref a) :: lv.filter (fun q => !(q.1 == (n : Nat)) && !(q.1 + 1 == (n : Nat) && q.2.category == 2)) = lv') (k : LR X cs lv' (pc + 1) st h) : LR X cs lv pc (.ref a :: st) h := fun H locs la hP hD hS hz hla => lv_astore_n G.1 G.2.1 hd rfl hla hn hl (fun la' hla' => k H locs la' hP hD hS hz hla')
theorem lr_istore {n : Fin 4} {a : Int32} {lv' : List (Nat × Value)} (G : GL X b0 L sc) (hd : decode code pc = .ok (.istore_n n, 1)) (hn : (n : Nat) < 4) (hl : ((n : Nat), Value.int a) :: lv.filter (fun q => !(q.1 == (n : Nat)) && !(q.1 + 1 == (n : Nat) && q.2.category == 2)) = lv') (k : LR X cs lv' (pc + 1) st h) : LR X cs lv pc (.int a :: st) h := fun H locs la hP hD hS hz hla => lv_istore_n G.1 G.2.1 hd rfl hla hn hl (fun la' hla' => k H locs la' hP hD hS hz hla')
theorem lr_sub {lv' : List (Nat × Value)} (ks : List Nat) (hl : lv_pick lv ks = lv') (k : LR X cs lv' pc st h) : LR X cs lv pc st h := fun H locs la hP hD hS hz hla => k H locs la hP hD hS hz (lv_sub hla ks hl)
end LRS
theorem arr_known {args : Array Value} {s : State} {ty : FieldType} (h : (Cond.arrayClass ty).before args s = true) : ∃ c, ArrOfT s c ty ∧ s.vm.findClass (FieldType.array ty).toString = some c := by
  obtain ⟨comp, kC, cc, h1, h2, h3⟩ := Cond.arrayClass_spec h
  exact ⟨comp, fun n z => ⟨fun k h => (by cases h), kC, h2, cc, h3⟩, h1⟩
theorem arr2_known {args : Array Value} {s : State} (h : (Cond.arrayOver (.array .int)).before args s = true) : ∃ c, ArrOfT s c (.array .int) ∧ s.vm.findClass ("[" ++ (FieldType.array .int).toString) = some c := by
  obtain ⟨comp, c, k, h1, h2, h3, h4⟩ := mg_over h
  exact ⟨c, fun n z => ⟨fun k h => (by cases h), k, h2, comp, h3⟩, h4⟩
def sxT (i : Nat) : Term := if i = 0 then .string "BlinkerCross$Tape" 68 else .string "BlinkerCross$Tape" 54
def PS (i j : Nat) : Prop := Cond.eq (.elem (.field (sxT i) "java/lang/String" "value" "[B") (.int (Int32.ofNat j))) (.int ((sxB.getD i []).getD j 0)) ∈ flatC (Jvm.Cond.and given_1 narrow_1)
theorem ps_all {i n : Nat} (h : ∀ j < n, PS i j) (h1 : PS i n) : ∀ j < n + 1, PS i j := fun j hj => if e : j = n then by rw [e]; exact h1 else h j (by omega)
theorem ps_0_0 : PS 0 0 := List.mem_of_getElem? (i := 13) (by decide +kernel)
theorem ps_0_1 : PS 0 1 := List.mem_of_getElem? (i := 14) (by decide +kernel)
theorem ps_0_2 : PS 0 2 := List.mem_of_getElem? (i := 15) (by decide +kernel)
theorem ps_0_3 : PS 0 3 := List.mem_of_getElem? (i := 16) (by decide +kernel)
theorem ps_0_4 : PS 0 4 := List.mem_of_getElem? (i := 17) (by decide +kernel)
theorem ps_0_5 : PS 0 5 := List.mem_of_getElem? (i := 18) (by decide +kernel)
theorem ps_0_6 : PS 0 6 := List.mem_of_getElem? (i := 19) (by decide +kernel)
theorem ps_0_7 : PS 0 7 := List.mem_of_getElem? (i := 20) (by decide +kernel)
theorem ps_0_8 : PS 0 8 := List.mem_of_getElem? (i := 21) (by decide +kernel)
theorem ps_0_9 : PS 0 9 := List.mem_of_getElem? (i := 22) (by decide +kernel)
theorem ps_0_10 : PS 0 10 := List.mem_of_getElem? (i := 23) (by decide +kernel)
theorem ps_0_11 : PS 0 11 := List.mem_of_getElem? (i := 24) (by decide +kernel)
theorem ps_0_12 : PS 0 12 := List.mem_of_getElem? (i := 25) (by decide +kernel)
theorem ps_0_13 : PS 0 13 := List.mem_of_getElem? (i := 26) (by decide +kernel)
theorem ps_0_14 : PS 0 14 := List.mem_of_getElem? (i := 27) (by decide +kernel)
theorem ps_0_15 : PS 0 15 := List.mem_of_getElem? (i := 28) (by decide +kernel)
theorem ps_0_16 : PS 0 16 := List.mem_of_getElem? (i := 29) (by decide +kernel)
theorem ps_0_17 : PS 0 17 := List.mem_of_getElem? (i := 30) (by decide +kernel)
theorem ps_0_18 : PS 0 18 := List.mem_of_getElem? (i := 31) (by decide +kernel)
theorem ps_0_19 : PS 0 19 := List.mem_of_getElem? (i := 32) (by decide +kernel)
theorem ps_0_20 : PS 0 20 := List.mem_of_getElem? (i := 33) (by decide +kernel)
theorem ps_0_21 : PS 0 21 := List.mem_of_getElem? (i := 34) (by decide +kernel)
theorem ps_0_22 : PS 0 22 := List.mem_of_getElem? (i := 35) (by decide +kernel)
theorem ps_0_23 : PS 0 23 := List.mem_of_getElem? (i := 36) (by decide +kernel)
theorem ps_0_24 : PS 0 24 := List.mem_of_getElem? (i := 37) (by decide +kernel)
theorem ps_0_25 : PS 0 25 := List.mem_of_getElem? (i := 38) (by decide +kernel)
theorem ps_0_26 : PS 0 26 := List.mem_of_getElem? (i := 39) (by decide +kernel)
theorem ps_0_27 : PS 0 27 := List.mem_of_getElem? (i := 40) (by decide +kernel)
theorem ps_0_28 : PS 0 28 := List.mem_of_getElem? (i := 41) (by decide +kernel)
theorem ps_0_29 : PS 0 29 := List.mem_of_getElem? (i := 42) (by decide +kernel)
theorem ps_0_30 : PS 0 30 := List.mem_of_getElem? (i := 43) (by decide +kernel)
theorem ps_0_31 : PS 0 31 := List.mem_of_getElem? (i := 44) (by decide +kernel)
theorem ps_0_32 : PS 0 32 := List.mem_of_getElem? (i := 45) (by decide +kernel)
theorem ps_0_33 : PS 0 33 := List.mem_of_getElem? (i := 46) (by decide +kernel)
theorem ps_0_34 : PS 0 34 := List.mem_of_getElem? (i := 47) (by decide +kernel)
theorem ps_0_35 : PS 0 35 := List.mem_of_getElem? (i := 48) (by decide +kernel)
theorem ps_0_36 : PS 0 36 := List.mem_of_getElem? (i := 49) (by decide +kernel)
theorem ps_0_37 : PS 0 37 := List.mem_of_getElem? (i := 50) (by decide +kernel)
theorem ps_0_38 : PS 0 38 := List.mem_of_getElem? (i := 51) (by decide +kernel)
theorem ps_0_39 : PS 0 39 := List.mem_of_getElem? (i := 52) (by decide +kernel)
theorem ps_0_40 : PS 0 40 := List.mem_of_getElem? (i := 53) (by decide +kernel)
theorem ps_0_41 : PS 0 41 := List.mem_of_getElem? (i := 54) (by decide +kernel)
theorem ps_0_42 : PS 0 42 := List.mem_of_getElem? (i := 55) (by decide +kernel)
theorem ps_0_43 : PS 0 43 := List.mem_of_getElem? (i := 56) (by decide +kernel)
theorem ps_0_44 : PS 0 44 := List.mem_of_getElem? (i := 57) (by decide +kernel)
theorem ps_0_45 : PS 0 45 := List.mem_of_getElem? (i := 58) (by decide +kernel)
theorem ps_0_46 : PS 0 46 := List.mem_of_getElem? (i := 59) (by decide +kernel)
theorem ps_0_47 : PS 0 47 := List.mem_of_getElem? (i := 60) (by decide +kernel)
theorem ps_0_48 : PS 0 48 := List.mem_of_getElem? (i := 61) (by decide +kernel)
theorem ps_0_49 : PS 0 49 := List.mem_of_getElem? (i := 62) (by decide +kernel)
theorem ps_0_50 : PS 0 50 := List.mem_of_getElem? (i := 63) (by decide +kernel)
theorem ps_0_51 : PS 0 51 := List.mem_of_getElem? (i := 64) (by decide +kernel)
theorem ps_0_52 : PS 0 52 := List.mem_of_getElem? (i := 65) (by decide +kernel)
theorem ps_0_53 : PS 0 53 := List.mem_of_getElem? (i := 66) (by decide +kernel)
theorem ps_0_54 : PS 0 54 := List.mem_of_getElem? (i := 67) (by decide +kernel)
theorem ps_0_55 : PS 0 55 := List.mem_of_getElem? (i := 68) (by decide +kernel)
theorem ps_0_56 : PS 0 56 := List.mem_of_getElem? (i := 69) (by decide +kernel)
theorem ps_0_57 : PS 0 57 := List.mem_of_getElem? (i := 70) (by decide +kernel)
theorem ps_0_58 : PS 0 58 := List.mem_of_getElem? (i := 71) (by decide +kernel)
theorem ps_0_59 : PS 0 59 := List.mem_of_getElem? (i := 72) (by decide +kernel)
theorem ps_0_60 : PS 0 60 := List.mem_of_getElem? (i := 73) (by decide +kernel)
theorem ps_0_61 : PS 0 61 := List.mem_of_getElem? (i := 74) (by decide +kernel)
theorem ps_0_62 : PS 0 62 := List.mem_of_getElem? (i := 75) (by decide +kernel)
theorem ps_0_63 : PS 0 63 := List.mem_of_getElem? (i := 76) (by decide +kernel)
theorem ps_0_64 : PS 0 64 := List.mem_of_getElem? (i := 77) (by decide +kernel)
theorem ps_0_65 : PS 0 65 := List.mem_of_getElem? (i := 78) (by decide +kernel)
theorem ps_0_66 : PS 0 66 := List.mem_of_getElem? (i := 79) (by decide +kernel)
theorem ps_0_67 : PS 0 67 := List.mem_of_getElem? (i := 80) (by decide +kernel)
theorem ps_0_68 : PS 0 68 := List.mem_of_getElem? (i := 81) (by decide +kernel)
theorem ps_0_69 : PS 0 69 := List.mem_of_getElem? (i := 82) (by decide +kernel)
theorem ps_0_70 : PS 0 70 := List.mem_of_getElem? (i := 83) (by decide +kernel)
theorem ps_0_71 : PS 0 71 := List.mem_of_getElem? (i := 84) (by decide +kernel)
theorem ps_0_72 : PS 0 72 := List.mem_of_getElem? (i := 85) (by decide +kernel)
theorem ps_0_73 : PS 0 73 := List.mem_of_getElem? (i := 86) (by decide +kernel)
theorem ps_0_74 : PS 0 74 := List.mem_of_getElem? (i := 87) (by decide +kernel)
theorem ps_0_75 : PS 0 75 := List.mem_of_getElem? (i := 88) (by decide +kernel)
theorem ps_0_76 : PS 0 76 := List.mem_of_getElem? (i := 89) (by decide +kernel)
theorem ps_0_77 : PS 0 77 := List.mem_of_getElem? (i := 90) (by decide +kernel)
theorem ps_0_78 : PS 0 78 := List.mem_of_getElem? (i := 91) (by decide +kernel)
theorem ps_0_79 : PS 0 79 := List.mem_of_getElem? (i := 92) (by decide +kernel)
theorem ps_0_80 : PS 0 80 := List.mem_of_getElem? (i := 93) (by decide +kernel)
theorem ps_0_81 : PS 0 81 := List.mem_of_getElem? (i := 94) (by decide +kernel)
theorem ps_0_82 : PS 0 82 := List.mem_of_getElem? (i := 95) (by decide +kernel)
theorem ps_0_83 : PS 0 83 := List.mem_of_getElem? (i := 96) (by decide +kernel)
theorem ps_0_84 : PS 0 84 := List.mem_of_getElem? (i := 97) (by decide +kernel)
theorem ps_0_85 : PS 0 85 := List.mem_of_getElem? (i := 98) (by decide +kernel)
theorem ps_0_86 : PS 0 86 := List.mem_of_getElem? (i := 99) (by decide +kernel)
theorem ps_0_87 : PS 0 87 := List.mem_of_getElem? (i := 100) (by decide +kernel)
theorem ps_0_88 : PS 0 88 := List.mem_of_getElem? (i := 101) (by decide +kernel)
theorem ps_0_89 : PS 0 89 := List.mem_of_getElem? (i := 102) (by decide +kernel)
theorem ps_0_90 : PS 0 90 := List.mem_of_getElem? (i := 103) (by decide +kernel)
theorem ps_0_91 : PS 0 91 := List.mem_of_getElem? (i := 104) (by decide +kernel)
theorem ps_0_92 : PS 0 92 := List.mem_of_getElem? (i := 105) (by decide +kernel)
theorem ps_0_93 : PS 0 93 := List.mem_of_getElem? (i := 106) (by decide +kernel)
theorem ps_0_94 : PS 0 94 := List.mem_of_getElem? (i := 107) (by decide +kernel)
theorem ps_0_95 : PS 0 95 := List.mem_of_getElem? (i := 108) (by decide +kernel)
theorem ps_0_96 : PS 0 96 := List.mem_of_getElem? (i := 109) (by decide +kernel)
theorem ps_0_97 : PS 0 97 := List.mem_of_getElem? (i := 110) (by decide +kernel)
theorem ps_0_98 : PS 0 98 := List.mem_of_getElem? (i := 111) (by decide +kernel)
theorem ps_0_99 : PS 0 99 := List.mem_of_getElem? (i := 112) (by decide +kernel)
theorem ps_0_100 : PS 0 100 := List.mem_of_getElem? (i := 113) (by decide +kernel)
theorem ps_0_101 : PS 0 101 := List.mem_of_getElem? (i := 114) (by decide +kernel)
theorem ps_0_102 : PS 0 102 := List.mem_of_getElem? (i := 115) (by decide +kernel)
theorem ps_0_103 : PS 0 103 := List.mem_of_getElem? (i := 116) (by decide +kernel)
theorem ps_0_104 : PS 0 104 := List.mem_of_getElem? (i := 117) (by decide +kernel)
theorem ps_0_105 : PS 0 105 := List.mem_of_getElem? (i := 118) (by decide +kernel)
theorem ps_0_106 : PS 0 106 := List.mem_of_getElem? (i := 119) (by decide +kernel)
theorem ps_0_107 : PS 0 107 := List.mem_of_getElem? (i := 120) (by decide +kernel)
theorem ps_0_108 : PS 0 108 := List.mem_of_getElem? (i := 121) (by decide +kernel)
theorem ps_0_109 : PS 0 109 := List.mem_of_getElem? (i := 122) (by decide +kernel)
theorem ps_0_110 : PS 0 110 := List.mem_of_getElem? (i := 123) (by decide +kernel)
theorem ps_0_111 : PS 0 111 := List.mem_of_getElem? (i := 124) (by decide +kernel)
theorem ps_0_112 : PS 0 112 := List.mem_of_getElem? (i := 125) (by decide +kernel)
theorem ps_0_113 : PS 0 113 := List.mem_of_getElem? (i := 126) (by decide +kernel)
theorem ps_0_114 : PS 0 114 := List.mem_of_getElem? (i := 127) (by decide +kernel)
theorem ps_0_115 : PS 0 115 := List.mem_of_getElem? (i := 128) (by decide +kernel)
theorem ps_0_116 : PS 0 116 := List.mem_of_getElem? (i := 129) (by decide +kernel)
theorem ps_0_117 : PS 0 117 := List.mem_of_getElem? (i := 130) (by decide +kernel)
theorem ps_0_118 : PS 0 118 := List.mem_of_getElem? (i := 131) (by decide +kernel)
theorem ps_0_119 : PS 0 119 := List.mem_of_getElem? (i := 132) (by decide +kernel)
theorem ps_0_120 : PS 0 120 := List.mem_of_getElem? (i := 133) (by decide +kernel)
theorem ps_0_121 : PS 0 121 := List.mem_of_getElem? (i := 134) (by decide +kernel)
theorem ps_0_122 : PS 0 122 := List.mem_of_getElem? (i := 135) (by decide +kernel)
theorem ps_0_123 : PS 0 123 := List.mem_of_getElem? (i := 136) (by decide +kernel)
theorem ps_0_124 : PS 0 124 := List.mem_of_getElem? (i := 137) (by decide +kernel)
theorem ps_0_125 : PS 0 125 := List.mem_of_getElem? (i := 138) (by decide +kernel)
theorem ps_0_126 : PS 0 126 := List.mem_of_getElem? (i := 139) (by decide +kernel)
theorem ps_0_127 : PS 0 127 := List.mem_of_getElem? (i := 140) (by decide +kernel)
theorem ps_0_128 : PS 0 128 := List.mem_of_getElem? (i := 141) (by decide +kernel)
theorem ps_0_129 : PS 0 129 := List.mem_of_getElem? (i := 142) (by decide +kernel)
theorem ps_0_130 : PS 0 130 := List.mem_of_getElem? (i := 143) (by decide +kernel)
theorem ps_0_131 : PS 0 131 := List.mem_of_getElem? (i := 144) (by decide +kernel)
theorem ps_0_132 : PS 0 132 := List.mem_of_getElem? (i := 145) (by decide +kernel)
theorem ps_0_133 : PS 0 133 := List.mem_of_getElem? (i := 146) (by decide +kernel)
theorem ps_0_134 : PS 0 134 := List.mem_of_getElem? (i := 147) (by decide +kernel)
theorem ps_0_135 : PS 0 135 := List.mem_of_getElem? (i := 148) (by decide +kernel)
theorem ps_0_136 : PS 0 136 := List.mem_of_getElem? (i := 149) (by decide +kernel)
theorem ps_0_137 : PS 0 137 := List.mem_of_getElem? (i := 150) (by decide +kernel)
theorem ps_0_138 : PS 0 138 := List.mem_of_getElem? (i := 151) (by decide +kernel)
theorem ps_0_139 : PS 0 139 := List.mem_of_getElem? (i := 152) (by decide +kernel)
theorem ps_0_140 : PS 0 140 := List.mem_of_getElem? (i := 153) (by decide +kernel)
theorem ps_0_141 : PS 0 141 := List.mem_of_getElem? (i := 154) (by decide +kernel)
theorem ps_0_142 : PS 0 142 := List.mem_of_getElem? (i := 155) (by decide +kernel)
theorem ps_0_143 : PS 0 143 := List.mem_of_getElem? (i := 156) (by decide +kernel)
theorem ps_0_144 : PS 0 144 := List.mem_of_getElem? (i := 157) (by decide +kernel)
theorem ps_0_145 : PS 0 145 := List.mem_of_getElem? (i := 158) (by decide +kernel)
theorem ps_0_146 : PS 0 146 := List.mem_of_getElem? (i := 159) (by decide +kernel)
theorem ps_0_147 : PS 0 147 := List.mem_of_getElem? (i := 160) (by decide +kernel)
theorem ps_0_148 : PS 0 148 := List.mem_of_getElem? (i := 161) (by decide +kernel)
theorem ps_0_149 : PS 0 149 := List.mem_of_getElem? (i := 162) (by decide +kernel)
theorem ps_0_150 : PS 0 150 := List.mem_of_getElem? (i := 163) (by decide +kernel)
theorem ps_0_151 : PS 0 151 := List.mem_of_getElem? (i := 164) (by decide +kernel)
theorem ps_0_152 : PS 0 152 := List.mem_of_getElem? (i := 165) (by decide +kernel)
theorem ps_0_153 : PS 0 153 := List.mem_of_getElem? (i := 166) (by decide +kernel)
theorem ps_0_154 : PS 0 154 := List.mem_of_getElem? (i := 167) (by decide +kernel)
theorem ps_0_155 : PS 0 155 := List.mem_of_getElem? (i := 168) (by decide +kernel)
theorem ps_0_156 : PS 0 156 := List.mem_of_getElem? (i := 169) (by decide +kernel)
theorem ps_0_157 : PS 0 157 := List.mem_of_getElem? (i := 170) (by decide +kernel)
theorem ps_0_158 : PS 0 158 := List.mem_of_getElem? (i := 171) (by decide +kernel)
theorem ps_0_159 : PS 0 159 := List.mem_of_getElem? (i := 172) (by decide +kernel)
theorem ps_a0 : ∀ j < 160, PS 0 j := (ps_all (ps_all (ps_all (ps_all (ps_all (ps_all (ps_all (ps_all (ps_all (ps_all (ps_all (ps_all (ps_all (ps_all (ps_all (ps_all (ps_all (ps_all (ps_all (ps_all (ps_all (ps_all (ps_all (ps_all (ps_all (ps_all (ps_all (ps_all (ps_all (ps_all (ps_all (ps_all (ps_all (ps_all (ps_all (ps_all (ps_all (ps_all (ps_all (ps_all (ps_all (ps_all (ps_all (ps_all (ps_all (ps_all (ps_all (ps_all (ps_all (ps_all (ps_all (ps_all (ps_all (ps_all (ps_all (ps_all (ps_all (ps_all (ps_all (ps_all (ps_all (ps_all (ps_all (ps_all (ps_all (ps_all (ps_all (ps_all (ps_all (ps_all (ps_all (ps_all (ps_all (ps_all (ps_all (ps_all (ps_all (ps_all (ps_all (ps_all (ps_all (ps_all (ps_all (ps_all (ps_all (ps_all (ps_all (ps_all (ps_all (ps_all (ps_all (ps_all (ps_all (ps_all (ps_all (ps_all (ps_all (ps_all (ps_all (ps_all (ps_all (ps_all (ps_all (ps_all (ps_all (ps_all (ps_all (ps_all (ps_all (ps_all (ps_all (ps_all (ps_all (ps_all (ps_all (ps_all (ps_all (ps_all (ps_all (ps_all (ps_all (ps_all (ps_all (ps_all (ps_all (ps_all (ps_all (ps_all (ps_all (ps_all (ps_all (ps_all (ps_all (ps_all (ps_all (ps_all (ps_all (ps_all (ps_all (ps_all (ps_all (ps_all (ps_all (ps_all (ps_all (ps_all (ps_all (ps_all (ps_all (ps_all (ps_all (ps_all (ps_all (ps_all (ps_all (ps_all (ps_all (ps_all (ps_all (ps_all (fun j hj => absurd hj (Nat.not_lt_zero j)) ps_0_0) ps_0_1) ps_0_2) ps_0_3) ps_0_4) ps_0_5) ps_0_6) ps_0_7) ps_0_8) ps_0_9) ps_0_10) ps_0_11) ps_0_12) ps_0_13) ps_0_14) ps_0_15) ps_0_16) ps_0_17) ps_0_18) ps_0_19) ps_0_20) ps_0_21) ps_0_22) ps_0_23) ps_0_24) ps_0_25) ps_0_26) ps_0_27) ps_0_28) ps_0_29) ps_0_30) ps_0_31) ps_0_32) ps_0_33) ps_0_34) ps_0_35) ps_0_36) ps_0_37) ps_0_38) ps_0_39) ps_0_40) ps_0_41) ps_0_42) ps_0_43) ps_0_44) ps_0_45) ps_0_46) ps_0_47) ps_0_48) ps_0_49) ps_0_50) ps_0_51) ps_0_52) ps_0_53) ps_0_54) ps_0_55) ps_0_56) ps_0_57) ps_0_58) ps_0_59) ps_0_60) ps_0_61) ps_0_62) ps_0_63) ps_0_64) ps_0_65) ps_0_66) ps_0_67) ps_0_68) ps_0_69) ps_0_70) ps_0_71) ps_0_72) ps_0_73) ps_0_74) ps_0_75) ps_0_76) ps_0_77) ps_0_78) ps_0_79) ps_0_80) ps_0_81) ps_0_82) ps_0_83) ps_0_84) ps_0_85) ps_0_86) ps_0_87) ps_0_88) ps_0_89) ps_0_90) ps_0_91) ps_0_92) ps_0_93) ps_0_94) ps_0_95) ps_0_96) ps_0_97) ps_0_98) ps_0_99) ps_0_100) ps_0_101) ps_0_102) ps_0_103) ps_0_104) ps_0_105) ps_0_106) ps_0_107) ps_0_108) ps_0_109) ps_0_110) ps_0_111) ps_0_112) ps_0_113) ps_0_114) ps_0_115) ps_0_116) ps_0_117) ps_0_118) ps_0_119) ps_0_120) ps_0_121) ps_0_122) ps_0_123) ps_0_124) ps_0_125) ps_0_126) ps_0_127) ps_0_128) ps_0_129) ps_0_130) ps_0_131) ps_0_132) ps_0_133) ps_0_134) ps_0_135) ps_0_136) ps_0_137) ps_0_138) ps_0_139) ps_0_140) ps_0_141) ps_0_142) ps_0_143) ps_0_144) ps_0_145) ps_0_146) ps_0_147) ps_0_148) ps_0_149) ps_0_150) ps_0_151) ps_0_152) ps_0_153) ps_0_154) ps_0_155) ps_0_156) ps_0_157) ps_0_158) ps_0_159)
theorem ps_1_0 : PS 1 0 := List.mem_of_getElem? (i := 177) (by decide +kernel)
theorem ps_1_1 : PS 1 1 := List.mem_of_getElem? (i := 178) (by decide +kernel)
theorem ps_1_2 : PS 1 2 := List.mem_of_getElem? (i := 179) (by decide +kernel)
theorem ps_1_3 : PS 1 3 := List.mem_of_getElem? (i := 180) (by decide +kernel)
theorem ps_1_4 : PS 1 4 := List.mem_of_getElem? (i := 181) (by decide +kernel)
theorem ps_1_5 : PS 1 5 := List.mem_of_getElem? (i := 182) (by decide +kernel)
theorem ps_1_6 : PS 1 6 := List.mem_of_getElem? (i := 183) (by decide +kernel)
theorem ps_1_7 : PS 1 7 := List.mem_of_getElem? (i := 184) (by decide +kernel)
theorem ps_1_8 : PS 1 8 := List.mem_of_getElem? (i := 185) (by decide +kernel)
theorem ps_a1 : ∀ j < 9, PS 1 j := (ps_all (ps_all (ps_all (ps_all (ps_all (ps_all (ps_all (ps_all (ps_all (fun j hj => absurd hj (Nat.not_lt_zero j)) ps_1_0) ps_1_1) ps_1_2) ps_1_3) ps_1_4) ps_1_5) ps_1_6) ps_1_7) ps_1_8)
theorem sx_el : ∀ i < 2, ∀ j < sxL.getD i 0, PS i j := fun i hi => by
  rcases (show i = 0 ∨ i = 1 by omega) with rfl | rfl
  · exact ps_a0
  · exact ps_a1
theorem sx_ex : ∀ i < 2, Cond.exactly (sxT i) "java/lang/String" ∈ flatC (Jvm.Cond.and given_1 narrow_1) ∧ Cond.eq (.field (sxT i) "java/lang/String" "coder" "B") (.int 0) ∈ flatC (Jvm.Cond.and given_1 narrow_1) ∧ Cond.arrayOf (.field (sxT i) "java/lang/String" "value" "[B") .byte ∈ flatC (Jvm.Cond.and given_1 narrow_1) ∧ Cond.eq (.length (.field (sxT i) "java/lang/String" "value" "[B")) (.int (Int32.ofNat (sxL.getD i 0))) ∈ flatC (Jvm.Cond.and given_1 narrow_1) := by decide +kernel
theorem sx_ne : Cond.not (Cond.eq (sxT 0) (sxT 1)) ∈ flatC (Jvm.Cond.and given_1 narrow_1) := by decide +kernel
theorem sx_st : Cond.eq (.static "java/lang/String" "COMPACT_STRINGS" "Z") (.int 1) ∈ flatC (Jvm.Cond.and given_1 narrow_1) ∧ Cond.isRef (.static "jdk/internal/util/Preconditions" "SIOOBE_FORMATTER" "Ljava/util/function/BiFunction;") ∈ flatC (Jvm.Cond.and given_1 narrow_1) := by decide +kernel
theorem lt_647 : Cond.stringRef "BlinkerCross$Tape" 68 sxW ∈ lw_tbl := List.mem_of_getElem? (i := 647) (by decide +kernel)
theorem lt_696 : Cond.stringRef "BlinkerCross$Tape" 54 sxG ∈ lw_tbl := List.mem_of_getElem? (i := 696) (by decide +kernel)
theorem lt_657 : Cond.laysStatic "java/lang/String" "COMPACT_STRINGS" "Z" ∈ lw_tbl := List.mem_of_getElem? (i := 657) (by decide +kernel)
theorem lt_665 : Cond.laysStatic "jdk/internal/util/Preconditions" "SIOOBE_FORMATTER" "Ljava/util/function/BiFunction;" ∈ lw_tbl := List.mem_of_getElem? (i := 665) (by decide +kernel)
theorem lt_496 : Cond.arrayOver (.array .int) ∈ lw_tbl := List.mem_of_getElem? (i := 496) (by decide +kernel)
theorem lt_153 : sN1 ∈ lw_tbl := List.mem_of_getElem? (i := 153) (by decide +kernel)
theorem lt_543 : sN2 ∈ lw_tbl := List.mem_of_getElem? (i := 543) (by decide +kernel)
theorem lt_943 : sN3 ∈ lw_tbl := List.mem_of_getElem? (i := 943) (by decide +kernel)
theorem lt_st : Cond.initialized "java/lang/String" ∈ lw_tbl := List.mem_of_getElem? (i := 135) (by decide +kernel)
theorem lt_pr : Cond.initialized "jdk/internal/util/Preconditions" ∈ lw_tbl := List.mem_of_getElem? (i := 137) (by decide +kernel)
theorem sx_of {args : Array Value} {s : State} (hts : ∀ w ∈ lw_tbl, w.before args s = true) (hgv : (Jvm.Cond.and given_1 narrow_1).before args s = true) : ∃ z : Zt, Sx z (Aq s.heap.size 0 true) s s.heap := by
  have hA : ∀ a : Nat, a < s.heap.size → ¬ Aq s.heap.size 0 true a := fun a h q => Nat.not_le.mpr h q.1
  have fl := fun c hc => flat_of_before (args := args) (s := s) _ hgv c hc
  obtain ⟨adK, adV, hS, hev⟩ := vk_Sof (args := args) (s := s) (N := 2) (tm := sxT) (len := sxL) (byt := sxB) (A := Aq s.heap.size 0 true) (by decide +kernel) (fun i hi => fl _ (sx_ex i hi).1) (fun i hi => fl _ (sx_ex i hi).2.1) (fun i hi => fl _ (sx_ex i hi).2.2.1) (fun i hi => fl _ (sx_ex i hi).2.2.2) (fun i hi j hj => fl _ (sx_el i hi j hj))
    (fun i j hi hj hij => by
      rcases (show (i = 0 ∧ j = 1) ∨ (i = 1 ∧ j = 0) by omega) with ⟨rfl, rfl⟩ | ⟨rfl, rfl⟩
      · exact Or.inl (fl _ sx_ne)
      · exact Or.inr (fl _ sx_ne)) hA
  refine ⟨(adK, adV, 0), va_Nw.of rfl (hts _ lt_153), va_Nw.of rfl (hts _ lt_543), va_Nw.of rfl (hts _ lt_943), ?_, ?_, ?_, hS, va_Zof (hts _ lt_657) (hts _ lt_st) (va_eqi (fl _ sx_st.1)) hA, va_Zqof (hts _ lt_665) (hts _ lt_pr) (fl _ sx_st.2) hA⟩
  · have h := hts _ lt_496
    exact h
  · have h := hts _ lt_647
    exact vk_R.of h (hev 0 (by decide))
  · have h := hts _ lt_696
    exact vk_R.of h (hev 1 (by decide))
theorem cl_of {args : Array Value} {s : State} (hTB : ∀ w ∈ TB, w.before args s = true) : ∃ G : va_G, ∀ (k : Nat) (q : vw_C), CL[k]? = some q → u_Kn s q.1 q.2.1 q.2.2 (G.1 k) (G.2 k) := by
  have k0 := u_known (C := cR_0) (T := cT_0) (N := 11) (n := 11) hTB ci_0 (hTB _ tw_144)
  have k1 := u_known (C := cR_1) (T := cT_1) (N := 5) (n := 5) hTB ci_1 (hTB _ tw_152)
  have k2 := u_known (C := cR_2) (T := cT_2) (N := 11) (n := 11) hTB ci_2 (hTB _ tw_179)
  have k3 := u_known (C := cR_3) (T := cT_3) (N := 12) (n := 12) hTB ci_3 (hTB _ tw_264)
  have k4 := u_known (C := cR_4) (T := cT_4) (N := 5) (n := 5) hTB ci_4 (hTB _ tw_311)
  have k5 := u_known (C := cR_5) (T := cT_5) (N := 3) (n := 3) hTB ci_5 (hTB _ tw_346)
  have k6 := u_known (C := cR_6) (T := cT_6) (N := 3) (n := 3) hTB ci_6 (hTB _ tw_362)
  have k7 := u_known (C := cR_7) (T := cT_7) (N := 14) (n := 14) hTB ci_7 (hTB _ tw_380)
  have k8 := u_known (C := cR_8) (T := cT_8) (N := 15) (n := 15) hTB ci_8 (hTB _ tw_433)
  have k9 := u_known (C := cR_9) (T := cT_9) (N := 4) (n := 4) hTB ci_9 (hTB _ tw_490)
  have k10 := u_known (C := cR_10) (T := cT_10) (N := 7) (n := 7) hTB ci_10 (hTB _ tw_512)
  have k11 := u_known (C := cR_11) (T := cT_11) (N := 5) (n := 5) hTB ci_11 (hTB _ tw_542)
  have k12 := u_known (C := cR_12) (T := cT_12) (N := 73) (n := 73) hTB ci_12 (hTB _ tw_1337)
  have hh : ∀ k : Nat, ∃ q : ClassId × (Nat → Nat), ∀ r : vw_C, CL[k]? = some r → u_Kn s r.1 r.2.1 r.2.2 q.1 q.2 := by
    intro k
    by_cases hk : k < 13
    · have hc : k = 0 ∨ k = 1 ∨ k = 2 ∨ k = 3 ∨ k = 4 ∨ k = 5 ∨ k = 6 ∨ k = 7 ∨ k = 8 ∨ k = 9 ∨ k = 10 ∨ k = 11 ∨ k = 12 := by omega
      rcases hc with rfl | rfl | rfl | rfl | rfl | rfl | rfl | rfl | rfl | rfl | rfl | rfl | rfl
      · obtain ⟨a, b, h⟩ := k0
        exact ⟨(a, b), fun r hr => by cases hr; exact h⟩
      · obtain ⟨a, b, h⟩ := k1
        exact ⟨(a, b), fun r hr => by cases hr; exact h⟩
      · obtain ⟨a, b, h⟩ := k2
        exact ⟨(a, b), fun r hr => by cases hr; exact h⟩
      · obtain ⟨a, b, h⟩ := k3
        exact ⟨(a, b), fun r hr => by cases hr; exact h⟩
      · obtain ⟨a, b, h⟩ := k4
        exact ⟨(a, b), fun r hr => by cases hr; exact h⟩
      · obtain ⟨a, b, h⟩ := k5
        exact ⟨(a, b), fun r hr => by cases hr; exact h⟩
      · obtain ⟨a, b, h⟩ := k6
        exact ⟨(a, b), fun r hr => by cases hr; exact h⟩
      · obtain ⟨a, b, h⟩ := k7
        exact ⟨(a, b), fun r hr => by cases hr; exact h⟩
      · obtain ⟨a, b, h⟩ := k8
        exact ⟨(a, b), fun r hr => by cases hr; exact h⟩
      · obtain ⟨a, b, h⟩ := k9
        exact ⟨(a, b), fun r hr => by cases hr; exact h⟩
      · obtain ⟨a, b, h⟩ := k10
        exact ⟨(a, b), fun r hr => by cases hr; exact h⟩
      · obtain ⟨a, b, h⟩ := k11
        exact ⟨(a, b), fun r hr => by cases hr; exact h⟩
      · obtain ⟨a, b, h⟩ := k12
        exact ⟨(a, b), fun r hr => by cases hr; exact h⟩
    · refine ⟨(Classical.choose k0, fun _ => 0), fun r hr => ?_⟩
      have := (List.getElem?_eq_some_iff.mp hr).1
      exact absurd this hk
  obtain ⟨f, hf⟩ := Classical.axiomOfChoice hh
  exact ⟨(fun k => (f k).1, fun k => (f k).2), fun k q hq => hf k q hq⟩
theorem ka_of {args : Array Value} {s : State} (hTB : ∀ w ∈ TB, w.before args s = true) (hov : (Cond.arrayOver (.array .int)).before args s = true) : ∃ kA : Nat → ClassId, ∀ (k : Nat) (q : ClassId × FieldType), (tyK kA)[k]? = some q → ArrOfT s q.1 q.2 ∧ va_RA s q.1 q.2 := by
  obtain ⟨c0, a0, f0⟩ := arr_known (hTB _ tw_176)
  obtain ⟨c1, a1, f1⟩ := arr_known (hTB _ tw_175)
  obtain ⟨c2, a2, f2⟩ := arr_known (hTB _ tw_177)
  obtain ⟨c3, a3, f3⟩ := arr_known (hTB _ tw_540)
  obtain ⟨c4, a4, f4⟩ := arr2_known hov
  refine ⟨fun k => if k = 0 then c0 else if k = 1 then c1 else if k = 2 then c2 else if k = 3 then c3 else c4, fun k q hq => ?_⟩
  have hk : k < 5 := (List.getElem?_eq_some_iff.mp hq).1
  rcases (show k = 0 ∨ k = 1 ∨ k = 2 ∨ k = 3 ∨ k = 4 by omega) with rfl | rfl | rfl | rfl | rfl
  · cases hq; exact ⟨a0, f0⟩
  · cases hq; exact ⟨a1, f1⟩
  · cases hq; exact ⟨a2, f2⟩
  · cases hq; exact ⟨a3, f3⟩
  · cases hq; exact ⟨a4, f4⟩
theorem whole_open {Inv : Nat → Hp → Prop} {hx hm : Hp} (e1 : D_X_init [.ref 0] [.inr (0, df_0)] = some (none, hx)) (hlx : hx.length = 111) (e2 : D_M_init [.ref 111] (hx ++ [.inr (12, df_12)]) = some (none, hm)) (hI : Inv 3072 hm) (P : ∀ n, PureOps (Inv (n + 1)) (Inv n)) (hmono : ∀ n h, Inv (n + 1) h → Inv n h)
    {p : Program} {e : Env} {s : State} {m : MethodId} {below : List Frame} {meth : Method} {c : Code} (l : Launch) {b L : Nat} {xs : Nat → Int32} (hL : L ≤ 3072) (C0 : lw_At p s m meth c b L xs) : W p l e room_1 s m #[Value.ref b] below meth c s.heap [] 0 0 (lw_Z below #[Value.ref b] s) (entryFrame m ([Value.ref b] : List Value).toArray 4) := by
  obtain ⟨hx0, hb, hr, hml, hown, hts, hX, hbl, hlocks, hgv⟩ := id C0
  have hTB : ∀ w ∈ TB, w.before #[.ref b] s = true := fun w hw => hts w (List.mem_filter.mp hw).1
  obtain ⟨z, hSx⟩ := sx_of hts hgv
  obtain ⟨Gc, hKc⟩ := cl_of hTB
  obtain ⟨kA, hKa⟩ := ka_of hTB (hts _ lt_496)
  have G : GL ((p, l, e, room_1, s), (m, #[.ref b], below, meth, c), (Gc, kA), (s.heap.size, 0, true, z), lw_Z below #[.ref b] s) b L xs := ⟨hx0, hb, hml, hown, hTB, ⟨hKc, hKa⟩, rfl, hSx, hX, hbl, rfl, rfl⟩
  have hl := lv_entry ([.ref b]) (n := 4) (Nat.le_of_ble_eq_true rfl)
  rw [lg_entry_eq]
  generalize (lg_sl ([.ref b]) ++ List.replicate (4 - (lg_sl ([.ref b])).length) Slot.unset).toArray = ls at hl ⊢
  have hl : lv_has ls 4 [(0, .ref b)] := hl
  have key : ∀ X : Cxt, X = ((p, l, e, room_1, s), (m, #[.ref b], below, meth, c), (Gc, kA), (s.heap.size, 0, true, z), lw_Z below #[.ref b] s) → LR X (0, 0) [(0, .ref b)] 0 [] [] := by
    intro X hXd
    rw [← hXd] at G
    refine lr_new (cj := 0) (dfs := df_0) G cf_0 tw_143 tw_144 tw_122 dfs_0 d_law_0 (Nat.le_of_ble_eq_true rfl) (Nat.le_of_ble_eq_true rfl) ?_
    refine lr_dup G rfl d_law_3 ?_
    refine lr_init (r := 0) (st := [.ref (xb X + 0)]) G ok_X_init mf_X_init rfl tw_146 tw_145 d_law_4 (by decide) ⟨Nat.le_of_ble_eq_true rfl, Nat.le_of_ble_eq_true rfl⟩ (by simp [Value.category]) e1 ?_
    refine lr_astore (lv' := [(1, .ref (xb X + 0)), (0, .ref b)]) G d_law_7 (by decide) rfl ?_
    refine lr_new (cj := 12) (dfs := df_12) G cf_12 tw_1336 tw_1337 tw_134 dfs_12 d_law_8 (Nat.le_of_ble_eq_true rfl) (Nat.le_of_ble_eq_true rfl) ?_
    rw [hlx]
    refine lr_dup G rfl d_law_11 ?_
    refine lr_init (r := 111) (st := [.ref (xb X + 111)]) G ok_M_init mf_M_init rfl tw_1339 tw_1338 d_law_12 (by decide) ⟨Nat.le_of_ble_eq_true rfl, Nat.le_of_ble_eq_true rfl⟩ (by simp [Value.category]) e2 ?_
    refine lr_astore (lv' := [(2, .ref (xb X + 111)), (1, .ref (xb X + 0)), (0, .ref b)]) G d_law_15 (by decide) rfl ?_
    intro H locs la hP hD hS hz hla
    refine lv_iconst G.1 G.2.1 d_law_16 (v := ii 0) rfl ?_
    refine lr_istore (lv' := [(3, .int (ii 0)), (2, .ref (xb X + 111)), (1, .ref (xb X + 0)), (0, .ref b)]) G d_law_17 (by decide) rfl ?_ H locs la hP hD hS hz hla
    refine lr_sub [3, 2, 1, 0] rfl ?_
    exact law_loop G hL ⟨Nat.le_of_ble_eq_true rfl, Nat.le_of_ble_eq_true rfl⟩ (by subst hXd; rfl) (by subst hXd; rfl) (by subst hXd; exact hr) (by subst hXd; exact hlocks) P hmono 3072 0 hm (by omega) hI (by omega)
  exact key _ rfl s.heap [] ls (fun k q h => by simp [cW] at h) ⟨fun i j p q h => by simp [cW] at h, fun k q h => by simp [cW] at h⟩ va_S.rf rfl hl
