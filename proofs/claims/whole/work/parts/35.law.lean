/-! Numbers; the law: its script lies outside the cells; rules for its walk. -/
theorem ii_add (a b : Int) : ii a + ii b = ii (a + b) := by unfold ii; rw [Int32.ofInt_add]
theorem ii_sub (a b : Int) : ii a - ii b = ii (a - b) := by unfold ii; rw [Int32.ofInt_sub]
theorem ii_mul (a b : Int) : ii a * ii b = ii (a * b) := by unfold ii; rw [Int32.ofInt_mul]
theorem ii_self (x : Int32) : ii x.toInt = x := Int32.ofInt_toInt x
theorem ii_int {a : Int} (h1 : -2147483648 ≤ a) (h2 : a < 2147483648) : (ii a).toInt = a := Int32.toInt_ofInt_of_le (by simpa using h1) (by simpa using h2)
theorem ii_lt {a b : Int} (h1 : -2147483648 ≤ a) (h2 : a < 2147483648) (h3 : -2147483648 ≤ b) (h4 : b < 2147483648) : ii a < ii b ↔ a < b := by
  rw [Int32.lt_iff_toInt_lt, ii_int h1 h2, ii_int h3 h4]
theorem ii_le {a b : Int} (h1 : -2147483648 ≤ a) (h2 : a < 2147483648) (h3 : -2147483648 ≤ b) (h4 : b < 2147483648) : ii a ≤ ii b ↔ a ≤ b := by
  rw [Int32.le_iff_toInt_le, ii_int h1 h2, ii_int h3 h4]
theorem ii_inj {a b : Int} (h1 : -2147483648 ≤ a) (h2 : a < 2147483648) (h3 : -2147483648 ≤ b) (h4 : b < 2147483648) : ii a = ii b ↔ a = b := by
  rw [← Int32.toInt_inj, ii_int h1 h2, ii_int h3 h4]
theorem ii_nat {a : Int} (h1 : -2147483648 ≤ a) (h2 : a < 2147483648) : (ii a).toNatClampNeg = a.toNat := by
  show (ii a).toInt.toNat = _
  rw [ii_int h1 h2]
theorem ii_zero : (0 : Int32) = ii 0 := rfl
theorem ii_in {k n : Nat} (h : k < n) (hn : n < 2147483648) : ¬ (ii k < 0 ∨ n ≤ (ii k).toNatClampNeg) ∧ (ii k).toNatClampNeg = k := by
  have e : (ii k).toNatClampNeg = k := by rw [ii_nat (by omega) (by omega)]; omega
  refine ⟨?_, e⟩
  rw [e, ii_zero, ii_lt (by omega) (by omega) (by omega) (by omega)]
  omega
def GL (X : Cxt) (b0 L : Nat) (sc : Nat → Int32) : Prop :=
  (xp X).tables.exec = Jvm.exec ∧ (xc X).code = code ∧ (xc X).maxLocals = 4 ∧ (xs X).vm.findClass "BlinkerCrossLaw" = some (xm X).cls ∧ (∀ w ∈ TB, w.before (xa X) (xs X) = true) ∧ va_K (xD X) CL (tyK (xk X)) (xs X) ∧ xR X = room_1 ∧ Sx (xZ X) (xA X) (xs X) (xs X).heap ∧
  va_X b0 L sc (xs X) (xs X).heap ∧ b0 < (xs X).heap.size ∧ xb X = (xs X).heap.size ∧ xz X = true
/-- the law at pc: i its counter, st its stack as it is, h the cells -/
def LW (X : Cxt) (b0 : Nat) (cs : Nat × Nat) (i : Int32) (pc : Nat) (st : List Value) (h : Hp) : Prop := ∀ (H : Heap) (locs : List Loc) (la : Array Slot), va_P (xD X) CL (cW (xk X) (xb X) h) H → va_D (xA X) (cW (xk X) (xb X) h) → va_S (xA X) (xs X).heap H locs → H.size = xb X + h.length →
  lv_has la 4 [(0, .ref b0), (1, .ref (xb X + 0)), (2, .ref (xb X + 111)), (3, .int i)] → XW X cs H locs (F0 (xm X) pc la st)
section LAW
variable {X : Cxt} {b0 L : Nat} {sc : Nat → Int32} {cs : Nat × Nat} {i : Int32} {pc : Nat} {st : List Value} {h : Hp}
theorem l_out (G : GL X b0 L sc) : ¬ xA X b0 := fun q => by
  have h1 := G.2.2.2.2.2.2.2.2.2.1
  have h2 := G.2.2.2.2.2.2.2.2.2.2.1
  have h3 : xb X ≤ b0 := q.1
  omega
theorem l_x (G : GL X b0 L sc) (hd : decode code pc = .ok (.aload_n 1, 1)) (k : LW X b0 cs i (pc + 1) (.ref (xb X + 0) :: st) h) : LW X b0 cs i pc st h := fun H locs la hP hD hS hz hla => lv_aload_n G.1 G.2.1 hd rfl (lv_at hla 1 rfl) (k H locs la hP hD hS hz hla)
theorem l_m (G : GL X b0 L sc) (hd : decode code pc = .ok (.aload_n 2, 1)) (k : LW X b0 cs i (pc + 1) (.ref (xb X + 111) :: st) h) : LW X b0 cs i pc st h := fun H locs la hP hD hS hz hla => lv_aload_n G.1 G.2.1 hd rfl (lv_at hla 2 rfl) (k H locs la hP hD hS hz hla)
theorem l_arg {I n : Nat} {z : Int} (G : GL X b0 L sc) (hI : i = ii I) (hL : I + 6 ≤ L) (hL2 : L ≤ 3072) (hz : z = (n : Int)) (hn : n < 6) (hd0 : decode code pc = .ok (.aload_n 0, 1)) (hd1 : decode code (pc + 1) = .ok (.iload_n 3, 1)) (hd2 : decode code (pc + 2) = .ok (.iconst z, 1)) (hd3 : decode code (pc + 3) = .ok (.iadd, 1)) (hd4 : decode code (pc + 4) = .ok (.iaload, 1))
    (k : LW X b0 cs i (pc + 5) (.int (sc (I + n)) :: st) h) : LW X b0 cs i pc st h := by
  intro H locs la hP hD hS hz9 hla
  subst hz
  have e : i + Int32.ofInt (n : Int) = ii ((I + n : Nat) : Int) := by rw [hI]; show ii _ + ii _ = _; rw [ii_add]; congr 1
  have e2 := ii_in (show I + n < L by omega) (by omega)
  refine lv_aload_n G.1 G.2.1 hd0 rfl (lv_at hla 0 rfl) ?_
  refine lv_iload_n G.1 G.2.1 hd1 rfl (lv_at hla 3 rfl) ?_
  refine lv_iconst G.1 G.2.1 hd2 rfl ?_
  refine lv_iadd G.1 G.2.1 hd3 ?_
  rw [e]
  refine va_sld (A := xA X) G.1 G.2.1 G.2.2.2.2.2.2.2.2.1 G.2.2.2.2.2.2.2.2.2.1 (l_out G) hS e2.1 hd4 ?_
  rw [e2.2]
  exact k H locs la hP hD hS hz9 hla
theorem l_call {n : Nat} {y : MethodName} {cc : ByteArray} {mL lev ci N idx : Nat} {rt : Option FieldType} {D : Dn} {T : u_T} {vs : List Int32} {r : Nat} {v : Option Value} {h1 : Hp} (G : GL X b0 L sc) (hm : MOK y cc mL rt lev 0 0 D) (hf : Mf y cc mL rt n) (hv : Cond.instanceMethod y ∈ TB ∧ Cond.selects y.cls y y ∈ TB) (hC : CL[ci]? = some (y.cls, T, N)) (hw : Cond.methodLink "BlinkerCrossLaw" idx y ∈ TB) (hd : decode code pc = .ok (.invokevirtual idx, 3))
    (hr : lev + 1 ≤ 2048 ∧ 8 + (mL + 11) + 64 * lev ≤ 84000) (hcs : cs.1 ≤ 600000 ∧ cs.2 ≤ 7302250) (hlen : vs.length = n) (hD : mV ci D (.ref r :: vs.map .int) h = some (v, h1)) (h8 : (st.map fun v => v.category).sum ≤ 8)
    (k : LW X b0 cs i (pc + 3) ((v.map (cv (xb X))).toList ++ st) h1) : LW X b0 cs i pc ((vs.map Value.int).reverse ++ .ref (xb X + r) :: st) h := by
  intro H locs la hP hDw hS hz hla
  unfold mV at hD
  split at hD
  · rename_i ho
    obtain ⟨r0, As, fs0, e0, hr0⟩ := isO_spec ho
    cases e0
    have hmet := hm (xl X) (xD X) (xk X) (xb X) (xN X) (xz X) (xZ X) _ h v h1 (Or.inl rfl) hD hDw
    have hR : (xR X) = room_1 := G.2.2.2.2.2.2.1
    have cb : CallB (xR X) (xs X) (xa X) "BlinkerCrossLaw" idx y cc mL rt (.code y cc mL rt :: TB) (rmL lev 0 0) 0 0 n := callB_of (Ts := TB) n G.2.2.2.2.1 (tb_in hf.1) rfl rfl rfl (G.2.2.2.2.1 _ hf.2.1) (G.2.2.2.2.1 _ hw) hf.2.2 (by rw [hR]; exact hr)
    have hrun := va_runV (C := y.cls) (Ts := TB) (As := (vs.map Value.int).map (cv (xb X))) (b := xb X + r) (rest := st) (cells := cs.1) (slots := cs.2) (locs := locs) (H := H) (g := F0 (xm X) pc la ((vs.map Value.int).reverse ++ .ref (xb X + r) :: st)) (below := xw X) (meth := xh X) (e := xe X) ⟨G.1, G.2.1, G.2.2.1, G.2.2.2.1, G.2.2.2.2.1⟩ hmet ⟨cb, G.2.2.2.2.1 _ hv.1, G.2.2.2.2.1 _ hv.2⟩ ⟨Wd.blind, va_recv (q := (y.cls, T, N)) G.2.2.2.2.2.1 hP hC (cW_at hr0), fun U hU hW => ⟨rfl, by rw [hU]; exact hP, va_K.moved hW.alike G.2.2.2.2.2.1, by rw [hU]; exact fun _ => hz, by rw [hU]; exact G.2.2.2.2.2.2.2.1.go hW hS.2.1⟩⟩ rfl (by simp [hlen]) hla.1 (by simp [cv]) (lv_room h8) hd (by rw [hR]; exact hcs)
    intro T9 hT Xs
    obtain ⟨v9, st₀, t, T', L9, h0, X', hL, e1, e2, ⟨hv9, hP1, hD1, hz1, hF1, hF2⟩, stp⟩ := hrun T9 hT Xs
    have hv9 : v9 = v.map (cv (xb X)) := Outcome.returned.inj hv9
    rw [h0] at hF1 hF2
    have hS' : va_S (xA X) (xs X).heap t.heap (locs ++ L9) := ⟨Nat.le_trans hS.1 hF1, fun q h1 h2 => by rw [hF2 q (Nat.lt_of_lt_of_le h1 hS.1) h2]; exact hS.2.1 q h1 h2, fun q hq => (List.mem_append.mp hq).elim (hS.2.2 q) (hL q)⟩
    obtain ⟨t2, a1, b1⟩ := k t.heap (locs ++ L9) la hP1 hD1 hS' (hz1 G.2.2.2.2.2.2.2.2.2.2.2) hla T' e1 X'
    refine ⟨t2, stp t2 ?_, b1⟩
    subst hv9
    exact a1
  · cases hD
theorem l_eq {off : Int} {tg : Nat} {v : Int32} (G : GL X b0 L sc) (hd : decode code pc = .ok (.if_icmp .eq off, 3)) (ho : (pc : Int) + off = (tg : Int)) (k : LW X b0 cs i tg st h) : LW X b0 cs i pc (.int v :: .int v :: st) h := fun H locs la hP hD hS hz hla => lv_icmp_eq G.1 G.2.1 hd ho (fun _ => k H locs la hP hD hS hz hla) (fun e => absurd rfl e)
/-- 'x != 0' as a boolean -/
theorem l_bool {off1 off2 : Int} {t1 t2 : Nat} {x : Int32} (G : GL X b0 L sc) (hd : decode code pc = .ok (.ifCond .eq off1, 3)) (ho : (pc : Int) + off1 = (t1 : Int)) (hd1 : decode code (pc + 3) = .ok (.iconst 1, 1)) (hd2 : decode code (pc + 3 + 1) = .ok (.goto off2, 3)) (ho2 : ((pc + 3 + 1 : Nat) : Int) + off2 = (t2 : Int)) (hd3 : decode code t1 = .ok (.iconst 0, 1)) (ht : t1 + 1 = t2) (k : LW X b0 cs i t2 (.int (if x = 0 then 0 else 1) :: st) h) : LW X b0 cs i pc (.int x :: st) h := by
  intro H locs la hP hD hS hz hla
  subst ht
  refine lv_if_eq G.1 G.2.1 hd ho (fun e => ?_) (fun e => ?_)
  · rw [if_pos e] at k
    exact lv_iconst G.1 G.2.1 hd3 (v := 0) (by decide) (k H locs la hP hD hS hz hla)
  · rw [if_neg e] at k
    exact lv_iconst G.1 G.2.1 hd1 (v := 1) (by decide) (lv_goto G.1 G.2.1 hd2 ho2 (k H locs la hP hD hS hz hla))
end LAW
/-- both sides answer alike and keep what is between them -/
def Agree (Inv Jnv : Hp → Prop) (DX DM : Dn) (n : Nat) (ok : List Int32 → Prop) : Prop := ∀ vs : List Int32, vs.length = n → ok vs → ∀ h, Inv h → ∃ (v : Int32) (h1 h2 : Hp), mV 0 DX (.ref 0 :: vs.map .int) h = some (some (.int v), h1) ∧ mV 12 DM (.ref 111 :: vs.map .int) h1 = some (some (.int v), h2) ∧ Jnv h2
