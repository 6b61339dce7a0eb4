/-! The class's constructor; memory as a list. -/
theorem newO_0 {B C : Hp} {fs dfs vals : List Value} {k0 cj j : Nat} {D : Dn} {es : List (Xp Value)} (hj : B.length + 1 = j) (hk : Nat.blt k0 fs.length = true) (he : evs es [.ref 0] ((.inr (0, fs)) :: (B ++ [.inr (cj, dfs)])) = some (vals, (.inr (0, fs)) :: (B ++ [.inr (cj, dfs)]))) (hD : D (.ref j :: vals) ((.inr (0, fs)) :: (B ++ [.inr (cj, dfs)])) = some (none, (.inr (0, fs)) :: (B ++ C))) : sNewO 0 k0 cj dfs D es [.ref 0] ((.inr (0, fs)) :: B) = some ((0, none), [.ref 0], (.inr (0, fs.set k0 (.ref j))) :: (B ++ C)) := by
  have e : 0 + 1 + B.length = j := by omega
  have := newO_e (A := []) (n0 := 0) (ci := 0) (fs := fs) (B := B) (ls := []) (C := C) (k0 := k0) (cj := cj) (dfs := dfs) (D := D) (es := es) (vals := vals) rfl hk he (by rw [e]; exact hD)
  rw [e] at this
  exact this
def cXX (f6 g6 : Nat → Int32) : Hp := .inr (0, [.ref 1, .ref 6, .ref 14, .ref 25, .ref 29, .ref 32, .ref 37, .ref 44, .ref 51, .ref 60, .ref 64]) :: (((((((((((([] : Hp) ++ cTape 1) ++ cText 6 f6) ++ cParser 14 1 g6) ++ cScene 25 6) ++ cLaws 29 6) ++ cDays 32 6 29) ++ cPlan 37 6 25 29) ++ cGivings 44 6 25 29) ++ cSharing 51 6 25) ++ cTold 60 6 25 29) ++ cHist 64)
theorem i_X : ∃ f6 g6, (∀ i, i < 30 → f6 i = ii 0) ∧ (∀ i, i < 30 → g6 i = ii 0) ∧ D_X_init [.ref 0] [.inr (0, df_0)] = some (none, cXX f6 g6) := by
  have e0 := i_Tape (A := .inr (0, [.null, .null, .null, .null, .null, .null, .null, .null, .null, .null, .null]) :: ([] : Hp)) (n0 := 1) rfl
  obtain ⟨f6, y1, e1⟩ := i_Text (A := .inr (0, [.ref 1, .null, .null, .null, .null, .null, .null, .null, .null, .null, .null]) :: (([] : Hp) ++ cTape 1)) (n0 := 6) rfl
  obtain ⟨g6, y2, e2⟩ := i_Parser (tp := 1) (A := .inr (0, [.ref 1, .ref 6, .null, .null, .null, .null, .null, .null, .null, .null, .null]) :: ((([] : Hp) ++ cTape 1) ++ cText 6 f6)) (n0 := 14) rfl
  have e3 := i_Scene (tx := 6) (A := .inr (0, [.ref 1, .ref 6, .ref 14, .null, .null, .null, .null, .null, .null, .null, .null]) :: (((([] : Hp) ++ cTape 1) ++ cText 6 f6) ++ cParser 14 1 g6)) (n0 := 25) rfl
  have e4 := i_Laws (tx := 6) (A := .inr (0, [.ref 1, .ref 6, .ref 14, .ref 25, .null, .null, .null, .null, .null, .null, .null]) :: ((((([] : Hp) ++ cTape 1) ++ cText 6 f6) ++ cParser 14 1 g6) ++ cScene 25 6)) (n0 := 29) rfl
  have e5 := i_Days (tx := 6) (lw := 29) (A := .inr (0, [.ref 1, .ref 6, .ref 14, .ref 25, .ref 29, .null, .null, .null, .null, .null, .null]) :: (((((([] : Hp) ++ cTape 1) ++ cText 6 f6) ++ cParser 14 1 g6) ++ cScene 25 6) ++ cLaws 29 6)) (n0 := 32) rfl
  have e6 := i_Plan (tx := 6) (sc := 25) (lw := 29) (A := .inr (0, [.ref 1, .ref 6, .ref 14, .ref 25, .ref 29, .ref 32, .null, .null, .null, .null, .null]) :: ((((((([] : Hp) ++ cTape 1) ++ cText 6 f6) ++ cParser 14 1 g6) ++ cScene 25 6) ++ cLaws 29 6) ++ cDays 32 6 29)) (n0 := 37) rfl
  have e7 := i_Givings (tx := 6) (sc := 25) (lw := 29) (A := .inr (0, [.ref 1, .ref 6, .ref 14, .ref 25, .ref 29, .ref 32, .ref 37, .null, .null, .null, .null]) :: (((((((([] : Hp) ++ cTape 1) ++ cText 6 f6) ++ cParser 14 1 g6) ++ cScene 25 6) ++ cLaws 29 6) ++ cDays 32 6 29) ++ cPlan 37 6 25 29)) (n0 := 44) rfl
  have e8 := i_Sharing (tx := 6) (sc := 25) (A := .inr (0, [.ref 1, .ref 6, .ref 14, .ref 25, .ref 29, .ref 32, .ref 37, .ref 44, .null, .null, .null]) :: ((((((((([] : Hp) ++ cTape 1) ++ cText 6 f6) ++ cParser 14 1 g6) ++ cScene 25 6) ++ cLaws 29 6) ++ cDays 32 6 29) ++ cPlan 37 6 25 29) ++ cGivings 44 6 25 29)) (n0 := 51) rfl
  have e9 := i_Told (tx := 6) (sc := 25) (lw := 29) (A := .inr (0, [.ref 1, .ref 6, .ref 14, .ref 25, .ref 29, .ref 32, .ref 37, .ref 44, .ref 51, .null, .null]) :: (((((((((([] : Hp) ++ cTape 1) ++ cText 6 f6) ++ cParser 14 1 g6) ++ cScene 25 6) ++ cLaws 29 6) ++ cDays 32 6 29) ++ cPlan 37 6 25 29) ++ cGivings 44 6 25 29) ++ cSharing 51 6 25)) (n0 := 60) rfl
  have e10 := i_Hist (A := .inr (0, [.ref 1, .ref 6, .ref 14, .ref 25, .ref 29, .ref 32, .ref 37, .ref 44, .ref 51, .ref 60, .null]) :: ((((((((((([] : Hp) ++ cTape 1) ++ cText 6 f6) ++ cParser 14 1 g6) ++ cScene 25 6) ++ cLaws 29 6) ++ cDays 32 6 29) ++ cPlan 37 6 25 29) ++ cGivings 44 6 25 29) ++ cSharing 51 6 25) ++ cTold 60 6 25 29)) (n0 := 64) rfl
  have s0 := newO_0 (B := ([] : Hp)) (fs := [.null, .null, .null, .null, .null, .null, .null, .null, .null, .null, .null]) (k0 := 0) (vals := []) (C := cTape 1) (j := 1) (cj := 1) (dfs := df_1) (es := []) rfl rfl rfl e0
  have s1 := newO_0 (B := (([] : Hp) ++ cTape 1)) (fs := [.ref 1, .null, .null, .null, .null, .null, .null, .null, .null, .null, .null]) (k0 := 1) (vals := []) (C := cText 6 f6) (j := 6) (cj := 2) (dfs := df_2) (es := []) rfl rfl rfl e1
  have s2 := newO_0 (B := ((([] : Hp) ++ cTape 1) ++ cText 6 f6)) (fs := [.ref 1, .ref 6, .null, .null, .null, .null, .null, .null, .null, .null, .null]) (k0 := 2) (vals := [.ref 1]) (C := cParser 14 1 g6) (j := 14) (cj := 3) (dfs := df_3) (es := [asV Value.ref (gR 0 0 (vR 0))]) rfl rfl rfl e2
  have s3 := newO_0 (B := (((([] : Hp) ++ cTape 1) ++ cText 6 f6) ++ cParser 14 1 g6)) (fs := [.ref 1, .ref 6, .ref 14, .null, .null, .null, .null, .null, .null, .null, .null]) (k0 := 3) (vals := [.ref 6]) (C := cScene 25 6) (j := 25) (cj := 4) (dfs := df_4) (es := [asV Value.ref (gR 0 1 (vR 0))]) rfl rfl rfl e3
  have s4 := newO_0 (B := ((((([] : Hp) ++ cTape 1) ++ cText 6 f6) ++ cParser 14 1 g6) ++ cScene 25 6)) (fs := [.ref 1, .ref 6, .ref 14, .ref 25, .null, .null, .null, .null, .null, .null, .null]) (k0 := 4) (vals := [.ref 6]) (C := cLaws 29 6) (j := 29) (cj := 5) (dfs := df_5) (es := [asV Value.ref (gR 0 1 (vR 0))]) rfl rfl rfl e4
  have s5 := newO_0 (B := (((((([] : Hp) ++ cTape 1) ++ cText 6 f6) ++ cParser 14 1 g6) ++ cScene 25 6) ++ cLaws 29 6)) (fs := [.ref 1, .ref 6, .ref 14, .ref 25, .ref 29, .null, .null, .null, .null, .null, .null]) (k0 := 5) (vals := [.ref 6, .ref 29]) (C := cDays 32 6 29) (j := 32) (cj := 6) (dfs := df_6) (es := [asV Value.ref (gR 0 1 (vR 0)), asV Value.ref (gR 0 4 (vR 0))]) rfl rfl rfl e5
  have s6 := newO_0 (B := ((((((([] : Hp) ++ cTape 1) ++ cText 6 f6) ++ cParser 14 1 g6) ++ cScene 25 6) ++ cLaws 29 6) ++ cDays 32 6 29)) (fs := [.ref 1, .ref 6, .ref 14, .ref 25, .ref 29, .ref 32, .null, .null, .null, .null, .null]) (k0 := 6) (vals := [.ref 6, .ref 25, .ref 29]) (C := cPlan 37 6 25 29) (j := 37) (cj := 7) (dfs := df_7) (es := [asV Value.ref (gR 0 1 (vR 0)), asV Value.ref (gR 0 3 (vR 0)), asV Value.ref (gR 0 4 (vR 0))]) rfl rfl rfl e6
  have s7 := newO_0 (B := (((((((([] : Hp) ++ cTape 1) ++ cText 6 f6) ++ cParser 14 1 g6) ++ cScene 25 6) ++ cLaws 29 6) ++ cDays 32 6 29) ++ cPlan 37 6 25 29)) (fs := [.ref 1, .ref 6, .ref 14, .ref 25, .ref 29, .ref 32, .ref 37, .null, .null, .null, .null]) (k0 := 7) (vals := [.ref 6, .ref 25, .ref 29]) (C := cGivings 44 6 25 29) (j := 44) (cj := 8) (dfs := df_8) (es := [asV Value.ref (gR 0 1 (vR 0)), asV Value.ref (gR 0 3 (vR 0)), asV Value.ref (gR 0 4 (vR 0))]) rfl rfl rfl e7
  have s8 := newO_0 (B := ((((((((([] : Hp) ++ cTape 1) ++ cText 6 f6) ++ cParser 14 1 g6) ++ cScene 25 6) ++ cLaws 29 6) ++ cDays 32 6 29) ++ cPlan 37 6 25 29) ++ cGivings 44 6 25 29)) (fs := [.ref 1, .ref 6, .ref 14, .ref 25, .ref 29, .ref 32, .ref 37, .ref 44, .null, .null, .null]) (k0 := 8) (vals := [.ref 6, .ref 25]) (C := cSharing 51 6 25) (j := 51) (cj := 9) (dfs := df_9) (es := [asV Value.ref (gR 0 1 (vR 0)), asV Value.ref (gR 0 3 (vR 0))]) rfl rfl rfl e8
  have s9 := newO_0 (B := (((((((((([] : Hp) ++ cTape 1) ++ cText 6 f6) ++ cParser 14 1 g6) ++ cScene 25 6) ++ cLaws 29 6) ++ cDays 32 6 29) ++ cPlan 37 6 25 29) ++ cGivings 44 6 25 29) ++ cSharing 51 6 25)) (fs := [.ref 1, .ref 6, .ref 14, .ref 25, .ref 29, .ref 32, .ref 37, .ref 44, .ref 51, .null, .null]) (k0 := 9) (vals := [.ref 6, .ref 25, .ref 29]) (C := cTold 60 6 25 29) (j := 60) (cj := 10) (dfs := df_10) (es := [asV Value.ref (gR 0 1 (vR 0)), asV Value.ref (gR 0 3 (vR 0)), asV Value.ref (gR 0 4 (vR 0))]) rfl rfl rfl e9
  have s10 := newO_0 (B := ((((((((((([] : Hp) ++ cTape 1) ++ cText 6 f6) ++ cParser 14 1 g6) ++ cScene 25 6) ++ cLaws 29 6) ++ cDays 32 6 29) ++ cPlan 37 6 25 29) ++ cGivings 44 6 25 29) ++ cSharing 51 6 25) ++ cTold 60 6 25 29)) (fs := [.ref 1, .ref 6, .ref 14, .ref 25, .ref 29, .ref 32, .ref 37, .ref 44, .ref 51, .ref 60, .null]) (k0 := 10) (vals := []) (C := cHist 64) (j := 64) (cj := 11) (dfs := df_11) (es := []) rfl rfl rfl e10
  exact ⟨f6, g6, y1, y2, ctor_of (l := [.ref 0]) rfl (sqe sup1 (sqe s0 (sqe s1 (sqe s2 (sqe s3 (sqe s4 (sqe s5 (sqe s6 (sqe s7 (sqe s8 (sqe s9 (s10))))))))))))⟩
def fld (m : Mem) (r : Nat) : Nat → List (Option Nat) → List Value
  | _, [] => []
  | k, some a :: t => .ref a :: fld m r (k + 1) t
  | k, none :: t => .int (m.1 r k) :: fld m r (k + 1) t
def cel (m : Mem) (r : Nat) (s : Sh) : HC := match s.1 with
  | 0 => .inr (s.2.1, fld m r 0 s.2.2)
  | 1 => .inl (0, s.2.1, .inl (m.1 r))
  | 2 => .inl (1, s.2.1, .inl (m.1 r))
  | 3 => .inl (2, s.2.1, .inr (.inl (m.2 r)))
  | 4 => .inl (3, s.2.1, .inl (m.1 r))
  | _ => .inl (4, s.2.1, .inr (.inr (.inr (.inr (fun i => some (r + 1 + i))))))
def hpx (m : Mem) : Nat → List Sh → Hp
  | _, [] => []
  | k, s :: t => cel m k s :: hpx m (k + 1) t
theorem fld_eq (m : Mem) (r : Nat) : ∀ (l : List (Option Nat)) (k : Nat), l.mapIdx (fun i f => match f with
    | some a => Value.ref a
    | none => Value.int (m.1 r (k + i))) = fld m r k l
  | [], _ => rfl
  | f :: l, k => by
    rw [List.mapIdx_cons]
    have ih := fld_eq m r l (k + 1)
    have e : (fun (i : Nat) (f : Option Nat) => match f with
      | some a => Value.ref a
      | none => Value.int (m.1 r (k + (i + 1)))) = (fun (i : Nat) (f : Option Nat) => match f with
      | some a => Value.ref a
      | none => Value.int (m.1 r (k + 1 + i))) := by
      funext i f
      rw [show k + (i + 1) = k + 1 + i by omega]
    rw [e, ih]
    cases f <;> rfl
theorem cel_eq (m : Mem) (r : Nat) (s : Sh) : cell m r s = cel m r s := by
  obtain ⟨a, b, c⟩ := s
  unfold cell cel
  match a with
  | 0 =>
    have := fld_eq m r c 0
    simp only [Nat.zero_add] at this
    exact congrArg (fun z => (Sum.inr (b, z) : HC)) this
  | 1 => rfl
  | 2 => rfl
  | 3 => rfl
  | 4 => rfl
  | n + 5 => rfl
theorem hpx_eq (m : Mem) : ∀ (l : List Sh) (k : Nat), l.mapIdx (fun i s => cell m (k + i) s) = hpx m k l
  | [], _ => rfl
  | s :: l, k => by
    rw [List.mapIdx_cons]
    have ih := hpx_eq m l (k + 1)
    have e : (fun (i : Nat) (s : Sh) => cell m (k + (i + 1)) s) = (fun (i : Nat) (s : Sh) => cell m (k + 1 + i) s) := by
      funext i s
      rw [show k + (i + 1) = k + 1 + i by omega]
    rw [e, ih, cel_eq]
    rfl
theorem hp_hpx (m : Mem) : hp m = hpx m 0 shape := by
  rw [hp_def, ← hpx_eq]
  simp only [Nat.zero_add]
