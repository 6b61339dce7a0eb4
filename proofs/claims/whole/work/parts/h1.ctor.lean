/-! The constructors: their cells. -/
section CTR
variable {A B C : Hp} {n0 ci k0 t n mm cj : Nat} {fs gs dfs : List Value} {ls as : Ev} {F a b : Sm} {h h1 : Hp} {l l1 : Ev} {a0 : vp_A} {x : Option (Rs × Ev × Hp)}
theorem ctor_of {cts : List Nat} (hc : (as.map fun v => v.category) = cts) (hF : F as h = some ((0, none), l, h1)) : runS cts (sSeq F sRetV) as h = some (none, h1) := by
  have e : sSeq F sRetV as h = some ((3, none), l, h1) := by
    unfold sSeq
    rw [hF]
    rfl
  unfold runS
  rw [if_pos hc, e]
  rfl
theorem sqe (h0 : a ls h = some ((0, none), l1, h1)) (h2 : b l1 h1 = x) : sSeq a b ls h = x := by
  unfold sSeq
  rw [h0]
  exact h2
theorem sup1 {v : Nat} : sSeq (sDecl (asV Value.ref (vR 0))) (sBlk 1 sSkip) [.ref v] h = some ((0, none), [.ref v], h) := rfl
theorem sup2 {v w : Nat} : sSeq (sDecl (asV Value.ref (vR 0))) (sBlk 2 sSkip) [.ref v, .ref w] h = some ((0, none), [.ref v, .ref w], h) := rfl
theorem sup3 {v w y : Nat} : sSeq (sDecl (asV Value.ref (vR 0))) (sBlk 3 sSkip) [.ref v, .ref w, .ref y] h = some ((0, none), [.ref v, .ref w, .ref y], h) := rfl
theorem sup4 {v w y z : Nat} : sSeq (sDecl (asV Value.ref (vR 0))) (sBlk 4 sSkip) [.ref v, .ref w, .ref y, .ref z] h = some ((0, none), [.ref v, .ref w, .ref y, .ref z], h) := rfl
theorem lenB (hA : A.length = n0) {c : HC} : (A ++ c :: B).length = n0 + 1 + B.length := by
  rw [List.length_append, List.length_cons, hA]
  omega
theorem newA_e (hA : A.length = n0) (hk : Nat.blt k0 fs.length = true) : sNewA ci k0 t a0 (.ref n0 :: ls) (A ++ (.inr (ci, fs)) :: B) = some ((0, none), .ref n0 :: ls, A ++ (.inr (ci, fs.set k0 (.ref (n0 + 1 + B.length)))) :: (B ++ [.inl (t, a0)])) := by
  show (hPut ((A ++ (.inr (ci, fs)) :: B) ++ [.inl (t, a0)]) n0 ci k0 (.ref (A ++ (.inr (ci, fs)) :: B).length)).bind _ = _
  rw [List.append_assoc, hPut_app (fs := fs) hA rfl hk, lenB hA]
  rfl
theorem newM_e (hA : A.length = n0) (hk : Nat.blt k0 fs.length = true) : sNewM ci k0 n mm (.ref n0 :: ls) (A ++ (.inr (ci, fs)) :: B) = some ((0, none), .ref n0 :: ls, A ++ (.inr (ci, fs.set k0 (.ref (n0 + 1 + B.length)))) :: (B ++ grO (n0 + 1 + B.length) n :: List.replicate n (grR mm))) := by
  show (hPut ((A ++ (.inr (ci, fs)) :: B) ++ grO (A ++ (.inr (ci, fs)) :: B).length n :: List.replicate n (grR mm)) n0 ci k0 (.ref (A ++ (.inr (ci, fs)) :: B).length)).bind _ = _
  rw [List.append_assoc, hPut_app (fs := fs) hA rfl hk, lenB hA]
  rfl
theorem put_e {e : Xp Value} {v : Value} (hA : A.length = n0) (hk : Nat.blt k0 fs.length = true) (he : e (.ref n0 :: ls) (A ++ (.inr (ci, fs)) :: B) = some (v, A ++ (.inr (ci, fs)) :: B)) : sPut ci k0 (vR 0) e (.ref n0 :: ls) (A ++ (.inr (ci, fs)) :: B) = some ((0, none), .ref n0 :: ls, A ++ (.inr (ci, fs.set k0 v)) :: B) := by
  show (e (.ref n0 :: ls) (A ++ (.inr (ci, fs)) :: B)).bind _ = _
  rw [he]
  show (hPut (A ++ (.inr (ci, fs)) :: B) n0 ci k0 v).bind _ = _
  rw [hPut_app (fs := fs) hA rfl hk]
  rfl
theorem newO_e {D : Dn} {es : List (Xp Value)} {vals : List Value} (hA : A.length = n0) (hk : Nat.blt k0 fs.length = true) (he : evs es (.ref n0 :: ls) ((A ++ (.inr (ci, fs)) :: B) ++ [.inr (cj, dfs)]) = some (vals, (A ++ (.inr (ci, fs)) :: B) ++ [.inr (cj, dfs)])) (hD : D (.ref (n0 + 1 + B.length) :: vals) ((A ++ (.inr (ci, fs)) :: B) ++ [.inr (cj, dfs)]) = some (none, (A ++ (.inr (ci, fs)) :: B) ++ C)) : sNewO ci k0 cj dfs D es (.ref n0 :: ls) (A ++ (.inr (ci, fs)) :: B) = some ((0, none), .ref n0 :: ls, A ++ (.inr (ci, fs.set k0 (.ref (n0 + 1 + B.length)))) :: (B ++ C)) := by
  show (evs es (.ref n0 :: ls) ((A ++ (.inr (ci, fs)) :: B) ++ [.inr (cj, dfs)])).bind (fun q => (D (.ref (A ++ (.inr (ci, fs)) :: B).length :: q.1) q.2).bind _) = _
  rw [he]
  show (D (.ref (A ++ (.inr (ci, fs)) :: B).length :: vals) ((A ++ (.inr (ci, fs)) :: B) ++ [.inr (cj, dfs)])).bind _ = _
  rw [lenB hA, hD]
  show (hPut ((A ++ (.inr (ci, fs)) :: B) ++ C) n0 ci k0 (.ref (n0 + 1 + B.length))).bind _ = _
  rw [List.append_assoc, hPut_app (fs := fs) hA rfl hk]
  rfl
abbrev zI (n : Nat) : HC := .inl (0, n, .inl (fun _ => 0))
abbrev zL (n : Nat) : HC := .inl (2, n, .inr (.inl (fun _ => 0)))
abbrev zZ (n : Nat) : HC := .inl (3, n, .inl (fun _ => 0))
abbrev zB (n : Nat) : HC := .inl (1, n, .inl (fun _ => 0))
abbrev zf : Nat → Int32 := fun _ => 0
def cTape (n : Nat) : Hp := [.inr (1, [.ref (n + 1), .int 0, .ref (n + 2), .ref (n + 3), .ref (n + 4)]), zB 2000, zI 401, zI 401, zL 401]
theorem i_Tape (hA : A.length = n0) : D_Tape_init [.ref n0] (A ++ [.inr (1, df_1)]) = some (none, A ++ cTape n0) := ctor_of (l := [.ref n0]) rfl (sqe sup1 (sqe (newA_e hA rfl) (sqe (newA_e hA rfl) (sqe (newA_e hA rfl) (newA_e hA rfl)))))
def cText (n : Nat) (f6 : Nat → Int32) : Hp := [.inr (2, [.int (ii 0), .int (ii 0), .int (ii 0), .ref (n + 1), .ref (n + 2), .ref (n + 3), .ref (n + 4), .ref (n + 5), .ref (n + 6), .ref (n + 7), .int (ii 8)]), zI 6, zI 5, zI 5, .inl (0, 30, .inl f6), .inl (0, 4, .inl (cl7 zf)), .inl (0, 408, .inl (cl8 zf)), .inl (0, 408, .inl (cl9 zf))]
theorem i_Text (hA : A.length = n0) : ∃ f6, (∀ i, i < 30 → f6 i = ii 0) ∧ D_Text_init [.ref n0] (A ++ [.inr (2, df_2)]) = some (none, A ++ cText n0 f6) := by
  obtain ⟨f6, y, q⟩ := w_clT (A := A) (n0 := n0) (x0 := 0) (x1 := 0) (x2 := 0) (s := 0) (f6 := zf) (f7 := zf) (f8 := zf) (f9 := zf) hA
  have e := wD_get q
  have e2 : sCall (mV 2 D_Text_clear) [asV Value.ref (vR 0)] [.ref n0] (hT A n0 0 0 0 0 zf zf zf zf) = some ((0, none), [.ref n0], A ++ cText n0 f6) := by
    show (mV 2 D_Text_clear [.ref n0] (hT A n0 0 0 0 0 zf zf zf zf)).bind _ = _
    unfold mV
    rw [if_pos (t_O hA), e]
    rfl
  exact ⟨f6, y, ctor_of (l := [.ref n0]) rfl (sqe sup1 (sqe (newA_e hA rfl) (sqe (newA_e hA rfl) (sqe (newA_e hA rfl) (sqe (newA_e hA rfl) (sqe (newA_e hA rfl) (sqe (newA_e hA rfl) (sqe (newA_e hA rfl) e2))))))))⟩
def cParser (n tp : Nat) (f6 : Nat → Int32) : Hp := .inr (3, [.ref (n + 1), .int (ii (-1)), .ref tp, .ref (n + 9), .ref (n + 10), .int 0, .int 0, .int 0, .int 0, .int 0, .int 0, .int 0]) :: (cText (n + 1) f6 ++ [zL 6, zL 5])
theorem i_Parser {tp : Nat} (hA : A.length = n0) : ∃ f6, (∀ i, i < 30 → f6 i = ii 0) ∧ D_Parser_init [.ref n0, .ref tp] (A ++ [.inr (3, df_3)]) = some (none, A ++ cParser n0 tp f6) := by
  obtain ⟨f6, y, e⟩ := i_Text (A := A ++ [.inr (3, df_3)]) (n0 := n0 + 1) (by rw [List.length_append, hA]; rfl)
  exact ⟨f6, y, ctor_of (l := [.ref n0, .ref tp]) rfl (sqe sup2 (sqe (newO_e (B := []) hA rfl rfl e) (sqe (put_e hA rfl rfl) (sqe (newA_e hA rfl) (sqe (newA_e hA rfl) (put_e hA rfl rfl))))))⟩
def cScene (n tx : Nat) : Hp := [.inr (4, [.ref (n + 1), .ref (n + 2), .ref (n + 3), .int 0, .ref tx]), zI 56, zI 5, zI 6]
theorem i_Scene {tx : Nat} (hA : A.length = n0) : D_Scene_init [.ref n0, .ref tx] (A ++ [.inr (4, df_4)]) = some (none, A ++ cScene n0 tx) := ctor_of (l := [.ref n0, .ref tx]) rfl (sqe sup2 (sqe (newA_e hA rfl) (sqe (newA_e hA rfl) (sqe (newA_e hA rfl) (put_e hA rfl rfl)))))
def cLaws (n tx : Nat) : Hp := [.inr (5, [.ref tx, .ref (n + 1), .ref (n + 2)]), zI 9, zI 32]
theorem i_Laws {tx : Nat} (hA : A.length = n0) : D_Laws_init [.ref n0, .ref tx] (A ++ [.inr (5, df_5)]) = some (none, A ++ cLaws n0 tx) := ctor_of (l := [.ref n0, .ref tx]) rfl (sqe sup2 (sqe (newA_e hA rfl) (sqe (newA_e hA rfl) (put_e hA rfl rfl))))
def cDays (n tx lw : Nat) : Hp := .inr (6, [.ref tx, .ref lw, .ref (n + 1)]) :: cScene (n + 1) tx
theorem i_Days {tx lw : Nat} (hA : A.length = n0) : D_Days_init [.ref n0, .ref tx, .ref lw] (A ++ [.inr (6, df_6)]) = some (none, A ++ cDays n0 tx lw) := by
  have e := i_Scene (tx := tx) (A := A ++ [.inr (6, [.ref tx, .ref lw, .null])]) (n0 := n0 + 1) (by rw [List.length_append, hA]; rfl)
  exact ctor_of (l := [.ref n0, .ref tx, .ref lw]) rfl (sqe sup3 (sqe (put_e hA rfl rfl) (sqe (put_e hA rfl rfl) (newO_e (B := []) hA rfl rfl e))))
def cPlan (n tx sc lw : Nat) : Hp := [.inr (7, [.int 0, .int 0, .int 0, .ref (n + 1), .ref tx, .ref sc, .ref lw, .ref (n + 2), .ref (n + 3), .ref (n + 4), .ref (n + 5), .ref (n + 6), .int (ii (-1)), .int (ii (-1))]), zI 5, zI 30, zI 30, zI 150, zI 5, zI 6]
theorem i_Plan {tx sc lw : Nat} (hA : A.length = n0) : D_Plan_init [.ref n0, .ref tx, .ref sc, .ref lw] (A ++ [.inr (7, df_7)]) = some (none, A ++ cPlan n0 tx sc lw) := ctor_of (l := [.ref n0, .ref tx, .ref sc, .ref lw]) rfl (sqe sup4 (sqe (newA_e hA rfl) (sqe (newA_e hA rfl) (sqe (newA_e hA rfl) (sqe (newA_e hA rfl) (sqe (newA_e hA rfl) (sqe (newA_e hA rfl) (sqe (put_e hA rfl rfl) (sqe (put_e hA rfl rfl) (sqe (put_e hA rfl rfl) (sqe (put_e hA rfl rfl) (put_e hA rfl rfl))))))))))))
def cGivings (n tx sc lw : Nat) : Hp := [.inr (8, [.int 0, .int 0, .int 0, .ref (n + 1), .ref (n + 2), .ref tx, .ref sc, .ref lw, .ref (n + 3), .ref (n + 4), .ref (n + 5), .ref (n + 6), .int 0, .int (ii (-1)), .int (ii (-1))]), zI 5, zI 5, zI 5, zI 150, zI 5, zI 6]
theorem i_Givings {tx sc lw : Nat} (hA : A.length = n0) : D_Givings_init [.ref n0, .ref tx, .ref sc, .ref lw] (A ++ [.inr (8, df_8)]) = some (none, A ++ cGivings n0 tx sc lw) := ctor_of (l := [.ref n0, .ref tx, .ref sc, .ref lw]) rfl (sqe sup4 (sqe (newA_e hA rfl) (sqe (newA_e hA rfl) (sqe (newA_e hA rfl) (sqe (newA_e hA rfl) (sqe (newA_e hA rfl) (sqe (newA_e hA rfl) (sqe (put_e hA rfl rfl) (sqe (put_e hA rfl rfl) (sqe (put_e hA rfl rfl) (sqe (put_e hA rfl rfl) (put_e hA rfl rfl))))))))))))
def cSharing (n tx sc : Nat) : Hp := [.inr (9, [.ref (n + 1), .ref tx, .ref sc, .ref (n + 2)]), zI 5, grO (n + 2) 6, zI 64, zI 64, zI 64, zI 64, zI 64, zI 64]
theorem i_Sharing {tx sc : Nat} (hA : A.length = n0) : D_Sharing_init [.ref n0, .ref tx, .ref sc] (A ++ [.inr (9, df_9)]) = some (none, A ++ cSharing n0 tx sc) := ctor_of (l := [.ref n0, .ref tx, .ref sc]) rfl (sqe sup3 (sqe (newA_e hA rfl) (sqe (newM_e hA rfl) (sqe (put_e hA rfl rfl) (put_e hA rfl rfl)))))
def cTold (n tx sc lw : Nat) : Hp := [.inr (10, [.int 0, .ref tx, .ref sc, .ref lw, .ref (n + 1), .ref (n + 2), .ref (n + 3)]), zI 20, zI 20, zZ 20]
theorem i_Told {tx sc lw : Nat} (hA : A.length = n0) : D_Told_init [.ref n0, .ref tx, .ref sc, .ref lw] (A ++ [.inr (10, df_10)]) = some (none, A ++ cTold n0 tx sc lw) := ctor_of (l := [.ref n0, .ref tx, .ref sc, .ref lw]) rfl (sqe sup4 (sqe (newA_e hA rfl) (sqe (newA_e hA rfl) (sqe (newA_e hA rfl) (sqe (put_e hA rfl rfl) (sqe (put_e hA rfl rfl) (put_e hA rfl rfl)))))))
def cHist (n : Nat) : Hp := .inr (11, [.int 0, .ref (n + 1), .int 0, .ref (n + 42), .ref (n + 46)]) :: ((([] ++ grO (n + 1) 40 :: List.replicate 40 (grR 56)) ++ grO (n + 42) 3 :: List.replicate 3 (grR 56)) ++ [zZ 3])
theorem i_Hist (hA : A.length = n0) : D_History_init [.ref n0] (A ++ [.inr (11, df_11)]) = some (none, A ++ cHist n0) := ctor_of (l := [.ref n0]) rfl (sqe sup1 (sqe (newM_e hA rfl) (sqe (newM_e hA rfl) (newA_e hA rfl))))
end CTR
