/-! Calls that keep what they reckoned. -/
section KOP
variable {N K L n o ver len cn : Nat} {wd : Nat → Int32} {bf : Nat → List Br} {q : Row} {seed : Int32} {u v : Nat → Row} {hl : Nat → Bool} {tm tb : Nat → Nat} {ts : Nat → Bool} {m m1 μ ν : Mem} {p fl : Nat → Prop} {DX DM : Dn} {as : Ev} {w : Int32}
theorem StX.gv (h : StX N K wd bf q seed n u hl v o tm tb ts m) (a : Ag GvA m μ) (c : GvC N K wd bf q μ) : StX N K wd bf q seed n u hl v o tm tb ts μ := by
  obtain ⟨h1, h2, h3, h4, h5, h6, h7, h8⟩ := h
  have hq : ∀ r, GvA r → r = 30 ∨ r = 31 ∨ 44 ≤ r ∧ r ≤ 50 := fun r hr => hr
  exact ⟨h1.ag a (fun r hr => by have := hq r hr; omega), by rw [(a 6 (fun x => by have := hq 6 x; omega)).1]; exact h2, h3.ag a (fun r hr => by have := hq r hr; omega), h4.ag a (fun r hr => by have := hq r hr; omega), h5.ag a (fun r hr => by have := hq r hr; omega), h6.ag a (fun r hr => by have := hq r hr; omega), c, h8.ag a (fun r hr => by have := hq r hr; omega)⟩
theorem VrX.gv (h : VrX ver m) (a : Ag GvA m μ) (k : CaK m μ) : VrX ver μ := by
  obtain ⟨h1, x, y, z, h2, h3, h4, b1, b2, b3⟩ := h
  have e25 : μ.1 25 = m.1 25 := (a 25 (by unfold GvA; omega)).1
  have e37 : μ.1 37 = m.1 37 := (a 37 (by unfold GvA; omega)).1
  obtain ⟨k1, k2⟩ := k
  rw [h1] at k1 k2
  refine ⟨by rw [e25]; exact h1, ?_⟩
  rw [e37]
  have e1 : ∃ x : Int, μ.1 44 13 = ii x ∧ -1 ≤ x ∧ x ≤ ver := by
    rcases k1 with k1 | k1
    · exact ⟨x, k1.trans h2, b1⟩
    · exact ⟨ver, k1, by omega, by omega⟩
  have e2 : ∃ x : Int, μ.1 44 14 = ii x ∧ -1 ≤ x ∧ x ≤ ver := by
    rcases k2 with k2 | k2
    · exact ⟨y, k2.trans h3, b2⟩
    · exact ⟨ver, k2, by omega, by omega⟩
  obtain ⟨x', f1, f2⟩ := e1
  obtain ⟨y', f3, f4⟩ := e2
  exact ⟨x', y', z, f1, f3, h4, f2, f4, b3⟩
theorem StX.pl (h : StX N K wd bf q seed n u hl v o tm tb ts m) (a : Ag PlR m μ) (c : PlC N K wd bf q μ) : StX N K wd bf q seed n u hl v o tm tb ts μ := by
  obtain ⟨h1, h2, h3, h4, h5, h6, h7, h8⟩ := h
  have hq : ∀ r, PlR r → r = 30 ∨ r = 31 ∨ 37 ≤ r ∧ r ≤ 43 := fun r hr => hr
  exact ⟨h1.ag a (fun r hr => by have := hq r hr; omega), by rw [(a 6 (fun x => by have := hq 6 x; omega)).1]; exact h2, h3.ag a (fun r hr => by have := hq r hr; omega), h4.ag a (fun r hr => by have := hq r hr; omega), h5.ag a (fun r hr => by have := hq r hr; omega), h6.ag a (fun r hr => by have := hq r hr; omega), h7.ag a (fun r hr => by have := hq r hr; omega), c⟩
theorem VrX.pl (h : VrX ver m) (a : Ag PlR m μ) (k : μ.1 37 13 = m.1 37 13 ∨ μ.1 37 13 = m.1 25 3) : VrX ver μ := by
  obtain ⟨h1, x, y, z, h2, h3, h4, b1, b2, b3⟩ := h
  have e25 : μ.1 25 = m.1 25 := (a 25 (by unfold PlR; omega)).1
  have e44 : μ.1 44 = m.1 44 := (a 44 (by unfold PlR; omega)).1
  rw [h1] at k
  refine ⟨by rw [e25]; exact h1, ?_⟩
  rw [e44]
  rcases k with k | k
  · exact ⟨x, y, z, h2, h3, k.trans h4, b1, b2, b3⟩
  · exact ⟨x, y, ver, h2, h3, k, b1, b2, by omega, by omega⟩
theorem g_rests : Agree (Inv (cn + 1)) (Inv cn) D_X_rests D_M_rests 0 (fun _ => True) := by
  intro vs hvs _ h hh
  obtain ⟨m, rfl, hI⟩ := hh
  have hvs := len0 hvs
  subst hvs
  obtain ⟨N, K, wd, bf, q, seed, n, u, hl, v, o, tm, tb, ts, L, ver, len, hX, hV, hM, hT, h14, hb⟩ := hI
  have hC : CR N K q (m.1 26) := hX.2.2.1.1
  show Ag2 cn D_X_rests D_M_rests [] m
  obtain ⟨μ, a, c, k, e⟩ := w_X_rests hX.1 hC hX.2.2.2.2.2.2.1
  exact fin_g (hX.gv a c) (hV.gv a k) hM hT h14 hb a (fun r hr => by unfold GvA at hr; omega) e (fun hM _ _ => w_M_rests hM.1.toM hM.2.2.1)
theorem g_settles : Agree (Inv (cn + 1)) (Inv cn) D_X_settles D_M_settles 0 (fun _ => True) := by
  intro vs hvs _ h hh
  obtain ⟨m, rfl, hI⟩ := hh
  have hvs := len0 hvs
  subst hvs
  obtain ⟨N, K, wd, bf, q, seed, n, u, hl, v, o, tm, tb, ts, L, ver, len, hX, hV, hM, hT, h14, hb⟩ := hI
  have hC : CR N K q (m.1 26) := hX.2.2.1.1
  show Ag2 cn D_X_settles D_M_settles [] m
  obtain ⟨μ, a, c, k, e⟩ := w_X_settles hX.1 hX.2.2.1 hX.2.2.2.2.2.2.1
  exact fin_g (hX.gv a c) (hV.gv a k) hM hT h14 hb a (fun r hr => by unfold GvA at hr; omega) e (fun hM _ _ => w_M_settles hM.1.toM hM.2.2.1)
theorem g_closing : Agree (Inv (cn + 1)) (Inv cn) D_X_closing D_M_closing 0 (fun _ => True) := by
  intro vs hvs _ h hh
  obtain ⟨m, rfl, hI⟩ := hh
  have hvs := len0 hvs
  subst hvs
  obtain ⟨N, K, wd, bf, q, seed, n, u, hl, v, o, tm, tb, ts, L, ver, len, hX, hV, hM, hT, h14, hb⟩ := hI
  have hC : CR N K q (m.1 26) := hX.2.2.1.1
  show Ag2 cn D_X_closing D_M_closing [] m
  obtain ⟨μ, a, c, k, e⟩ := w_X_closing hX.1 hC hX.2.2.2.2.2.2.1
  exact fin_g (hX.gv a c) (hV.gv a k) hM hT h14 hb a (fun r hr => by unfold GvA at hr; omega) e (fun hM _ _ => w_M_closing hM.1.toM hM.2.2.1)
theorem g_bestRest : Agree (Inv (cn + 1)) (Inv cn) D_X_bestRest D_M_bestRest 1 (fun _ => True) := by
  intro vs hvs _ h hh
  obtain ⟨m, rfl, hI⟩ := hh
  obtain ⟨a0, rfl⟩ := len1 hvs
  obtain ⟨x, rx, rfl⟩ := i32 a0
  obtain ⟨N, K, wd, bf, q, seed, n, u, hl, v, o, tm, tb, ts, L, ver, len, hX, hV, hM, hT, h14, hb⟩ := hI
  have hC : CR N K q (m.1 26) := hX.2.2.1.1
  show Ag2 cn D_X_bestRest D_M_bestRest [.int (ii x)] m
  by_cases d : -1 ≤ x ∧ x < K
  · obtain ⟨μ, a, c, k, e⟩ := w_X_bestRest d.1 d.2 hX.1 hC hX.2.2.2.2.2.2.1
    exact fin_g (hX.gv a c) (hV.gv a k) hM hT h14 hb a (fun r hr => by unfold GvA at hr; omega) e (fun hM _ _ => w_M_bestRest d.1 d.2 hM.1.toM hM.2.2.1)
  · exact fin_ro hX hV hM hT h14 hb ⟨m, Ag.rf m, fun Q => w_X_bestRestN rx hX.1.1 d Q⟩ (fun μ hM _ _ => ⟨μ, Am.rf μ, fun Q => w_M_bestRestN rx hM.1.1 d Q⟩)
theorem g_bestGiving : Agree (Inv (cn + 1)) (Inv cn) D_X_bestGiving D_M_bestGiving 1 (fun _ => True) := by
  intro vs hvs _ h hh
  obtain ⟨m, rfl, hI⟩ := hh
  obtain ⟨a0, rfl⟩ := len1 hvs
  obtain ⟨x, rx, rfl⟩ := i32 a0
  obtain ⟨N, K, wd, bf, q, seed, n, u, hl, v, o, tm, tb, ts, L, ver, len, hX, hV, hM, hT, h14, hb⟩ := hI
  have hC : CR N K q (m.1 26) := hX.2.2.1.1
  show Ag2 cn D_X_bestGiving D_M_bestGiving [.int (ii x)] m
  by_cases d : -1 ≤ x ∧ x < K
  · have hany : (wAll N K wd bf q).2.2.2.1 = true := wAll_any (fun g hg => ⟨(hC.2 g hg).2.1, (hC.2 g hg).2.2.2.1⟩)
    obtain ⟨μ, a, c, k, e⟩ := w_X_bestGiving d.1 d.2 hX.1 hC hX.2.2.2.2.2.2.1 hany
    exact fin_g (hX.gv a c) (hV.gv a k) hM hT h14 hb a (fun r hr => by unfold GvA at hr; omega) e (fun hM _ _ => w_M_bestGiving d.1 d.2 hM.1.toM hM.2.2.1 hany)
  · exact fin_ro hX hV hM hT h14 hb ⟨m, Ag.rf m, fun Q => w_X_bestGivingN rx hX.1.1 d Q⟩ (fun μ hM _ _ => ⟨μ, Am.rf μ, fun Q => w_M_bestGivingN rx hM.1.1 d Q⟩)
theorem g_plan : Agree (Inv (cn + 1)) (Inv cn) D_X_plan D_M_plan 2 (fun _ => True) := by
  intro vs hvs _ h hh
  obtain ⟨m, rfl, hI⟩ := hh
  obtain ⟨a0, a1, rfl⟩ := len2 hvs
  obtain ⟨x, rx, rfl⟩ := i32 a0
  obtain ⟨y, ry, rfl⟩ := i32 a1
  obtain ⟨N, K, wd, bf, q, seed, n, u, hl, v, o, tm, tb, ts, L, ver, len, hX, hV, hM, hT, h14, hb⟩ := hI
  have hC : CR N K q (m.1 26) := hX.2.2.1.1
  show Ag2 cn D_X_plan D_M_plan [.int (ii x), .int (ii y)] m
  by_cases d : (0 ≤ x ∧ x ≤ 999) ∧ -2 ≤ y ∧ y < K
  · obtain ⟨t, rfl⟩ : ∃ t : Nat, x = (t : Int) := ⟨x.toNat, by omega⟩
    obtain ⟨μ, a, c, k, e⟩ := w_X_plan (t := t) (by omega) d.2.1 d.2.2 hX.1 hC hX.2.2.2.2.2.2.2
    exact fin_g (hX.pl a c) (hV.pl a k) hM hT h14 hb a (fun r hr => by unfold PlR at hr; omega) e (fun hM _ _ => w_M_plan (t := t) (by omega) d.2.1 d.2.2 hM.1.toM hM.2.2.1)
  · exact fin_ro hX hV hM hT h14 hb ⟨m, Ag.rf m, fun Q => w_X_planN rx ry hX.1.1 d Q⟩ (fun μ hM _ _ => ⟨μ, Am.rf μ, fun Q => w_M_planN rx ry hM.1.1 d Q⟩)
end KOP
