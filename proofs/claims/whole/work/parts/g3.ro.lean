/-! Calls that leave what is. -/
section ROP
variable {cn : Nat}
theorem g_road : Agree (Inv (cn + 1)) (Inv cn) D_X_road D_M_road 2 (fun _ => True) := by
  intro vs hvs _ h hh
  obtain ⟨m, rfl, hI⟩ := hh
  obtain ⟨a0, a1, rfl⟩ := len2 hvs
  obtain ⟨x, rx, rfl⟩ := i32 a0
  obtain ⟨y, ry, rfl⟩ := i32 a1
  obtain ⟨N, K, wd, bf, q, seed, n, u, hl, v, o, tm, tb, ts, L, ver, len, hX, hV, hM, hT, h14, hb⟩ := hI
  have hC : CR N K q (m.1 26) := hX.2.2.1.1
  show Ag2 cn D_X_road D_M_road [.int (ii x), .int (ii y)] m
  by_cases d : 0 ≤ x ∧ x < N
  · obtain ⟨r, rfl⟩ : ∃ r : Nat, x = (r : Int) := ⟨x.toNat, by omega⟩
    exact fin_ro hX hV hM hT h14 hb ⟨m, Ag.rf m, fun Q => w_X_road (r := r) ry hX.1 hX.2.2.1 (by omega) Q⟩ (fun μ hM hT _ => w_M_road (r := r) ry hM.1.toM hM.2.2.1 (by omega))
  · exact fin_ro hX hV hM hT h14 hb ⟨m, Ag.rf m, fun Q => w_X_roadO rx hX.1.1 d Q⟩ (fun μ hM _ _ => ⟨μ, Am.rf μ, fun Q => w_M_roadO rx hM.1.1 d Q⟩)
theorem g_goer : Agree (Inv (cn + 1)) (Inv cn) D_X_goer D_M_goer 2 (fun _ => True) := by
  intro vs hvs _ h hh
  obtain ⟨m, rfl, hI⟩ := hh
  obtain ⟨a0, a1, rfl⟩ := len2 hvs
  obtain ⟨x, rx, rfl⟩ := i32 a0
  obtain ⟨y, ry, rfl⟩ := i32 a1
  obtain ⟨N, K, wd, bf, q, seed, n, u, hl, v, o, tm, tb, ts, L, ver, len, hX, hV, hM, hT, h14, hb⟩ := hI
  have hC : CR N K q (m.1 26) := hX.2.2.1.1
  show Ag2 cn D_X_goer D_M_goer [.int (ii x), .int (ii y)] m
  by_cases d : 0 ≤ x ∧ x < K
  · obtain ⟨g, rfl⟩ : ∃ g : Nat, x = (g : Int) := ⟨x.toNat, by omega⟩
    obtain ⟨μ, a, e⟩ := w_X_goer (g := g) ry hX.1 hX.2.2.1 (by omega)
    exact fin_ro hX hV hM hT h14 hb ⟨μ, a.mono (fun r hr => by unfold YL at hr; unfold CRo; omega), e⟩ (fun μ hM hT _ => w_M_goer (g := g) ry hM.1.toM hM.2.2.1 (by omega))
  · exact fin_ro hX hV hM hT h14 hb ⟨m, Ag.rf m, fun Q => w_X_goerO rx hX.1.1 d Q⟩ (fun μ hM _ _ => ⟨μ, Am.rf μ, fun Q => w_M_goerO rx hM.1.1 d Q⟩)
theorem g_gained : Agree (Inv (cn + 1)) (Inv cn) D_X_gained D_M_gained 1 (fun _ => True) := by
  intro vs hvs _ h hh
  obtain ⟨m, rfl, hI⟩ := hh
  obtain ⟨a0, rfl⟩ := len1 hvs
  obtain ⟨x, rx, rfl⟩ := i32 a0
  obtain ⟨N, K, wd, bf, q, seed, n, u, hl, v, o, tm, tb, ts, L, ver, len, hX, hV, hM, hT, h14, hb⟩ := hI
  have hC : CR N K q (m.1 26) := hX.2.2.1.1
  show Ag2 cn D_X_gained D_M_gained [.int (ii x)] m
  by_cases d : 0 ≤ x ∧ x < K
  · obtain ⟨g, rfl⟩ : ∃ g : Nat, x = (g : Int) := ⟨x.toNat, by omega⟩
    exact fin_ro hX hV hM hT h14 hb ⟨m, Ag.rf m, fun Q => w_X_gained (g := g) hX.1.1 hC (by omega) Q⟩ (fun μ hM hT _ => ⟨μ, Am.rf μ, fun Q => w_M_gained (g := g) hM.1.1 hM.2.2.1.1 (by omega) Q⟩)
  · exact fin_ro hX hV hM hT h14 hb ⟨m, Ag.rf m, fun Q => w_X_gainedN rx hX.1.1 d Q⟩ (fun μ hM _ _ => ⟨μ, Am.rf μ, fun Q => w_M_gainedN rx hM.1.1 d Q⟩)
theorem g_want : Agree (Inv (cn + 1)) (Inv cn) D_X_want D_M_want 2 (fun _ => True) := by
  intro vs hvs _ h hh
  obtain ⟨m, rfl, hI⟩ := hh
  obtain ⟨a0, a1, rfl⟩ := len2 hvs
  obtain ⟨x, rx, rfl⟩ := i32 a0
  obtain ⟨y, ry, rfl⟩ := i32 a1
  obtain ⟨N, K, wd, bf, q, seed, n, u, hl, v, o, tm, tb, ts, L, ver, len, hX, hV, hM, hT, h14, hb⟩ := hI
  have hC : CR N K q (m.1 26) := hX.2.2.1.1
  show Ag2 cn D_X_want D_M_want [.int (ii x), .int (ii y)] m
  by_cases d : (0 ≤ x ∧ x < K) ∧ (0 ≤ y ∧ y < N)
  · obtain ⟨g, rfl⟩ : ∃ g : Nat, x = (g : Int) := ⟨x.toNat, by omega⟩
    obtain ⟨r, rfl⟩ : ∃ r : Nat, y = (r : Int) := ⟨y.toNat, by omega⟩
    exact fin_ro hX hV hM hT h14 hb ⟨m, Ag.rf m, fun Q => w_X_want (g := g) (r := r) hX.1.1 hC (by omega) (by omega) Q⟩ (fun μ hM hT _ => ⟨μ, Am.rf μ, fun Q => w_M_want (g := g) (r := r) hM.1.1 hM.2.2.1.1 (by omega) (by omega) Q⟩)
  · exact fin_ro hX hV hM hT h14 hb ⟨m, Ag.rf m, fun Q => w_X_wantN rx ry hX.1.1 d Q⟩ (fun μ hM _ _ => ⟨μ, Am.rf μ, fun Q => w_M_wantN rx ry hM.1.1 d Q⟩)
theorem g_crowds : Agree (Inv (cn + 1)) (Inv cn) D_X_crowds D_M_crowds 3 (fun _ => True) := by
  intro vs hvs _ h hh
  obtain ⟨m, rfl, hI⟩ := hh
  obtain ⟨a0, a1, a2, rfl⟩ := len3 hvs
  obtain ⟨x, rx, rfl⟩ := i32 a0
  obtain ⟨y, ry, rfl⟩ := i32 a1
  obtain ⟨z, rz, rfl⟩ := i32 a2
  obtain ⟨N, K, wd, bf, q, seed, n, u, hl, v, o, tm, tb, ts, L, ver, len, hX, hV, hM, hT, h14, hb⟩ := hI
  have hC : CR N K q (m.1 26) := hX.2.2.1.1
  show Ag2 cn D_X_crowds D_M_crowds [.int (ii x), .int (ii y), .int (ii z)] m
  by_cases d : (0 ≤ x ∧ x < K) ∧ (0 ≤ y ∧ y < N) ∧ 1 ≤ z ∧ z ≤ 5
  · obtain ⟨g, rfl⟩ : ∃ g : Nat, x = (g : Int) := ⟨x.toNat, by omega⟩
    obtain ⟨r, rfl⟩ : ∃ r : Nat, y = (r : Int) := ⟨y.toNat, by omega⟩
    obtain ⟨k, rfl⟩ : ∃ k : Nat, z = (k : Int) := ⟨z.toNat, by omega⟩
    obtain ⟨μ, a, e⟩ := w_X_crowds (g := g) (r := r) (k := k) hX.1 hC (by omega) (by omega) (by omega) (by omega)
    exact fin_ro hX hV hM hT h14 hb ⟨μ, a.mono (fun r hr => by unfold YL at hr; unfold CRo; omega), e⟩ (fun μ hM hT _ => w_M_crowds (g := g) (r := r) (k := k) hM.1.toM hM.2.2.1 (by omega) (by omega) (by omega) (by omega))
  · exact fin_ro hX hV hM hT h14 hb ⟨m, Ag.rf m, fun Q => w_X_crowdsN rx ry rz hX.1.1 d Q⟩ (fun μ hM _ _ => ⟨μ, Am.rf μ, fun Q => w_M_crowdsN rx ry rz hM.1.1 d Q⟩)
theorem g_enough : Agree (Inv (cn + 1)) (Inv cn) D_X_enough D_M_enough 2 (fun _ => True) := by
  intro vs hvs _ h hh
  obtain ⟨m, rfl, hI⟩ := hh
  obtain ⟨a0, a1, rfl⟩ := len2 hvs
  obtain ⟨x, rx, rfl⟩ := i32 a0
  obtain ⟨y, ry, rfl⟩ := i32 a1
  obtain ⟨N, K, wd, bf, q, seed, n, u, hl, v, o, tm, tb, ts, L, ver, len, hX, hV, hM, hT, h14, hb⟩ := hI
  have hC : CR N K q (m.1 26) := hX.2.2.1.1
  show Ag2 cn D_X_enough D_M_enough [.int (ii x), .int (ii y)] m
  by_cases d : (0 ≤ x ∧ x < K) ∧ (0 ≤ y ∧ y < N)
  · obtain ⟨g, rfl⟩ : ∃ g : Nat, x = (g : Int) := ⟨x.toNat, by omega⟩
    obtain ⟨r, rfl⟩ : ∃ r : Nat, y = (r : Int) := ⟨y.toNat, by omega⟩
    exact fin_ro hX hV hM hT h14 hb ⟨m, Ag.rf m, fun Q => w_X_enough (g := g) (d := r) hX.1.1 hC (by omega) (by omega) Q⟩ (fun μ hM hT _ => w_M_enough (g := g) (d := r) hM.1.toM hM.2.2.1 (by omega) (by omega))
  · exact fin_ro hX hV hM hT h14 hb ⟨m, Ag.rf m, fun Q => w_X_enoughN rx ry hX.1.1 d Q⟩ (fun μ hM _ _ => ⟨μ, Am.rf μ, fun Q => w_M_enoughN rx ry hM.1.1 d Q⟩)
theorem g_open : Agree (Inv (cn + 1)) (Inv cn) D_X_open D_M_open 1 (fun _ => True) := by
  intro vs hvs _ h hh
  obtain ⟨m, rfl, hI⟩ := hh
  obtain ⟨a0, rfl⟩ := len1 hvs
  obtain ⟨x, rx, rfl⟩ := i32 a0
  obtain ⟨N, K, wd, bf, q, seed, n, u, hl, v, o, tm, tb, ts, L, ver, len, hX, hV, hM, hT, h14, hb⟩ := hI
  have hC : CR N K q (m.1 26) := hX.2.2.1.1
  show Ag2 cn D_X_open D_M_open [.int (ii x)] m
  by_cases d : 0 ≤ x ∧ x < K
  · obtain ⟨g, rfl⟩ : ∃ g : Nat, x = (g : Int) := ⟨x.toNat, by omega⟩
    exact fin_ro hX hV hM hT h14 hb ⟨m, Ag.rf m, fun Q => w_X_open (g := g) hX.1.1 hC (by omega) Q⟩ (fun μ hM hT _ => w_M_open (g := g) hM.1.toM hM.2.2.1 (by omega))
  · exact fin_ro hX hV hM hT h14 hb ⟨m, Ag.rf m, fun Q => w_X_openN rx hX.1.1 d Q⟩ (fun μ hM _ _ => ⟨μ, Am.rf μ, fun Q => w_M_openN rx hM.1.1 d Q⟩)
theorem g_same : Agree (Inv (cn + 1)) (Inv cn) D_X_same D_M_same 1 (fun _ => True) := by
  intro vs hvs _ h hh
  obtain ⟨m, rfl, hI⟩ := hh
  obtain ⟨a0, rfl⟩ := len1 hvs
  obtain ⟨x, rx, rfl⟩ := i32 a0
  obtain ⟨N, K, wd, bf, q, seed, n, u, hl, v, o, tm, tb, ts, L, ver, len, hX, hV, hM, hT, h14, hb⟩ := hI
  have hC : CR N K q (m.1 26) := hX.2.2.1.1
  show Ag2 cn D_X_same D_M_same [.int (ii x)] m
  by_cases d : 0 ≤ x ∧ x < K
  · obtain ⟨g, rfl⟩ : ∃ g : Nat, x = (g : Int) := ⟨x.toNat, by omega⟩
    exact fin_ro hX hV hM hT h14 hb ⟨m, Ag.rf m, fun Q => w_X_same (g := g) hX.1.1 hX.2.2.1 (by omega) Q⟩ (fun μ hM hT _ => w_M_same (g := g) hM.1.toM hM.2.2.1 (by omega))
  · exact fin_ro hX hV hM hT h14 hb ⟨m, Ag.rf m, fun Q => w_X_sameN rx hX.1.1 d Q⟩ (fun μ hM _ _ => ⟨μ, Am.rf μ, fun Q => w_M_sameN rx hM.1.1 d Q⟩)
theorem g_then : Agree (Inv (cn + 1)) (Inv cn) D_X_then D_M_then 3 (fun _ => True) := by
  intro vs hvs _ h hh
  obtain ⟨m, rfl, hI⟩ := hh
  obtain ⟨a0, a1, a2, rfl⟩ := len3 hvs
  obtain ⟨x, rx, rfl⟩ := i32 a0
  obtain ⟨y, ry, rfl⟩ := i32 a1
  obtain ⟨z, rz, rfl⟩ := i32 a2
  obtain ⟨N, K, wd, bf, q, seed, n, u, hl, v, o, tm, tb, ts, L, ver, len, hX, hV, hM, hT, h14, hb⟩ := hI
  have hC : CR N K q (m.1 26) := hX.2.2.1.1
  show Ag2 cn D_X_then D_M_then [.int (ii x), .int (ii y), .int (ii z)] m
  by_cases d : (0 ≤ x ∧ x < K) ∧ (0 ≤ y ∧ y ≤ 60) ∧ 0 ≤ z ∧ z ≤ 2
  · obtain ⟨g, rfl⟩ : ∃ g : Nat, x = (g : Int) := ⟨x.toNat, by omega⟩
    obtain ⟨k, rfl⟩ : ∃ k : Nat, y = (k : Int) := ⟨y.toNat, by omega⟩
    obtain ⟨μ, a, e⟩ := w_X_then (g := g) (n := k) d.2.2.1 d.2.2.2 (by omega) hX.1 hX.2.1 hC (by omega)
    exact fin_ro hX hV hM hT h14 hb ⟨μ, a.mono (fun r hr => by unfold DP at hr; unfold CRo; omega), e⟩ (fun μ hM hT _ => w_M_then (g := g) (n := k) d.2.2.1 d.2.2.2 (by omega) hM.1.toM hM.2.2.1 hM.2.1 (by omega))
  · exact fin_ro hX hV hM hT h14 hb ⟨m, Ag.rf m, fun Q => w_X_thenN rx ry rz hX.1.1 d Q⟩ (fun μ hM _ _ => ⟨μ, Am.rf μ, fun Q => w_M_thenN rx ry rz hM.1.1 d Q⟩)
theorem g_gainedIn : Agree (Inv (cn + 1)) (Inv cn) D_X_gainedIn D_M_gainedIn 2 (fun _ => True) := by
  intro vs hvs _ h hh
  obtain ⟨m, rfl, hI⟩ := hh
  obtain ⟨a0, a1, rfl⟩ := len2 hvs
  obtain ⟨x, rx, rfl⟩ := i32 a0
  obtain ⟨y, ry, rfl⟩ := i32 a1
  obtain ⟨N, K, wd, bf, q, seed, n, u, hl, v, o, tm, tb, ts, L, ver, len, hX, hV, hM, hT, h14, hb⟩ := hI
  have hC : CR N K q (m.1 26) := hX.2.2.1.1
  show Ag2 cn D_X_gainedIn D_M_gainedIn [.int (ii x), .int (ii y)] m
  by_cases d : (0 ≤ x ∧ x < K) ∧ (0 ≤ y ∧ y ≤ 60)
  · obtain ⟨g, rfl⟩ : ∃ g : Nat, x = (g : Int) := ⟨x.toNat, by omega⟩
    obtain ⟨k, rfl⟩ : ∃ k : Nat, y = (k : Int) := ⟨y.toNat, by omega⟩
    obtain ⟨μ, a, e⟩ := w_X_gainedIn (g := g) (n := k) (by omega) hX.1 hX.2.1 hC (by omega)
    exact fin_ro hX hV hM hT h14 hb ⟨μ, a.mono (fun r hr => by unfold DP at hr; unfold CRo; omega), e⟩ (fun μ hM hT _ => w_M_gainedIn (g := g) (n := k) (by omega) hM.1.toM hM.2.2.1 hM.2.1 (by omega))
  · exact fin_ro hX hV hM hT h14 hb ⟨m, Ag.rf m, fun Q => w_X_gainedInN rx ry hX.1.1 d Q⟩ (fun μ hM _ _ => ⟨μ, Am.rf μ, fun Q => w_M_gainedInN rx ry hM.1.1 d Q⟩)
theorem g_year : Agree (Inv (cn + 1)) (Inv cn) D_X_year D_M_year 4 (fun _ => True) := by
  intro vs hvs _ h hh
  obtain ⟨m, rfl, hI⟩ := hh
  obtain ⟨a0, a1, a2, a3, rfl⟩ := len4 hvs
  obtain ⟨x, rx, rfl⟩ := i32 a0
  obtain ⟨y, ry, rfl⟩ := i32 a1
  obtain ⟨z, rz, rfl⟩ := i32 a2
  obtain ⟨t, rt, rfl⟩ := i32 a3
  obtain ⟨N, K, wd, bf, q, seed, n, u, hl, v, o, tm, tb, ts, L, ver, len, hX, hV, hM, hT, h14, hb⟩ := hI
  have hC : CR N K q (m.1 26) := hX.2.2.1.1
  show Ag2 cn D_X_year D_M_year [.int (ii x), .int (ii y), .int (ii z), .int (ii t)] m
  by_cases d : (0 ≤ x ∧ x < K) ∧ (0 ≤ y ∧ y < N) ∧ (0 ≤ z ∧ z ≤ 60) ∧ 1 ≤ t ∧ t ≤ 20
  · obtain ⟨g, rfl⟩ : ∃ g : Nat, x = (g : Int) := ⟨x.toNat, by omega⟩
    obtain ⟨r, rfl⟩ : ∃ r : Nat, y = (r : Int) := ⟨y.toNat, by omega⟩
    obtain ⟨k, rfl⟩ : ∃ k : Nat, z = (k : Int) := ⟨z.toNat, by omega⟩
    obtain ⟨j, rfl⟩ : ∃ j : Nat, t = (j : Int) := ⟨t.toNat, by omega⟩
    obtain ⟨μ, a, e⟩ := w_X_year (g := g) (r := r) (n := k) (k := j) (by omega) (by omega) (by omega) hX.1 hX.2.1 hC (by omega) (by omega)
    exact fin_ro hX hV hM hT h14 hb ⟨μ, a.mono (fun r hr => by unfold DP at hr; unfold CRo; omega), e⟩ (fun μ hM hT _ => w_M_year (g := g) (r := r) (n := k) (k := j) (by omega) (by omega) (by omega) hM.1.toM hM.2.2.1 hM.2.1 (by omega) (by omega))
  · exact fin_ro hX hV hM hT h14 hb ⟨m, Ag.rf m, fun Q => w_X_yearN rx ry rz rt hX.1.1 d Q⟩ (fun μ hM _ _ => ⟨μ, Am.rf μ, fun Q => w_M_yearN rx ry rz rt hM.1.1 d Q⟩)
theorem g_search : Agree (Inv (cn + 1)) (Inv cn) D_X_search D_M_search 2 (fun _ => True) := by
  intro vs hvs _ h hh
  obtain ⟨m, rfl, hI⟩ := hh
  obtain ⟨a0, a1, rfl⟩ := len2 hvs
  obtain ⟨x, rx, rfl⟩ := i32 a0
  obtain ⟨y, ry, rfl⟩ := i32 a1
  obtain ⟨N, K, wd, bf, q, seed, n, u, hl, v, o, tm, tb, ts, L, ver, len, hX, hV, hM, hT, h14, hb⟩ := hI
  have hC : CR N K q (m.1 26) := hX.2.2.1.1
  show Ag2 cn D_X_search D_M_search [.int (ii x), .int (ii y)] m
  by_cases d : (1 ≤ x ∧ x ≤ 6) ∧ 0 ≤ y ∧ y ≤ 9
  · obtain ⟨g, rfl⟩ : ∃ g : Nat, x = (g : Int) := ⟨x.toNat, by omega⟩
    obtain ⟨r, rfl⟩ : ∃ r : Nat, y = (r : Int) := ⟨y.toNat, by omega⟩
    exact fin_ro hX hV hM hT h14 hb ⟨m, Ag.rf m, fun Q => w_X_search (n := g) (c := r) (by omega) (by omega) (by omega) Q⟩ (fun μ hM hT _ => w_M_search (n := g) (c := r) (by omega) (by omega) (by omega))
  · exact fin_ro hX hV hM hT h14 hb ⟨m, Ag.rf m, fun Q => w_X_searchN rx ry d Q⟩ (fun μ hM _ _ => ⟨μ, Am.rf μ, fun Q => w_M_searchN rx ry d Q⟩)
theorem g_bar : Agree (Inv (cn + 1)) (Inv cn) D_X_bar D_M_bar 2 (fun _ => True) := by
  intro vs hvs _ h hh
  obtain ⟨m, rfl, hI⟩ := hh
  obtain ⟨a0, a1, rfl⟩ := len2 hvs
  obtain ⟨x, rx, rfl⟩ := i32 a0
  obtain ⟨y, ry, rfl⟩ := i32 a1
  obtain ⟨N, K, wd, bf, q, seed, n, u, hl, v, o, tm, tb, ts, L, ver, len, hX, hV, hM, hT, h14, hb⟩ := hI
  have hC : CR N K q (m.1 26) := hX.2.2.1.1
  show Ag2 cn D_X_bar D_M_bar [.int (ii x), .int (ii y)] m
  by_cases d : (1 ≤ x ∧ x ≤ 6) ∧ 0 ≤ y ∧ y ≤ 9
  · obtain ⟨g, rfl⟩ : ∃ g : Nat, x = (g : Int) := ⟨x.toNat, by omega⟩
    obtain ⟨r, rfl⟩ : ∃ r : Nat, y = (r : Int) := ⟨y.toNat, by omega⟩
    exact fin_ro hX hV hM hT h14 hb ⟨m, Ag.rf m, fun Q => w_X_bar (n := g) (c := r) (by omega) (by omega) (by omega) Q⟩ (fun μ hM hT _ => w_M_bar (n := g) (c := r) (by omega) (by omega) (by omega))
  · exact fin_ro hX hV hM hT h14 hb ⟨m, Ag.rf m, fun Q => w_X_barN rx ry d Q⟩ (fun μ hM _ _ => ⟨μ, Am.rf μ, fun Q => w_M_barN rx ry d Q⟩)
theorem g_oneEach : Agree (Inv (cn + 1)) (Inv cn) D_X_oneEach D_M_oneEach 1 (fun _ => True) := by
  intro vs hvs _ h hh
  obtain ⟨m, rfl, hI⟩ := hh
  obtain ⟨a0, rfl⟩ := len1 hvs
  obtain ⟨x, rx, rfl⟩ := i32 a0
  obtain ⟨N, K, wd, bf, q, seed, n, u, hl, v, o, tm, tb, ts, L, ver, len, hX, hV, hM, hT, h14, hb⟩ := hI
  have hC : CR N K q (m.1 26) := hX.2.2.1.1
  show Ag2 cn D_X_oneEach D_M_oneEach [.int (ii x)] m
  by_cases d : -1 ≤ x ∧ x < K
  · obtain ⟨μ, a, e⟩ := w_X_oneEach d.1 d.2 hX.1.1 hC
    exact fin_ro hX hV hM hT h14 hb ⟨μ, a.mono (fun r hr => by unfold ShR at hr; unfold CRo; omega), e⟩ (fun μ hM hT _ => w_M_oneEach d.1 d.2 hM.1.toM hM.2.2.1)
  · exact fin_ro hX hV hM hT h14 hb ⟨m, Ag.rf m, fun Q => w_X_oneEachN rx hX.1.1 d Q⟩ (fun μ hM _ _ => ⟨μ, Am.rf μ, fun Q => w_M_oneEachN rx hM.1.1 d Q⟩)
theorem g_who : Agree (Inv (cn + 1)) (Inv cn) D_X_who D_M_who 2 (fun _ => True) := by
  intro vs hvs _ h hh
  obtain ⟨m, rfl, hI⟩ := hh
  obtain ⟨a0, a1, rfl⟩ := len2 hvs
  obtain ⟨x, rx, rfl⟩ := i32 a0
  obtain ⟨y, ry, rfl⟩ := i32 a1
  obtain ⟨N, K, wd, bf, q, seed, n, u, hl, v, o, tm, tb, ts, L, ver, len, hX, hV, hM, hT, h14, hb⟩ := hI
  have hC : CR N K q (m.1 26) := hX.2.2.1.1
  show Ag2 cn D_X_who D_M_who [.int (ii x), .int (ii y)] m
  by_cases d : (0 ≤ x ∧ x ≤ o) ∧ 0 ≤ y ∧ y ≤ 1
  · obtain ⟨k, rfl⟩ : ∃ k : Nat, x = (k : Int) := ⟨x.toNat, by omega⟩
    obtain ⟨μ, a, e⟩ := w_X_who (k := k) (b := y) (by omega) (by omega) hX.1 hX.2.2.1 hX.2.2.2.2.2.1
    exact fin_ro hX hV hM hT h14 hb ⟨μ, a.mono (fun r hr => by unfold YL at hr; unfold CRo; omega), e⟩ (fun μ hM hT _ => w_M_who (k := k) (b := y) (by omega) (by omega) hM.1.toM hM.2.2.1 hM.2.2.2.2.2.1)
  · exact fin_ro hX hV hM hT h14 hb ⟨m, Ag.rf m, fun Q => w_X_whoN rx ry hX.2.2.2.2.2.1 d Q⟩ (fun μ hM _ _ => ⟨μ, Am.rf μ, fun Q => w_M_whoN rx ry hM.2.2.2.2.2.1 d Q⟩)
theorem g_look : Agree (Inv (cn + 1)) (Inv cn) D_X_look D_M_look 2 (fun _ => True) := by
  intro vs hvs _ h hh
  obtain ⟨m, rfl, hI⟩ := hh
  obtain ⟨a0, a1, rfl⟩ := len2 hvs
  obtain ⟨x, rx, rfl⟩ := i32 a0
  obtain ⟨y, ry, rfl⟩ := i32 a1
  obtain ⟨N, K, wd, bf, q, seed, n, u, hl, v, o, tm, tb, ts, L, ver, len, hX, hV, hM, hT, h14, hb⟩ := hI
  have hC : CR N K q (m.1 26) := hX.2.2.1.1
  show Ag2 cn D_X_look D_M_look [.int (ii x), .int (ii y)] m
  by_cases d : (0 ≤ x ∧ x ≤ o) ∧ 0 ≤ y ∧ y ≤ 99
  · obtain ⟨k, rfl⟩ : ∃ k : Nat, x = (k : Int) := ⟨x.toNat, by omega⟩
    obtain ⟨j, rfl⟩ : ∃ j : Nat, y = (j : Int) := ⟨y.toNat, by omega⟩
    obtain ⟨μ, a, e⟩ := w_X_look (k := k) (v := j) (by omega) (by omega) hX.1 hX.2.2.1 hX.2.2.2.2.2.1
    exact fin_ro hX hV hM hT h14 hb ⟨μ, a.mono (fun r hr => by unfold YL at hr; unfold CRo; omega), e⟩ (fun μ hM hT _ => w_M_look (k := k) (v := j) (by omega) (by omega) hM.1.toM hM.2.2.1 hM.2.2.2.2.2.1)
  · exact fin_ro hX hV hM hT h14 hb ⟨m, Ag.rf m, fun Q => w_X_lookN rx ry hX.2.2.2.2.2.1 d Q⟩ (fun μ hM _ _ => ⟨μ, Am.rf μ, fun Q => w_M_lookN rx ry hM.2.2.2.2.2.1 d Q⟩)
theorem g_count : Agree (Inv (cn + 1)) (Inv cn) D_X_count D_M_count 1 (fun _ => True) := by
  intro vs hvs _ h hh
  obtain ⟨m, rfl, hI⟩ := hh
  obtain ⟨a0, rfl⟩ := len1 hvs
  obtain ⟨x, rx, rfl⟩ := i32 a0
  obtain ⟨N, K, wd, bf, q, seed, n, u, hl, v, o, tm, tb, ts, L, ver, len, hX, hV, hM, hT, h14, hb⟩ := hI
  have hC : CR N K q (m.1 26) := hX.2.2.1.1
  show Ag2 cn D_X_count D_M_count [.int (ii x)] m
  obtain ⟨μ, a, e⟩ := w_X_count rx hX.1 hX.2.2.1 hX.2.2.2.1 hX.2.2.2.2.1 hX.2.2.2.2.2.1 hT.1
  exact fin_ro hX hV hM hT h14 hb ⟨μ, a.mono (fun r hr => by unfold YL at hr; unfold CRo; omega), e⟩ (fun μ hM hT _ => w_M_count rx hM.1.toM hM.2.2.1 hM.2.2.2.1 hM.2.2.2.2.1 hM.2.2.2.2.2.1 hT.2.1)
theorem g_crowded : Agree (Inv (cn + 1)) (Inv cn) D_X_crowded D_M_crowded 1 (fun _ => True) := by
  intro vs hvs _ h hh
  obtain ⟨m, rfl, hI⟩ := hh
  obtain ⟨a0, rfl⟩ := len1 hvs
  obtain ⟨x, rx, rfl⟩ := i32 a0
  obtain ⟨N, K, wd, bf, q, seed, n, u, hl, v, o, tm, tb, ts, L, ver, len, hX, hV, hM, hT, h14, hb⟩ := hI
  have hC : CR N K q (m.1 26) := hX.2.2.1.1
  show Ag2 cn D_X_crowded D_M_crowded [.int (ii x)] m
  by_cases d : x = 0 ∨ x = 1
  · obtain ⟨a, rfl⟩ : ∃ a : Nat, x = (a : Int) := ⟨x.toNat, by omega⟩
    by_cases z : N = 0
    · subst z
      refine fin_ro hX hV hM hT h14 hb ⟨m, Ag.rf m, fun Q => w_X_crowdedZ (a := a) (by omega) hX.1.1 Q⟩ (fun μ hM _ _ => ?_)
      have := w_M_crowded (a := a) (by omega) hM.1.toM hM.2.2.1
      rw [if_pos rfl] at this
      exact this
    · refine fin_ro hX hV hM hT h14 hb ⟨m, Ag.rf m, fun Q => w_X_crowded (a := a) (by omega) hX.1.1 (by omega) hX.2.2.1 Q⟩ (fun μ hM _ _ => ?_)
      have := w_M_crowded (a := a) (by omega) hM.1.toM hM.2.2.1
      rw [if_neg z] at this
      exact this
  · exact fin_ro hX hV hM hT h14 hb ⟨m, Ag.rf m, fun Q => w_X_crowdedN rx d Q⟩ (fun μ hM _ _ => ⟨μ, Am.rf μ, fun Q => w_M_crowdedN rx d Q⟩)
theorem g_place : Agree (Inv (cn + 1)) (Inv cn) D_X_place D_M_place 0 (fun _ => True) := by
  intro vs hvs _ h hh
  obtain ⟨m, rfl, hI⟩ := hh
  have hvs := len0 hvs
  subst hvs
  obtain ⟨N, K, wd, bf, q, seed, n, u, hl, v, o, tm, tb, ts, L, ver, len, hX, hV, hM, hT, h14, hb⟩ := hI
  have hC : CR N K q (m.1 26) := hX.2.2.1.1
  show Ag2 cn D_X_place D_M_place [] m
  exact fin_g (p := fun _ => False) hX hV hM hT h14 hb (Ag.rf m) (fun r hr => hr.elim) (fun Q => w_X_place Q) (fun _ _ _ => ⟨m, Am.rf m, fun Q => by rw [h14]; exact w_M_place Q⟩)
end ROP
