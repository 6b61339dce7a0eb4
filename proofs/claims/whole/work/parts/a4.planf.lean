/-! Plans: the same ways in order. -/
def Mis (N K : Nat) (q : Row) (a : Nat) : Nat := smn (fun g => mss N q g (dg N K a g)) K
def rst (N K : Nat) (wd : Nat → Int32) (bf : Nat → List Br) (q : Row) (t : Int32) (s : Pl) (a : Nat) : Pl := if s.1 = true ∧ s.2.1 < Mis N K q a then s else pst t a (Mis N K q a) (sm (sst N K wd bf q a) K) s
def pAt (N K : Nat) (wd : Nat → Int32) (bf : Nat → List Br) (q : Row) (t : Int32) (n : Nat) : Pl := rf (rst N K wd bf q t) n (false, 0, ii 0, 0)
theorem smn_cong {f f' : Nat → Nat} : ∀ {k : Nat}, (∀ g, g < k → f g = f' g) → smn f k = smn f' k
  | 0, _ => rfl
  | k + 1, h => by unfold smn; rw [smn_cong (fun g hg => h g (by omega)), h k (by omega)]
theorem smn_ge {f : Nat → Nat} {n : Nat} : ∀ m, smn f n ≤ smn f (n + m)
  | 0 => Nat.le_refl _
  | m + 1 => by
    have := smn_ge (f := f) (n := n) m
    show _ ≤ smn f (n + m) + f (n + m)
    omega
theorem rf_stay {σ : Type} {f : σ → Nat → σ} {s : σ} : ∀ {n : Nat}, (∀ i, i < n → f s i = s) → rf f n s = s
  | 0, _ => rfl
  | n + 1, h => by
    show f (rf f n s) n = s
    rw [rf_stay (n := n) (fun i hi => h i (by omega))]
    exact h n (by omega)
theorem dg_pre {N K k a w i : Nat} (hN : 0 < N) (hw : w < N ^ k) (hi : i < K - k) : dg N K (a * N ^ k + w) i = dg N (K - k) a i := by
  unfold dg
  have hM : 0 < N ^ k := Nat.pow_pos hN
  rw [show K - 1 - i = k + (K - k - 1 - i) by omega, Nat.pow_add, ← Nat.div_div_eq_div_mul, Nat.mul_comm a, Nat.mul_add_div hM, Nat.div_eq_of_lt hw, Nat.add_zero]
theorem Mis_ge {N K k a w : Nat} {q : Row} (hN : 0 < N) (hw : w < N ^ k) (hk : k ≤ K) : smn (fun i => mss N q i (dg N (K - k) a i)) (K - k) ≤ Mis N K q (a * N ^ k + w) := by
  have h1 : smn (fun i => mss N q i (dg N (K - k) a i)) (K - k) = smn (fun g => mss N q g (dg N K (a * N ^ k + w) g)) (K - k) := smn_cong (fun i hi => by rw [dg_pre hN hw hi])
  have h2 := smn_ge (f := fun g => mss N q g (dg N K (a * N ^ k + w) g)) (n := K - k) k
  rw [show K - k + k = K by omega] at h2
  rw [h1]
  exact h2
theorem cF_rf {N K : Nat} {wd : Nat → Int32} {bf : Nat → List Br} {q : Row} {t : Int32} (hN : 0 < N) : ∀ {k a : Nat} {s : Pl}, k ≤ K → cF N K wd bf q t k a (smn (fun i => mss N q i (dg N (K - k) a i)) (K - k)) s = rf (fun s w => rst N K wd bf q t s (a * N ^ k + w)) (N ^ k) s
  | 0, a, s, _ => by
    show (if _ then _ else _) = rst N K wd bf q t s (a * N ^ 0 + 0)
    rw [Nat.pow_zero, Nat.mul_one, Nat.add_zero]
    rfl
  | k + 1, a, s, hk => by
    have hM : 0 < N ^ k := Nat.pow_pos hN
    generalize hmi : smn (fun i => mss N q i (dg N (K - (k + 1)) a i)) (K - (k + 1)) = mi
    show (if s.1 = true ∧ s.2.1 < mi then s else _) = _
    by_cases c : s.1 = true ∧ s.2.1 < mi
    · rw [if_pos c]
      refine (rf_stay (fun i hi => ?_)).symm
      have := Mis_ge (K := K) (a := a) (q := q) hN hi hk
      rw [hmi] at this
      exact if_pos ⟨c.1, by omega⟩
    · rw [if_neg c, Nat.pow_succ, Nat.mul_comm (N ^ k) N, rf_block]
      refine rf_cong (fun s r hr => ?_)
      have e1 : ∀ w, a * (N * N ^ k) + (r * N ^ k + w) = (a * N + r) * N ^ k + w := fun w => by rw [Nat.add_mul, Nat.mul_assoc, Nat.add_assoc]
      have e2 : mi + mss N q (K - (k + 1)) r = smn (fun i => mss N q i (dg N (K - k) (a * N + r) i)) (K - k) := by
        rw [show K - k = K - (k + 1) + 1 by omega]
        show _ = smn _ (K - (k + 1)) + mss N q (K - (k + 1)) (dg N (K - (k + 1) + 1) (a * N + r) (K - (k + 1)))
        rw [dg_l hr, ← hmi]
        congr 1
        exact smn_cong (fun i hi => by rw [dg_s hr hi])
      rw [e2, cF_rf hN (by omega)]
      refine rf_cong (fun s w hw => ?_)
      rw [e1]
theorem plA_at {N K : Nat} {wd : Nat → Int32} {bf : Nat → List Br} {q : Row} {t : Int32} (hN : K = 0 ∨ 1 ≤ N) : plA N K wd bf q t = pAt N K wd bf q t (N ^ K) := by
  by_cases h : 0 < N
  · have := cF_rf (K := K) (wd := wd) (bf := bf) (q := q) (t := t) h (k := K) (a := 0) (s := (false, 0, ii 0, 0)) (Nat.le_refl _)
    rw [show K - K = 0 by omega] at this
    unfold plA pAt
    refine this.trans (rf_cong (fun s w hw => ?_))
    rw [Nat.zero_mul, Nat.zero_add]
  · have h0 : K = 0 := by omega
    subst h0
    rw [Nat.pow_zero]
    rfl
theorem pAt_s {N K : Nat} {wd : Nat → Int32} {bf : Nat → List Br} {q : Row} {t : Int32} {n : Nat} : pAt N K wd bf q t (n + 1) = rst N K wd bf q t (pAt N K wd bf q t n) n := rfl
theorem pAt_b {N K : Nat} {wd : Nat → Int32} {bf : Nat → List Br} {q : Row} {t : Int32} (hm : ∀ a, Mis N K q a ≤ 1000) : ∀ n, (pAt N K wd bf q t n).2.1 ≤ 1000 ∧ (pAt N K wd bf q t n).2.2.2 ≤ n
  | 0 => ⟨by show 0 ≤ 1000; omega, Nat.le_refl _⟩
  | n + 1 => by
    have ih := pAt_b (wd := wd) (bf := bf) (t := t) hm n
    rw [pAt_s]
    unfold rst pst
    split
    · exact ⟨ih.1, by omega⟩
    · split
      · exact ⟨ih.1, by omega⟩
      · exact ⟨hm n, by show n ≤ n + 1; omega⟩
/-- the row with other sights -/
def sgq (q : Row) (f : Nat → Nat) : Row := (rFace q, f, rSet q, rStood q, rGain q, rDay q, rWant q)
theorem sgq_sight {q : Row} {f : Nat → Nat} {g s : Nat} : sightq (sgq q f) g s = sgq q (fun j => if j = g then s else f j) := rfl
theorem sgq_self {q : Row} : sgq q (rSight q) = q := rfl
theorem sm_ii {f : Nat → Nat} : ∀ k, sm (fun g => ii (f g)) k = ii (smn f k)
  | 0 => rfl
  | k + 1 => by
    show sm (fun g => ii (f g)) k + ii (f k) = ii ((smn f k + f k : Nat) : Int)
    rw [sm_ii k, ii_add]
    rfl
section SGQ
variable {N K : Nat} {wd : Nat → Int32} {bf : Nat → List Br} {q : Row} {a : Nat} {f : Nat → Nat}
theorem sg_cho {g : Nat} (hf : f g = dg N K a g + 1) : cho N (sgq q f) g = pch N K q a g := by
  unfold cho pch chv chq
  show (chs N (rFace q g) (rWant q g) none (min (f g) N)).getD 0 = _
  rw [hf]
theorem sg_mis {h : Nat → Int32} (hM : MR N K (sgq q f) h) (hf : ∀ g, g < K → f g = dg N K a g + 1) : sm (msN N (sgq q f)) K = ii (Mis N K q a) := by
  have : sm (msN N (sgq q f)) K = sm (fun g => ii (mss N q g (dg N K a g))) K := sm_cong (fun g hg => by
    have hN : 0 < N := by have := (hM.2 g hg).2.1; omega
    unfold msN
    rw [sg_cho (hf g hg)]
    show msQ N q g (pch N K q a g) = _
    unfold pch
    rw [mss_ii hN])
  rw [this, sm_ii]
  rfl
theorem sg_st {h : Nat → Int32} (hM : MR N K (sgq q f) h) (hf : ∀ g, g < K → f g = dg N K a g + 1) : sm (stN N K wd bf (sgq q f)) K = sm (sst N K wd bf q a) K := by
  refine sm_cong (fun g hg => ?_)
  have e1 : cnt (chq N (sgq q f)) (cho N (sgq q f) g) K = cn (pch N K q a) (pch N K q a g) K := by
    rw [cn_cho hM, sg_cho (hf g hg)]
    exact cn_cong (fun i hi => sg_cho (hf i hi))
  unfold stN sst stS vnow
  rw [e1, sg_cho (hf g hg)]
  show hld (lawv (vw N wd (sgq q f) g (f g) (pch N K q a g) (nxq N (sgq q f) g (f g) (pch N K q a g)) _) (bf 0)) (ii 99) = _
  rw [hf g hg]
  rfl
end SGQ
