def c3 (W : Nat → Int) (n : Nat) : Int := zct (fun i => decide (3 ≤ W i)) n
def c0 (W : Nat → Int) (n : Nat) : Int := zct (fun i => decide (W i < 2)) n
theorem c3_pop {W : Nat → Int} {n : Int} (h : 1 ≤ n) : (3 ≤ W (n - 1).toNat → c3 W n.toNat = c3 W (n - 1).toNat + 1) ∧ (W (n - 1).toNat < 3 → c3 W n.toNat = c3 W (n - 1).toNat) := by
  unfold c3
  rw [show n.toNat = (n - 1).toNat + 1 by omega, zct_s]
  constructor
  · intro q
    rw [if_pos (by simpa using q)]
  · intro q
    rw [if_neg (by simp only [decide_eq_true_eq]; omega)]
    omega
theorem c0_pop {W : Nat → Int} {n : Int} (h : 1 ≤ n) : (W (n - 1).toNat < 2 → c0 W n.toNat = c0 W (n - 1).toNat + 1) ∧ (2 ≤ W (n - 1).toNat → c0 W n.toNat = c0 W (n - 1).toNat) := by
  unfold c0
  rw [show n.toNat = (n - 1).toNat + 1 by omega, zct_s]
  constructor
  · intro q
    rw [if_pos (by simpa using q)]
  · intro q
    rw [if_neg (by simp only [decide_eq_true_eq]; omega)]
    omega
theorem MI_grow {Γ : zΓ} {w : Nat} {G : zH} {i : Nat} {k a b : Int} (hM : MI Γ w G) (hk : KOK k a b) : MI Γ w (zuI (zuI (zuI G 2074 (Γ.2.1 w 37) i k) 2075 (Γ.2.1 w 38) i a) 2076 (Γ.2.1 w 39) i b) := by
  refine ⟨fun j hj => ?_, fun j hj => ?_⟩
  · simp only [zuI_1, Nat.reduceEqDiff, false_and, if_false]
    exact hM.1 j hj
  · have h1 := hM.2 j hj
    simp only [zuI_1, Nat.reduceEqDiff, false_and, if_false, true_and]
    by_cases q : j = i
    · simp only [q, if_true]
      exact hk
    · simp only [q, if_false]
      exact h1
theorem c_push {G : zH} {a : Nat} {n k : Int} (h : 0 ≤ n) : (3 ≤ k → c3 ((zuI G 2077 a n.toNat k).1 2077 a) (n + 1).toNat = c3 (G.1 2077 a) n.toNat + 1) ∧ (k < 3 → c3 ((zuI G 2077 a n.toNat k).1 2077 a) (n + 1).toNat = c3 (G.1 2077 a) n.toNat) ∧ (k < 2 → c0 ((zuI G 2077 a n.toNat k).1 2077 a) (n + 1).toNat = c0 (G.1 2077 a) n.toNat + 1) ∧ (2 ≤ k → c0 ((zuI G 2077 a n.toNat k).1 2077 a) (n + 1).toNat = c0 (G.1 2077 a) n.toNat) := by
  have e1 : ∀ i, i < n.toNat → (zuI G 2077 a n.toNat k).1 2077 a i = G.1 2077 a i := fun i hi => by
    rw [zuI_1, if_neg (fun q => by omega)]
  have e2 : (zuI G 2077 a n.toNat k).1 2077 a n.toNat = k := by
    rw [zuI_1, if_pos ⟨rfl, rfl, rfl⟩]
  unfold c3 c0
  rw [show (n + 1).toNat = n.toNat + 1 by omega, zct_s, zct_s, e2, zct_cg (f := fun i => decide (3 ≤ (zuI G 2077 a n.toNat k).1 2077 a i)) (g := fun i => decide (3 ≤ G.1 2077 a i)) n.toNat (fun i hi => by rw [e1 i hi]), zct_cg (f := fun i => decide ((zuI G 2077 a n.toNat k).1 2077 a i < 2)) (g := fun i => decide (G.1 2077 a i < 2)) n.toNat (fun i hi => by rw [e1 i hi])]
  refine ⟨fun q => ?_, fun q => ?_, fun q => ?_, fun q => ?_⟩
  · rw [if_pos (by simpa using q)]
  · rw [if_neg (by simp only [decide_eq_true_eq]; omega)]; omega
  · rw [if_pos (by simpa using q)]
  · rw [if_neg (by simp only [decide_eq_true_eq]; omega)]; omega

