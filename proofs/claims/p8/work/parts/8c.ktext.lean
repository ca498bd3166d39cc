/-- what is kept: the first half of each row as the second was -/
def KPT (Γ : zΓ) (w : Nat) (G G1 : zH) : Prop := G1.1 1012 w 0 = G.1 1017 w 0 ∧ G1.1 1013 w 0 = G.1 1018 w 0 ∧ G1.1 1014 w 0 = G.1 1019 w 0 ∧ G1.1 1015 w 0 = G.1 1020 w 0 ∧ G1.1 1016 w 0 = G.1 1021 w 0 ∧ (∀ j : Nat, j < 4 → G1.1 2059 (Γ.2.1 w 22) j = G.1 2059 (Γ.2.1 w 22) (4 + j)) ∧ (∀ j : Nat, j < 4 → G1.1 2061 (Γ.2.1 w 24) j = G.1 2061 (Γ.2.1 w 24) (4 + j)) ∧ (∀ j : Nat, j < 4 → G1.1 2062 (Γ.2.1 w 25) j = G.1 2062 (Γ.2.1 w 25) (4 + j)) ∧ (∀ j : Nat, j < 5 → G1.1 2063 (Γ.2.1 w 26) j = G.1 2063 (Γ.2.1 w 26) (5 + j)) ∧ (∀ j : Nat, j < 5 → G1.1 2064 (Γ.2.1 w 27) j = G.1 2064 (Γ.2.1 w 27) (5 + j)) ∧ (∀ j : Nat, j < 20 → G1.1 2065 (Γ.2.1 w 28) j = G.1 2065 (Γ.2.1 w 28) (20 + j)) ∧ (∀ j : Nat, j < 5 → G1.1 2066 (Γ.2.1 w 29) j = G.1 2066 (Γ.2.1 w 29) (5 + j)) ∧ (∀ j : Nat, j < 5 → G1.1 2067 (Γ.2.1 w 30) j = G.1 2067 (Γ.2.1 w 30) (5 + j)) ∧ (∀ j : Nat, j < 5 → G1.1 2068 (Γ.2.1 w 31) j = G.1 2068 (Γ.2.1 w 31) (5 + j)) ∧ (∀ j : Nat, j < 5 → G1.1 2069 (Γ.2.1 w 32) j = G.1 2069 (Γ.2.1 w 32) (5 + j)) ∧ (∀ j : Nat, j < 3 → G1.1 2070 (Γ.2.1 w 33) j = G.1 2070 (Γ.2.1 w 33) (3 + j)) ∧ (∀ j : Nat, j < 7 → G1.1 2071 (Γ.2.1 w 34) j = G.1 2071 (Γ.2.1 w 34) (7 + j)) ∧ (∀ j : Nat, j < 7 → G1.1 2072 (Γ.2.1 w 35) j = G.1 2072 (Γ.2.1 w 35) (7 + j)) ∧ (∀ j : Nat, j < 7 → G1.1 2073 (Γ.2.1 w 36) j = G.1 2073 (Γ.2.1 w 36) (7 + j)) ∧ (∀ j : Nat, j < 64 → G1.1 2074 (Γ.2.1 w 37) j = G.1 2074 (Γ.2.1 w 37) (64 + j)) ∧ (∀ j : Nat, j < 64 → G1.1 2075 (Γ.2.1 w 38) j = G.1 2075 (Γ.2.1 w 38) (64 + j)) ∧ (∀ j : Nat, j < 64 → G1.1 2076 (Γ.2.1 w 39) j = G.1 2076 (Γ.2.1 w 39) (64 + j))
theorem CP_at {f g : Nat → Int} {n : Nat} (h : CP f g n n) {j : Nat} (hj : j < n) : g j = f (n + j) := by rw [h j, if_pos (by omega)]
/-- the kept half holds a telling -/
def kR (Γ : zΓ) (w : Nat) (A : aS) (G : zH) : Prop := (G.1 1012 w 0 = A 4 0 ∧ G.1 1013 w 0 = A 4 1 ∧ G.1 1014 w 0 = A 4 2 ∧ G.1 1015 w 0 = A 4 3 ∧ G.1 1016 w 0 = A 20 0) ∧ (0 ≤ A 4 0 ∧ A 4 0 ≤ 4 ∧ 0 ≤ A 4 1 ∧ A 4 1 ≤ 5 ∧ 0 ≤ A 4 2 ∧ A 4 2 ≤ 5 ∧ 0 ≤ A 4 3 ∧ A 4 3 ≤ 3)
  ∧ (∀ j : Nat, (j : Int) < A 4 0 → G.1 2061 (Γ.2.1 w 24) j = A 5 j ∧ G.1 2062 (Γ.2.1 w 25) j = A 6 j)
  ∧ (∀ j : Nat, (j : Int) < A 4 1 → G.1 2063 (Γ.2.1 w 26) j = A 5 (5 + j) ∧ G.1 2064 (Γ.2.1 w 27) j = A 7 j) ∧ (∀ j : Nat, (j : Int) < 4 * A 4 1 → G.1 2065 (Γ.2.1 w 28) j = A 8 j) ∧ (∀ j : Nat, 4 * A 4 1 ≤ j → j < 20 → A 8 j = 0)
  ∧ (∀ j : Nat, (j : Int) < A 4 2 → G.1 2066 (Γ.2.1 w 29) j = A 5 (10 + j) ∧ G.1 2067 (Γ.2.1 w 30) j = A 9 j ∧ G.1 2068 (Γ.2.1 w 31) j = A 10 j ∧ G.1 2069 (Γ.2.1 w 32) j = A 11 j)
  ∧ (∀ j : Nat, (j : Int) < A 4 3 → G.1 2070 (Γ.2.1 w 33) j = A 5 (15 + j)) ∧ (∀ j : Nat, j < 4 → G.1 2059 (Γ.2.1 w 22) j = A (12 + j) 0)
  ∧ (∀ j : Nat, j < 7 → G.1 2071 (Γ.2.1 w 34) j = (if A 16 j < A 17 j then 1 else 0) ∧ (A 16 j < A 17 j → G.1 2072 (Γ.2.1 w 35) j = A 16 j ∧ G.1 2073 (Γ.2.1 w 36) j = A 17 j))
  ∧ ∀ j : Nat, (j : Int) < A 20 0 → j < 64 → G.1 2074 (Γ.2.1 w 37) j = rk (A 18 j) ∧ G.1 2075 (Γ.2.1 w 38) j = A 27 j ∧ G.1 2076 (Γ.2.1 w 39) j = A 28 j
theorem kR_of {Γ : zΓ} {w : Nat} {A : aS} {G G1 : zH} (h : gD Γ w A G) (hk : KPT Γ w G G1) : kR Γ w A G1 := by
  obtain ⟨⟨a1, a2, a3, a4⟩, ⟨b1, b2, b3, b4, b5, b6⟩, ⟨c1, c2, c3, c4⟩, ⟨d1, d2, d3, d4⟩, ⟨-, e2⟩, hl, ⟨f1, f2, f3⟩, -⟩ := h
  obtain ⟨k12, k13, k14, k15, k16, k59, k61, k62, k63, k64, k65, k66, k67, k68, k69, k70, k71, k72, k73, k74, k75, k76⟩ := hk
  refine ⟨⟨k12.trans a1, k13.trans b1, k14.trans c1, k15.trans d1, k16.trans f1⟩, ⟨a2, a3, b2, b3, c2, c3, d2, d3⟩, fun j hj => ?_, fun j hj => ?_, fun j hj => ?_, b6, fun j hj => ?_, fun j hj => ?_, fun j hj => ?_, fun j hj => ?_, fun j hj hj2 => ?_⟩
  · rw [k61 j (by omega), k62 j (by omega)]; exact a4 j hj
  · rw [k63 j (by omega), k64 j (by omega)]; exact b4 j hj
  · rw [k65 j (by omega)]; exact b5 j hj
  · rw [k66 j (by omega), k67 j (by omega), k68 j (by omega), k69 j (by omega)]; exact c4 j hj
  · rw [k70 j (by omega)]; exact d4 j hj
  · rw [k59 j hj]; exact (e2 j hj).2
  · rw [k71 j hj, k72 j hj, k73 j hj]; exact hl j hj
  · rw [k74 j hj2, k75 j hj2, k76 j hj2]; exact f3 j hj
/-- the kept half stays -/
def kS (w : Nat) (G G1 : zH) : Prop := LHr G G1 ∧ G1.1 1012 w 0 = G.1 1012 w 0 ∧ G1.1 1013 w 0 = G.1 1013 w 0 ∧ G1.1 1014 w 0 = G.1 1014 w 0 ∧ G1.1 1015 w 0 = G.1 1015 w 0 ∧ G1.1 1016 w 0 = G.1 1016 w 0
theorem kR_S {Γ : zΓ} {w : Nat} {A : aS} {G G1 : zH} (h : kR Γ w A G) (hk : kS w G G1) : kR Γ w A G1 := by
  obtain ⟨⟨a1, a2, a3, a4, a5⟩, b, c1, c2, c3, c4, c5, c6, c7, c8, c9⟩ := h
  obtain ⟨hl, k1, k2, k3, k4, k5⟩ := hk
  have e : ∀ r a j n : Nat, n ≤ hh r → j < n → G1.1 r a j = G.1 r a j := fun r a j n hn hj => hl r a j (Nat.lt_of_lt_of_le hj hn)
  refine ⟨⟨k1.trans a1, k2.trans a2, k3.trans a3, k4.trans a4, k5.trans a5⟩, b, fun j hj => ?_, fun j hj => ?_, fun j hj => ?_, c4, fun j hj => ?_, fun j hj => ?_, fun j hj => ?_, fun j hj => ?_, fun j hj hj2 => ?_⟩
  · rw [e 2061 _ j 4 (by decide) (by omega), e 2062 _ j 4 (by decide) (by omega)]; exact c1 j hj
  · rw [e 2063 _ j 5 (by decide) (by omega), e 2064 _ j 5 (by decide) (by omega)]; exact c2 j hj
  · rw [e 2065 _ j 20 (by decide) (by omega)]; exact c3 j hj
  · rw [e 2066 _ j 5 (by decide) (by omega), e 2067 _ j 5 (by decide) (by omega), e 2068 _ j 5 (by decide) (by omega), e 2069 _ j 5 (by decide) (by omega)]; exact c5 j hj
  · rw [e 2070 _ j 3 (by decide) (by omega)]; exact c6 j hj
  · rw [e 2059 _ j 4 (by decide) hj]; exact c7 j hj
  · rw [e 2071 _ j 7 (by decide) hj, e 2072 _ j 7 (by decide) hj, e 2073 _ j 7 (by decide) hj]; exact c8 j hj
  · rw [e 2074 _ j 64 (by decide) hj2, e 2075 _ j 64 (by decide) hj2, e 2076 _ j 64 (by decide) hj2]; exact c9 j hj hj2

