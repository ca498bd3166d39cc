/-! the words in the reference's order -/
def wr9 : List Int := [647430144, 542723566, 102077440, 253797824, 254070400, 659011744, 642945024, 404455424, 438075392, 143785984, 254064768, 777046016, 773279744, 538232832, 48365568, 522190848, 486146048, 788091136, 680957536, 788084736, 556044448, 412254208, 284628596, 136085504]
def os9 : List Int := [0, 4, 11, 16, 22, 28, 34, 39, 43, 47, 51, 57, 62, 67, 72, 76, 79, 83, 89, 95, 100, 106, 110, 117, 121]
def rp9 : List Int := [0, 1, 9, 2, 3, 4, 5, 6, 7, 8, 10, 11, 12, 13, 15, 14, 16, 17, 18, 19, 20, 21, 22, 23]
/-- a word of the language by the reference's number -/
def rp (k : Int) : Int := if k < 0 then -1 else rp9.getD k.toNat 0
theorem lwn_no : ∀ (l : List Int) (c k : Int), c ∉ l → lwn l c k = -1
  | [], _, _, _ => rfl
  | x :: r, c, k, h => by
    rw [lwn, if_neg (fun e => h (by rw [e]; exact List.mem_cons_self))]
    exact lwn_no r c (k + 1) (fun h9 => h (List.mem_cons_of_mem _ h9))
theorem wr_in : ∀ c ∈ wr9, c ∈ wl := by decide +kernel
theorem wr_eq : ∀ c ∈ wl, lwn wr9 c 0 = rp (lwn wl c 0) := by decide +kernel
theorem lwr_eq (c : Int) : lwn wr9 c 0 = rp (lw c) := by
  by_cases h : c ∈ wl
  · exact wr_eq c h
  · rw [lwn_no wr9 c 0 (fun h9 => h (wr_in c h9)), lw, lwn_no wl c 0 h]
    rfl
theorem wr_24 : wr9.length = 24 := rfl
theorem lwr_s {k : Int} {c : Int} (h0 : 0 ≤ k) (h : k < 24) : lwn (wr9.drop k.toNat) c k = if wr9.getD k.toNat 0 = c then k else lwn (wr9.drop (k + 1).toNat) c (k + 1) := by
  have hl : k.toNat < wr9.length := by rw [wr_24]; omega
  rw [List.drop_eq_getElem_cons hl, lwn, List.getD_eq_getElem?_getD, List.getElem?_eq_getElem hl, show (k + 1).toNat = k.toNat + 1 by omega]
  rfl
/-- where the k-th word begins -/
def os (k : Int) : Int := os9.getD k.toNat 0
theorem os_in : ∀ k : Nat, k < 24 → 0 ≤ os k ∧ os k < os (k + 1 : Nat) - 1 ∧ os (k + 1 : Nat) ≤ 121 ∧ os (k + 1 : Nat) - 1 - os k ≤ 6 := by decide +kernel
theorem os_sp : ∀ k : Nat, k < 24 → zWD.getD (os (k + 1 : Nat) - 1).toNat 32 = 32 := by decide +kernel
theorem os_no : ∀ k : Nat, k < 24 → ∀ i : Nat, i < 121 → os k ≤ (i : Int) → (i : Int) < os (k + 1 : Nat) - 1 → zWD.getD i 32 ≠ 32 := by decide +kernel
/-- whether the word stands in the tape -/
def mt (b : Nat → Int) (a q k : Int) : Prop := os (k + 1) - 1 - os k = q - a ∧ ∀ i : Int, 0 ≤ i → i < os (k + 1) - 1 - os k → zWD.getD (os k + i).toNat 32 = b (a + i).toNat

theorem mt_0 {b : Nat → Int} {a q : Int} (hall : ∀ i : Int, a ≤ i → i < q → fL (b i.toNat) = true) (h0 : a < q) (h6 : q - a ≤ 6) : mt b a q 0 ↔ 647430144 = cd b a q := by
  have e1 : os 0 = 0 := by decide +kernel
  have e2 : os (0 + 1) = 4 := by decide +kernel
  have a0 := cdd_in hall (i := 0) (by decide)
  have a1 := cdd_in hall (i := 1) (by decide)
  have a2 := cdd_in hall (i := 2) (by decide)
  have a3 := cdd_in hall (i := 3) (by decide)
  have a4 := cdd_in hall (i := 4) (by decide)
  have a5 := cdd_in hall (i := 5) (by decide)
  have p0 : a + 0 < q → cdd b a q 0 = b (a + 0).toNat - 96 ∧ 97 ≤ b (a + 0).toNat := fun h => ⟨cdd_1 h, (fL_i.mp (hall (a + 0) (by omega) h)).1⟩
  have z0 : ¬ a + 0 < q → cdd b a q 0 = 0 := fun h => cdd_0 h
  have p1 : a + 1 < q → cdd b a q 1 = b (a + 1).toNat - 96 ∧ 97 ≤ b (a + 1).toNat := fun h => ⟨cdd_1 h, (fL_i.mp (hall (a + 1) (by omega) h)).1⟩
  have z1 : ¬ a + 1 < q → cdd b a q 1 = 0 := fun h => cdd_0 h
  have p2 : a + 2 < q → cdd b a q 2 = b (a + 2).toNat - 96 ∧ 97 ≤ b (a + 2).toNat := fun h => ⟨cdd_1 h, (fL_i.mp (hall (a + 2) (by omega) h)).1⟩
  have z2 : ¬ a + 2 < q → cdd b a q 2 = 0 := fun h => cdd_0 h
  have p3 : a + 3 < q → cdd b a q 3 = b (a + 3).toNat - 96 ∧ 97 ≤ b (a + 3).toNat := fun h => ⟨cdd_1 h, (fL_i.mp (hall (a + 3) (by omega) h)).1⟩
  have z3 : ¬ a + 3 < q → cdd b a q 3 = 0 := fun h => cdd_0 h
  have p4 : a + 4 < q → cdd b a q 4 = b (a + 4).toNat - 96 ∧ 97 ≤ b (a + 4).toNat := fun h => ⟨cdd_1 h, (fL_i.mp (hall (a + 4) (by omega) h)).1⟩
  have z4 : ¬ a + 4 < q → cdd b a q 4 = 0 := fun h => cdd_0 h
  have p5 : a + 5 < q → cdd b a q 5 = b (a + 5).toNat - 96 ∧ 97 ≤ b (a + 5).toNat := fun h => ⟨cdd_1 h, (fL_i.mp (hall (a + 5) (by omega) h)).1⟩
  have z5 : ¬ a + 5 < q → cdd b a q 5 = 0 := fun h => cdd_0 h
  unfold mt
  rw [e1, e2]
  constructor
  · intro h
    obtain ⟨h1, h2⟩ := h
    have w0 := h2 0 (by decide) (by decide)
    rw [show zWD.getD ((0 : Int) + 0).toNat 32 = 115 by decide +kernel] at w0
    have w1 := h2 1 (by decide) (by decide)
    rw [show zWD.getD ((0 : Int) + 1).toNat 32 = 105 by decide +kernel] at w1
    have w2 := h2 2 (by decide) (by decide)
    rw [show zWD.getD ((0 : Int) + 2).toNat 32 = 110 by decide +kernel] at w2
    unfold cd
    have q0 := p0 (by omega)
    have q1 := p1 (by omega)
    have q2 := p2 (by omega)
    have q3 := z3 (by omega)
    have q4 := z4 (by omega)
    have q5 := z5 (by omega)
    omega
  · intro h
    unfold cd at h
    have d0 : cdd b a q 0 = 19 := by omega
    have d1 : cdd b a q 1 = 9 := by omega
    have d2 : cdd b a q 2 = 14 := by omega
    have d3 : cdd b a q 3 = 0 := by omega
    have d4 : cdd b a q 4 = 0 := by omega
    have d5 : cdd b a q 5 = 0 := by omega
    have hq : q - a = 3 := by omega
    refine ⟨by omega, fun i i1 i2 => ?_⟩
    rcases (show i = 0 ∨ i = 1 ∨ i = 2 by omega) with rfl | rfl | rfl
    · rw [show zWD.getD ((0 : Int) + 0).toNat 32 = 115 by decide +kernel]; have q0 := p0 (by omega); omega
    · rw [show zWD.getD ((0 : Int) + 1).toNat 32 = 105 by decide +kernel]; have q1 := p1 (by omega); omega
    · rw [show zWD.getD ((0 : Int) + 2).toNat 32 = 110 by decide +kernel]; have q2 := p2 (by omega); omega
theorem mt_1 {b : Nat → Int} {a q : Int} (hall : ∀ i : Int, a ≤ i → i < q → fL (b i.toNat) = true) (h0 : a < q) (h6 : q - a ≤ 6) : mt b a q 1 ↔ 542723566 = cd b a q := by
  have e1 : os 1 = 4 := by decide +kernel
  have e2 : os (1 + 1) = 11 := by decide +kernel
  have a0 := cdd_in hall (i := 0) (by decide)
  have a1 := cdd_in hall (i := 1) (by decide)
  have a2 := cdd_in hall (i := 2) (by decide)
  have a3 := cdd_in hall (i := 3) (by decide)
  have a4 := cdd_in hall (i := 4) (by decide)
  have a5 := cdd_in hall (i := 5) (by decide)
  have p0 : a + 0 < q → cdd b a q 0 = b (a + 0).toNat - 96 ∧ 97 ≤ b (a + 0).toNat := fun h => ⟨cdd_1 h, (fL_i.mp (hall (a + 0) (by omega) h)).1⟩
  have z0 : ¬ a + 0 < q → cdd b a q 0 = 0 := fun h => cdd_0 h
  have p1 : a + 1 < q → cdd b a q 1 = b (a + 1).toNat - 96 ∧ 97 ≤ b (a + 1).toNat := fun h => ⟨cdd_1 h, (fL_i.mp (hall (a + 1) (by omega) h)).1⟩
  have z1 : ¬ a + 1 < q → cdd b a q 1 = 0 := fun h => cdd_0 h
  have p2 : a + 2 < q → cdd b a q 2 = b (a + 2).toNat - 96 ∧ 97 ≤ b (a + 2).toNat := fun h => ⟨cdd_1 h, (fL_i.mp (hall (a + 2) (by omega) h)).1⟩
  have z2 : ¬ a + 2 < q → cdd b a q 2 = 0 := fun h => cdd_0 h
  have p3 : a + 3 < q → cdd b a q 3 = b (a + 3).toNat - 96 ∧ 97 ≤ b (a + 3).toNat := fun h => ⟨cdd_1 h, (fL_i.mp (hall (a + 3) (by omega) h)).1⟩
  have z3 : ¬ a + 3 < q → cdd b a q 3 = 0 := fun h => cdd_0 h
  have p4 : a + 4 < q → cdd b a q 4 = b (a + 4).toNat - 96 ∧ 97 ≤ b (a + 4).toNat := fun h => ⟨cdd_1 h, (fL_i.mp (hall (a + 4) (by omega) h)).1⟩
  have z4 : ¬ a + 4 < q → cdd b a q 4 = 0 := fun h => cdd_0 h
  have p5 : a + 5 < q → cdd b a q 5 = b (a + 5).toNat - 96 ∧ 97 ≤ b (a + 5).toNat := fun h => ⟨cdd_1 h, (fL_i.mp (hall (a + 5) (by omega) h)).1⟩
  have z5 : ¬ a + 5 < q → cdd b a q 5 = 0 := fun h => cdd_0 h
  unfold mt
  rw [e1, e2]
  constructor
  · intro h
    obtain ⟨h1, h2⟩ := h
    have w0 := h2 0 (by decide) (by decide)
    rw [show zWD.getD ((4 : Int) + 0).toNat 32 = 112 by decide +kernel] at w0
    have w1 := h2 1 (by decide) (by decide)
    rw [show zWD.getD ((4 : Int) + 1).toNat 32 = 101 by decide +kernel] at w1
    have w2 := h2 2 (by decide) (by decide)
    rw [show zWD.getD ((4 : Int) + 2).toNat 32 = 114 by decide +kernel] at w2
    have w3 := h2 3 (by decide) (by decide)
    rw [show zWD.getD ((4 : Int) + 3).toNat 32 = 115 by decide +kernel] at w3
    have w4 := h2 4 (by decide) (by decide)
    rw [show zWD.getD ((4 : Int) + 4).toNat 32 = 111 by decide +kernel] at w4
    have w5 := h2 5 (by decide) (by decide)
    rw [show zWD.getD ((4 : Int) + 5).toNat 32 = 110 by decide +kernel] at w5
    unfold cd
    have q0 := p0 (by omega)
    have q1 := p1 (by omega)
    have q2 := p2 (by omega)
    have q3 := p3 (by omega)
    have q4 := p4 (by omega)
    have q5 := p5 (by omega)
    omega
  · intro h
    unfold cd at h
    have d0 : cdd b a q 0 = 16 := by omega
    have d1 : cdd b a q 1 = 5 := by omega
    have d2 : cdd b a q 2 = 18 := by omega
    have d3 : cdd b a q 3 = 19 := by omega
    have d4 : cdd b a q 4 = 15 := by omega
    have d5 : cdd b a q 5 = 14 := by omega
    have hq : q - a = 6 := by omega
    refine ⟨by omega, fun i i1 i2 => ?_⟩
    rcases (show i = 0 ∨ i = 1 ∨ i = 2 ∨ i = 3 ∨ i = 4 ∨ i = 5 by omega) with rfl | rfl | rfl | rfl | rfl | rfl
    · rw [show zWD.getD ((4 : Int) + 0).toNat 32 = 112 by decide +kernel]; have q0 := p0 (by omega); omega
    · rw [show zWD.getD ((4 : Int) + 1).toNat 32 = 101 by decide +kernel]; have q1 := p1 (by omega); omega
    · rw [show zWD.getD ((4 : Int) + 2).toNat 32 = 114 by decide +kernel]; have q2 := p2 (by omega); omega
    · rw [show zWD.getD ((4 : Int) + 3).toNat 32 = 115 by decide +kernel]; have q3 := p3 (by omega); omega
    · rw [show zWD.getD ((4 : Int) + 4).toNat 32 = 111 by decide +kernel]; have q4 := p4 (by omega); omega
    · rw [show zWD.getD ((4 : Int) + 5).toNat 32 = 110 by decide +kernel]; have q5 := p5 (by omega); omega
theorem mt_2 {b : Nat → Int} {a q : Int} (hall : ∀ i : Int, a ≤ i → i < q → fL (b i.toNat) = true) (h0 : a < q) (h6 : q - a ≤ 6) : mt b a q 2 ↔ 102077440 = cd b a q := by
  have e1 : os 2 = 11 := by decide +kernel
  have e2 : os (2 + 1) = 16 := by decide +kernel
  have a0 := cdd_in hall (i := 0) (by decide)
  have a1 := cdd_in hall (i := 1) (by decide)
  have a2 := cdd_in hall (i := 2) (by decide)
  have a3 := cdd_in hall (i := 3) (by decide)
  have a4 := cdd_in hall (i := 4) (by decide)
  have a5 := cdd_in hall (i := 5) (by decide)
  have p0 : a + 0 < q → cdd b a q 0 = b (a + 0).toNat - 96 ∧ 97 ≤ b (a + 0).toNat := fun h => ⟨cdd_1 h, (fL_i.mp (hall (a + 0) (by omega) h)).1⟩
  have z0 : ¬ a + 0 < q → cdd b a q 0 = 0 := fun h => cdd_0 h
  have p1 : a + 1 < q → cdd b a q 1 = b (a + 1).toNat - 96 ∧ 97 ≤ b (a + 1).toNat := fun h => ⟨cdd_1 h, (fL_i.mp (hall (a + 1) (by omega) h)).1⟩
  have z1 : ¬ a + 1 < q → cdd b a q 1 = 0 := fun h => cdd_0 h
  have p2 : a + 2 < q → cdd b a q 2 = b (a + 2).toNat - 96 ∧ 97 ≤ b (a + 2).toNat := fun h => ⟨cdd_1 h, (fL_i.mp (hall (a + 2) (by omega) h)).1⟩
  have z2 : ¬ a + 2 < q → cdd b a q 2 = 0 := fun h => cdd_0 h
  have p3 : a + 3 < q → cdd b a q 3 = b (a + 3).toNat - 96 ∧ 97 ≤ b (a + 3).toNat := fun h => ⟨cdd_1 h, (fL_i.mp (hall (a + 3) (by omega) h)).1⟩
  have z3 : ¬ a + 3 < q → cdd b a q 3 = 0 := fun h => cdd_0 h
  have p4 : a + 4 < q → cdd b a q 4 = b (a + 4).toNat - 96 ∧ 97 ≤ b (a + 4).toNat := fun h => ⟨cdd_1 h, (fL_i.mp (hall (a + 4) (by omega) h)).1⟩
  have z4 : ¬ a + 4 < q → cdd b a q 4 = 0 := fun h => cdd_0 h
  have p5 : a + 5 < q → cdd b a q 5 = b (a + 5).toNat - 96 ∧ 97 ≤ b (a + 5).toNat := fun h => ⟨cdd_1 h, (fL_i.mp (hall (a + 5) (by omega) h)).1⟩
  have z5 : ¬ a + 5 < q → cdd b a q 5 = 0 := fun h => cdd_0 h
  unfold mt
  rw [e1, e2]
  constructor
  · intro h
    obtain ⟨h1, h2⟩ := h
    have w0 := h2 0 (by decide) (by decide)
    rw [show zWD.getD ((11 : Int) + 0).toNat 32 = 99 by decide +kernel] at w0
    have w1 := h2 1 (by decide) (by decide)
    rw [show zWD.getD ((11 : Int) + 1).toNat 32 = 97 by decide +kernel] at w1
    have w2 := h2 2 (by decide) (by decide)
    rw [show zWD.getD ((11 : Int) + 2).toNat 32 = 107 by decide +kernel] at w2
    have w3 := h2 3 (by decide) (by decide)
    rw [show zWD.getD ((11 : Int) + 3).toNat 32 = 101 by decide +kernel] at w3
    unfold cd
    have q0 := p0 (by omega)
    have q1 := p1 (by omega)
    have q2 := p2 (by omega)
    have q3 := p3 (by omega)
    have q4 := z4 (by omega)
    have q5 := z5 (by omega)
    omega
  · intro h
    unfold cd at h
    have d0 : cdd b a q 0 = 3 := by omega
    have d1 : cdd b a q 1 = 1 := by omega
    have d2 : cdd b a q 2 = 11 := by omega
    have d3 : cdd b a q 3 = 5 := by omega
    have d4 : cdd b a q 4 = 0 := by omega
    have d5 : cdd b a q 5 = 0 := by omega
    have hq : q - a = 4 := by omega
    refine ⟨by omega, fun i i1 i2 => ?_⟩
    rcases (show i = 0 ∨ i = 1 ∨ i = 2 ∨ i = 3 by omega) with rfl | rfl | rfl | rfl
    · rw [show zWD.getD ((11 : Int) + 0).toNat 32 = 99 by decide +kernel]; have q0 := p0 (by omega); omega
    · rw [show zWD.getD ((11 : Int) + 1).toNat 32 = 97 by decide +kernel]; have q1 := p1 (by omega); omega
    · rw [show zWD.getD ((11 : Int) + 2).toNat 32 = 107 by decide +kernel]; have q2 := p2 (by omega); omega
    · rw [show zWD.getD ((11 : Int) + 3).toNat 32 = 101 by decide +kernel]; have q3 := p3 (by omega); omega
theorem mt_3 {b : Nat → Int} {a q : Int} (hall : ∀ i : Int, a ≤ i → i < q → fL (b i.toNat) = true) (h0 : a < q) (h6 : q - a ≤ 6) : mt b a q 3 ↔ 253797824 = cd b a q := by
  have e1 : os 3 = 16 := by decide +kernel
  have e2 : os (3 + 1) = 22 := by decide +kernel
  have a0 := cdd_in hall (i := 0) (by decide)
  have a1 := cdd_in hall (i := 1) (by decide)
  have a2 := cdd_in hall (i := 2) (by decide)
  have a3 := cdd_in hall (i := 3) (by decide)
  have a4 := cdd_in hall (i := 4) (by decide)
  have a5 := cdd_in hall (i := 5) (by decide)
  have p0 : a + 0 < q → cdd b a q 0 = b (a + 0).toNat - 96 ∧ 97 ≤ b (a + 0).toNat := fun h => ⟨cdd_1 h, (fL_i.mp (hall (a + 0) (by omega) h)).1⟩
  have z0 : ¬ a + 0 < q → cdd b a q 0 = 0 := fun h => cdd_0 h
  have p1 : a + 1 < q → cdd b a q 1 = b (a + 1).toNat - 96 ∧ 97 ≤ b (a + 1).toNat := fun h => ⟨cdd_1 h, (fL_i.mp (hall (a + 1) (by omega) h)).1⟩
  have z1 : ¬ a + 1 < q → cdd b a q 1 = 0 := fun h => cdd_0 h
  have p2 : a + 2 < q → cdd b a q 2 = b (a + 2).toNat - 96 ∧ 97 ≤ b (a + 2).toNat := fun h => ⟨cdd_1 h, (fL_i.mp (hall (a + 2) (by omega) h)).1⟩
  have z2 : ¬ a + 2 < q → cdd b a q 2 = 0 := fun h => cdd_0 h
  have p3 : a + 3 < q → cdd b a q 3 = b (a + 3).toNat - 96 ∧ 97 ≤ b (a + 3).toNat := fun h => ⟨cdd_1 h, (fL_i.mp (hall (a + 3) (by omega) h)).1⟩
  have z3 : ¬ a + 3 < q → cdd b a q 3 = 0 := fun h => cdd_0 h
  have p4 : a + 4 < q → cdd b a q 4 = b (a + 4).toNat - 96 ∧ 97 ≤ b (a + 4).toNat := fun h => ⟨cdd_1 h, (fL_i.mp (hall (a + 4) (by omega) h)).1⟩
  have z4 : ¬ a + 4 < q → cdd b a q 4 = 0 := fun h => cdd_0 h
  have p5 : a + 5 < q → cdd b a q 5 = b (a + 5).toNat - 96 ∧ 97 ≤ b (a + 5).toNat := fun h => ⟨cdd_1 h, (fL_i.mp (hall (a + 5) (by omega) h)).1⟩
  have z5 : ¬ a + 5 < q → cdd b a q 5 = 0 := fun h => cdd_0 h
  unfold mt
  rw [e1, e2]
  constructor
  · intro h
    obtain ⟨h1, h2⟩ := h
    have w0 := h2 0 (by decide) (by decide)
    rw [show zWD.getD ((16 : Int) + 0).toNat 32 = 103 by decide +kernel] at w0
    have w1 := h2 1 (by decide) (by decide)
    rw [show zWD.getD ((16 : Int) + 1).toNat 32 = 114 by decide +kernel] at w1
    have w2 := h2 2 (by decide) (by decide)
    rw [show zWD.getD ((16 : Int) + 2).toNat 32 = 97 by decide +kernel] at w2
    have w3 := h2 3 (by decide) (by decide)
    rw [show zWD.getD ((16 : Int) + 3).toNat 32 = 105 by decide +kernel] at w3
    have w4 := h2 4 (by decide) (by decide)
    rw [show zWD.getD ((16 : Int) + 4).toNat 32 = 110 by decide +kernel] at w4
    unfold cd
    have q0 := p0 (by omega)
    have q1 := p1 (by omega)
    have q2 := p2 (by omega)
    have q3 := p3 (by omega)
    have q4 := p4 (by omega)
    have q5 := z5 (by omega)
    omega
  · intro h
    unfold cd at h
    have d0 : cdd b a q 0 = 7 := by omega
    have d1 : cdd b a q 1 = 18 := by omega
    have d2 : cdd b a q 2 = 1 := by omega
    have d3 : cdd b a q 3 = 9 := by omega
    have d4 : cdd b a q 4 = 14 := by omega
    have d5 : cdd b a q 5 = 0 := by omega
    have hq : q - a = 5 := by omega
    refine ⟨by omega, fun i i1 i2 => ?_⟩
    rcases (show i = 0 ∨ i = 1 ∨ i = 2 ∨ i = 3 ∨ i = 4 by omega) with rfl | rfl | rfl | rfl | rfl
    · rw [show zWD.getD ((16 : Int) + 0).toNat 32 = 103 by decide +kernel]; have q0 := p0 (by omega); omega
    · rw [show zWD.getD ((16 : Int) + 1).toNat 32 = 114 by decide +kernel]; have q1 := p1 (by omega); omega
    · rw [show zWD.getD ((16 : Int) + 2).toNat 32 = 97 by decide +kernel]; have q2 := p2 (by omega); omega
    · rw [show zWD.getD ((16 : Int) + 3).toNat 32 = 105 by decide +kernel]; have q3 := p3 (by omega); omega
    · rw [show zWD.getD ((16 : Int) + 4).toNat 32 = 110 by decide +kernel]; have q4 := p4 (by omega); omega
theorem mt_4 {b : Nat → Int} {a q : Int} (hall : ∀ i : Int, a ≤ i → i < q → fL (b i.toNat) = true) (h0 : a < q) (h6 : q - a ≤ 6) : mt b a q 4 ↔ 254070400 = cd b a q := by
  have e1 : os 4 = 22 := by decide +kernel
  have e2 : os (4 + 1) = 28 := by decide +kernel
  have a0 := cdd_in hall (i := 0) (by decide)
  have a1 := cdd_in hall (i := 1) (by decide)
  have a2 := cdd_in hall (i := 2) (by decide)
  have a3 := cdd_in hall (i := 3) (by decide)
  have a4 := cdd_in hall (i := 4) (by decide)
  have a5 := cdd_in hall (i := 5) (by decide)
  have p0 : a + 0 < q → cdd b a q 0 = b (a + 0).toNat - 96 ∧ 97 ≤ b (a + 0).toNat := fun h => ⟨cdd_1 h, (fL_i.mp (hall (a + 0) (by omega) h)).1⟩
  have z0 : ¬ a + 0 < q → cdd b a q 0 = 0 := fun h => cdd_0 h
  have p1 : a + 1 < q → cdd b a q 1 = b (a + 1).toNat - 96 ∧ 97 ≤ b (a + 1).toNat := fun h => ⟨cdd_1 h, (fL_i.mp (hall (a + 1) (by omega) h)).1⟩
  have z1 : ¬ a + 1 < q → cdd b a q 1 = 0 := fun h => cdd_0 h
  have p2 : a + 2 < q → cdd b a q 2 = b (a + 2).toNat - 96 ∧ 97 ≤ b (a + 2).toNat := fun h => ⟨cdd_1 h, (fL_i.mp (hall (a + 2) (by omega) h)).1⟩
  have z2 : ¬ a + 2 < q → cdd b a q 2 = 0 := fun h => cdd_0 h
  have p3 : a + 3 < q → cdd b a q 3 = b (a + 3).toNat - 96 ∧ 97 ≤ b (a + 3).toNat := fun h => ⟨cdd_1 h, (fL_i.mp (hall (a + 3) (by omega) h)).1⟩
  have z3 : ¬ a + 3 < q → cdd b a q 3 = 0 := fun h => cdd_0 h
  have p4 : a + 4 < q → cdd b a q 4 = b (a + 4).toNat - 96 ∧ 97 ≤ b (a + 4).toNat := fun h => ⟨cdd_1 h, (fL_i.mp (hall (a + 4) (by omega) h)).1⟩
  have z4 : ¬ a + 4 < q → cdd b a q 4 = 0 := fun h => cdd_0 h
  have p5 : a + 5 < q → cdd b a q 5 = b (a + 5).toNat - 96 ∧ 97 ≤ b (a + 5).toNat := fun h => ⟨cdd_1 h, (fL_i.mp (hall (a + 5) (by omega) h)).1⟩
  have z5 : ¬ a + 5 < q → cdd b a q 5 = 0 := fun h => cdd_0 h
  unfold mt
  rw [e1, e2]
  constructor
  · intro h
    obtain ⟨h1, h2⟩ := h
    have w0 := h2 0 (by decide) (by decide)
    rw [show zWD.getD ((22 : Int) + 0).toNat 32 = 103 by decide +kernel] at w0
    have w1 := h2 1 (by decide) (by decide)
    rw [show zWD.getD ((22 : Int) + 1).toNat 32 = 114 by decide +kernel] at w1
    have w2 := h2 2 (by decide) (by decide)
    rw [show zWD.getD ((22 : Int) + 2).toNat 32 = 105 by decide +kernel] at w2
    have w3 := h2 3 (by decide) (by decide)
    rw [show zWD.getD ((22 : Int) + 3).toNat 32 = 115 by decide +kernel] at w3
    have w4 := h2 4 (by decide) (by decide)
    rw [show zWD.getD ((22 : Int) + 4).toNat 32 = 116 by decide +kernel] at w4
    unfold cd
    have q0 := p0 (by omega)
    have q1 := p1 (by omega)
    have q2 := p2 (by omega)
    have q3 := p3 (by omega)
    have q4 := p4 (by omega)
    have q5 := z5 (by omega)
    omega
  · intro h
    unfold cd at h
    have d0 : cdd b a q 0 = 7 := by omega
    have d1 : cdd b a q 1 = 18 := by omega
    have d2 : cdd b a q 2 = 9 := by omega
    have d3 : cdd b a q 3 = 19 := by omega
    have d4 : cdd b a q 4 = 20 := by omega
    have d5 : cdd b a q 5 = 0 := by omega
    have hq : q - a = 5 := by omega
    refine ⟨by omega, fun i i1 i2 => ?_⟩
    rcases (show i = 0 ∨ i = 1 ∨ i = 2 ∨ i = 3 ∨ i = 4 by omega) with rfl | rfl | rfl | rfl | rfl
    · rw [show zWD.getD ((22 : Int) + 0).toNat 32 = 103 by decide +kernel]; have q0 := p0 (by omega); omega
    · rw [show zWD.getD ((22 : Int) + 1).toNat 32 = 114 by decide +kernel]; have q1 := p1 (by omega); omega
    · rw [show zWD.getD ((22 : Int) + 2).toNat 32 = 105 by decide +kernel]; have q2 := p2 (by omega); omega
    · rw [show zWD.getD ((22 : Int) + 3).toNat 32 = 115 by decide +kernel]; have q3 := p3 (by omega); omega
    · rw [show zWD.getD ((22 : Int) + 4).toNat 32 = 116 by decide +kernel]; have q4 := p4 (by omega); omega
theorem mt_5 {b : Nat → Int} {a q : Int} (hall : ∀ i : Int, a ≤ i → i < q → fL (b i.toNat) = true) (h0 : a < q) (h6 : q - a ≤ 6) : mt b a q 5 ↔ 659011744 = cd b a q := by
  have e1 : os 5 = 28 := by decide +kernel
  have e2 : os (5 + 1) = 34 := by decide +kernel
  have a0 := cdd_in hall (i := 0) (by decide)
  have a1 := cdd_in hall (i := 1) (by decide)
  have a2 := cdd_in hall (i := 2) (by decide)
  have a3 := cdd_in hall (i := 3) (by decide)
  have a4 := cdd_in hall (i := 4) (by decide)
  have a5 := cdd_in hall (i := 5) (by decide)
  have p0 : a + 0 < q → cdd b a q 0 = b (a + 0).toNat - 96 ∧ 97 ≤ b (a + 0).toNat := fun h => ⟨cdd_1 h, (fL_i.mp (hall (a + 0) (by omega) h)).1⟩
  have z0 : ¬ a + 0 < q → cdd b a q 0 = 0 := fun h => cdd_0 h
  have p1 : a + 1 < q → cdd b a q 1 = b (a + 1).toNat - 96 ∧ 97 ≤ b (a + 1).toNat := fun h => ⟨cdd_1 h, (fL_i.mp (hall (a + 1) (by omega) h)).1⟩
  have z1 : ¬ a + 1 < q → cdd b a q 1 = 0 := fun h => cdd_0 h
  have p2 : a + 2 < q → cdd b a q 2 = b (a + 2).toNat - 96 ∧ 97 ≤ b (a + 2).toNat := fun h => ⟨cdd_1 h, (fL_i.mp (hall (a + 2) (by omega) h)).1⟩
  have z2 : ¬ a + 2 < q → cdd b a q 2 = 0 := fun h => cdd_0 h
  have p3 : a + 3 < q → cdd b a q 3 = b (a + 3).toNat - 96 ∧ 97 ≤ b (a + 3).toNat := fun h => ⟨cdd_1 h, (fL_i.mp (hall (a + 3) (by omega) h)).1⟩
  have z3 : ¬ a + 3 < q → cdd b a q 3 = 0 := fun h => cdd_0 h
  have p4 : a + 4 < q → cdd b a q 4 = b (a + 4).toNat - 96 ∧ 97 ≤ b (a + 4).toNat := fun h => ⟨cdd_1 h, (fL_i.mp (hall (a + 4) (by omega) h)).1⟩
  have z4 : ¬ a + 4 < q → cdd b a q 4 = 0 := fun h => cdd_0 h
  have p5 : a + 5 < q → cdd b a q 5 = b (a + 5).toNat - 96 ∧ 97 ≤ b (a + 5).toNat := fun h => ⟨cdd_1 h, (fL_i.mp (hall (a + 5) (by omega) h)).1⟩
  have z5 : ¬ a + 5 < q → cdd b a q 5 = 0 := fun h => cdd_0 h
  unfold mt
  rw [e1, e2]
  constructor
  · intro h
    obtain ⟨h1, h2⟩ := h
    have w0 := h2 0 (by decide) (by decide)
    rw [show zWD.getD ((28 : Int) + 0).toNat 32 = 115 by decide +kernel] at w0
    have w1 := h2 1 (by decide) (by decide)
    rw [show zWD.getD ((28 : Int) + 1).toNat 32 = 116 by decide +kernel] at w1
    have w2 := h2 2 (by decide) (by decide)
    rw [show zWD.getD ((28 : Int) + 2).toNat 32 = 111 by decide +kernel] at w2
    have w3 := h2 3 (by decide) (by decide)
    rw [show zWD.getD ((28 : Int) + 3).toNat 32 = 110 by decide +kernel] at w3
    have w4 := h2 4 (by decide) (by decide)
    rw [show zWD.getD ((28 : Int) + 4).toNat 32 = 101 by decide +kernel] at w4
    unfold cd
    have q0 := p0 (by omega)
    have q1 := p1 (by omega)
    have q2 := p2 (by omega)
    have q3 := p3 (by omega)
    have q4 := p4 (by omega)
    have q5 := z5 (by omega)
    omega
  · intro h
    unfold cd at h
    have d0 : cdd b a q 0 = 19 := by omega
    have d1 : cdd b a q 1 = 20 := by omega
    have d2 : cdd b a q 2 = 15 := by omega
    have d3 : cdd b a q 3 = 14 := by omega
    have d4 : cdd b a q 4 = 5 := by omega
    have d5 : cdd b a q 5 = 0 := by omega
    have hq : q - a = 5 := by omega
    refine ⟨by omega, fun i i1 i2 => ?_⟩
    rcases (show i = 0 ∨ i = 1 ∨ i = 2 ∨ i = 3 ∨ i = 4 by omega) with rfl | rfl | rfl | rfl | rfl
    · rw [show zWD.getD ((28 : Int) + 0).toNat 32 = 115 by decide +kernel]; have q0 := p0 (by omega); omega
    · rw [show zWD.getD ((28 : Int) + 1).toNat 32 = 116 by decide +kernel]; have q1 := p1 (by omega); omega
    · rw [show zWD.getD ((28 : Int) + 2).toNat 32 = 111 by decide +kernel]; have q2 := p2 (by omega); omega
    · rw [show zWD.getD ((28 : Int) + 3).toNat 32 = 110 by decide +kernel]; have q3 := p3 (by omega); omega
    · rw [show zWD.getD ((28 : Int) + 4).toNat 32 = 101 by decide +kernel]; have q4 := p4 (by omega); omega
theorem mt_6 {b : Nat → Int} {a q : Int} (hall : ∀ i : Int, a ≤ i → i < q → fL (b i.toNat) = true) (h0 : a < q) (h6 : q - a ≤ 6) : mt b a q 6 ↔ 642945024 = cd b a q := by
  have e1 : os 6 = 34 := by decide +kernel
  have e2 : os (6 + 1) = 39 := by decide +kernel
  have a0 := cdd_in hall (i := 0) (by decide)
  have a1 := cdd_in hall (i := 1) (by decide)
  have a2 := cdd_in hall (i := 2) (by decide)
  have a3 := cdd_in hall (i := 3) (by decide)
  have a4 := cdd_in hall (i := 4) (by decide)
  have a5 := cdd_in hall (i := 5) (by decide)
  have p0 : a + 0 < q → cdd b a q 0 = b (a + 0).toNat - 96 ∧ 97 ≤ b (a + 0).toNat := fun h => ⟨cdd_1 h, (fL_i.mp (hall (a + 0) (by omega) h)).1⟩
  have z0 : ¬ a + 0 < q → cdd b a q 0 = 0 := fun h => cdd_0 h
  have p1 : a + 1 < q → cdd b a q 1 = b (a + 1).toNat - 96 ∧ 97 ≤ b (a + 1).toNat := fun h => ⟨cdd_1 h, (fL_i.mp (hall (a + 1) (by omega) h)).1⟩
  have z1 : ¬ a + 1 < q → cdd b a q 1 = 0 := fun h => cdd_0 h
  have p2 : a + 2 < q → cdd b a q 2 = b (a + 2).toNat - 96 ∧ 97 ≤ b (a + 2).toNat := fun h => ⟨cdd_1 h, (fL_i.mp (hall (a + 2) (by omega) h)).1⟩
  have z2 : ¬ a + 2 < q → cdd b a q 2 = 0 := fun h => cdd_0 h
  have p3 : a + 3 < q → cdd b a q 3 = b (a + 3).toNat - 96 ∧ 97 ≤ b (a + 3).toNat := fun h => ⟨cdd_1 h, (fL_i.mp (hall (a + 3) (by omega) h)).1⟩
  have z3 : ¬ a + 3 < q → cdd b a q 3 = 0 := fun h => cdd_0 h
  have p4 : a + 4 < q → cdd b a q 4 = b (a + 4).toNat - 96 ∧ 97 ≤ b (a + 4).toNat := fun h => ⟨cdd_1 h, (fL_i.mp (hall (a + 4) (by omega) h)).1⟩
  have z4 : ¬ a + 4 < q → cdd b a q 4 = 0 := fun h => cdd_0 h
  have p5 : a + 5 < q → cdd b a q 5 = b (a + 5).toNat - 96 ∧ 97 ≤ b (a + 5).toNat := fun h => ⟨cdd_1 h, (fL_i.mp (hall (a + 5) (by omega) h)).1⟩
  have z5 : ¬ a + 5 < q → cdd b a q 5 = 0 := fun h => cdd_0 h
  unfold mt
  rw [e1, e2]
  constructor
  · intro h
    obtain ⟨h1, h2⟩ := h
    have w0 := h2 0 (by decide) (by decide)
    rw [show zWD.getD ((34 : Int) + 0).toNat 32 = 115 by decide +kernel] at w0
    have w1 := h2 1 (by decide) (by decide)
    rw [show zWD.getD ((34 : Int) + 1).toNat 32 = 101 by decide +kernel] at w1
    have w2 := h2 2 (by decide) (by decide)
    rw [show zWD.getD ((34 : Int) + 2).toNat 32 = 101 by decide +kernel] at w2
    have w3 := h2 3 (by decide) (by decide)
    rw [show zWD.getD ((34 : Int) + 3).toNat 32 = 100 by decide +kernel] at w3
    unfold cd
    have q0 := p0 (by omega)
    have q1 := p1 (by omega)
    have q2 := p2 (by omega)
    have q3 := p3 (by omega)
    have q4 := z4 (by omega)
    have q5 := z5 (by omega)
    omega
  · intro h
    unfold cd at h
    have d0 : cdd b a q 0 = 19 := by omega
    have d1 : cdd b a q 1 = 5 := by omega
    have d2 : cdd b a q 2 = 5 := by omega
    have d3 : cdd b a q 3 = 4 := by omega
    have d4 : cdd b a q 4 = 0 := by omega
    have d5 : cdd b a q 5 = 0 := by omega
    have hq : q - a = 4 := by omega
    refine ⟨by omega, fun i i1 i2 => ?_⟩
    rcases (show i = 0 ∨ i = 1 ∨ i = 2 ∨ i = 3 by omega) with rfl | rfl | rfl | rfl
    · rw [show zWD.getD ((34 : Int) + 0).toNat 32 = 115 by decide +kernel]; have q0 := p0 (by omega); omega
    · rw [show zWD.getD ((34 : Int) + 1).toNat 32 = 101 by decide +kernel]; have q1 := p1 (by omega); omega
    · rw [show zWD.getD ((34 : Int) + 2).toNat 32 = 101 by decide +kernel]; have q2 := p2 (by omega); omega
    · rw [show zWD.getD ((34 : Int) + 3).toNat 32 = 100 by decide +kernel]; have q3 := p3 (by omega); omega
theorem mt_7 {b : Nat → Int} {a q : Int} (hall : ∀ i : Int, a ≤ i → i < q → fL (b i.toNat) = true) (h0 : a < q) (h6 : q - a ≤ 6) : mt b a q 7 ↔ 404455424 = cd b a q := by
  have e1 : os 7 = 39 := by decide +kernel
  have e2 : os (7 + 1) = 43 := by decide +kernel
  have a0 := cdd_in hall (i := 0) (by decide)
  have a1 := cdd_in hall (i := 1) (by decide)
  have a2 := cdd_in hall (i := 2) (by decide)
  have a3 := cdd_in hall (i := 3) (by decide)
  have a4 := cdd_in hall (i := 4) (by decide)
  have a5 := cdd_in hall (i := 5) (by decide)
  have p0 : a + 0 < q → cdd b a q 0 = b (a + 0).toNat - 96 ∧ 97 ≤ b (a + 0).toNat := fun h => ⟨cdd_1 h, (fL_i.mp (hall (a + 0) (by omega) h)).1⟩
  have z0 : ¬ a + 0 < q → cdd b a q 0 = 0 := fun h => cdd_0 h
  have p1 : a + 1 < q → cdd b a q 1 = b (a + 1).toNat - 96 ∧ 97 ≤ b (a + 1).toNat := fun h => ⟨cdd_1 h, (fL_i.mp (hall (a + 1) (by omega) h)).1⟩
  have z1 : ¬ a + 1 < q → cdd b a q 1 = 0 := fun h => cdd_0 h
  have p2 : a + 2 < q → cdd b a q 2 = b (a + 2).toNat - 96 ∧ 97 ≤ b (a + 2).toNat := fun h => ⟨cdd_1 h, (fL_i.mp (hall (a + 2) (by omega) h)).1⟩
  have z2 : ¬ a + 2 < q → cdd b a q 2 = 0 := fun h => cdd_0 h
  have p3 : a + 3 < q → cdd b a q 3 = b (a + 3).toNat - 96 ∧ 97 ≤ b (a + 3).toNat := fun h => ⟨cdd_1 h, (fL_i.mp (hall (a + 3) (by omega) h)).1⟩
  have z3 : ¬ a + 3 < q → cdd b a q 3 = 0 := fun h => cdd_0 h
  have p4 : a + 4 < q → cdd b a q 4 = b (a + 4).toNat - 96 ∧ 97 ≤ b (a + 4).toNat := fun h => ⟨cdd_1 h, (fL_i.mp (hall (a + 4) (by omega) h)).1⟩
  have z4 : ¬ a + 4 < q → cdd b a q 4 = 0 := fun h => cdd_0 h
  have p5 : a + 5 < q → cdd b a q 5 = b (a + 5).toNat - 96 ∧ 97 ≤ b (a + 5).toNat := fun h => ⟨cdd_1 h, (fL_i.mp (hall (a + 5) (by omega) h)).1⟩
  have z5 : ¬ a + 5 < q → cdd b a q 5 = 0 := fun h => cdd_0 h
  unfold mt
  rw [e1, e2]
  constructor
  · intro h
    obtain ⟨h1, h2⟩ := h
    have w0 := h2 0 (by decide) (by decide)
    rw [show zWD.getD ((39 : Int) + 0).toNat 32 = 108 by decide +kernel] at w0
    have w1 := h2 1 (by decide) (by decide)
    rw [show zWD.getD ((39 : Int) + 1).toNat 32 = 97 by decide +kernel] at w1
    have w2 := h2 2 (by decide) (by decide)
    rw [show zWD.getD ((39 : Int) + 2).toNat 32 = 119 by decide +kernel] at w2
    unfold cd
    have q0 := p0 (by omega)
    have q1 := p1 (by omega)
    have q2 := p2 (by omega)
    have q3 := z3 (by omega)
    have q4 := z4 (by omega)
    have q5 := z5 (by omega)
    omega
  · intro h
    unfold cd at h
    have d0 : cdd b a q 0 = 12 := by omega
    have d1 : cdd b a q 1 = 1 := by omega
    have d2 : cdd b a q 2 = 23 := by omega
    have d3 : cdd b a q 3 = 0 := by omega
    have d4 : cdd b a q 4 = 0 := by omega
    have d5 : cdd b a q 5 = 0 := by omega
    have hq : q - a = 3 := by omega
    refine ⟨by omega, fun i i1 i2 => ?_⟩
    rcases (show i = 0 ∨ i = 1 ∨ i = 2 by omega) with rfl | rfl | rfl
    · rw [show zWD.getD ((39 : Int) + 0).toNat 32 = 108 by decide +kernel]; have q0 := p0 (by omega); omega
    · rw [show zWD.getD ((39 : Int) + 1).toNat 32 = 97 by decide +kernel]; have q1 := p1 (by omega); omega
    · rw [show zWD.getD ((39 : Int) + 2).toNat 32 = 119 by decide +kernel]; have q2 := p2 (by omega); omega
theorem mt_8 {b : Nat → Int} {a q : Int} (hall : ∀ i : Int, a ≤ i → i < q → fL (b i.toNat) = true) (h0 : a < q) (h6 : q - a ≤ 6) : mt b a q 8 ↔ 438075392 = cd b a q := by
  have e1 : os 8 = 43 := by decide +kernel
  have e2 : os (8 + 1) = 47 := by decide +kernel
  have a0 := cdd_in hall (i := 0) (by decide)
  have a1 := cdd_in hall (i := 1) (by decide)
  have a2 := cdd_in hall (i := 2) (by decide)
  have a3 := cdd_in hall (i := 3) (by decide)
  have a4 := cdd_in hall (i := 4) (by decide)
  have a5 := cdd_in hall (i := 5) (by decide)
  have p0 : a + 0 < q → cdd b a q 0 = b (a + 0).toNat - 96 ∧ 97 ≤ b (a + 0).toNat := fun h => ⟨cdd_1 h, (fL_i.mp (hall (a + 0) (by omega) h)).1⟩
  have z0 : ¬ a + 0 < q → cdd b a q 0 = 0 := fun h => cdd_0 h
  have p1 : a + 1 < q → cdd b a q 1 = b (a + 1).toNat - 96 ∧ 97 ≤ b (a + 1).toNat := fun h => ⟨cdd_1 h, (fL_i.mp (hall (a + 1) (by omega) h)).1⟩
  have z1 : ¬ a + 1 < q → cdd b a q 1 = 0 := fun h => cdd_0 h
  have p2 : a + 2 < q → cdd b a q 2 = b (a + 2).toNat - 96 ∧ 97 ≤ b (a + 2).toNat := fun h => ⟨cdd_1 h, (fL_i.mp (hall (a + 2) (by omega) h)).1⟩
  have z2 : ¬ a + 2 < q → cdd b a q 2 = 0 := fun h => cdd_0 h
  have p3 : a + 3 < q → cdd b a q 3 = b (a + 3).toNat - 96 ∧ 97 ≤ b (a + 3).toNat := fun h => ⟨cdd_1 h, (fL_i.mp (hall (a + 3) (by omega) h)).1⟩
  have z3 : ¬ a + 3 < q → cdd b a q 3 = 0 := fun h => cdd_0 h
  have p4 : a + 4 < q → cdd b a q 4 = b (a + 4).toNat - 96 ∧ 97 ≤ b (a + 4).toNat := fun h => ⟨cdd_1 h, (fL_i.mp (hall (a + 4) (by omega) h)).1⟩
  have z4 : ¬ a + 4 < q → cdd b a q 4 = 0 := fun h => cdd_0 h
  have p5 : a + 5 < q → cdd b a q 5 = b (a + 5).toNat - 96 ∧ 97 ≤ b (a + 5).toNat := fun h => ⟨cdd_1 h, (fL_i.mp (hall (a + 5) (by omega) h)).1⟩
  have z5 : ¬ a + 5 < q → cdd b a q 5 = 0 := fun h => cdd_0 h
  unfold mt
  rw [e1, e2]
  constructor
  · intro h
    obtain ⟨h1, h2⟩ := h
    have w0 := h2 0 (by decide) (by decide)
    rw [show zWD.getD ((43 : Int) + 0).toNat 32 = 109 by decide +kernel] at w0
    have w1 := h2 1 (by decide) (by decide)
    rw [show zWD.getD ((43 : Int) + 1).toNat 32 = 97 by decide +kernel] at w1
    have w2 := h2 2 (by decide) (by decide)
    rw [show zWD.getD ((43 : Int) + 2).toNat 32 = 121 by decide +kernel] at w2
    unfold cd
    have q0 := p0 (by omega)
    have q1 := p1 (by omega)
    have q2 := p2 (by omega)
    have q3 := z3 (by omega)
    have q4 := z4 (by omega)
    have q5 := z5 (by omega)
    omega
  · intro h
    unfold cd at h
    have d0 : cdd b a q 0 = 13 := by omega
    have d1 : cdd b a q 1 = 1 := by omega
    have d2 : cdd b a q 2 = 25 := by omega
    have d3 : cdd b a q 3 = 0 := by omega
    have d4 : cdd b a q 4 = 0 := by omega
    have d5 : cdd b a q 5 = 0 := by omega
    have hq : q - a = 3 := by omega
    refine ⟨by omega, fun i i1 i2 => ?_⟩
    rcases (show i = 0 ∨ i = 1 ∨ i = 2 by omega) with rfl | rfl | rfl
    · rw [show zWD.getD ((43 : Int) + 0).toNat 32 = 109 by decide +kernel]; have q0 := p0 (by omega); omega
    · rw [show zWD.getD ((43 : Int) + 1).toNat 32 = 97 by decide +kernel]; have q1 := p1 (by omega); omega
    · rw [show zWD.getD ((43 : Int) + 2).toNat 32 = 121 by decide +kernel]; have q2 := p2 (by omega); omega
theorem mt_9 {b : Nat → Int} {a q : Int} (hall : ∀ i : Int, a ≤ i → i < q → fL (b i.toNat) = true) (h0 : a < q) (h6 : q - a ≤ 6) : mt b a q 9 ↔ 143785984 = cd b a q := by
  have e1 : os 9 = 47 := by decide +kernel
  have e2 : os (9 + 1) = 51 := by decide +kernel
  have a0 := cdd_in hall (i := 0) (by decide)
  have a1 := cdd_in hall (i := 1) (by decide)
  have a2 := cdd_in hall (i := 2) (by decide)
  have a3 := cdd_in hall (i := 3) (by decide)
  have a4 := cdd_in hall (i := 4) (by decide)
  have a5 := cdd_in hall (i := 5) (by decide)
  have p0 : a + 0 < q → cdd b a q 0 = b (a + 0).toNat - 96 ∧ 97 ≤ b (a + 0).toNat := fun h => ⟨cdd_1 h, (fL_i.mp (hall (a + 0) (by omega) h)).1⟩
  have z0 : ¬ a + 0 < q → cdd b a q 0 = 0 := fun h => cdd_0 h
  have p1 : a + 1 < q → cdd b a q 1 = b (a + 1).toNat - 96 ∧ 97 ≤ b (a + 1).toNat := fun h => ⟨cdd_1 h, (fL_i.mp (hall (a + 1) (by omega) h)).1⟩
  have z1 : ¬ a + 1 < q → cdd b a q 1 = 0 := fun h => cdd_0 h
  have p2 : a + 2 < q → cdd b a q 2 = b (a + 2).toNat - 96 ∧ 97 ≤ b (a + 2).toNat := fun h => ⟨cdd_1 h, (fL_i.mp (hall (a + 2) (by omega) h)).1⟩
  have z2 : ¬ a + 2 < q → cdd b a q 2 = 0 := fun h => cdd_0 h
  have p3 : a + 3 < q → cdd b a q 3 = b (a + 3).toNat - 96 ∧ 97 ≤ b (a + 3).toNat := fun h => ⟨cdd_1 h, (fL_i.mp (hall (a + 3) (by omega) h)).1⟩
  have z3 : ¬ a + 3 < q → cdd b a q 3 = 0 := fun h => cdd_0 h
  have p4 : a + 4 < q → cdd b a q 4 = b (a + 4).toNat - 96 ∧ 97 ≤ b (a + 4).toNat := fun h => ⟨cdd_1 h, (fL_i.mp (hall (a + 4) (by omega) h)).1⟩
  have z4 : ¬ a + 4 < q → cdd b a q 4 = 0 := fun h => cdd_0 h
  have p5 : a + 5 < q → cdd b a q 5 = b (a + 5).toNat - 96 ∧ 97 ≤ b (a + 5).toNat := fun h => ⟨cdd_1 h, (fL_i.mp (hall (a + 5) (by omega) h)).1⟩
  have z5 : ¬ a + 5 < q → cdd b a q 5 = 0 := fun h => cdd_0 h
  unfold mt
  rw [e1, e2]
  constructor
  · intro h
    obtain ⟨h1, h2⟩ := h
    have w0 := h2 0 (by decide) (by decide)
    rw [show zWD.getD ((47 : Int) + 0).toNat 32 = 100 by decide +kernel] at w0
    have w1 := h2 1 (by decide) (by decide)
    rw [show zWD.getD ((47 : Int) + 1).toNat 32 = 105 by decide +kernel] at w1
    have w2 := h2 2 (by decide) (by decide)
    rw [show zWD.getD ((47 : Int) + 2).toNat 32 = 100 by decide +kernel] at w2
    unfold cd
    have q0 := p0 (by omega)
    have q1 := p1 (by omega)
    have q2 := p2 (by omega)
    have q3 := z3 (by omega)
    have q4 := z4 (by omega)
    have q5 := z5 (by omega)
    omega
  · intro h
    unfold cd at h
    have d0 : cdd b a q 0 = 4 := by omega
    have d1 : cdd b a q 1 = 9 := by omega
    have d2 : cdd b a q 2 = 4 := by omega
    have d3 : cdd b a q 3 = 0 := by omega
    have d4 : cdd b a q 4 = 0 := by omega
    have d5 : cdd b a q 5 = 0 := by omega
    have hq : q - a = 3 := by omega
    refine ⟨by omega, fun i i1 i2 => ?_⟩
    rcases (show i = 0 ∨ i = 1 ∨ i = 2 by omega) with rfl | rfl | rfl
    · rw [show zWD.getD ((47 : Int) + 0).toNat 32 = 100 by decide +kernel]; have q0 := p0 (by omega); omega
    · rw [show zWD.getD ((47 : Int) + 1).toNat 32 = 105 by decide +kernel]; have q1 := p1 (by omega); omega
    · rw [show zWD.getD ((47 : Int) + 2).toNat 32 = 100 by decide +kernel]; have q2 := p2 (by omega); omega
theorem mt_10 {b : Nat → Int} {a q : Int} (hall : ∀ i : Int, a ≤ i → i < q → fL (b i.toNat) = true) (h0 : a < q) (h6 : q - a ≤ 6) : mt b a q 10 ↔ 254064768 = cd b a q := by
  have e1 : os 10 = 51 := by decide +kernel
  have e2 : os (10 + 1) = 57 := by decide +kernel
  have a0 := cdd_in hall (i := 0) (by decide)
  have a1 := cdd_in hall (i := 1) (by decide)
  have a2 := cdd_in hall (i := 2) (by decide)
  have a3 := cdd_in hall (i := 3) (by decide)
  have a4 := cdd_in hall (i := 4) (by decide)
  have a5 := cdd_in hall (i := 5) (by decide)
  have p0 : a + 0 < q → cdd b a q 0 = b (a + 0).toNat - 96 ∧ 97 ≤ b (a + 0).toNat := fun h => ⟨cdd_1 h, (fL_i.mp (hall (a + 0) (by omega) h)).1⟩
  have z0 : ¬ a + 0 < q → cdd b a q 0 = 0 := fun h => cdd_0 h
  have p1 : a + 1 < q → cdd b a q 1 = b (a + 1).toNat - 96 ∧ 97 ≤ b (a + 1).toNat := fun h => ⟨cdd_1 h, (fL_i.mp (hall (a + 1) (by omega) h)).1⟩
  have z1 : ¬ a + 1 < q → cdd b a q 1 = 0 := fun h => cdd_0 h
  have p2 : a + 2 < q → cdd b a q 2 = b (a + 2).toNat - 96 ∧ 97 ≤ b (a + 2).toNat := fun h => ⟨cdd_1 h, (fL_i.mp (hall (a + 2) (by omega) h)).1⟩
  have z2 : ¬ a + 2 < q → cdd b a q 2 = 0 := fun h => cdd_0 h
  have p3 : a + 3 < q → cdd b a q 3 = b (a + 3).toNat - 96 ∧ 97 ≤ b (a + 3).toNat := fun h => ⟨cdd_1 h, (fL_i.mp (hall (a + 3) (by omega) h)).1⟩
  have z3 : ¬ a + 3 < q → cdd b a q 3 = 0 := fun h => cdd_0 h
  have p4 : a + 4 < q → cdd b a q 4 = b (a + 4).toNat - 96 ∧ 97 ≤ b (a + 4).toNat := fun h => ⟨cdd_1 h, (fL_i.mp (hall (a + 4) (by omega) h)).1⟩
  have z4 : ¬ a + 4 < q → cdd b a q 4 = 0 := fun h => cdd_0 h
  have p5 : a + 5 < q → cdd b a q 5 = b (a + 5).toNat - 96 ∧ 97 ≤ b (a + 5).toNat := fun h => ⟨cdd_1 h, (fL_i.mp (hall (a + 5) (by omega) h)).1⟩
  have z5 : ¬ a + 5 < q → cdd b a q 5 = 0 := fun h => cdd_0 h
  unfold mt
  rw [e1, e2]
  constructor
  · intro h
    obtain ⟨h1, h2⟩ := h
    have w0 := h2 0 (by decide) (by decide)
    rw [show zWD.getD ((51 : Int) + 0).toNat 32 = 103 by decide +kernel] at w0
    have w1 := h2 1 (by decide) (by decide)
    rw [show zWD.getD ((51 : Int) + 1).toNat 32 = 114 by decide +kernel] at w1
    have w2 := h2 2 (by decide) (by decide)
    rw [show zWD.getD ((51 : Int) + 2).toNat 32 = 105 by decide +kernel] at w2
    have w3 := h2 3 (by decide) (by decide)
    rw [show zWD.getD ((51 : Int) + 3).toNat 32 = 110 by decide +kernel] at w3
    have w4 := h2 4 (by decide) (by decide)
    rw [show zWD.getD ((51 : Int) + 4).toNat 32 = 100 by decide +kernel] at w4
    unfold cd
    have q0 := p0 (by omega)
    have q1 := p1 (by omega)
    have q2 := p2 (by omega)
    have q3 := p3 (by omega)
    have q4 := p4 (by omega)
    have q5 := z5 (by omega)
    omega
  · intro h
    unfold cd at h
    have d0 : cdd b a q 0 = 7 := by omega
    have d1 : cdd b a q 1 = 18 := by omega
    have d2 : cdd b a q 2 = 9 := by omega
    have d3 : cdd b a q 3 = 14 := by omega
    have d4 : cdd b a q 4 = 4 := by omega
    have d5 : cdd b a q 5 = 0 := by omega
    have hq : q - a = 5 := by omega
    refine ⟨by omega, fun i i1 i2 => ?_⟩
    rcases (show i = 0 ∨ i = 1 ∨ i = 2 ∨ i = 3 ∨ i = 4 by omega) with rfl | rfl | rfl | rfl | rfl
    · rw [show zWD.getD ((51 : Int) + 0).toNat 32 = 103 by decide +kernel]; have q0 := p0 (by omega); omega
    · rw [show zWD.getD ((51 : Int) + 1).toNat 32 = 114 by decide +kernel]; have q1 := p1 (by omega); omega
    · rw [show zWD.getD ((51 : Int) + 2).toNat 32 = 105 by decide +kernel]; have q2 := p2 (by omega); omega
    · rw [show zWD.getD ((51 : Int) + 3).toNat 32 = 110 by decide +kernel]; have q3 := p3 (by omega); omega
    · rw [show zWD.getD ((51 : Int) + 4).toNat 32 = 100 by decide +kernel]; have q4 := p4 (by omega); omega
theorem mt_11 {b : Nat → Int} {a q : Int} (hall : ∀ i : Int, a ≤ i → i < q → fL (b i.toNat) = true) (h0 : a < q) (h6 : q - a ≤ 6) : mt b a q 11 ↔ 777046016 = cd b a q := by
  have e1 : os 11 = 57 := by decide +kernel
  have e2 : os (11 + 1) = 62 := by decide +kernel
  have a0 := cdd_in hall (i := 0) (by decide)
  have a1 := cdd_in hall (i := 1) (by decide)
  have a2 := cdd_in hall (i := 2) (by decide)
  have a3 := cdd_in hall (i := 3) (by decide)
  have a4 := cdd_in hall (i := 4) (by decide)
  have a5 := cdd_in hall (i := 5) (by decide)
  have p0 : a + 0 < q → cdd b a q 0 = b (a + 0).toNat - 96 ∧ 97 ≤ b (a + 0).toNat := fun h => ⟨cdd_1 h, (fL_i.mp (hall (a + 0) (by omega) h)).1⟩
  have z0 : ¬ a + 0 < q → cdd b a q 0 = 0 := fun h => cdd_0 h
  have p1 : a + 1 < q → cdd b a q 1 = b (a + 1).toNat - 96 ∧ 97 ≤ b (a + 1).toNat := fun h => ⟨cdd_1 h, (fL_i.mp (hall (a + 1) (by omega) h)).1⟩
  have z1 : ¬ a + 1 < q → cdd b a q 1 = 0 := fun h => cdd_0 h
  have p2 : a + 2 < q → cdd b a q 2 = b (a + 2).toNat - 96 ∧ 97 ≤ b (a + 2).toNat := fun h => ⟨cdd_1 h, (fL_i.mp (hall (a + 2) (by omega) h)).1⟩
  have z2 : ¬ a + 2 < q → cdd b a q 2 = 0 := fun h => cdd_0 h
  have p3 : a + 3 < q → cdd b a q 3 = b (a + 3).toNat - 96 ∧ 97 ≤ b (a + 3).toNat := fun h => ⟨cdd_1 h, (fL_i.mp (hall (a + 3) (by omega) h)).1⟩
  have z3 : ¬ a + 3 < q → cdd b a q 3 = 0 := fun h => cdd_0 h
  have p4 : a + 4 < q → cdd b a q 4 = b (a + 4).toNat - 96 ∧ 97 ≤ b (a + 4).toNat := fun h => ⟨cdd_1 h, (fL_i.mp (hall (a + 4) (by omega) h)).1⟩
  have z4 : ¬ a + 4 < q → cdd b a q 4 = 0 := fun h => cdd_0 h
  have p5 : a + 5 < q → cdd b a q 5 = b (a + 5).toNat - 96 ∧ 97 ≤ b (a + 5).toNat := fun h => ⟨cdd_1 h, (fL_i.mp (hall (a + 5) (by omega) h)).1⟩
  have z5 : ¬ a + 5 < q → cdd b a q 5 = 0 := fun h => cdd_0 h
  unfold mt
  rw [e1, e2]
  constructor
  · intro h
    obtain ⟨h1, h2⟩ := h
    have w0 := h2 0 (by decide) (by decide)
    rw [show zWD.getD ((57 : Int) + 0).toNat 32 = 119 by decide +kernel] at w0
    have w1 := h2 1 (by decide) (by decide)
    rw [show zWD.getD ((57 : Int) + 1).toNat 32 = 101 by decide +kernel] at w1
    have w2 := h2 2 (by decide) (by decide)
    rw [show zWD.getD ((57 : Int) + 2).toNat 32 = 97 by decide +kernel] at w2
    have w3 := h2 3 (by decide) (by decide)
    rw [show zWD.getD ((57 : Int) + 3).toNat 32 = 114 by decide +kernel] at w3
    unfold cd
    have q0 := p0 (by omega)
    have q1 := p1 (by omega)
    have q2 := p2 (by omega)
    have q3 := p3 (by omega)
    have q4 := z4 (by omega)
    have q5 := z5 (by omega)
    omega
  · intro h
    unfold cd at h
    have d0 : cdd b a q 0 = 23 := by omega
    have d1 : cdd b a q 1 = 5 := by omega
    have d2 : cdd b a q 2 = 1 := by omega
    have d3 : cdd b a q 3 = 18 := by omega
    have d4 : cdd b a q 4 = 0 := by omega
    have d5 : cdd b a q 5 = 0 := by omega
    have hq : q - a = 4 := by omega
    refine ⟨by omega, fun i i1 i2 => ?_⟩
    rcases (show i = 0 ∨ i = 1 ∨ i = 2 ∨ i = 3 by omega) with rfl | rfl | rfl | rfl
    · rw [show zWD.getD ((57 : Int) + 0).toNat 32 = 119 by decide +kernel]; have q0 := p0 (by omega); omega
    · rw [show zWD.getD ((57 : Int) + 1).toNat 32 = 101 by decide +kernel]; have q1 := p1 (by omega); omega
    · rw [show zWD.getD ((57 : Int) + 2).toNat 32 = 97 by decide +kernel]; have q2 := p2 (by omega); omega
    · rw [show zWD.getD ((57 : Int) + 3).toNat 32 = 114 by decide +kernel]; have q3 := p3 (by omega); omega
theorem mt_12 {b : Nat → Int} {a q : Int} (hall : ∀ i : Int, a ≤ i → i < q → fL (b i.toNat) = true) (h0 : a < q) (h6 : q - a ≤ 6) : mt b a q 12 ↔ 773279744 = cd b a q := by
  have e1 : os 12 = 62 := by decide +kernel
  have e2 : os (12 + 1) = 67 := by decide +kernel
  have a0 := cdd_in hall (i := 0) (by decide)
  have a1 := cdd_in hall (i := 1) (by decide)
  have a2 := cdd_in hall (i := 2) (by decide)
  have a3 := cdd_in hall (i := 3) (by decide)
  have a4 := cdd_in hall (i := 4) (by decide)
  have a5 := cdd_in hall (i := 5) (by decide)
  have p0 : a + 0 < q → cdd b a q 0 = b (a + 0).toNat - 96 ∧ 97 ≤ b (a + 0).toNat := fun h => ⟨cdd_1 h, (fL_i.mp (hall (a + 0) (by omega) h)).1⟩
  have z0 : ¬ a + 0 < q → cdd b a q 0 = 0 := fun h => cdd_0 h
  have p1 : a + 1 < q → cdd b a q 1 = b (a + 1).toNat - 96 ∧ 97 ≤ b (a + 1).toNat := fun h => ⟨cdd_1 h, (fL_i.mp (hall (a + 1) (by omega) h)).1⟩
  have z1 : ¬ a + 1 < q → cdd b a q 1 = 0 := fun h => cdd_0 h
  have p2 : a + 2 < q → cdd b a q 2 = b (a + 2).toNat - 96 ∧ 97 ≤ b (a + 2).toNat := fun h => ⟨cdd_1 h, (fL_i.mp (hall (a + 2) (by omega) h)).1⟩
  have z2 : ¬ a + 2 < q → cdd b a q 2 = 0 := fun h => cdd_0 h
  have p3 : a + 3 < q → cdd b a q 3 = b (a + 3).toNat - 96 ∧ 97 ≤ b (a + 3).toNat := fun h => ⟨cdd_1 h, (fL_i.mp (hall (a + 3) (by omega) h)).1⟩
  have z3 : ¬ a + 3 < q → cdd b a q 3 = 0 := fun h => cdd_0 h
  have p4 : a + 4 < q → cdd b a q 4 = b (a + 4).toNat - 96 ∧ 97 ≤ b (a + 4).toNat := fun h => ⟨cdd_1 h, (fL_i.mp (hall (a + 4) (by omega) h)).1⟩
  have z4 : ¬ a + 4 < q → cdd b a q 4 = 0 := fun h => cdd_0 h
  have p5 : a + 5 < q → cdd b a q 5 = b (a + 5).toNat - 96 ∧ 97 ≤ b (a + 5).toNat := fun h => ⟨cdd_1 h, (fL_i.mp (hall (a + 5) (by omega) h)).1⟩
  have z5 : ¬ a + 5 < q → cdd b a q 5 = 0 := fun h => cdd_0 h
  unfold mt
  rw [e1, e2]
  constructor
  · intro h
    obtain ⟨h1, h2⟩ := h
    have w0 := h2 0 (by decide) (by decide)
    rw [show zWD.getD ((62 : Int) + 0).toNat 32 = 119 by decide +kernel] at w0
    have w1 := h2 1 (by decide) (by decide)
    rw [show zWD.getD ((62 : Int) + 1).toNat 32 = 97 by decide +kernel] at w1
    have w2 := h2 2 (by decide) (by decide)
    rw [show zWD.getD ((62 : Int) + 2).toNat 32 = 110 by decide +kernel] at w2
    have w3 := h2 3 (by decide) (by decide)
    rw [show zWD.getD ((62 : Int) + 3).toNat 32 = 116 by decide +kernel] at w3
    unfold cd
    have q0 := p0 (by omega)
    have q1 := p1 (by omega)
    have q2 := p2 (by omega)
    have q3 := p3 (by omega)
    have q4 := z4 (by omega)
    have q5 := z5 (by omega)
    omega
  · intro h
    unfold cd at h
    have d0 : cdd b a q 0 = 23 := by omega
    have d1 : cdd b a q 1 = 1 := by omega
    have d2 : cdd b a q 2 = 14 := by omega
    have d3 : cdd b a q 3 = 20 := by omega
    have d4 : cdd b a q 4 = 0 := by omega
    have d5 : cdd b a q 5 = 0 := by omega
    have hq : q - a = 4 := by omega
    refine ⟨by omega, fun i i1 i2 => ?_⟩
    rcases (show i = 0 ∨ i = 1 ∨ i = 2 ∨ i = 3 by omega) with rfl | rfl | rfl | rfl
    · rw [show zWD.getD ((62 : Int) + 0).toNat 32 = 119 by decide +kernel]; have q0 := p0 (by omega); omega
    · rw [show zWD.getD ((62 : Int) + 1).toNat 32 = 97 by decide +kernel]; have q1 := p1 (by omega); omega
    · rw [show zWD.getD ((62 : Int) + 2).toNat 32 = 110 by decide +kernel]; have q2 := p2 (by omega); omega
    · rw [show zWD.getD ((62 : Int) + 3).toNat 32 = 116 by decide +kernel]; have q3 := p3 (by omega); omega
theorem mt_13 {b : Nat → Int} {a q : Int} (hall : ∀ i : Int, a ≤ i → i < q → fL (b i.toNat) = true) (h0 : a < q) (h6 : q - a ≤ 6) : mt b a q 13 ↔ 538232832 = cd b a q := by
  have e1 : os 13 = 67 := by decide +kernel
  have e2 : os (13 + 1) = 72 := by decide +kernel
  have a0 := cdd_in hall (i := 0) (by decide)
  have a1 := cdd_in hall (i := 1) (by decide)
  have a2 := cdd_in hall (i := 2) (by decide)
  have a3 := cdd_in hall (i := 3) (by decide)
  have a4 := cdd_in hall (i := 4) (by decide)
  have a5 := cdd_in hall (i := 5) (by decide)
  have p0 : a + 0 < q → cdd b a q 0 = b (a + 0).toNat - 96 ∧ 97 ≤ b (a + 0).toNat := fun h => ⟨cdd_1 h, (fL_i.mp (hall (a + 0) (by omega) h)).1⟩
  have z0 : ¬ a + 0 < q → cdd b a q 0 = 0 := fun h => cdd_0 h
  have p1 : a + 1 < q → cdd b a q 1 = b (a + 1).toNat - 96 ∧ 97 ≤ b (a + 1).toNat := fun h => ⟨cdd_1 h, (fL_i.mp (hall (a + 1) (by omega) h)).1⟩
  have z1 : ¬ a + 1 < q → cdd b a q 1 = 0 := fun h => cdd_0 h
  have p2 : a + 2 < q → cdd b a q 2 = b (a + 2).toNat - 96 ∧ 97 ≤ b (a + 2).toNat := fun h => ⟨cdd_1 h, (fL_i.mp (hall (a + 2) (by omega) h)).1⟩
  have z2 : ¬ a + 2 < q → cdd b a q 2 = 0 := fun h => cdd_0 h
  have p3 : a + 3 < q → cdd b a q 3 = b (a + 3).toNat - 96 ∧ 97 ≤ b (a + 3).toNat := fun h => ⟨cdd_1 h, (fL_i.mp (hall (a + 3) (by omega) h)).1⟩
  have z3 : ¬ a + 3 < q → cdd b a q 3 = 0 := fun h => cdd_0 h
  have p4 : a + 4 < q → cdd b a q 4 = b (a + 4).toNat - 96 ∧ 97 ≤ b (a + 4).toNat := fun h => ⟨cdd_1 h, (fL_i.mp (hall (a + 4) (by omega) h)).1⟩
  have z4 : ¬ a + 4 < q → cdd b a q 4 = 0 := fun h => cdd_0 h
  have p5 : a + 5 < q → cdd b a q 5 = b (a + 5).toNat - 96 ∧ 97 ≤ b (a + 5).toNat := fun h => ⟨cdd_1 h, (fL_i.mp (hall (a + 5) (by omega) h)).1⟩
  have z5 : ¬ a + 5 < q → cdd b a q 5 = 0 := fun h => cdd_0 h
  unfold mt
  rw [e1, e2]
  constructor
  · intro h
    obtain ⟨h1, h2⟩ := h
    have w0 := h2 0 (by decide) (by decide)
    rw [show zWD.getD ((67 : Int) + 0).toNat 32 = 112 by decide +kernel] at w0
    have w1 := h2 1 (by decide) (by decide)
    rw [show zWD.getD ((67 : Int) + 1).toNat 32 = 97 by decide +kernel] at w1
    have w2 := h2 2 (by decide) (by decide)
    rw [show zWD.getD ((67 : Int) + 2).toNat 32 = 105 by decide +kernel] at w2
    have w3 := h2 3 (by decide) (by decide)
    rw [show zWD.getD ((67 : Int) + 3).toNat 32 = 114 by decide +kernel] at w3
    unfold cd
    have q0 := p0 (by omega)
    have q1 := p1 (by omega)
    have q2 := p2 (by omega)
    have q3 := p3 (by omega)
    have q4 := z4 (by omega)
    have q5 := z5 (by omega)
    omega
  · intro h
    unfold cd at h
    have d0 : cdd b a q 0 = 16 := by omega
    have d1 : cdd b a q 1 = 1 := by omega
    have d2 : cdd b a q 2 = 9 := by omega
    have d3 : cdd b a q 3 = 18 := by omega
    have d4 : cdd b a q 4 = 0 := by omega
    have d5 : cdd b a q 5 = 0 := by omega
    have hq : q - a = 4 := by omega
    refine ⟨by omega, fun i i1 i2 => ?_⟩
    rcases (show i = 0 ∨ i = 1 ∨ i = 2 ∨ i = 3 by omega) with rfl | rfl | rfl | rfl
    · rw [show zWD.getD ((67 : Int) + 0).toNat 32 = 112 by decide +kernel]; have q0 := p0 (by omega); omega
    · rw [show zWD.getD ((67 : Int) + 1).toNat 32 = 97 by decide +kernel]; have q1 := p1 (by omega); omega
    · rw [show zWD.getD ((67 : Int) + 2).toNat 32 = 105 by decide +kernel]; have q2 := p2 (by omega); omega
    · rw [show zWD.getD ((67 : Int) + 3).toNat 32 = 114 by decide +kernel]; have q3 := p3 (by omega); omega
theorem mt_14 {b : Nat → Int} {a q : Int} (hall : ∀ i : Int, a ≤ i → i < q → fL (b i.toNat) = true) (h0 : a < q) (h6 : q - a ≤ 6) : mt b a q 14 ↔ 48365568 = cd b a q := by
  have e1 : os 14 = 72 := by decide +kernel
  have e2 : os (14 + 1) = 76 := by decide +kernel
  have a0 := cdd_in hall (i := 0) (by decide)
  have a1 := cdd_in hall (i := 1) (by decide)
  have a2 := cdd_in hall (i := 2) (by decide)
  have a3 := cdd_in hall (i := 3) (by decide)
  have a4 := cdd_in hall (i := 4) (by decide)
  have a5 := cdd_in hall (i := 5) (by decide)
  have p0 : a + 0 < q → cdd b a q 0 = b (a + 0).toNat - 96 ∧ 97 ≤ b (a + 0).toNat := fun h => ⟨cdd_1 h, (fL_i.mp (hall (a + 0) (by omega) h)).1⟩
  have z0 : ¬ a + 0 < q → cdd b a q 0 = 0 := fun h => cdd_0 h
  have p1 : a + 1 < q → cdd b a q 1 = b (a + 1).toNat - 96 ∧ 97 ≤ b (a + 1).toNat := fun h => ⟨cdd_1 h, (fL_i.mp (hall (a + 1) (by omega) h)).1⟩
  have z1 : ¬ a + 1 < q → cdd b a q 1 = 0 := fun h => cdd_0 h
  have p2 : a + 2 < q → cdd b a q 2 = b (a + 2).toNat - 96 ∧ 97 ≤ b (a + 2).toNat := fun h => ⟨cdd_1 h, (fL_i.mp (hall (a + 2) (by omega) h)).1⟩
  have z2 : ¬ a + 2 < q → cdd b a q 2 = 0 := fun h => cdd_0 h
  have p3 : a + 3 < q → cdd b a q 3 = b (a + 3).toNat - 96 ∧ 97 ≤ b (a + 3).toNat := fun h => ⟨cdd_1 h, (fL_i.mp (hall (a + 3) (by omega) h)).1⟩
  have z3 : ¬ a + 3 < q → cdd b a q 3 = 0 := fun h => cdd_0 h
  have p4 : a + 4 < q → cdd b a q 4 = b (a + 4).toNat - 96 ∧ 97 ≤ b (a + 4).toNat := fun h => ⟨cdd_1 h, (fL_i.mp (hall (a + 4) (by omega) h)).1⟩
  have z4 : ¬ a + 4 < q → cdd b a q 4 = 0 := fun h => cdd_0 h
  have p5 : a + 5 < q → cdd b a q 5 = b (a + 5).toNat - 96 ∧ 97 ≤ b (a + 5).toNat := fun h => ⟨cdd_1 h, (fL_i.mp (hall (a + 5) (by omega) h)).1⟩
  have z5 : ¬ a + 5 < q → cdd b a q 5 = 0 := fun h => cdd_0 h
  unfold mt
  rw [e1, e2]
  constructor
  · intro h
    obtain ⟨h1, h2⟩ := h
    have w0 := h2 0 (by decide) (by decide)
    rw [show zWD.getD ((72 : Int) + 0).toNat 32 = 97 by decide +kernel] at w0
    have w1 := h2 1 (by decide) (by decide)
    rw [show zWD.getD ((72 : Int) + 1).toNat 32 = 110 by decide +kernel] at w1
    have w2 := h2 2 (by decide) (by decide)
    rw [show zWD.getD ((72 : Int) + 2).toNat 32 = 100 by decide +kernel] at w2
    unfold cd
    have q0 := p0 (by omega)
    have q1 := p1 (by omega)
    have q2 := p2 (by omega)
    have q3 := z3 (by omega)
    have q4 := z4 (by omega)
    have q5 := z5 (by omega)
    omega
  · intro h
    unfold cd at h
    have d0 : cdd b a q 0 = 1 := by omega
    have d1 : cdd b a q 1 = 14 := by omega
    have d2 : cdd b a q 2 = 4 := by omega
    have d3 : cdd b a q 3 = 0 := by omega
    have d4 : cdd b a q 4 = 0 := by omega
    have d5 : cdd b a q 5 = 0 := by omega
    have hq : q - a = 3 := by omega
    refine ⟨by omega, fun i i1 i2 => ?_⟩
    rcases (show i = 0 ∨ i = 1 ∨ i = 2 by omega) with rfl | rfl | rfl
    · rw [show zWD.getD ((72 : Int) + 0).toNat 32 = 97 by decide +kernel]; have q0 := p0 (by omega); omega
    · rw [show zWD.getD ((72 : Int) + 1).toNat 32 = 110 by decide +kernel]; have q1 := p1 (by omega); omega
    · rw [show zWD.getD ((72 : Int) + 2).toNat 32 = 100 by decide +kernel]; have q2 := p2 (by omega); omega
theorem mt_15 {b : Nat → Int} {a q : Int} (hall : ∀ i : Int, a ≤ i → i < q → fL (b i.toNat) = true) (h0 : a < q) (h6 : q - a ≤ 6) : mt b a q 15 ↔ 522190848 = cd b a q := by
  have e1 : os 15 = 76 := by decide +kernel
  have e2 : os (15 + 1) = 79 := by decide +kernel
  have a0 := cdd_in hall (i := 0) (by decide)
  have a1 := cdd_in hall (i := 1) (by decide)
  have a2 := cdd_in hall (i := 2) (by decide)
  have a3 := cdd_in hall (i := 3) (by decide)
  have a4 := cdd_in hall (i := 4) (by decide)
  have a5 := cdd_in hall (i := 5) (by decide)
  have p0 : a + 0 < q → cdd b a q 0 = b (a + 0).toNat - 96 ∧ 97 ≤ b (a + 0).toNat := fun h => ⟨cdd_1 h, (fL_i.mp (hall (a + 0) (by omega) h)).1⟩
  have z0 : ¬ a + 0 < q → cdd b a q 0 = 0 := fun h => cdd_0 h
  have p1 : a + 1 < q → cdd b a q 1 = b (a + 1).toNat - 96 ∧ 97 ≤ b (a + 1).toNat := fun h => ⟨cdd_1 h, (fL_i.mp (hall (a + 1) (by omega) h)).1⟩
  have z1 : ¬ a + 1 < q → cdd b a q 1 = 0 := fun h => cdd_0 h
  have p2 : a + 2 < q → cdd b a q 2 = b (a + 2).toNat - 96 ∧ 97 ≤ b (a + 2).toNat := fun h => ⟨cdd_1 h, (fL_i.mp (hall (a + 2) (by omega) h)).1⟩
  have z2 : ¬ a + 2 < q → cdd b a q 2 = 0 := fun h => cdd_0 h
  have p3 : a + 3 < q → cdd b a q 3 = b (a + 3).toNat - 96 ∧ 97 ≤ b (a + 3).toNat := fun h => ⟨cdd_1 h, (fL_i.mp (hall (a + 3) (by omega) h)).1⟩
  have z3 : ¬ a + 3 < q → cdd b a q 3 = 0 := fun h => cdd_0 h
  have p4 : a + 4 < q → cdd b a q 4 = b (a + 4).toNat - 96 ∧ 97 ≤ b (a + 4).toNat := fun h => ⟨cdd_1 h, (fL_i.mp (hall (a + 4) (by omega) h)).1⟩
  have z4 : ¬ a + 4 < q → cdd b a q 4 = 0 := fun h => cdd_0 h
  have p5 : a + 5 < q → cdd b a q 5 = b (a + 5).toNat - 96 ∧ 97 ≤ b (a + 5).toNat := fun h => ⟨cdd_1 h, (fL_i.mp (hall (a + 5) (by omega) h)).1⟩
  have z5 : ¬ a + 5 < q → cdd b a q 5 = 0 := fun h => cdd_0 h
  unfold mt
  rw [e1, e2]
  constructor
  · intro h
    obtain ⟨h1, h2⟩ := h
    have w0 := h2 0 (by decide) (by decide)
    rw [show zWD.getD ((76 : Int) + 0).toNat 32 = 111 by decide +kernel] at w0
    have w1 := h2 1 (by decide) (by decide)
    rw [show zWD.getD ((76 : Int) + 1).toNat 32 = 114 by decide +kernel] at w1
    unfold cd
    have q0 := p0 (by omega)
    have q1 := p1 (by omega)
    have q2 := z2 (by omega)
    have q3 := z3 (by omega)
    have q4 := z4 (by omega)
    have q5 := z5 (by omega)
    omega
  · intro h
    unfold cd at h
    have d0 : cdd b a q 0 = 15 := by omega
    have d1 : cdd b a q 1 = 18 := by omega
    have d2 : cdd b a q 2 = 0 := by omega
    have d3 : cdd b a q 3 = 0 := by omega
    have d4 : cdd b a q 4 = 0 := by omega
    have d5 : cdd b a q 5 = 0 := by omega
    have hq : q - a = 2 := by omega
    refine ⟨by omega, fun i i1 i2 => ?_⟩
    rcases (show i = 0 ∨ i = 1 by omega) with rfl | rfl
    · rw [show zWD.getD ((76 : Int) + 0).toNat 32 = 111 by decide +kernel]; have q0 := p0 (by omega); omega
    · rw [show zWD.getD ((76 : Int) + 1).toNat 32 = 114 by decide +kernel]; have q1 := p1 (by omega); omega
theorem mt_16 {b : Nat → Int} {a q : Int} (hall : ∀ i : Int, a ≤ i → i < q → fL (b i.toNat) = true) (h0 : a < q) (h6 : q - a ≤ 6) : mt b a q 16 ↔ 486146048 = cd b a q := by
  have e1 : os 16 = 79 := by decide +kernel
  have e2 : os (16 + 1) = 83 := by decide +kernel
  have a0 := cdd_in hall (i := 0) (by decide)
  have a1 := cdd_in hall (i := 1) (by decide)
  have a2 := cdd_in hall (i := 2) (by decide)
  have a3 := cdd_in hall (i := 3) (by decide)
  have a4 := cdd_in hall (i := 4) (by decide)
  have a5 := cdd_in hall (i := 5) (by decide)
  have p0 : a + 0 < q → cdd b a q 0 = b (a + 0).toNat - 96 ∧ 97 ≤ b (a + 0).toNat := fun h => ⟨cdd_1 h, (fL_i.mp (hall (a + 0) (by omega) h)).1⟩
  have z0 : ¬ a + 0 < q → cdd b a q 0 = 0 := fun h => cdd_0 h
  have p1 : a + 1 < q → cdd b a q 1 = b (a + 1).toNat - 96 ∧ 97 ≤ b (a + 1).toNat := fun h => ⟨cdd_1 h, (fL_i.mp (hall (a + 1) (by omega) h)).1⟩
  have z1 : ¬ a + 1 < q → cdd b a q 1 = 0 := fun h => cdd_0 h
  have p2 : a + 2 < q → cdd b a q 2 = b (a + 2).toNat - 96 ∧ 97 ≤ b (a + 2).toNat := fun h => ⟨cdd_1 h, (fL_i.mp (hall (a + 2) (by omega) h)).1⟩
  have z2 : ¬ a + 2 < q → cdd b a q 2 = 0 := fun h => cdd_0 h
  have p3 : a + 3 < q → cdd b a q 3 = b (a + 3).toNat - 96 ∧ 97 ≤ b (a + 3).toNat := fun h => ⟨cdd_1 h, (fL_i.mp (hall (a + 3) (by omega) h)).1⟩
  have z3 : ¬ a + 3 < q → cdd b a q 3 = 0 := fun h => cdd_0 h
  have p4 : a + 4 < q → cdd b a q 4 = b (a + 4).toNat - 96 ∧ 97 ≤ b (a + 4).toNat := fun h => ⟨cdd_1 h, (fL_i.mp (hall (a + 4) (by omega) h)).1⟩
  have z4 : ¬ a + 4 < q → cdd b a q 4 = 0 := fun h => cdd_0 h
  have p5 : a + 5 < q → cdd b a q 5 = b (a + 5).toNat - 96 ∧ 97 ≤ b (a + 5).toNat := fun h => ⟨cdd_1 h, (fL_i.mp (hall (a + 5) (by omega) h)).1⟩
  have z5 : ¬ a + 5 < q → cdd b a q 5 = 0 := fun h => cdd_0 h
  unfold mt
  rw [e1, e2]
  constructor
  · intro h
    obtain ⟨h1, h2⟩ := h
    have w0 := h2 0 (by decide) (by decide)
    rw [show zWD.getD ((79 : Int) + 0).toNat 32 = 110 by decide +kernel] at w0
    have w1 := h2 1 (by decide) (by decide)
    rw [show zWD.getD ((79 : Int) + 1).toNat 32 = 111 by decide +kernel] at w1
    have w2 := h2 2 (by decide) (by decide)
    rw [show zWD.getD ((79 : Int) + 2).toNat 32 = 116 by decide +kernel] at w2
    unfold cd
    have q0 := p0 (by omega)
    have q1 := p1 (by omega)
    have q2 := p2 (by omega)
    have q3 := z3 (by omega)
    have q4 := z4 (by omega)
    have q5 := z5 (by omega)
    omega
  · intro h
    unfold cd at h
    have d0 : cdd b a q 0 = 14 := by omega
    have d1 : cdd b a q 1 = 15 := by omega
    have d2 : cdd b a q 2 = 20 := by omega
    have d3 : cdd b a q 3 = 0 := by omega
    have d4 : cdd b a q 4 = 0 := by omega
    have d5 : cdd b a q 5 = 0 := by omega
    have hq : q - a = 3 := by omega
    refine ⟨by omega, fun i i1 i2 => ?_⟩
    rcases (show i = 0 ∨ i = 1 ∨ i = 2 by omega) with rfl | rfl | rfl
    · rw [show zWD.getD ((79 : Int) + 0).toNat 32 = 110 by decide +kernel]; have q0 := p0 (by omega); omega
    · rw [show zWD.getD ((79 : Int) + 1).toNat 32 = 111 by decide +kernel]; have q1 := p1 (by omega); omega
    · rw [show zWD.getD ((79 : Int) + 2).toNat 32 = 116 by decide +kernel]; have q2 := p2 (by omega); omega
theorem mt_17 {b : Nat → Int} {a q : Int} (hall : ∀ i : Int, a ≤ i → i < q → fL (b i.toNat) = true) (h0 : a < q) (h6 : q - a ≤ 6) : mt b a q 17 ↔ 788091136 = cd b a q := by
  have e1 : os 17 = 83 := by decide +kernel
  have e2 : os (17 + 1) = 89 := by decide +kernel
  have a0 := cdd_in hall (i := 0) (by decide)
  have a1 := cdd_in hall (i := 1) (by decide)
  have a2 := cdd_in hall (i := 2) (by decide)
  have a3 := cdd_in hall (i := 3) (by decide)
  have a4 := cdd_in hall (i := 4) (by decide)
  have a5 := cdd_in hall (i := 5) (by decide)
  have p0 : a + 0 < q → cdd b a q 0 = b (a + 0).toNat - 96 ∧ 97 ≤ b (a + 0).toNat := fun h => ⟨cdd_1 h, (fL_i.mp (hall (a + 0) (by omega) h)).1⟩
  have z0 : ¬ a + 0 < q → cdd b a q 0 = 0 := fun h => cdd_0 h
  have p1 : a + 1 < q → cdd b a q 1 = b (a + 1).toNat - 96 ∧ 97 ≤ b (a + 1).toNat := fun h => ⟨cdd_1 h, (fL_i.mp (hall (a + 1) (by omega) h)).1⟩
  have z1 : ¬ a + 1 < q → cdd b a q 1 = 0 := fun h => cdd_0 h
  have p2 : a + 2 < q → cdd b a q 2 = b (a + 2).toNat - 96 ∧ 97 ≤ b (a + 2).toNat := fun h => ⟨cdd_1 h, (fL_i.mp (hall (a + 2) (by omega) h)).1⟩
  have z2 : ¬ a + 2 < q → cdd b a q 2 = 0 := fun h => cdd_0 h
  have p3 : a + 3 < q → cdd b a q 3 = b (a + 3).toNat - 96 ∧ 97 ≤ b (a + 3).toNat := fun h => ⟨cdd_1 h, (fL_i.mp (hall (a + 3) (by omega) h)).1⟩
  have z3 : ¬ a + 3 < q → cdd b a q 3 = 0 := fun h => cdd_0 h
  have p4 : a + 4 < q → cdd b a q 4 = b (a + 4).toNat - 96 ∧ 97 ≤ b (a + 4).toNat := fun h => ⟨cdd_1 h, (fL_i.mp (hall (a + 4) (by omega) h)).1⟩
  have z4 : ¬ a + 4 < q → cdd b a q 4 = 0 := fun h => cdd_0 h
  have p5 : a + 5 < q → cdd b a q 5 = b (a + 5).toNat - 96 ∧ 97 ≤ b (a + 5).toNat := fun h => ⟨cdd_1 h, (fL_i.mp (hall (a + 5) (by omega) h)).1⟩
  have z5 : ¬ a + 5 < q → cdd b a q 5 = 0 := fun h => cdd_0 h
  unfold mt
  rw [e1, e2]
  constructor
  · intro h
    obtain ⟨h1, h2⟩ := h
    have w0 := h2 0 (by decide) (by decide)
    rw [show zWD.getD ((83 : Int) + 0).toNat 32 = 119 by decide +kernel] at w0
    have w1 := h2 1 (by decide) (by decide)
    rw [show zWD.getD ((83 : Int) + 1).toNat 32 = 111 by decide +kernel] at w1
    have w2 := h2 2 (by decide) (by decide)
    rw [show zWD.getD ((83 : Int) + 2).toNat 32 = 114 by decide +kernel] at w2
    have w3 := h2 3 (by decide) (by decide)
    rw [show zWD.getD ((83 : Int) + 3).toNat 32 = 116 by decide +kernel] at w3
    have w4 := h2 4 (by decide) (by decide)
    rw [show zWD.getD ((83 : Int) + 4).toNat 32 = 104 by decide +kernel] at w4
    unfold cd
    have q0 := p0 (by omega)
    have q1 := p1 (by omega)
    have q2 := p2 (by omega)
    have q3 := p3 (by omega)
    have q4 := p4 (by omega)
    have q5 := z5 (by omega)
    omega
  · intro h
    unfold cd at h
    have d0 : cdd b a q 0 = 23 := by omega
    have d1 : cdd b a q 1 = 15 := by omega
    have d2 : cdd b a q 2 = 18 := by omega
    have d3 : cdd b a q 3 = 20 := by omega
    have d4 : cdd b a q 4 = 8 := by omega
    have d5 : cdd b a q 5 = 0 := by omega
    have hq : q - a = 5 := by omega
    refine ⟨by omega, fun i i1 i2 => ?_⟩
    rcases (show i = 0 ∨ i = 1 ∨ i = 2 ∨ i = 3 ∨ i = 4 by omega) with rfl | rfl | rfl | rfl | rfl
    · rw [show zWD.getD ((83 : Int) + 0).toNat 32 = 119 by decide +kernel]; have q0 := p0 (by omega); omega
    · rw [show zWD.getD ((83 : Int) + 1).toNat 32 = 111 by decide +kernel]; have q1 := p1 (by omega); omega
    · rw [show zWD.getD ((83 : Int) + 2).toNat 32 = 114 by decide +kernel]; have q2 := p2 (by omega); omega
    · rw [show zWD.getD ((83 : Int) + 3).toNat 32 = 116 by decide +kernel]; have q3 := p3 (by omega); omega
    · rw [show zWD.getD ((83 : Int) + 4).toNat 32 = 104 by decide +kernel]; have q4 := p4 (by omega); omega
theorem mt_18 {b : Nat → Int} {a q : Int} (hall : ∀ i : Int, a ≤ i → i < q → fL (b i.toNat) = true) (h0 : a < q) (h6 : q - a ≤ 6) : mt b a q 18 ↔ 680957536 = cd b a q := by
  have e1 : os 18 = 89 := by decide +kernel
  have e2 : os (18 + 1) = 95 := by decide +kernel
  have a0 := cdd_in hall (i := 0) (by decide)
  have a1 := cdd_in hall (i := 1) (by decide)
  have a2 := cdd_in hall (i := 2) (by decide)
  have a3 := cdd_in hall (i := 3) (by decide)
  have a4 := cdd_in hall (i := 4) (by decide)
  have a5 := cdd_in hall (i := 5) (by decide)
  have p0 : a + 0 < q → cdd b a q 0 = b (a + 0).toNat - 96 ∧ 97 ≤ b (a + 0).toNat := fun h => ⟨cdd_1 h, (fL_i.mp (hall (a + 0) (by omega) h)).1⟩
  have z0 : ¬ a + 0 < q → cdd b a q 0 = 0 := fun h => cdd_0 h
  have p1 : a + 1 < q → cdd b a q 1 = b (a + 1).toNat - 96 ∧ 97 ≤ b (a + 1).toNat := fun h => ⟨cdd_1 h, (fL_i.mp (hall (a + 1) (by omega) h)).1⟩
  have z1 : ¬ a + 1 < q → cdd b a q 1 = 0 := fun h => cdd_0 h
  have p2 : a + 2 < q → cdd b a q 2 = b (a + 2).toNat - 96 ∧ 97 ≤ b (a + 2).toNat := fun h => ⟨cdd_1 h, (fL_i.mp (hall (a + 2) (by omega) h)).1⟩
  have z2 : ¬ a + 2 < q → cdd b a q 2 = 0 := fun h => cdd_0 h
  have p3 : a + 3 < q → cdd b a q 3 = b (a + 3).toNat - 96 ∧ 97 ≤ b (a + 3).toNat := fun h => ⟨cdd_1 h, (fL_i.mp (hall (a + 3) (by omega) h)).1⟩
  have z3 : ¬ a + 3 < q → cdd b a q 3 = 0 := fun h => cdd_0 h
  have p4 : a + 4 < q → cdd b a q 4 = b (a + 4).toNat - 96 ∧ 97 ≤ b (a + 4).toNat := fun h => ⟨cdd_1 h, (fL_i.mp (hall (a + 4) (by omega) h)).1⟩
  have z4 : ¬ a + 4 < q → cdd b a q 4 = 0 := fun h => cdd_0 h
  have p5 : a + 5 < q → cdd b a q 5 = b (a + 5).toNat - 96 ∧ 97 ≤ b (a + 5).toNat := fun h => ⟨cdd_1 h, (fL_i.mp (hall (a + 5) (by omega) h)).1⟩
  have z5 : ¬ a + 5 < q → cdd b a q 5 = 0 := fun h => cdd_0 h
  unfold mt
  rw [e1, e2]
  constructor
  · intro h
    obtain ⟨h1, h2⟩ := h
    have w0 := h2 0 (by decide) (by decide)
    rw [show zWD.getD ((89 : Int) + 0).toNat 32 = 116 by decide +kernel] at w0
    have w1 := h2 1 (by decide) (by decide)
    rw [show zWD.getD ((89 : Int) + 1).toNat 32 = 105 by decide +kernel] at w1
    have w2 := h2 2 (by decide) (by decide)
    rw [show zWD.getD ((89 : Int) + 2).toNat 32 = 109 by decide +kernel] at w2
    have w3 := h2 3 (by decide) (by decide)
    rw [show zWD.getD ((89 : Int) + 3).toNat 32 = 101 by decide +kernel] at w3
    have w4 := h2 4 (by decide) (by decide)
    rw [show zWD.getD ((89 : Int) + 4).toNat 32 = 115 by decide +kernel] at w4
    unfold cd
    have q0 := p0 (by omega)
    have q1 := p1 (by omega)
    have q2 := p2 (by omega)
    have q3 := p3 (by omega)
    have q4 := p4 (by omega)
    have q5 := z5 (by omega)
    omega
  · intro h
    unfold cd at h
    have d0 : cdd b a q 0 = 20 := by omega
    have d1 : cdd b a q 1 = 9 := by omega
    have d2 : cdd b a q 2 = 13 := by omega
    have d3 : cdd b a q 3 = 5 := by omega
    have d4 : cdd b a q 4 = 19 := by omega
    have d5 : cdd b a q 5 = 0 := by omega
    have hq : q - a = 5 := by omega
    refine ⟨by omega, fun i i1 i2 => ?_⟩
    rcases (show i = 0 ∨ i = 1 ∨ i = 2 ∨ i = 3 ∨ i = 4 by omega) with rfl | rfl | rfl | rfl | rfl
    · rw [show zWD.getD ((89 : Int) + 0).toNat 32 = 116 by decide +kernel]; have q0 := p0 (by omega); omega
    · rw [show zWD.getD ((89 : Int) + 1).toNat 32 = 105 by decide +kernel]; have q1 := p1 (by omega); omega
    · rw [show zWD.getD ((89 : Int) + 2).toNat 32 = 109 by decide +kernel]; have q2 := p2 (by omega); omega
    · rw [show zWD.getD ((89 : Int) + 3).toNat 32 = 101 by decide +kernel]; have q3 := p3 (by omega); omega
    · rw [show zWD.getD ((89 : Int) + 4).toNat 32 = 115 by decide +kernel]; have q4 := p4 (by omega); omega
theorem mt_19 {b : Nat → Int} {a q : Int} (hall : ∀ i : Int, a ≤ i → i < q → fL (b i.toNat) = true) (h0 : a < q) (h6 : q - a ≤ 6) : mt b a q 19 ↔ 788084736 = cd b a q := by
  have e1 : os 19 = 95 := by decide +kernel
  have e2 : os (19 + 1) = 100 := by decide +kernel
  have a0 := cdd_in hall (i := 0) (by decide)
  have a1 := cdd_in hall (i := 1) (by decide)
  have a2 := cdd_in hall (i := 2) (by decide)
  have a3 := cdd_in hall (i := 3) (by decide)
  have a4 := cdd_in hall (i := 4) (by decide)
  have a5 := cdd_in hall (i := 5) (by decide)
  have p0 : a + 0 < q → cdd b a q 0 = b (a + 0).toNat - 96 ∧ 97 ≤ b (a + 0).toNat := fun h => ⟨cdd_1 h, (fL_i.mp (hall (a + 0) (by omega) h)).1⟩
  have z0 : ¬ a + 0 < q → cdd b a q 0 = 0 := fun h => cdd_0 h
  have p1 : a + 1 < q → cdd b a q 1 = b (a + 1).toNat - 96 ∧ 97 ≤ b (a + 1).toNat := fun h => ⟨cdd_1 h, (fL_i.mp (hall (a + 1) (by omega) h)).1⟩
  have z1 : ¬ a + 1 < q → cdd b a q 1 = 0 := fun h => cdd_0 h
  have p2 : a + 2 < q → cdd b a q 2 = b (a + 2).toNat - 96 ∧ 97 ≤ b (a + 2).toNat := fun h => ⟨cdd_1 h, (fL_i.mp (hall (a + 2) (by omega) h)).1⟩
  have z2 : ¬ a + 2 < q → cdd b a q 2 = 0 := fun h => cdd_0 h
  have p3 : a + 3 < q → cdd b a q 3 = b (a + 3).toNat - 96 ∧ 97 ≤ b (a + 3).toNat := fun h => ⟨cdd_1 h, (fL_i.mp (hall (a + 3) (by omega) h)).1⟩
  have z3 : ¬ a + 3 < q → cdd b a q 3 = 0 := fun h => cdd_0 h
  have p4 : a + 4 < q → cdd b a q 4 = b (a + 4).toNat - 96 ∧ 97 ≤ b (a + 4).toNat := fun h => ⟨cdd_1 h, (fL_i.mp (hall (a + 4) (by omega) h)).1⟩
  have z4 : ¬ a + 4 < q → cdd b a q 4 = 0 := fun h => cdd_0 h
  have p5 : a + 5 < q → cdd b a q 5 = b (a + 5).toNat - 96 ∧ 97 ≤ b (a + 5).toNat := fun h => ⟨cdd_1 h, (fL_i.mp (hall (a + 5) (by omega) h)).1⟩
  have z5 : ¬ a + 5 < q → cdd b a q 5 = 0 := fun h => cdd_0 h
  unfold mt
  rw [e1, e2]
  constructor
  · intro h
    obtain ⟨h1, h2⟩ := h
    have w0 := h2 0 (by decide) (by decide)
    rw [show zWD.getD ((95 : Int) + 0).toNat 32 = 119 by decide +kernel] at w0
    have w1 := h2 1 (by decide) (by decide)
    rw [show zWD.getD ((95 : Int) + 1).toNat 32 = 111 by decide +kernel] at w1
    have w2 := h2 2 (by decide) (by decide)
    rw [show zWD.getD ((95 : Int) + 2).toNat 32 = 114 by decide +kernel] at w2
    have w3 := h2 3 (by decide) (by decide)
    rw [show zWD.getD ((95 : Int) + 3).toNat 32 = 110 by decide +kernel] at w3
    unfold cd
    have q0 := p0 (by omega)
    have q1 := p1 (by omega)
    have q2 := p2 (by omega)
    have q3 := p3 (by omega)
    have q4 := z4 (by omega)
    have q5 := z5 (by omega)
    omega
  · intro h
    unfold cd at h
    have d0 : cdd b a q 0 = 23 := by omega
    have d1 : cdd b a q 1 = 15 := by omega
    have d2 : cdd b a q 2 = 18 := by omega
    have d3 : cdd b a q 3 = 14 := by omega
    have d4 : cdd b a q 4 = 0 := by omega
    have d5 : cdd b a q 5 = 0 := by omega
    have hq : q - a = 4 := by omega
    refine ⟨by omega, fun i i1 i2 => ?_⟩
    rcases (show i = 0 ∨ i = 1 ∨ i = 2 ∨ i = 3 by omega) with rfl | rfl | rfl | rfl
    · rw [show zWD.getD ((95 : Int) + 0).toNat 32 = 119 by decide +kernel]; have q0 := p0 (by omega); omega
    · rw [show zWD.getD ((95 : Int) + 1).toNat 32 = 111 by decide +kernel]; have q1 := p1 (by omega); omega
    · rw [show zWD.getD ((95 : Int) + 2).toNat 32 = 114 by decide +kernel]; have q2 := p2 (by omega); omega
    · rw [show zWD.getD ((95 : Int) + 3).toNat 32 = 110 by decide +kernel]; have q3 := p3 (by omega); omega
theorem mt_20 {b : Nat → Int} {a q : Int} (hall : ∀ i : Int, a ≤ i → i < q → fL (b i.toNat) = true) (h0 : a < q) (h6 : q - a ≤ 6) : mt b a q 20 ↔ 556044448 = cd b a q := by
  have e1 : os 20 = 100 := by decide +kernel
  have e2 : os (20 + 1) = 106 := by decide +kernel
  have a0 := cdd_in hall (i := 0) (by decide)
  have a1 := cdd_in hall (i := 1) (by decide)
  have a2 := cdd_in hall (i := 2) (by decide)
  have a3 := cdd_in hall (i := 3) (by decide)
  have a4 := cdd_in hall (i := 4) (by decide)
  have a5 := cdd_in hall (i := 5) (by decide)
  have p0 : a + 0 < q → cdd b a q 0 = b (a + 0).toNat - 96 ∧ 97 ≤ b (a + 0).toNat := fun h => ⟨cdd_1 h, (fL_i.mp (hall (a + 0) (by omega) h)).1⟩
  have z0 : ¬ a + 0 < q → cdd b a q 0 = 0 := fun h => cdd_0 h
  have p1 : a + 1 < q → cdd b a q 1 = b (a + 1).toNat - 96 ∧ 97 ≤ b (a + 1).toNat := fun h => ⟨cdd_1 h, (fL_i.mp (hall (a + 1) (by omega) h)).1⟩
  have z1 : ¬ a + 1 < q → cdd b a q 1 = 0 := fun h => cdd_0 h
  have p2 : a + 2 < q → cdd b a q 2 = b (a + 2).toNat - 96 ∧ 97 ≤ b (a + 2).toNat := fun h => ⟨cdd_1 h, (fL_i.mp (hall (a + 2) (by omega) h)).1⟩
  have z2 : ¬ a + 2 < q → cdd b a q 2 = 0 := fun h => cdd_0 h
  have p3 : a + 3 < q → cdd b a q 3 = b (a + 3).toNat - 96 ∧ 97 ≤ b (a + 3).toNat := fun h => ⟨cdd_1 h, (fL_i.mp (hall (a + 3) (by omega) h)).1⟩
  have z3 : ¬ a + 3 < q → cdd b a q 3 = 0 := fun h => cdd_0 h
  have p4 : a + 4 < q → cdd b a q 4 = b (a + 4).toNat - 96 ∧ 97 ≤ b (a + 4).toNat := fun h => ⟨cdd_1 h, (fL_i.mp (hall (a + 4) (by omega) h)).1⟩
  have z4 : ¬ a + 4 < q → cdd b a q 4 = 0 := fun h => cdd_0 h
  have p5 : a + 5 < q → cdd b a q 5 = b (a + 5).toNat - 96 ∧ 97 ≤ b (a + 5).toNat := fun h => ⟨cdd_1 h, (fL_i.mp (hall (a + 5) (by omega) h)).1⟩
  have z5 : ¬ a + 5 < q → cdd b a q 5 = 0 := fun h => cdd_0 h
  unfold mt
  rw [e1, e2]
  constructor
  · intro h
    obtain ⟨h1, h2⟩ := h
    have w0 := h2 0 (by decide) (by decide)
    rw [show zWD.getD ((100 : Int) + 0).toNat 32 = 112 by decide +kernel] at w0
    have w1 := h2 1 (by decide) (by decide)
    rw [show zWD.getD ((100 : Int) + 1).toNat 32 = 114 by decide +kernel] at w1
    have w2 := h2 2 (by decide) (by decide)
    rw [show zWD.getD ((100 : Int) + 2).toNat 32 = 105 by decide +kernel] at w2
    have w3 := h2 3 (by decide) (by decide)
    rw [show zWD.getD ((100 : Int) + 3).toNat 32 = 100 by decide +kernel] at w3
    have w4 := h2 4 (by decide) (by decide)
    rw [show zWD.getD ((100 : Int) + 4).toNat 32 = 101 by decide +kernel] at w4
    unfold cd
    have q0 := p0 (by omega)
    have q1 := p1 (by omega)
    have q2 := p2 (by omega)
    have q3 := p3 (by omega)
    have q4 := p4 (by omega)
    have q5 := z5 (by omega)
    omega
  · intro h
    unfold cd at h
    have d0 : cdd b a q 0 = 16 := by omega
    have d1 : cdd b a q 1 = 18 := by omega
    have d2 : cdd b a q 2 = 9 := by omega
    have d3 : cdd b a q 3 = 4 := by omega
    have d4 : cdd b a q 4 = 5 := by omega
    have d5 : cdd b a q 5 = 0 := by omega
    have hq : q - a = 5 := by omega
    refine ⟨by omega, fun i i1 i2 => ?_⟩
    rcases (show i = 0 ∨ i = 1 ∨ i = 2 ∨ i = 3 ∨ i = 4 by omega) with rfl | rfl | rfl | rfl | rfl
    · rw [show zWD.getD ((100 : Int) + 0).toNat 32 = 112 by decide +kernel]; have q0 := p0 (by omega); omega
    · rw [show zWD.getD ((100 : Int) + 1).toNat 32 = 114 by decide +kernel]; have q1 := p1 (by omega); omega
    · rw [show zWD.getD ((100 : Int) + 2).toNat 32 = 105 by decide +kernel]; have q2 := p2 (by omega); omega
    · rw [show zWD.getD ((100 : Int) + 3).toNat 32 = 100 by decide +kernel]; have q3 := p3 (by omega); omega
    · rw [show zWD.getD ((100 : Int) + 4).toNat 32 = 101 by decide +kernel]; have q4 := p4 (by omega); omega
theorem mt_21 {b : Nat → Int} {a q : Int} (hall : ∀ i : Int, a ≤ i → i < q → fL (b i.toNat) = true) (h0 : a < q) (h6 : q - a ≤ 6) : mt b a q 21 ↔ 412254208 = cd b a q := by
  have e1 : os 21 = 106 := by decide +kernel
  have e2 : os (21 + 1) = 110 := by decide +kernel
  have a0 := cdd_in hall (i := 0) (by decide)
  have a1 := cdd_in hall (i := 1) (by decide)
  have a2 := cdd_in hall (i := 2) (by decide)
  have a3 := cdd_in hall (i := 3) (by decide)
  have a4 := cdd_in hall (i := 4) (by decide)
  have a5 := cdd_in hall (i := 5) (by decide)
  have p0 : a + 0 < q → cdd b a q 0 = b (a + 0).toNat - 96 ∧ 97 ≤ b (a + 0).toNat := fun h => ⟨cdd_1 h, (fL_i.mp (hall (a + 0) (by omega) h)).1⟩
  have z0 : ¬ a + 0 < q → cdd b a q 0 = 0 := fun h => cdd_0 h
  have p1 : a + 1 < q → cdd b a q 1 = b (a + 1).toNat - 96 ∧ 97 ≤ b (a + 1).toNat := fun h => ⟨cdd_1 h, (fL_i.mp (hall (a + 1) (by omega) h)).1⟩
  have z1 : ¬ a + 1 < q → cdd b a q 1 = 0 := fun h => cdd_0 h
  have p2 : a + 2 < q → cdd b a q 2 = b (a + 2).toNat - 96 ∧ 97 ≤ b (a + 2).toNat := fun h => ⟨cdd_1 h, (fL_i.mp (hall (a + 2) (by omega) h)).1⟩
  have z2 : ¬ a + 2 < q → cdd b a q 2 = 0 := fun h => cdd_0 h
  have p3 : a + 3 < q → cdd b a q 3 = b (a + 3).toNat - 96 ∧ 97 ≤ b (a + 3).toNat := fun h => ⟨cdd_1 h, (fL_i.mp (hall (a + 3) (by omega) h)).1⟩
  have z3 : ¬ a + 3 < q → cdd b a q 3 = 0 := fun h => cdd_0 h
  have p4 : a + 4 < q → cdd b a q 4 = b (a + 4).toNat - 96 ∧ 97 ≤ b (a + 4).toNat := fun h => ⟨cdd_1 h, (fL_i.mp (hall (a + 4) (by omega) h)).1⟩
  have z4 : ¬ a + 4 < q → cdd b a q 4 = 0 := fun h => cdd_0 h
  have p5 : a + 5 < q → cdd b a q 5 = b (a + 5).toNat - 96 ∧ 97 ≤ b (a + 5).toNat := fun h => ⟨cdd_1 h, (fL_i.mp (hall (a + 5) (by omega) h)).1⟩
  have z5 : ¬ a + 5 < q → cdd b a q 5 = 0 := fun h => cdd_0 h
  unfold mt
  rw [e1, e2]
  constructor
  · intro h
    obtain ⟨h1, h2⟩ := h
    have w0 := h2 0 (by decide) (by decide)
    rw [show zWD.getD ((106 : Int) + 0).toNat 32 = 108 by decide +kernel] at w0
    have w1 := h2 1 (by decide) (by decide)
    rw [show zWD.getD ((106 : Int) + 1).toNat 32 = 105 by decide +kernel] at w1
    have w2 := h2 2 (by decide) (by decide)
    rw [show zWD.getD ((106 : Int) + 2).toNat 32 = 101 by decide +kernel] at w2
    unfold cd
    have q0 := p0 (by omega)
    have q1 := p1 (by omega)
    have q2 := p2 (by omega)
    have q3 := z3 (by omega)
    have q4 := z4 (by omega)
    have q5 := z5 (by omega)
    omega
  · intro h
    unfold cd at h
    have d0 : cdd b a q 0 = 12 := by omega
    have d1 : cdd b a q 1 = 9 := by omega
    have d2 : cdd b a q 2 = 5 := by omega
    have d3 : cdd b a q 3 = 0 := by omega
    have d4 : cdd b a q 4 = 0 := by omega
    have d5 : cdd b a q 5 = 0 := by omega
    have hq : q - a = 3 := by omega
    refine ⟨by omega, fun i i1 i2 => ?_⟩
    rcases (show i = 0 ∨ i = 1 ∨ i = 2 by omega) with rfl | rfl | rfl
    · rw [show zWD.getD ((106 : Int) + 0).toNat 32 = 108 by decide +kernel]; have q0 := p0 (by omega); omega
    · rw [show zWD.getD ((106 : Int) + 1).toNat 32 = 105 by decide +kernel]; have q1 := p1 (by omega); omega
    · rw [show zWD.getD ((106 : Int) + 2).toNat 32 = 101 by decide +kernel]; have q2 := p2 (by omega); omega
theorem mt_22 {b : Nat → Int} {a q : Int} (hall : ∀ i : Int, a ≤ i → i < q → fL (b i.toNat) = true) (h0 : a < q) (h6 : q - a ≤ 6) : mt b a q 22 ↔ 284628596 = cd b a q := by
  have e1 : os 22 = 110 := by decide +kernel
  have e2 : os (22 + 1) = 117 := by decide +kernel
  have a0 := cdd_in hall (i := 0) (by decide)
  have a1 := cdd_in hall (i := 1) (by decide)
  have a2 := cdd_in hall (i := 2) (by decide)
  have a3 := cdd_in hall (i := 3) (by decide)
  have a4 := cdd_in hall (i := 4) (by decide)
  have a5 := cdd_in hall (i := 5) (by decide)
  have p0 : a + 0 < q → cdd b a q 0 = b (a + 0).toNat - 96 ∧ 97 ≤ b (a + 0).toNat := fun h => ⟨cdd_1 h, (fL_i.mp (hall (a + 0) (by omega) h)).1⟩
  have z0 : ¬ a + 0 < q → cdd b a q 0 = 0 := fun h => cdd_0 h
  have p1 : a + 1 < q → cdd b a q 1 = b (a + 1).toNat - 96 ∧ 97 ≤ b (a + 1).toNat := fun h => ⟨cdd_1 h, (fL_i.mp (hall (a + 1) (by omega) h)).1⟩
  have z1 : ¬ a + 1 < q → cdd b a q 1 = 0 := fun h => cdd_0 h
  have p2 : a + 2 < q → cdd b a q 2 = b (a + 2).toNat - 96 ∧ 97 ≤ b (a + 2).toNat := fun h => ⟨cdd_1 h, (fL_i.mp (hall (a + 2) (by omega) h)).1⟩
  have z2 : ¬ a + 2 < q → cdd b a q 2 = 0 := fun h => cdd_0 h
  have p3 : a + 3 < q → cdd b a q 3 = b (a + 3).toNat - 96 ∧ 97 ≤ b (a + 3).toNat := fun h => ⟨cdd_1 h, (fL_i.mp (hall (a + 3) (by omega) h)).1⟩
  have z3 : ¬ a + 3 < q → cdd b a q 3 = 0 := fun h => cdd_0 h
  have p4 : a + 4 < q → cdd b a q 4 = b (a + 4).toNat - 96 ∧ 97 ≤ b (a + 4).toNat := fun h => ⟨cdd_1 h, (fL_i.mp (hall (a + 4) (by omega) h)).1⟩
  have z4 : ¬ a + 4 < q → cdd b a q 4 = 0 := fun h => cdd_0 h
  have p5 : a + 5 < q → cdd b a q 5 = b (a + 5).toNat - 96 ∧ 97 ≤ b (a + 5).toNat := fun h => ⟨cdd_1 h, (fL_i.mp (hall (a + 5) (by omega) h)).1⟩
  have z5 : ¬ a + 5 < q → cdd b a q 5 = 0 := fun h => cdd_0 h
  unfold mt
  rw [e1, e2]
  constructor
  · intro h
    obtain ⟨h1, h2⟩ := h
    have w0 := h2 0 (by decide) (by decide)
    rw [show zWD.getD ((110 : Int) + 0).toNat 32 = 104 by decide +kernel] at w0
    have w1 := h2 1 (by decide) (by decide)
    rw [show zWD.getD ((110 : Int) + 1).toNat 32 = 111 by decide +kernel] at w1
    have w2 := h2 2 (by decide) (by decide)
    rw [show zWD.getD ((110 : Int) + 2).toNat 32 = 110 by decide +kernel] at w2
    have w3 := h2 3 (by decide) (by decide)
    rw [show zWD.getD ((110 : Int) + 3).toNat 32 = 101 by decide +kernel] at w3
    have w4 := h2 4 (by decide) (by decide)
    rw [show zWD.getD ((110 : Int) + 4).toNat 32 = 115 by decide +kernel] at w4
    have w5 := h2 5 (by decide) (by decide)
    rw [show zWD.getD ((110 : Int) + 5).toNat 32 = 116 by decide +kernel] at w5
    unfold cd
    have q0 := p0 (by omega)
    have q1 := p1 (by omega)
    have q2 := p2 (by omega)
    have q3 := p3 (by omega)
    have q4 := p4 (by omega)
    have q5 := p5 (by omega)
    omega
  · intro h
    unfold cd at h
    have d0 : cdd b a q 0 = 8 := by omega
    have d1 : cdd b a q 1 = 15 := by omega
    have d2 : cdd b a q 2 = 14 := by omega
    have d3 : cdd b a q 3 = 5 := by omega
    have d4 : cdd b a q 4 = 19 := by omega
    have d5 : cdd b a q 5 = 20 := by omega
    have hq : q - a = 6 := by omega
    refine ⟨by omega, fun i i1 i2 => ?_⟩
    rcases (show i = 0 ∨ i = 1 ∨ i = 2 ∨ i = 3 ∨ i = 4 ∨ i = 5 by omega) with rfl | rfl | rfl | rfl | rfl | rfl
    · rw [show zWD.getD ((110 : Int) + 0).toNat 32 = 104 by decide +kernel]; have q0 := p0 (by omega); omega
    · rw [show zWD.getD ((110 : Int) + 1).toNat 32 = 111 by decide +kernel]; have q1 := p1 (by omega); omega
    · rw [show zWD.getD ((110 : Int) + 2).toNat 32 = 110 by decide +kernel]; have q2 := p2 (by omega); omega
    · rw [show zWD.getD ((110 : Int) + 3).toNat 32 = 101 by decide +kernel]; have q3 := p3 (by omega); omega
    · rw [show zWD.getD ((110 : Int) + 4).toNat 32 = 115 by decide +kernel]; have q4 := p4 (by omega); omega
    · rw [show zWD.getD ((110 : Int) + 5).toNat 32 = 116 by decide +kernel]; have q5 := p5 (by omega); omega
theorem mt_23 {b : Nat → Int} {a q : Int} (hall : ∀ i : Int, a ≤ i → i < q → fL (b i.toNat) = true) (h0 : a < q) (h6 : q - a ≤ 6) : mt b a q 23 ↔ 136085504 = cd b a q := by
  have e1 : os 23 = 117 := by decide +kernel
  have e2 : os (23 + 1) = 121 := by decide +kernel
  have a0 := cdd_in hall (i := 0) (by decide)
  have a1 := cdd_in hall (i := 1) (by decide)
  have a2 := cdd_in hall (i := 2) (by decide)
  have a3 := cdd_in hall (i := 3) (by decide)
  have a4 := cdd_in hall (i := 4) (by decide)
  have a5 := cdd_in hall (i := 5) (by decide)
  have p0 : a + 0 < q → cdd b a q 0 = b (a + 0).toNat - 96 ∧ 97 ≤ b (a + 0).toNat := fun h => ⟨cdd_1 h, (fL_i.mp (hall (a + 0) (by omega) h)).1⟩
  have z0 : ¬ a + 0 < q → cdd b a q 0 = 0 := fun h => cdd_0 h
  have p1 : a + 1 < q → cdd b a q 1 = b (a + 1).toNat - 96 ∧ 97 ≤ b (a + 1).toNat := fun h => ⟨cdd_1 h, (fL_i.mp (hall (a + 1) (by omega) h)).1⟩
  have z1 : ¬ a + 1 < q → cdd b a q 1 = 0 := fun h => cdd_0 h
  have p2 : a + 2 < q → cdd b a q 2 = b (a + 2).toNat - 96 ∧ 97 ≤ b (a + 2).toNat := fun h => ⟨cdd_1 h, (fL_i.mp (hall (a + 2) (by omega) h)).1⟩
  have z2 : ¬ a + 2 < q → cdd b a q 2 = 0 := fun h => cdd_0 h
  have p3 : a + 3 < q → cdd b a q 3 = b (a + 3).toNat - 96 ∧ 97 ≤ b (a + 3).toNat := fun h => ⟨cdd_1 h, (fL_i.mp (hall (a + 3) (by omega) h)).1⟩
  have z3 : ¬ a + 3 < q → cdd b a q 3 = 0 := fun h => cdd_0 h
  have p4 : a + 4 < q → cdd b a q 4 = b (a + 4).toNat - 96 ∧ 97 ≤ b (a + 4).toNat := fun h => ⟨cdd_1 h, (fL_i.mp (hall (a + 4) (by omega) h)).1⟩
  have z4 : ¬ a + 4 < q → cdd b a q 4 = 0 := fun h => cdd_0 h
  have p5 : a + 5 < q → cdd b a q 5 = b (a + 5).toNat - 96 ∧ 97 ≤ b (a + 5).toNat := fun h => ⟨cdd_1 h, (fL_i.mp (hall (a + 5) (by omega) h)).1⟩
  have z5 : ¬ a + 5 < q → cdd b a q 5 = 0 := fun h => cdd_0 h
  unfold mt
  rw [e1, e2]
  constructor
  · intro h
    obtain ⟨h1, h2⟩ := h
    have w0 := h2 0 (by decide) (by decide)
    rw [show zWD.getD ((117 : Int) + 0).toNat 32 = 100 by decide +kernel] at w0
    have w1 := h2 1 (by decide) (by decide)
    rw [show zWD.getD ((117 : Int) + 1).toNat 32 = 97 by decide +kernel] at w1
    have w2 := h2 2 (by decide) (by decide)
    rw [show zWD.getD ((117 : Int) + 2).toNat 32 = 121 by decide +kernel] at w2
    unfold cd
    have q0 := p0 (by omega)
    have q1 := p1 (by omega)
    have q2 := p2 (by omega)
    have q3 := z3 (by omega)
    have q4 := z4 (by omega)
    have q5 := z5 (by omega)
    omega
  · intro h
    unfold cd at h
    have d0 : cdd b a q 0 = 4 := by omega
    have d1 : cdd b a q 1 = 1 := by omega
    have d2 : cdd b a q 2 = 25 := by omega
    have d3 : cdd b a q 3 = 0 := by omega
    have d4 : cdd b a q 4 = 0 := by omega
    have d5 : cdd b a q 5 = 0 := by omega
    have hq : q - a = 3 := by omega
    refine ⟨by omega, fun i i1 i2 => ?_⟩
    rcases (show i = 0 ∨ i = 1 ∨ i = 2 by omega) with rfl | rfl | rfl
    · rw [show zWD.getD ((117 : Int) + 0).toNat 32 = 100 by decide +kernel]; have q0 := p0 (by omega); omega
    · rw [show zWD.getD ((117 : Int) + 1).toNat 32 = 97 by decide +kernel]; have q1 := p1 (by omega); omega
    · rw [show zWD.getD ((117 : Int) + 2).toNat 32 = 121 by decide +kernel]; have q2 := p2 (by omega); omega
theorem mt_k {b : Nat → Int} {a q k : Int} (hall : ∀ i : Int, a ≤ i → i < q → fL (b i.toNat) = true) (h0 : a < q) (h6 : q - a ≤ 6) (hk : 0 ≤ k ∧ k < 24) : mt b a q k ↔ wr9.getD k.toNat 0 = cd b a q := by
  rcases (show k = 0 ∨ k = 1 ∨ k = 2 ∨ k = 3 ∨ k = 4 ∨ k = 5 ∨ k = 6 ∨ k = 7 ∨ k = 8 ∨ k = 9 ∨ k = 10 ∨ k = 11 ∨ k = 12 ∨ k = 13 ∨ k = 14 ∨ k = 15 ∨ k = 16 ∨ k = 17 ∨ k = 18 ∨ k = 19 ∨ k = 20 ∨ k = 21 ∨ k = 22 ∨ k = 23 by omega) with rfl | rfl | rfl | rfl | rfl | rfl | rfl | rfl | rfl | rfl | rfl | rfl | rfl | rfl | rfl | rfl | rfl | rfl | rfl | rfl | rfl | rfl | rfl | rfl
  · exact mt_0 hall h0 h6
  · exact mt_1 hall h0 h6
  · exact mt_2 hall h0 h6
  · exact mt_3 hall h0 h6
  · exact mt_4 hall h0 h6
  · exact mt_5 hall h0 h6
  · exact mt_6 hall h0 h6
  · exact mt_7 hall h0 h6
  · exact mt_8 hall h0 h6
  · exact mt_9 hall h0 h6
  · exact mt_10 hall h0 h6
  · exact mt_11 hall h0 h6
  · exact mt_12 hall h0 h6
  · exact mt_13 hall h0 h6
  · exact mt_14 hall h0 h6
  · exact mt_15 hall h0 h6
  · exact mt_16 hall h0 h6
  · exact mt_17 hall h0 h6
  · exact mt_18 hall h0 h6
  · exact mt_19 hall h0 h6
  · exact mt_20 hall h0 h6
  · exact mt_21 hall h0 h6
  · exact mt_22 hall h0 h6
  · exact mt_23 hall h0 h6
