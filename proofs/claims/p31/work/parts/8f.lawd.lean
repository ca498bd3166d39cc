def DX (Γ : zΓ) (x : Nat) : Prop := Γ.2.1 x 4 ≠ Γ.2.1 x 5 ∧ Γ.2.1 x 4 ≠ Γ.2.1 x 6 ∧ Γ.2.1 x 5 ≠ Γ.2.1 x 6 ∧ Γ.2.1 (Γ.2.1 x 7) 0 = Γ.2.1 x 6
/-- days alike: now a, d; image b, i, kept k, h -/
def LDv (a b k d i h : Int) : Prop := a = d ∧ (0 ≤ d ∧ d ≤ 100) ∧ ((k = 0 ∧ h = 0) ∨ (k = 1 ∧ h = 1 ∧ b = i ∧ 0 ≤ i ∧ i ≤ 100))
def LD (Γ : zΓ) (x mm : Nat) (G : zH) : Prop := LDv (G.1 809 (Γ.2.1 x 4) 0) (G.1 809 (Γ.2.1 x 5) 0) (G.1 911 x 0) (G.1 2090 (Γ.2.1 mm 60) 0) (G.1 2106 (Γ.2.1 mm 89) 123) (G.1 1086 mm 0) ∧ dB Γ mm (G.1 2090 (Γ.2.1 mm 60) 0) G ∧ DX Γ x
theorem LB {Γ : zΓ} {x mm : Nat} (hL : zLok Γ) (tx : Γ.1 x = 9) (tm : Γ.1 mm = 10) : Γ.1 x ≠ 0 ∧ Γ.1 mm ≠ 0 ∧ Γ.1 (Γ.2.1 x 4) ≠ 0 ∧ Γ.1 (Γ.2.1 x 5) ≠ 0 ∧ Γ.1 (Γ.2.1 mm 60) ≠ 0 ∧ Γ.1 (Γ.2.1 mm 85) ≠ 0 ∧ Γ.1 (Γ.2.1 mm 89) ≠ 0 := by
  refine ⟨by rw [tx]; decide, by rw [tm]; decide, ?_, ?_, ?_, ?_, ?_⟩
  · rw [hL.2.2 9 4 x tx (by decide)]; decide
  · rw [hL.2.2 9 5 x tx (by decide)]; decide
  · rw [hL.2.2 10 60 mm tm (by decide)]; decide
  · rw [hL.2.2 10 85 mm tm (by decide)]; decide
  · rw [hL.2.2 10 89 mm tm (by decide)]; decide
theorem LD_c {Γ : zΓ} {x mm : Nat} {G G' : zH} (h1 : G'.1 809 (Γ.2.1 x 4) 0 = G.1 809 (Γ.2.1 x 4) 0) (h2 : G'.1 809 (Γ.2.1 x 5) 0 = G.1 809 (Γ.2.1 x 5) 0) (h3 : G'.1 911 x 0 = G.1 911 x 0) (h4 : G'.1 2090 (Γ.2.1 mm 60) 0 = G.1 2090 (Γ.2.1 mm 60) 0) (h5 : G'.1 2106 (Γ.2.1 mm 89) 123 = G.1 2106 (Γ.2.1 mm 89) 123) (h6 : G'.1 1086 mm 0 = G.1 1086 mm 0) (h7 : dB Γ mm (G.1 2090 (Γ.2.1 mm 60) 0) G') (h : LD Γ x mm G) : LD Γ x mm G' := by
  refine ⟨?_, ?_, h.2.2⟩
  · rw [h1, h2, h3, h4, h5, h6]; exact h.1
  · rw [h4]; exact h7
theorem dB_c {Γ : zΓ} {w : Nat} {d : Int} {G G' : zH} (h1 : G'.1 1084 w 0 ≤ G.1 1084 w 0) (h2 : ∀ i : Nat, G'.1 2105 (Γ.2.1 w 85) i = G.1 2105 (Γ.2.1 w 85) i) (h : dB Γ w d G) : dB Γ w d G' := fun u hu => by
  rw [h2]
  exact h u (by omega)
/-- a call that leaves the days -/
theorem LD_n {Γ : zΓ} {x mm : Nat} {G G' : zH} {rs : List Nat} (hI : LD Γ x mm G) (h : zsn rs G G') (hr : ∀ r ∈ [809, 911, 2090, 1086, 2106, 1084, 2105], r ∉ rs) (hB : zBn Γ (zno Γ G')) (tx : Γ.1 x = 9) (tm : Γ.1 mm = 10) : LD Γ x mm (zno Γ G') := by
  obtain ⟨k1, k2, k3, k4, k5, k6, k7⟩ := LB hB.1 tx tm
  have o : ∀ r ∈ [809, 911, 2090, 1086, 2106, 1084, 2105], ∀ a i : Nat, Γ.1 a ≠ 0 → (zno Γ G').1 r a i = G.1 r a i := fun r h9 a i ha => by rw [zno_1 ha, h r (hr r h9)]
  exact LD_c (o 809 (by decide) _ 0 k3) (o 809 (by decide) _ 0 k4) (o 911 (by decide) x 0 k1) (o 2090 (by decide) _ 0 k5) (o 2106 (by decide) _ 123 k7) (o 1086 (by decide) mm 0 k2) (dB_c (by rw [o 1084 (by decide) mm 0 k2]; exact Int.le_refl _) (fun i => o 2105 (by decide) _ i k6) hI.2.1) hI
theorem LD_m {Γ : zΓ} {x mm : Nat} {G G' : zH} {rs : List Nat} (hI : LD Γ x mm G) (h : zsm rs G G') (hr : ∀ r ∈ [809, 911, 2090, 1086, 2106, 1084, 2105], r ∉ rs) (hB : zBn Γ (zno Γ G')) (tx : Γ.1 x = 9) (tm : Γ.1 mm = 10) : LD Γ x mm (zno Γ G') := LD_n hI (fun r h9 => h.1 r h9) hr hB tx tm
theorem LD_e {Γ : zΓ} {x mm : Nat} {G G' : zH} (hI : LD Γ x mm G) (h : G' = G) (hB : zBn Γ (zno Γ G')) (tx : Γ.1 x = 9) (tm : Γ.1 mm = 10) : LD Γ x mm (zno Γ G') := LD_n (rs := []) hI (fun r _ => by rw [h]) (by decide) hB tx tm
theorem LD_s {Γ : zΓ} {x mm : Nat} {G G' : zH} (hI : LD Γ x mm G) (h : ∀ q a i, Γ.1 a ≠ 0 → G'.1 q a i = G.1 q a i) (hB : zBn Γ G') (tx : Γ.1 x = 9) (tm : Γ.1 mm = 10) : LD Γ x mm G' := by
  obtain ⟨k1, k2, k3, k4, k5, k6, k7⟩ := LB hB.1 tx tm
  exact LD_c (h _ _ _ k3) (h _ _ _ k4) (h _ _ _ k1) (h _ _ _ k5) (h _ _ _ k7) (h _ _ _ k2) (dB_c (by rw [h _ _ _ k2]; exact Int.le_refl _) (fun i => h _ _ _ k6) hI.2.1) hI
/-- runs and plans of the class: trial's day alone -/
theorem LD_e8 {Γ : zΓ} {x mm : Nat} {G G1 : zH} {rs : List Nat} {t : Nat} (hI : LD Γ x mm G) (h : zsn rs G G1) (ht : t = Γ.2.1 x 6) (he : ∀ a9 : Nat, a9 ≠ t → G1.1 809 a9 0 = G.1 809 a9 0) (hr : ∀ r ∈ [911, 2090, 1086, 2106, 1084, 2105], r ∉ rs) (hB : zBn Γ (zno Γ G1)) (tx : Γ.1 x = 9) (tm : Γ.1 mm = 10) : LD Γ x mm (zno Γ G1) := by
  subst ht
  obtain ⟨k1, k2, k3, k4, k5, k6, k7⟩ := LB hB.1 tx tm
  have o : ∀ r ∈ [911, 2090, 1086, 2106, 1084, 2105], ∀ a i : Nat, Γ.1 a ≠ 0 → (zno Γ G1).1 r a i = G.1 r a i := fun r h9 a i ha => by rw [zno_1 ha, h r (hr r h9)]
  exact LD_c (by rw [zno_1 k3]; exact he _ hI.2.2.2.1) (by rw [zno_1 k4]; exact he _ hI.2.2.2.2.1) (o 911 (by decide) x 0 k1) (o 2090 (by decide) _ 0 k5) (o 2106 (by decide) _ 123 k7) (o 1086 (by decide) mm 0 k2) (dB_c (by rw [o 1084 (by decide) mm 0 k2]; exact Int.le_refl _) (fun i => o 2105 (by decide) _ i k6) hI.2.1) hI
/-- runs, plans of the reference, and undo -/
theorem LD_e9 {Γ : zΓ} {x mm : Nat} {G G1 : zH} {rs : List Nat} (hI : LD Γ x mm G) (h : zsm rs G G1) (he : G1.1 2090 (Γ.2.1 mm 60) 0 = G.1 2090 (Γ.2.1 mm 60) 0) (hu : G1.1 1084 mm 0 ≤ G.1 1084 mm 0) (hr : ∀ r ∈ [809, 911, 1086, 2106, 2105], r ∉ rs) (hB : zBn Γ (zno Γ G1)) (tx : Γ.1 x = 9) (tm : Γ.1 mm = 10) : LD Γ x mm (zno Γ G1) := by
  obtain ⟨k1, k2, k3, k4, k5, k6, k7⟩ := LB hB.1 tx tm
  have o : ∀ r ∈ [809, 911, 1086, 2106, 2105], ∀ a i : Nat, Γ.1 a ≠ 0 → (zno Γ G1).1 r a i = G.1 r a i := fun r h9 a i ha => by rw [zno_1 ha, h.1 r (hr r h9)]
  exact LD_c (o 809 (by decide) _ 0 k3) (o 809 (by decide) _ 0 k4) (o 911 (by decide) x 0 k1) (by rw [zno_1 k5]; exact he) (o 2106 (by decide) _ 123 k7) (o 1086 (by decide) mm 0 k2) (dB_c (by rw [zno_1 k2]; exact hu) (fun i => o 2105 (by decide) _ i k6) hI.2.1) hI
/-- what is remembered -/
theorem LD_b {Γ : zΓ} {x mm : Nat} {G G1 : zH} {rs : List Nat} (hI : LD Γ x mm G) (h : zsm rs G G1) (hb : dB Γ mm (G.1 2090 (Γ.2.1 mm 60) 0) G1) (hr : ∀ r ∈ [809, 911, 2090, 1086, 2106], r ∉ rs) (hB : zBn Γ (zno Γ G1)) (tx : Γ.1 x = 9) (tm : Γ.1 mm = 10) : LD Γ x mm (zno Γ G1) := by
  obtain ⟨k1, k2, k3, k4, k5, k6, k7⟩ := LB hB.1 tx tm
  have o : ∀ r ∈ [809, 911, 2090, 1086, 2106], ∀ a i : Nat, Γ.1 a ≠ 0 → (zno Γ G1).1 r a i = G.1 r a i := fun r h9 a i ha => by rw [zno_1 ha, h.1 r (hr r h9)]
  exact LD_c (o 809 (by decide) _ 0 k3) (o 809 (by decide) _ 0 k4) (o 911 (by decide) x 0 k1) (o 2090 (by decide) _ 0 k5) (o 2106 (by decide) _ 123 k7) (o 1086 (by decide) mm 0 k2) (dB_c (by rw [zno_1 k2]; exact Int.le_refl _) (fun i => zno_1 k6 2105 i) hb) hI
theorem dB_0 {Γ : zΓ} {w : Nat} {d : Int} {G : zH} (h : G.1 1084 w 0 = 0) : dB Γ w d G := fun u hu => by omega
/-- both sides of days -/
theorem LD_days {Γ : zΓ} {x mm : Nat} {G G1 G2 : zH} {rs rt : List Nat} {u v k : Int} (hI : LD Γ x mm G) (tx : Γ.1 x = 9) (tm : Γ.1 mm = 10) (h1 : zsn rs G G1) (r1 : ∀ r ∈ [911, 2090, 1086, 2106, 1084, 2105], r ∉ rs)
    (p1 : (0 ≤ k ∧ G.1 809 (Γ.2.1 x 4) 0 + k ≤ 100 → u = G.1 809 (Γ.2.1 x 4) 0 + k ∧ G1.1 809 (Γ.2.1 x 4) 0 = G.1 809 (Γ.2.1 x 4) 0 + k) ∧ (¬ (0 ≤ k ∧ G.1 809 (Γ.2.1 x 4) 0 + k ≤ 100) → u = -1 ∧ G1.1 809 (Γ.2.1 x 4) 0 = G.1 809 (Γ.2.1 x 4) 0) ∧ (∀ a9 : Nat, a9 ≠ (Γ.2.1 x 4) → G1.1 809 a9 0 = G.1 809 a9 0))
    (h2 : zsm rt (zno Γ G1) G2) (r2 : ∀ r ∈ [809, 911, 1086, 2106, 2105], r ∉ rt)
    (p2 : (0 ≤ k ∧ (zno Γ G1).1 2090 (Γ.2.1 mm 60) (0 : Int).toNat + k ≤ 100 → v = (zno Γ G1).1 2090 (Γ.2.1 mm 60) (0 : Int).toNat + k ∧ G2.1 2090 (Γ.2.1 mm 60) (0 : Int).toNat = (zno Γ G1).1 2090 (Γ.2.1 mm 60) (0 : Int).toNat + k ∧ (0 < k → G2.1 1084 mm 0 = 0) ∧ (k ≤ 0 → G2.1 1084 mm 0 = (zno Γ G1).1 1084 mm 0)) ∧ (¬ (0 ≤ k ∧ (zno Γ G1).1 2090 (Γ.2.1 mm 60) (0 : Int).toNat + k ≤ 100) → v = -1 ∧ G2.1 2090 (Γ.2.1 mm 60) (0 : Int).toNat = (zno Γ G1).1 2090 (Γ.2.1 mm 60) (0 : Int).toNat ∧ G2.1 1084 mm 0 = (zno Γ G1).1 1084 mm 0))
    (hB : zBn Γ (zno Γ G2)) : LD Γ x mm (zno Γ G2) ∧ u = v := by
  obtain ⟨k1, k2, k3, k4, k5, k6, k7⟩ := LB hB.1 tx tm
  have o1 : ∀ r ∈ [911, 2090, 1086, 2106, 1084, 2105], ∀ a i : Nat, Γ.1 a ≠ 0 → (zno Γ G1).1 r a i = G.1 r a i := fun r h9 a i ha => by rw [zno_1 ha, h1 r (r1 r h9)]
  have o2 : ∀ r ∈ [809, 911, 1086, 2106, 2105], ∀ a i : Nat, Γ.1 a ≠ 0 → (zno Γ G2).1 r a i = (zno Γ G1).1 r a i := fun r h9 a i ha => by rw [zno_1 ha, h2.1 r (r2 r h9)]
  have e0 : (zno Γ G1).1 2090 (Γ.2.1 mm 60) (0 : Int).toNat = G.1 2090 (Γ.2.1 mm 60) 0 := o1 2090 (by decide) _ 0 k5
  have e1 : (zno Γ G1).1 1084 mm 0 = G.1 1084 mm 0 := o1 1084 (by decide) mm 0 k2
  have e2 : (zno Γ G2).1 2090 (Γ.2.1 mm 60) 0 = G2.1 2090 (Γ.2.1 mm 60) (0 : Int).toNat := zno_1 k5 2090 0
  have e3 : (zno Γ G2).1 1084 mm 0 = G2.1 1084 mm 0 := zno_1 k2 1084 0
  have e4 : (zno Γ G2).1 809 (Γ.2.1 x 4) 0 = G1.1 809 (Γ.2.1 x 4) 0 := (o2 809 (by decide) _ 0 k3).trans (zno_1 k3 809 0)
  have e5 : (zno Γ G2).1 809 (Γ.2.1 x 5) 0 = G.1 809 (Γ.2.1 x 5) 0 := ((o2 809 (by decide) _ 0 k4).trans (zno_1 k4 809 0)).trans (p1.2.2 _ (fun q => hI.2.2.1 q.symm))
  have e6 : (zno Γ G2).1 911 x 0 = G.1 911 x 0 := (o2 911 (by decide) x 0 k1).trans (o1 911 (by decide) x 0 k1)
  have e7 : (zno Γ G2).1 1086 mm 0 = G.1 1086 mm 0 := (o2 1086 (by decide) mm 0 k2).trans (o1 1086 (by decide) mm 0 k2)
  have e8 : (zno Γ G2).1 2106 (Γ.2.1 mm 89) 123 = G.1 2106 (Γ.2.1 mm 89) 123 := (o2 2106 (by decide) _ 123 k7).trans (o1 2106 (by decide) _ 123 k7)
  have e9 : ∀ i : Nat, (zno Γ G2).1 2105 (Γ.2.1 mm 85) i = G.1 2105 (Γ.2.1 mm 85) i := fun i => (o2 2105 (by decide) _ i k6).trans (o1 2105 (by decide) _ i k6)
  obtain ⟨⟨v1, v2, v3⟩, w1, w2⟩ := hI
  rw [e0, e1] at p2
  rw [v1] at p1
  by_cases hc : 0 ≤ k ∧ G.1 2090 (Γ.2.1 mm 60) 0 + k ≤ 100
  · obtain ⟨a1, a2⟩ := p1.1 hc
    obtain ⟨b1, b2, b3, b4⟩ := p2.1 hc
    refine ⟨⟨⟨by rw [e4, e2, a2, b2], ⟨by rw [e2, b2]; omega, by rw [e2, b2]; omega⟩, by rw [e6, e7, e5, e8]; exact v3⟩, ?_, w2⟩, by rw [a1, b1]⟩
    by_cases hk : 0 < k
    · exact dB_0 (by rw [e3]; exact b3 hk)
    · rw [e2, b2, show k = 0 by omega, Int.add_zero]
      exact dB_c (by rw [e3, b4 (by omega)]; exact Int.le_refl _) e9 w1
  · obtain ⟨a1, a2⟩ := p1.2.1 hc
    obtain ⟨b1, b2, b3⟩ := p2.2 hc
    refine ⟨⟨⟨by rw [e4, e2, a2, b2], by rw [e2, b2]; exact v2, by rw [e6, e7, e5, e8]; exact v3⟩, ?_, w2⟩, by rw [a1, b1]⟩
    rw [e2, b2]
    exact dB_c (by rw [e3, b3]; exact Int.le_refl _) e9 w1
theorem LD_keep {Γ : zΓ} {x mm : Nat} {G G1 G2 : zH} {rs rt : List Nat} {u v k : Int} (hI : LD Γ x mm G) (tx : Γ.1 x = 9) (tm : Γ.1 mm = 10) (h1 : zsn rs G G1) (r1 : ∀ r ∈ [2090, 1086, 2106, 1084, 2105], r ∉ rs)
    (p1 : u = G.1 809 (Γ.2.1 x 4) 0 ∧ G1.1 809 (Γ.2.1 x 4) 0 = G.1 809 (Γ.2.1 x 4) 0 ∧ G1.1 809 (Γ.2.1 x 5) 0 = G.1 809 (Γ.2.1 x 4) 0 ∧ G1.1 911 x 0 = 1)
    (h2 : zsm rt (zno Γ G1) G2) (r2 : ∀ r ∈ [809, 911, 2090, 1084, 2105], r ∉ rt)
    (p2 : v = (zno Γ G1).1 2090 (Γ.2.1 mm 60) (0 : Int).toNat ∧ G2.1 1086 mm 0 = 1 ∧ G2.1 2106 (Γ.2.1 mm 89) (0 + 123 : Int).toNat = (zno Γ G1).1 2090 (Γ.2.1 mm 60) (0 : Int).toNat) 
    (hB : zBn Γ (zno Γ G2)) : LD Γ x mm (zno Γ G2) ∧ u = v := by
  obtain ⟨k1, k2, k3, k4, k5, k6, k7⟩ := LB hB.1 tx tm
  have o1 : ∀ r ∈ [2090, 1086, 2106, 1084, 2105], ∀ a i : Nat, Γ.1 a ≠ 0 → (zno Γ G1).1 r a i = G.1 r a i := fun r h9 a i ha => by rw [zno_1 ha, h1 r (r1 r h9)]
  have o2 : ∀ r ∈ [809, 911, 2090, 1084, 2105], ∀ a i : Nat, Γ.1 a ≠ 0 → (zno Γ G2).1 r a i = (zno Γ G1).1 r a i := fun r h9 a i ha => by rw [zno_1 ha, h2.1 r (r2 r h9)]
  have e0 : (zno Γ G1).1 2090 (Γ.2.1 mm 60) (0 : Int).toNat = G.1 2090 (Γ.2.1 mm 60) 0 := o1 2090 (by decide) _ 0 k5
  have e2 : (zno Γ G2).1 2090 (Γ.2.1 mm 60) 0 = G.1 2090 (Γ.2.1 mm 60) 0 := (o2 2090 (by decide) _ 0 k5).trans e0
  have e4 : (zno Γ G2).1 809 (Γ.2.1 x 4) 0 = G1.1 809 (Γ.2.1 x 4) 0 := (o2 809 (by decide) _ 0 k3).trans (zno_1 k3 809 0)
  have e5 : (zno Γ G2).1 809 (Γ.2.1 x 5) 0 = G1.1 809 (Γ.2.1 x 5) 0 := (o2 809 (by decide) _ 0 k4).trans (zno_1 k4 809 0)
  have e6 : (zno Γ G2).1 911 x 0 = G1.1 911 x 0 := (o2 911 (by decide) x 0 k1).trans (zno_1 k1 911 0)
  have e7 : (zno Γ G2).1 1086 mm 0 = G2.1 1086 mm 0 := zno_1 k2 1086 0
  have e8 : (zno Γ G2).1 2106 (Γ.2.1 mm 89) 123 = G2.1 2106 (Γ.2.1 mm 89) (0 + 123 : Int).toNat := zno_1 k7 2106 123
  have e9 : ∀ i : Nat, (zno Γ G2).1 2105 (Γ.2.1 mm 85) i = G.1 2105 (Γ.2.1 mm 85) i := fun i => (o2 2105 (by decide) _ i k6).trans (o1 2105 (by decide) _ i k6)
  have e3 : (zno Γ G2).1 1084 mm 0 = G.1 1084 mm 0 := (o2 1084 (by decide) mm 0 k2).trans (o1 1084 (by decide) mm 0 k2)
  obtain ⟨⟨v1, v2, v3⟩, w1, w2⟩ := hI
  obtain ⟨a1, a2, a3, a4⟩ := p1
  obtain ⟨b1, b2, b3⟩ := p2
  rw [e0] at b1 b3
  refine ⟨⟨⟨by rw [e4, e2, a2, v1], by rw [e2]; exact v2, Or.inr ⟨by rw [e6, a4], by rw [e7, b2], by rw [e5, e8, a3, b3, v1], by rw [e8, b3]; exact v2.1, by rw [e8, b3]; exact v2.2⟩⟩, ?_, w2⟩, by rw [a1, b1, v1]⟩
  rw [e2]
  exact dB_c (by rw [e3]; exact Int.le_refl _) e9 w1
theorem LD_back {Γ : zΓ} {x mm : Nat} {G G1 G2 : zH} {rs rt : List Nat} {u v k : Int} (hI : LD Γ x mm G) (tx : Γ.1 x = 9) (tm : Γ.1 mm = 10) (h1 : zsn rs G G1) (r1 : ∀ r ∈ [911, 2090, 1086, 2106, 1084, 2105], r ∉ rs)
    (p1 : (G.1 911 x 0 = 0 → u = -1 ∧ G1.1 809 (Γ.2.1 x 4) 0 = G.1 809 (Γ.2.1 x 4) 0 ∧ G1.1 809 (Γ.2.1 x 5) 0 = G.1 809 (Γ.2.1 x 5) 0) ∧ (G.1 911 x 0 ≠ 0 → u = G.1 809 (Γ.2.1 x 5) 0 ∧ G1.1 809 (Γ.2.1 x 4) 0 = G.1 809 (Γ.2.1 x 5) 0 ∧ G1.1 809 (Γ.2.1 x 5) 0 = G.1 809 (Γ.2.1 x 5) 0))
    (h2 : zsm rt (zno Γ G1) G2) (r2 : ∀ r ∈ [809, 911, 1086, 2106, 2105], r ∉ rt)
    (p2 : ((zno Γ G1).1 1086 mm 0 = 0 → v = -1 ∧ G2.1 2090 (Γ.2.1 mm 60) (0 : Int).toNat = (zno Γ G1).1 2090 (Γ.2.1 mm 60) (0 : Int).toNat ∧ G2.1 1084 mm 0 = (zno Γ G1).1 1084 mm 0) ∧ ((zno Γ G1).1 1086 mm 0 ≠ 0 → v = (zno Γ G1).1 2106 (Γ.2.1 mm 89) (0 + 123 : Int).toNat ∧ G2.1 2090 (Γ.2.1 mm 60) (0 : Int).toNat = (zno Γ G1).1 2106 (Γ.2.1 mm 89) (0 + 123 : Int).toNat ∧ G2.1 1084 mm 0 = 0)) 
    (hB : zBn Γ (zno Γ G2)) : LD Γ x mm (zno Γ G2) ∧ u = v := by
  obtain ⟨k1, k2, k3, k4, k5, k6, k7⟩ := LB hB.1 tx tm
  have o1 : ∀ r ∈ [911, 2090, 1086, 2106, 1084, 2105], ∀ a i : Nat, Γ.1 a ≠ 0 → (zno Γ G1).1 r a i = G.1 r a i := fun r h9 a i ha => by rw [zno_1 ha, h1 r (r1 r h9)]
  have o2 : ∀ r ∈ [809, 911, 1086, 2106, 2105], ∀ a i : Nat, Γ.1 a ≠ 0 → (zno Γ G2).1 r a i = (zno Γ G1).1 r a i := fun r h9 a i ha => by rw [zno_1 ha, h2.1 r (r2 r h9)]
  have e0 : (zno Γ G1).1 2090 (Γ.2.1 mm 60) (0 : Int).toNat = G.1 2090 (Γ.2.1 mm 60) 0 := o1 2090 (by decide) _ 0 k5
  have e1 : (zno Γ G1).1 1084 mm 0 = G.1 1084 mm 0 := o1 1084 (by decide) mm 0 k2
  have f6 : (zno Γ G1).1 1086 mm 0 = G.1 1086 mm 0 := o1 1086 (by decide) mm 0 k2
  have f7 : (zno Γ G1).1 2106 (Γ.2.1 mm 89) (0 + 123 : Int).toNat = G.1 2106 (Γ.2.1 mm 89) 123 := o1 2106 (by decide) _ 123 k7
  have e2 : (zno Γ G2).1 2090 (Γ.2.1 mm 60) 0 = G2.1 2090 (Γ.2.1 mm 60) (0 : Int).toNat := zno_1 k5 2090 0
  have e3 : (zno Γ G2).1 1084 mm 0 = G2.1 1084 mm 0 := zno_1 k2 1084 0
  have e4 : (zno Γ G2).1 809 (Γ.2.1 x 4) 0 = G1.1 809 (Γ.2.1 x 4) 0 := (o2 809 (by decide) _ 0 k3).trans (zno_1 k3 809 0)
  have e5 : (zno Γ G2).1 809 (Γ.2.1 x 5) 0 = G1.1 809 (Γ.2.1 x 5) 0 := (o2 809 (by decide) _ 0 k4).trans (zno_1 k4 809 0)
  have e6 : (zno Γ G2).1 911 x 0 = G.1 911 x 0 := (o2 911 (by decide) x 0 k1).trans (o1 911 (by decide) x 0 k1)
  have e7 : (zno Γ G2).1 1086 mm 0 = G.1 1086 mm 0 := (o2 1086 (by decide) mm 0 k2).trans f6
  have e8 : (zno Γ G2).1 2106 (Γ.2.1 mm 89) 123 = G.1 2106 (Γ.2.1 mm 89) 123 := (o2 2106 (by decide) _ 123 k7).trans (o1 2106 (by decide) _ 123 k7)
  have e9 : ∀ i : Nat, (zno Γ G2).1 2105 (Γ.2.1 mm 85) i = G.1 2105 (Γ.2.1 mm 85) i := fun i => (o2 2105 (by decide) _ i k6).trans (o1 2105 (by decide) _ i k6)
  obtain ⟨⟨v1, v2, v3⟩, w1, w2⟩ := hI
  rw [e0, e1, f6, f7] at p2
  rcases v3 with ⟨c1, c2⟩ | ⟨c1, c2, c3, c4, c5⟩
  · obtain ⟨a1, a2, a3⟩ := p1.1 c1
    obtain ⟨b1, b2, b3⟩ := p2.1 c2
    refine ⟨⟨⟨by rw [e4, e2, a2, b2, v1], by rw [e2, b2]; exact v2, Or.inl ⟨by rw [e6]; exact c1, by rw [e7]; exact c2⟩⟩, ?_, w2⟩, by rw [a1, b1]⟩
    rw [e2, b2]
    exact dB_c (by rw [e3, b3]; exact Int.le_refl _) e9 w1
  · obtain ⟨a1, a2, a3⟩ := p1.2 (by rw [c1]; decide)
    obtain ⟨b1, b2, b3⟩ := p2.2 (by rw [c2]; decide)
    exact ⟨⟨⟨by rw [e4, e2, a2, b2, c3], by rw [e2, b2]; exact ⟨c4, c5⟩, Or.inr ⟨by rw [e6]; exact c1, by rw [e7]; exact c2, by rw [e5, e8, a3, c3], by rw [e8]; exact c4, by rw [e8]; exact c5⟩⟩, dB_0 (by rw [e3]; exact b3), w2⟩, by rw [a1, b1, c3]⟩
theorem LD_text {Γ : zΓ} {x mm : Nat} {G G1 G2 : zH} {rs rt : List Nat} {k z : Int} (hI : LD Γ x mm G) (tx : Γ.1 x = 9) (tm : Γ.1 mm = 10) (h1 : zsn rs G G1) (r1 : ∀ r ∈ [2090, 1086, 2106, 1084, 2105], r ∉ rs)
    (p1 : (0 ≤ k ∧ k ≤ G.1 901 x 0 ∧ G1.1 912 x 0 = 0 → G1.1 809 (Γ.2.1 x 4) 0 = 0 ∧ G1.1 911 x 0 = 0) ∧ (¬ (0 ≤ k ∧ k ≤ G.1 901 x 0 ∧ G1.1 912 x 0 = 0) → G1.1 809 (Γ.2.1 x 4) 0 = G.1 809 (Γ.2.1 x 4) 0 ∧ G1.1 911 x 0 = G.1 911 x 0) ∧ (∀ a9 : Nat, a9 ≠ (Γ.2.1 x 4) → G1.1 809 a9 0 = G.1 809 a9 0))
    (h2 : zsm rt (zno Γ G1) G2) (r2 : ∀ r ∈ [809, 911, 2106, 2105], r ∉ rt)
    (p2 : (0 ≤ k ∧ k ≤ (zno Γ G1).1 1001 mm 0 ∧ z = 0 → G2.1 2090 (Γ.2.1 mm 60) (0 : Int).toNat = 0 ∧ G2.1 1084 mm 0 = 0 ∧ G2.1 1086 mm 0 = 0) ∧ (¬ (0 ≤ k ∧ k ≤ (zno Γ G1).1 1001 mm 0 ∧ z = 0) → G2.1 2090 (Γ.2.1 mm 60) (0 : Int).toNat = (zno Γ G1).1 2090 (Γ.2.1 mm 60) (0 : Int).toNat ∧ G2.1 1084 mm 0 = (zno Γ G1).1 1084 mm 0 ∧ G2.1 1086 mm 0 = (zno Γ G1).1 1086 mm 0)) (ht : (zno Γ G1).1 1001 mm 0 = G.1 901 x 0) (hz : 0 ≤ k ∧ k ≤ G.1 901 x 0 → (G1.1 912 x 0 = 0 ↔ z = 0))
    (hB : zBn Γ (zno Γ G2)) : LD Γ x mm (zno Γ G2) := by
  obtain ⟨k1, k2, k3, k4, k5, k6, k7⟩ := LB hB.1 tx tm
  have o1 : ∀ r ∈ [2090, 1086, 2106, 1084, 2105], ∀ a i : Nat, Γ.1 a ≠ 0 → (zno Γ G1).1 r a i = G.1 r a i := fun r h9 a i ha => by rw [zno_1 ha, h1 r (r1 r h9)]
  have o2 : ∀ r ∈ [809, 911, 2106, 2105], ∀ a i : Nat, Γ.1 a ≠ 0 → (zno Γ G2).1 r a i = (zno Γ G1).1 r a i := fun r h9 a i ha => by rw [zno_1 ha, h2.1 r (r2 r h9)]
  have e0 : (zno Γ G1).1 2090 (Γ.2.1 mm 60) (0 : Int).toNat = G.1 2090 (Γ.2.1 mm 60) 0 := o1 2090 (by decide) _ 0 k5
  have e1 : (zno Γ G1).1 1084 mm 0 = G.1 1084 mm 0 := o1 1084 (by decide) mm 0 k2
  have f6 : (zno Γ G1).1 1086 mm 0 = G.1 1086 mm 0 := o1 1086 (by decide) mm 0 k2
  have e2 : (zno Γ G2).1 2090 (Γ.2.1 mm 60) 0 = G2.1 2090 (Γ.2.1 mm 60) (0 : Int).toNat := zno_1 k5 2090 0
  have e3 : (zno Γ G2).1 1084 mm 0 = G2.1 1084 mm 0 := zno_1 k2 1084 0
  have e4 : (zno Γ G2).1 809 (Γ.2.1 x 4) 0 = G1.1 809 (Γ.2.1 x 4) 0 := (o2 809 (by decide) _ 0 k3).trans (zno_1 k3 809 0)
  have e5 : (zno Γ G2).1 809 (Γ.2.1 x 5) 0 = G.1 809 (Γ.2.1 x 5) 0 := ((o2 809 (by decide) _ 0 k4).trans (zno_1 k4 809 0)).trans (p1.2.2 _ (fun q => hI.2.2.1 q.symm))
  have e6 : (zno Γ G2).1 911 x 0 = G1.1 911 x 0 := (o2 911 (by decide) x 0 k1).trans (zno_1 k1 911 0)
  have e7 : (zno Γ G2).1 1086 mm 0 = G2.1 1086 mm 0 := zno_1 k2 1086 0
  have e8 : (zno Γ G2).1 2106 (Γ.2.1 mm 89) 123 = G.1 2106 (Γ.2.1 mm 89) 123 := (o2 2106 (by decide) _ 123 k7).trans (o1 2106 (by decide) _ 123 k7)
  have e9 : ∀ i : Nat, (zno Γ G2).1 2105 (Γ.2.1 mm 85) i = G.1 2105 (Γ.2.1 mm 85) i := fun i => (o2 2105 (by decide) _ i k6).trans (o1 2105 (by decide) _ i k6)
  obtain ⟨⟨v1, v2, v3⟩, w1, w2⟩ := hI
  rw [ht, e0, e1, f6] at p2
  by_cases hc : 0 ≤ k ∧ k ≤ G.1 901 x 0 ∧ G1.1 912 x 0 = 0
  · obtain ⟨a1, a2⟩ := p1.1 hc
    obtain ⟨b1, b2, b3⟩ := p2.1 ⟨hc.1, hc.2.1, (hz ⟨hc.1, hc.2.1⟩).mp hc.2.2⟩
    exact ⟨⟨by rw [e4, e2, a1, b1], by rw [e2, b1]; decide, Or.inl ⟨by rw [e6, a2], by rw [e7, b3]⟩⟩, dB_0 (by rw [e3]; exact b2), w2⟩
  · obtain ⟨a1, a2⟩ := p1.2.1 hc
    obtain ⟨b1, b2, b3⟩ := p2.2 (fun q => hc ⟨q.1, q.2.1, (hz ⟨q.1, q.2.1⟩).mpr q.2.2⟩)
    refine ⟨⟨by rw [e4, e2, a1, b1, v1], by rw [e2, b1]; exact v2, by rw [e6, e7, e5, e8, a2, b3]; exact v3⟩, ?_, w2⟩
    rw [e2, b1]
    exact dB_c (by rw [e3, b2]; exact Int.le_refl _) e9 w1
