theorem lowU {G : zH} {r a : Nat} {x3 y : Int} (h : ∀ i : Nat, (i : Int) < x3 → G.1 r a i ≤ 19) (h0 : 0 ≤ x3) (hy : y ≤ 19) : ∀ i : Nat, (i : Int) < x3 + 1 → (zuI G r a x3.toNat y).1 r a i ≤ 19 := by
  intro i hi
  rw [zuI_1]
  by_cases q : i = x3.toNat
  · rw [if_pos ⟨rfl, rfl, q⟩]; exact hy
  · rw [if_neg (fun z => q z.2.2)]; exact h i (by omega)
def lpm (x z : Int) : Nat := if x = 0 then 0 else (390626 - z).toNat
theorem lpm_s0 {x z z' : Int} {nn : Nat} (hm : lpm x z < nn + 1) (h : x ≠ 0) (hz : z ≤ 390625) : lpm 0 z' < nn := by
  unfold lpm at hm ⊢
  rw [if_neg h] at hm
  rw [if_pos rfl]
  omega
theorem lpm_s1 {x z z' : Int} {nn : Nat} (hm : lpm x z < nn + 1) (h : x ≠ 0) (hz : z < z') (hz2 : z' ≤ 390625) : lpm 1 z' < nn := by
  unfold lpm at hm ⊢
  rw [if_neg h] at hm
  rw [if_neg (by decide)]
  omega
theorem zod4_b {f : Nat → Int} (hf : ∀ i, 0 ≤ f i ∧ f i ≤ 24) : zod 25 f 4 ≤ 390625 := by
  rw [zod4]
  have f0 := hf 0; have f1 := hf 1; have f2 := hf 2; have f3 := hf 3
  omega
theorem row24 {Γ : zΓ} {G : zH} (hG : zG Γ G) (a : Nat) : ∀ i, 0 ≤ G.1 2101 a i ∧ G.1 2101 a i ≤ 24 := fun i => by
  have := hG.1 2101 a i
  rw [r_2101] at this
  exact this

