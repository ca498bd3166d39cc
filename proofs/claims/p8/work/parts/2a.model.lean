/-! the reference: what its laws are worth -/
def KOK (k a b : Int) : Prop := (k = 1 → a ≤ 6) ∧ (2 ≤ k → a ≤ 63) ∧ (3 ≤ k → 0 ≤ b)
def MI (Γ : zΓ) (w : Nat) (G : zH) : Prop := (∀ k : Nat, k < 7 → G.1 2071 (Γ.2.1 w 34) k = 1 → 1 ≤ G.1 2073 (Γ.2.1 w 36) k) ∧ ∀ i : Nat, i < 128 → KOK (G.1 2074 (Γ.2.1 w 37) i) (G.1 2075 (Γ.2.1 w 38) i) (G.1 2076 (Γ.2.1 w 39) i)
def MIr (rs : List Nat) : Prop := 2071 ∉ rs ∧ 2073 ∉ rs ∧ 2074 ∉ rs ∧ 2075 ∉ rs ∧ 2076 ∉ rs
theorem MI_sm {Γ : zΓ} {w : Nat} {G G1 : zH} {rs : List Nat} (h : zsm rs G G1) (hr : 2071 ∉ rs ∧ 2073 ∉ rs ∧ 2074 ∉ rs ∧ 2075 ∉ rs ∧ 2076 ∉ rs) (hM : MI Γ w G) : MI Γ w G1 := by
  obtain ⟨h1, h2, h3, h4, h5⟩ := hr
  unfold MI
  rw [h.1 _ h1, h.1 _ h2, h.1 _ h3, h.1 _ h4, h.1 _ h5]
  exact hM
theorem MI_sn {Γ : zΓ} {w : Nat} {G G1 : zH} {rs : List Nat} (h : zsn rs G G1) (hr : 2071 ∉ rs ∧ 2073 ∉ rs ∧ 2074 ∉ rs ∧ 2075 ∉ rs ∧ 2076 ∉ rs) (hM : MI Γ w G) : MI Γ w G1 := by
  obtain ⟨h1, h2, h3, h4, h5⟩ := hr
  unfold MI
  rw [h _ h1, h _ h2, h _ h3, h _ h4, h _ h5]
  exact hM
theorem MI_I {Γ : zΓ} {w : Nat} {G : zH} {r a i : Nat} {x : Int} (hr : r ≠ 2071 ∧ r ≠ 2073 ∧ r ≠ 2074 ∧ r ≠ 2075 ∧ r ≠ 2076) (hM : MI Γ w G) : MI Γ w (zuI G r a i x) :=
  MI_sm (rs := [r]) (zsm_I (by simp) zsm_rf) (by simp; omega) hM
theorem MI_J {Γ : zΓ} {w : Nat} {G : zH} {r a i : Nat} {x : Int} (hM : MI Γ w G) : MI Γ w (zuJ G r a i x) := hM
theorem MI_k {Γ : zΓ} {w : Nat} {G : zH} (hM : MI Γ w G) (i : Int) (h0 : 0 ≤ i) (h : i < 128) : (G.1 2074 (Γ.2.1 w 37) i.toNat = 1 → G.1 2075 (Γ.2.1 w 38) i.toNat ≤ 6) ∧ (2 ≤ G.1 2074 (Γ.2.1 w 37) i.toNat → G.1 2075 (Γ.2.1 w 38) i.toNat ≤ 63) ∧ (3 ≤ G.1 2074 (Γ.2.1 w 37) i.toNat → 0 ≤ G.1 2076 (Γ.2.1 w 39) i.toNat) := hM.2 i.toNat (by omega)
theorem MI_l {Γ : zΓ} {w : Nat} {G : zH} (hM : MI Γ w G) (k : Int) (h0 : 0 ≤ k) (h : k < 7) : G.1 2071 (Γ.2.1 w 34) k.toNat = 1 → 1 ≤ G.1 2073 (Γ.2.1 w 36) k.toNat := hM.1 k.toNat (by omega)
theorem rs_2059 (i : Nat) : (zrg 2059 i).1 ≤ 0 ∧ 99 ≤ (zrg 2059 i).2 ∧ (i = 1 → (zrg 2059 i).1 = 0 ∧ (zrg 2059 i).2 = 99) ∧ (i = 5 → (zrg 2059 i).1 = 0 ∧ (zrg 2059 i).2 = 99) ∧ (i ≠ 1 → i ≠ 5 → (zrg 2059 i).1 = -2147483648 ∧ (zrg 2059 i).2 = 2147483647) := by
  have e : zrg 2059 i = zcl (if i = 1 ∨ i = 5 then (0, 99) else zfull) := rfl
  rw [e]
  by_cases h : i = 1 ∨ i = 5
  · rw [if_pos h]
    simp only [zcl]
    omega
  · rw [if_neg h]
    simp only [zcl, zfull]
    omega
