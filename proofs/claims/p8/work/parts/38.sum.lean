theorem c3_le (W : Nat → Int) (n : Nat) : 0 ≤ c3 W n ∧ c3 W n ≤ n := zct_le _ n
theorem c0_le (W : Nat → Int) (n : Nat) : 0 ≤ c0 W n ∧ c0 W n ≤ n := zct_le _ n
/-- what holds of the stack of signs -/
def PI (Γ : zΓ) (w : Nat) (G : zH) : Prop := G.1 1043 w 0 = c3 (G.1 2077 (Γ.2.1 w 40)) (G.1 1042 w 0).toNat + 1 - G.1 1046 w 0 ∧ G.1 1044 w 0 = c0 (G.1 2077 (Γ.2.1 w 40)) (G.1 1042 w 0).toNat ∧ G.1 1045 w 0 = G.1 1021 w 0 + G.1 1042 w 0 - G.1 1044 w 0 ∧ (G.1 1046 w 0 = 0 → 1 ≤ G.1 1021 w 0)
theorem PI_sm {Γ : zΓ} {w : Nat} {G G1 : zH} {rs : List Nat} (h : zsm rs G G1) (hr : 1043 ∉ rs ∧ 2077 ∉ rs ∧ 1042 ∉ rs ∧ 1046 ∉ rs ∧ 1044 ∉ rs ∧ 1045 ∉ rs ∧ 1021 ∉ rs) (hQ : PI Γ w G) : PI Γ w G1 := by
  obtain ⟨h1, h2, h3, h4, h5, h6, h7⟩ := hr
  unfold PI
  rw [h.1 _ h1, h.1 _ h2, h.1 _ h3, h.1 _ h4, h.1 _ h5, h.1 _ h6, h.1 _ h7]
  exact hQ
theorem PI_I {Γ : zΓ} {w : Nat} {G : zH} {r a i : Nat} {x : Int} (hr : r ≠ 1043 ∧ r ≠ 2077 ∧ r ≠ 1042 ∧ r ≠ 1046 ∧ r ≠ 1044 ∧ r ≠ 1045 ∧ r ≠ 1021) (hQ : PI Γ w G) : PI Γ w (zuI G r a i x) :=
  PI_sm (rs := [r]) (zsm_I (by simp) zsm_rf) (by simp; omega) hQ
theorem PI_0 {Γ : zΓ} {w : Nat} {G : zH} (h1 : G.1 1042 w 0 = 0) (h2 : G.1 1043 w 0 = 0) (h3 : G.1 1044 w 0 = 0) (h4 : G.1 1046 w 0 = 1) (h5 : G.1 1045 w 0 = G.1 1021 w 0) : PI Γ w G := by
  have k3 := c3_le (G.1 2077 (Γ.2.1 w 40)) 0
  have k0 := c0_le (G.1 2077 (Γ.2.1 w 40)) 0
  unfold PI
  rw [h1]
  refine ⟨?_, ?_, ?_, fun q => ?_⟩
  · rw [show (0 : Int).toNat = 0 from rfl]; omega
  · rw [show (0 : Int).toNat = 0 from rfl]; omega
  · omega
  · omega

