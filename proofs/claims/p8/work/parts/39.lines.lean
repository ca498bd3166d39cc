/-- what holds of the laws that are being read -/
def RC (Γ : zΓ) (w : Nat) (G : zH) : Prop := G.1 1045 w 0 = G.1 1021 w 0 ∧ ∀ j : Nat, 7 ≤ j → j < 14 → G.1 2071 (Γ.2.1 w 34) j = 1 → 1 ≤ G.1 2073 (Γ.2.1 w 36) j
theorem RC_sm {Γ : zΓ} {w : Nat} {G G1 : zH} {rs : List Nat} (h : zsm rs G G1) (hr : 1045 ∉ rs ∧ 1021 ∉ rs ∧ 2071 ∉ rs ∧ 2073 ∉ rs) (hC : RC Γ w G) : RC Γ w G1 := by
  obtain ⟨h1, h2, h3, h4⟩ := hr
  unfold RC
  rw [h.1 _ h1, h.1 _ h2, h.1 _ h3, h.1 _ h4]
  exact hC
theorem RC_I {Γ : zΓ} {w : Nat} {G : zH} {r a i : Nat} {x : Int} (hr : r ≠ 1045 ∧ r ≠ 1021 ∧ r ≠ 2071 ∧ r ≠ 2073) (hC : RC Γ w G) : RC Γ w (zuI G r a i x) :=
  RC_sm (rs := [r]) (zsm_I (by simp) zsm_rf) (by simp; omega) hC
theorem MI_h71 {Γ : zΓ} {w : Nat} {G : zH} {i : Nat} {x : Int} (hi : 7 ≤ i) (hM : MI Γ w G) : MI Γ w (zuI G 2071 (Γ.2.1 w 34) i x) := by
  refine ⟨fun k hk => ?_, fun j hj => ?_⟩
  · rw [zuI_1, zuI_1, if_neg (fun q => by omega), if_neg (fun q => by omega)]
    exact hM.1 k hk
  · rw [zuI_ne (show (2074 : Nat) ≠ 2071 by decide), zuI_ne (show (2075 : Nat) ≠ 2071 by decide), zuI_ne (show (2076 : Nat) ≠ 2071 by decide)]
    exact hM.2 j hj
theorem MI_h73 {Γ : zΓ} {w : Nat} {G : zH} {i : Nat} {x : Int} (hi : 7 ≤ i) (hM : MI Γ w G) : MI Γ w (zuI G 2073 (Γ.2.1 w 36) i x) := by
  refine ⟨fun k hk => ?_, fun j hj => ?_⟩
  · rw [zuI_1, zuI_1, if_neg (fun q => by omega), if_neg (fun q => by omega)]
    exact hM.1 k hk
  · rw [zuI_ne (show (2074 : Nat) ≠ 2073 by decide), zuI_ne (show (2075 : Nat) ≠ 2073 by decide), zuI_ne (show (2076 : Nat) ≠ 2073 by decide)]
    exact hM.2 j hj
theorem RC_law {Γ : zΓ} {w : Nat} {G G1 : zH} {rs : List Nat} {b i : Nat} {v x : Int} (h : zsm rs (zuI (zuI G 2071 (Γ.2.1 w 34) i 1) 2072 b i v) G1) (hr : 2071 ∉ rs ∧ 2073 ∉ rs) (hC : RC Γ w G) (hc : G1.1 1045 w 0 = G1.1 1021 w 0) (hx : 1 ≤ x) : RC Γ w (zuI G1 2073 (Γ.2.1 w 36) i x) := by
  refine ⟨?_, fun j h1 h2 => ?_⟩
  · rw [zuI_ne (show (1045 : Nat) ≠ 2073 by decide), zuI_ne (show (1021 : Nat) ≠ 2073 by decide)]
    exact hc
  · rw [zuI_ne (show (2071 : Nat) ≠ 2073 by decide), zuI_1]
    by_cases q : j = i
    · rw [if_pos ⟨rfl, rfl, q⟩]
      exact fun _ => hx
    · rw [if_neg (fun q2 => q q2.2.2), h.1 2071 hr.1, h.1 2073 hr.2, zuI_ne (show (2071 : Nat) ≠ 2072 by decide), zuI_ne (show (2073 : Nat) ≠ 2072 by decide), zuI_ne (show (2073 : Nat) ≠ 2071 by decide), zuI_1, if_neg (fun q2 => q q2.2.2)]
      exact hC.2 j h1 h2

