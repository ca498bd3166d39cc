/-- what holds of a token that is read -/
def TI (w : Nat) (G : zH) : Prop := (G.1 1007 w 0 ≤ G.1 1006 w 0 ∧ G.1 1010 w 0 ≤ G.1 1007 w 0 ∧ (G.1 1008 w 0 ≠ 0 → G.1 1010 w 0 < G.1 1007 w 0) ∧ ((G.1 1008 w 0 = 5 → 0 ≤ G.1 1009 w 0 ∧ G.1 1009 w 0 ≤ 5) ∧ (G.1 1008 w 0 = 1 → 0 ≤ G.1 1009 w 0 ∧ G.1 1009 w 0 ≤ 23) ∧ (G.1 1008 w 0 = 3 → 0 ≤ G.1 1009 w 0)))
theorem TI_sm {w : Nat} {G G1 : zH} {rs : List Nat} (h : zsm rs G G1) (hr : 1006 ∉ rs ∧ 1007 ∉ rs ∧ 1008 ∉ rs ∧ 1009 ∉ rs ∧ 1010 ∉ rs) (hT : TI w G) : TI w G1 := by
  obtain ⟨h1, h2, h3, h4, h5⟩ := hr
  unfold TI
  rw [h.1 _ h1, h.1 _ h2, h.1 _ h3, h.1 _ h4, h.1 _ h5]
  exact hT
theorem TI_I {w : Nat} {G : zH} {r a i : Nat} {x : Int} (hr : r ≠ 1006 ∧ r ≠ 1007 ∧ r ≠ 1008 ∧ r ≠ 1009 ∧ r ≠ 1010) (hT : TI w G) : TI w (zuI G r a i x) :=
  TI_sm (rs := [r]) (zsm_I (by simp) zsm_rf) (by simp; omega) hT

