theorem sE_20 {b : Nat → Int} {n k : Int} {A : aS} {f j : Nat} (h : f ≠ 17) : (sE b n k A) f j = (sRel 0 (sEL b n 700 1 (sBeg k A))) f j := by
  unfold sE
  exact sFin_f h
theorem sE_f {b : Nat → Int} {n k : Int} {A : aS} {f j : Nat} (h0 : 3 ≤ f) (h1 : f < 16) : (sE b n k A) f j = A f j := by
  rw [sE_20 (by omega), sRel_f (by omega) (by omega) (by omega) (by omega) (by omega), sEL_f h0 (by omega), sBeg_f (by omega) (by omega)]
theorem sE_16 {b : Nat → Int} {n k : Int} {A : aS} {j : Nat} (hk : 0 ≤ k ∧ k < 7) : (sE b n k A) 16 j = if j = k.toNat then A 20 0 else A 16 j := by
  rw [sE_20 (by decide), sRel_f (by decide) (by decide) (by decide) (by decide) (by decide), sEL_f (by decide) (by decide), sBeg_16 hk]
theorem sE_17 {b : Nat → Int} {n k : Int} {A : aS} {j : Nat} (hk : 0 ≤ k ∧ k < 7) : (sE b n k A) 17 j = if j = k.toNat then (sRel 0 (sEL b n 700 1 (sBeg k A))) 20 0 else A 17 j := by
  unfold sE sFin
  rw [if_pos hk, up_at]
  by_cases q : j = k.toNat
  · rw [if_pos q, if_pos q]
  · rw [if_neg q, if_neg q, sRel_f (by decide) (by decide) (by decide) (by decide) (by decide), sEL_f (by decide) (by decide), sBeg_f (by decide) (by decide)]
theorem gL_law {Γ : zΓ} {w : Nat} {A B : aS} {G G1 : zH} {k kk s0 s1 : Int} (h : gL Γ w A G) (hk : k = 7 + kk ∧ 0 ≤ kk ∧ kk < 7) (hs : s0 < s1) (b16 : ∀ j, B 16 j = if j = kk.toNat then s0 else A 16 j) (b17 : ∀ j, B 17 j = if j = kk.toNat then s1 else A 17 j)
    (h71 : ∀ j, G1.1 2071 (Γ.2.1 w 34) j = if j = k.toNat then 1 else G.1 2071 (Γ.2.1 w 34) j) (h72 : ∀ j, G1.1 2072 (Γ.2.1 w 35) j = if j = k.toNat then s0 else G.1 2072 (Γ.2.1 w 35) j) (h73 : ∀ j, G1.1 2073 (Γ.2.1 w 36) j = if j = k.toNat then s1 else G.1 2073 (Γ.2.1 w 36) j) : gL Γ w B G1 := by
  intro j hj
  rw [h71, h72, h73, b16, b17]
  by_cases q : j = kk.toNat
  · rw [if_pos q, if_pos q, if_pos hs, if_pos (by omega), if_pos (by omega), if_pos (by omega)]
    exact ⟨rfl, fun _ => ⟨rfl, rfl⟩⟩
  · have q7 : ¬ 7 + j = k.toNat := by omega
    rw [if_neg q, if_neg q, if_neg q7, if_neg q7, if_neg q7]
    exact h j hj

