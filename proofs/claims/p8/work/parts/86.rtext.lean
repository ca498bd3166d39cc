/-- as the reference is at a text's beginning -/
def gZ (Γ : zΓ) (w : Nat) (G : zH) : Prop := G.1 1017 w 0 = 0 ∧ G.1 1018 w 0 = 0 ∧ G.1 1019 w 0 = 0 ∧ G.1 1020 w 0 = 0 ∧ G.1 1021 w 0 = 0 ∧ G.1 1045 w 0 = 0 ∧ G.1 2059 (Γ.2.1 w 22) 4 = 100 ∧ G.1 2059 (Γ.2.1 w 22) 5 = 5 ∧ G.1 2059 (Γ.2.1 w 22) 6 = 0 ∧ G.1 2059 (Γ.2.1 w 22) 7 = 0 ∧ (∀ j : Nat, j < 4 → G.1 2060 (Γ.2.1 w 23) j = 0) ∧ (∀ j : Nat, 7 ≤ j → j < 14 → G.1 2071 (Γ.2.1 w 34) j = 0)
theorem ob_0 : ∀ j : Nat, j < 4 → ob 0 j = 0 := by decide +kernel
theorem gD_0 {b : Nat → Int} {n : Int} {Γ : zΓ} {w : Nat} {A B : aS} {G : zH} (hA : sCl A) (hB : ∀ f j : Nat, f ≠ 0 → B f j = A f j) (h : gZ Γ w G) : gD Γ w B G := by
  obtain ⟨a0, a1, a2, a3, a4, a8, a16, a20, a21, a12, a13, a14, a15⟩ := hA
  obtain ⟨z1, z2, z3, z4, z5, z6, z7, z8, z9, z10, z11, z12⟩ := h
  refine ⟨?_, ?_, ?_, ?_, ?_, ?_, ?_, ?_⟩
  · unfold gS
    rw [hB 4 0 (by decide), a4 0 (by decide)]
    exact ⟨z1, by decide, by decide, fun j hj => by omega⟩
  · unfold gP
    rw [hB 4 1 (by decide), a4 1 (by decide)]
    exact ⟨z2, by decide, by decide, fun j hj => by omega, fun j hj => by omega, fun j hj hj2 => by rw [hB 8 j (by decide)]; exact a8 j hj2⟩
  · unfold gC
    rw [hB 4 2 (by decide), a4 2 (by decide)]
    exact ⟨z3, by decide, by decide, fun j hj => by omega⟩
  · unfold gM
    rw [hB 4 3 (by decide), a4 3 (by decide)]
    exact ⟨z4, by decide, by decide, fun j hj => by omega⟩
  · refine ⟨⟨0, by decide, by rw [hB 3 0 (by decide), a3]; rfl⟩, fun j hj => ⟨?_, ?_⟩⟩
    · rw [hB 3 0 (by decide), a3, ob_0 j hj]; exact z11 j hj
    · rw [hB (12 + j) 0 (by omega)]
      rcases (show j = 0 ∨ j = 1 ∨ j = 2 ∨ j = 3 by omega) with rfl | rfl | rfl | rfl
      · exact z7.trans a12.symm
      · exact z8.trans a13.symm
      · exact z9.trans a14.symm
      · exact z10.trans a15.symm
  · intro j hj
    rw [hB 16 j (by decide), hB 17 j (by decide), (a16 j hj).1, (a16 j hj).2, if_neg (by decide)]
    exact ⟨z12 (7 + j) (by omega) (by omega), fun q => absurd q (by decide)⟩
  · unfold gK
    rw [hB 20 0 (by decide), hB 21 0 (by decide), a20, a21]
    exact ⟨z5, z6, fun j hj => by omega⟩
  · rw [hB 20 0 (by decide), hB 21 0 (by decide), a20, a21]
theorem gZ_sm {Γ : zΓ} {w : Nat} {G G1 : zH} {rs : List Nat} (hs : zsm rs G G1) (hr : ∀ r ∈ [1017, 1018, 1019, 1020, 1021, 1045, 2059, 2060, 2071], r ∉ rs) (h : gZ Γ w G) : gZ Γ w G1 := by
  unfold gZ at *
  rw [hs.1 1017 (hr _ (by decide)), hs.1 1018 (hr _ (by decide)), hs.1 1019 (hr _ (by decide)), hs.1 1020 (hr _ (by decide)), hs.1 1021 (hr _ (by decide)), hs.1 1045 (hr _ (by decide)), hs.1 2059 (hr _ (by decide)), hs.1 2060 (hr _ (by decide)), hs.1 2071 (hr _ (by decide))]
  exact h
theorem gT_0 {b : Nat → Int} {n : Int} {Γ : zΓ} {w : Nat} {A : aS} {G G1 : zH} (hn : 0 ≤ n) (hA : A 0 0 = -1) (hb : G.1 2057 (Γ.2.1 w 0) = b) (h6 : G.1 1006 w 0 = n) (h7 : G.1 1007 w 0 = 0) (hs : zsm [1007, 1008, 1009, 1010] G G1) (hq : G1.1 1010 w 0 = sk (G.1 2057 (Γ.2.1 w 0)) (G.1 1006 w 0) (G.1 1007 w 0) ∧ G1.1 1007 w 0 = tkN (G.1 2057 (Γ.2.1 w 0)) (G.1 1006 w 0) (sk (G.1 2057 (Γ.2.1 w 0)) (G.1 1006 w 0) (G.1 1007 w 0)) ∧ tkM (tkK (G.1 2057 (Γ.2.1 w 0)) (G.1 1006 w 0) (sk (G.1 2057 (Γ.2.1 w 0)) (G.1 1006 w 0) (G.1 1007 w 0))) (tkV (G.1 2057 (Γ.2.1 w 0)) (G.1 1006 w 0) (sk (G.1 2057 (Γ.2.1 w 0)) (G.1 1006 w 0) (G.1 1007 w 0))) (G1.1 1008 w 0) (G1.1 1009 w 0)) : gT b n Γ w (sNext b n A) G1 := by
  have e0 : (sNext b n A) 0 0 = 0 := by
    unfold sNext
    rw [if_pos (Or.inl (by omega)), up_eq]
    omega
  have e1 : tP b n (sNext b n A) = sk b n 0 := by
    unfold tP
    rw [e0]
    rfl
  rw [hb, h6, h7, ← e1] at hq
  refine ⟨by rw [hs.1 2057 (by decide)]; exact hb, by rw [hs.1 1006 (by decide)]; exact h6, by rw [e0]; decide, ?_, hq⟩
  rw [e1]
  exact sp_le hn
theorem sLN_s {b : Nat → Int} {n : Int} {A : aS} {m : Nat} {c : Int} (h0 : A 1 0 = 0) (hk : tK b n A ≠ 0) (hm : 1 ≤ m) : sLN b n m A = sLN b n (m - 1) (sLine b n A) ∧ sLC b n m c A = sLC b n (m - 1) (c + 1) (sLine b n A) := by
  obtain ⟨k, rfl⟩ : ∃ k, m = k + 1 := ⟨m - 1, by omega⟩
  rw [sLN, sLC, if_pos ⟨h0, hk⟩, if_pos ⟨h0, hk⟩]
  exact ⟨rfl, rfl⟩

