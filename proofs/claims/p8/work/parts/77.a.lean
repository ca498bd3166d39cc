theorem sSemi_ne {b : Nat → Int} {n : Int} {A : aS} (h : A 1 0 ≠ 0) : sSemi b n A = A := by
  unfold sSemi
  split
  · rfl
  · exact sFail_1 h
theorem FT_same {w : Nat} {A B : aS} {G : zH} (h : FT w A G) (h1 : B 1 0 = A 1 0) (h2 : B 2 0 = A 2 0) : FT w B G := by
  unfold FT at *
  rw [h1, h2]
  exact h
theorem FT_semi {b : Nat → Int} {n : Int} {w : Nat} {A B : aS} {G : zH} (h : FT w (sSemi b n A) G) (h0 : B 0 0 = A 0 0) (h1 : B 1 0 = A 1 0) (h2 : B 2 0 = A 2 0) : FT w (sSemi b n B) G := by
  obtain ⟨p0, p1, p2, -⟩ := tk_00 (b := b) (n := n) h0
  refine FT_same h ?_ ?_
  · unfold sSemi
    rw [p1, p2]
    split
    · exact h1
    · unfold sFail
      rw [h1, p0]
      split
      · simp (disch := decide) only [up_f, up_eq]
      · exact h1
  · unfold sSemi
    rw [p1, p2]
    split
    · exact h2
    · unfold sFail
      rw [h1, p0]
      split
      · rw [up_eq, up_eq]
      · exact h2
theorem sKnot_s {b : Nat → Int} {n : Int} {A : aS} (h : tK b n A = 4 ∧ 5 ≤ tV b n A ∧ tV b n A ≤ 14) : sKnot b n A = tV b n A := if_pos h
theorem sKnot_w {b : Nat → Int} {n : Int} {A : aS} (h : tK b n A = 2) : (tV b n A = 14 → sKnot b n A = 2) ∧ (tV b n A = 15 → sKnot b n A = 3) := by
  have e : tW b n A = tV b n A := tW_c.1 h
  unfold sKnot
  rw [if_neg (by omega), e]
  exact ⟨fun q => by rw [if_pos q], fun q => by rw [if_neg (by omega), if_pos q]⟩
theorem sKnot_n {b : Nat → Int} {n : Int} {A : aS} (h1 : ¬ (tK b n A = 4 ∧ 5 ≤ tV b n A ∧ tV b n A ≤ 14)) (h2 : ¬ (tK b n A = 2 ∧ tV b n A = 15)) (h3 : ¬ (tK b n A = 2 ∧ tV b n A = 14)) : sKnot b n A = -1 := by
  have e := tW_c (b := b) (n := n) (A := A)
  unfold sKnot
  rw [if_neg h1, if_neg (by omega), if_neg (by omega)]
theorem sBeh_close {b : Nat → Int} {n : Int} {A : aS} (h : tK b n A = 4 ∧ tV b n A = 16) (ho : A 23 0 ≠ 0) : sBehind b n A = sClose b n A ∧ sGo b n A = 1 := by
  have hk : sKnot b n A = -1 := sKnot_n (by omega) (by omega) (by omega)
  unfold sBehind sGo
  rw [if_neg (by omega), if_neg (by rintro (q | q); exact ho q; exact q h), if_neg (by omega), if_neg (by rintro (q | q); exact ho q; exact q h)]
  exact ⟨rfl, rfl⟩
theorem sBeh_j {b : Nat → Int} {n : Int} {A : aS} (h : sKnot b n A ≠ -1) : sBehind b n A = sJoint b n (sKnot b n A) A ∧ sGo b n A = 1 := by
  unfold sBehind sGo
  rw [if_pos h, if_pos h]
  exact ⟨rfl, rfl⟩
theorem sBeh_0 {b : Nat → Int} {n : Int} {A : aS} (h : sKnot b n A = -1) (ho : A 23 0 = 0) : sBehind b n A = A ∧ sGo b n A = 0 := by
  unfold sBehind sGo
  rw [if_neg (by omega), if_pos (Or.inl ho), if_neg (by omega), if_neg (by omega), if_pos (Or.inl ho)]
  exact ⟨rfl, rfl⟩
theorem sBeh_1 {b : Nat → Int} {n : Int} {A : aS} (h : sKnot b n A = -1) (ho : 0 < A 23 0) (hc : ¬ (tK b n A = 4 ∧ tV b n A = 16)) : sBehind b n A = sFail b n 1 A := by
  unfold sBehind
  rw [if_neg (by omega), if_pos (Or.inr hc), if_pos ho]
theorem sJoint_bad {b : Nat → Int} {n k : Int} {A : aS} (h : bnd k = 4 ∧ 0 < (sJR k A) 22 0 ∧ bnd ((sJR k A) 26 ((sJR k A) 22 0 - 1).toNat) = 4) : sJoint b n k A = sFail b n 1 (sJR k A) := if_pos h
theorem sJoint_64 {b : Nat → Int} {n k : Int} {A : aS} (h : ¬ (bnd k = 4 ∧ 0 < (sJR k A) 22 0 ∧ bnd ((sJR k A) 26 ((sJR k A) 22 0 - 1).toNat) = 4)) (h64 : 64 ≤ (sJR k A) 21 0) : sJoint b n k A = sFail b n 2 (sJR k A) := by
  unfold sJoint
  rw [if_neg h]
  unfold sJB
  rw [sCount_64 h64, if_neg (sFail_f (by decide))]
theorem sJoint_ok {b : Nat → Int} {n k : Int} {A : aS} (h : ¬ (bnd k = 4 ∧ 0 < (sJR k A) 22 0 ∧ bnd ((sJR k A) 26 ((sJR k A) 22 0 - 1).toNat) = 4)) (h0 : (sJR k A) 1 0 = 0) (h64 : (sJR k A) 21 0 < 64) (h72 : (sJR k A) 22 0 < 72) : sJoint b n k A = sNext b n (up (up (up (up (up (sJR k A) 21 0 ((sJR k A) 21 0 + 1)) 24 0 1) 25 0 (if bnd k < 4 then 1 else 0)) 26 ((sJR k A) 22 0).toNat k) 22 0 ((sJR k A) 22 0 + 1)) := by
  unfold sJoint
  rw [if_neg h]
  unfold sJB
  rw [sCount_lt h0 h64, if_pos (by rw [up_f (by decide)]; exact h0), sPush_at (by simp (disch := decide) only [up_f]; omega)]
  simp (disch := decide) only [up_f]
theorem gX_close {b : Nat → Int} {n : Int} {Γ : zΓ} {w : Nat} {A R : aS} {G G1 : zH} (hT : gT b n Γ w (sNext b n A) G1) (hK : gK Γ w R G) (hE : gE Γ w R G) (r0 : R 0 0 = A 0 0) (r1 : R 1 0 = 0) (r2 : R 2 0 = A 2 0) (hw : 1 ≤ R 22 0)
    (e4 : G1.1 1004 w 0 = 0) (e5 : G1.1 1005 w 0 = A 2 0) (e42 : G1.1 1042 w 0 = R 22 0 - 1) (e44 : G1.1 1044 w 0 = R 23 0 - 1) (e43 : G1.1 1043 w 0 = G.1 1043 w 0) (e46 : G1.1 1046 w 0 = G.1 1046 w 0) (e47 : G1.1 1047 w 0 = G.1 1047 w 0) (e21 : G1.1 1021 w 0 = G.1 1021 w 0) (e45 : G1.1 1045 w 0 = G.1 1045 w 0)
    (h74 : G1.1 2074 = G.1 2074) (h75 : G1.1 2075 = G.1 2075) (h76 : G1.1 2076 = G.1 2076) (h78 : G1.1 2078 = G.1 2078) (h77 : G1.1 2077 = G.1 2077) : gX b n Γ w (sNext b n (up (up R 22 0 (max 0 (R 22 0 - 1))) 23 0 (R 23 0 - 1))) G1 := by
  rw [show max 0 (R 22 0 - 1) = R 22 0 - 1 by omega]
  refine ⟨gT_A (A := sNext b n A) (sNext_00 (by rw [up_f (by decide), up_f (by decide)]; exact r0.symm)) hT, ?_, ?_, ?_, e4, ?_⟩
  · exact gK_of (A := R) (G := G) (fun f j hf => by rw [sNext_f (by omega), up_f (by omega), up_f (by omega)]) e21 e45 h74 h75 h76 hK
  · obtain ⟨k1, k2, k3, k4, k5, k6, k7⟩ := hE
    refine ⟨by simp (disch := decide) only [sNext_f, up_f, up_eq, up_at]; exact e42, by simp (disch := decide) only [sNext_f, up_f, up_eq, up_at]; rw [e43]; exact k2, by simp (disch := decide) only [sNext_f, up_f, up_eq, up_at]; exact e44, by simp (disch := decide) only [sNext_f, up_f, up_eq, up_at]; rw [e46]; exact k4, by simp (disch := decide) only [sNext_f, up_f, up_eq, up_at]; rw [e47]; exact k5, fun j hj => ?_, fun j hj => ?_⟩
    · (simp (disch := decide) only [sNext_f, up_f, up_eq, up_at] at hj)
      simp (disch := decide) only [sNext_f, up_f, up_eq, up_at]
      rw [h77]
      exact k6 j (by omega)
    · (simp (disch := decide) only [sNext_f, up_f, up_eq, up_at] at hj)
      simp (disch := decide) only [sNext_f, up_f, up_eq, up_at]
      rw [h78]
      exact k7 j hj
  · simp (disch := decide) only [sNext_f, up_f, up_eq, up_at]
    exact r1
  · simp (disch := decide) only [sNext_f, up_f, up_eq, up_at]
    rw [r2]
    exact e5
theorem sReln_30 {r : Int} {f j : Nat} (h1 : f < 3) : ∀ (m : Nat) (A : aS), (sReln r m A) f j = A f j := fun m A => sReln_f (by omega) (by omega) (by omega) (by omega) (by omega) m A
theorem sRel_0 {r : Int} {A : aS} {f j : Nat} (h1 : f < 3) : (sRel r A) f j = A f j := sReln_30 h1 _ A
theorem sFin_f {k : Int} {A : aS} {f j : Nat} (h : f ≠ 17) : (sFin k A) f j = A f j := by
  unfold sFin
  split
  · exact up_f h
  · rfl
