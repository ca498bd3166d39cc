theorem sHon_0 {b : Nat → Int} {n : Int} {A : aS} (h : (sNew b n 1 A) 1 0 ≠ 0) : sHon b n A = sNew b n 1 A := by
  unfold sHon
  rw [sNum_ne h, if_neg h]
theorem sHon_1 {b : Nat → Int} {n : Int} {A : aS} (h : (sNum b n 0 100 (sNew b n 1 A)) 1 0 ≠ 0) : sHon b n A = sNum b n 0 100 (sNew b n 1 A) := by
  unfold sHon
  rw [if_neg h]
theorem sPer_ne {b : Nat → Int} {n : Int} {A : aS} (h : (sHon b n A) 1 0 ≠ 0) : sPerson b n A = sHon b n A := dds_e (fun q => h q.1) _
theorem sDeed_1 {b : Nat → Int} {n p : Int} {A : aS} (h : tK b n A ≠ 1) : sDeed b n p A = sFail b n 1 A := if_pos h
theorem sDeed_4 {b : Nat → Int} {n p : Int} {A : aS} (h : tK b n A = 1) (h2 : sFind 0 (tV b n A) A = -1) : sDeed b n p A = sFail b n 4 A := by
  unfold sDeed
  rw [if_neg (by omega), if_pos h2]
theorem sDeed_3 {b : Nat → Int} {n p : Int} {A : aS} (h : tK b n A = 1) (h2 : sFind 0 (tV b n A) A ≠ -1) (h3 : A 8 (p * 4 + sFind 0 (tV b n A) A).toNat ≠ 0) : sDeed b n p A = sFail b n 3 A := by
  unfold sDeed
  rw [if_neg (by omega), if_neg h2, if_pos h3]
theorem sDeed_n {b : Nat → Int} {n p : Int} {A : aS} (h : tK b n A = 1) (h2 : sFind 0 (tV b n A) A ≠ -1) (h3 : ¬ A 8 (p * 4 + sFind 0 (tV b n A) A).toNat ≠ 0) : sDeed b n p A = up (sNum b n 1 9 (sNext b n A)) 8 (p * 4 + sFind 0 (tV b n A) A).toNat (sNumV b n 1 9 (sNext b n A)) := by
  unfold sDeed
  rw [if_neg (by omega), if_neg h2, if_neg h3]
theorem dds_s {b : Nat → Int} {n p : Int} {A : aS} {m : Nat} (h0 : A 1 0 = 0) (hw : tW b n A = 2) (hm : 1 ≤ m) : sDeeds b n p m A = sDeeds b n p (m - 1) (sDeed b n p (sNext b n A)) := by
  obtain ⟨k, rfl⟩ : ∃ k, m = k + 1 := ⟨m - 1, by omega⟩
  rw [sDeeds, if_pos ⟨h0, hw⟩]
  rfl
theorem FT_dd {b : Nat → Int} {n p : Int} {w m : Nat} {A A1 X : aS} {G : zH} (h : FT w X G) (he : sDeeds b n p m A1 = sPerson b n A) (h0 : A1 1 0 = 0) (hw : tW b n A1 = 2) (hm : 1 ≤ m) (hX : sDeed b n p (sNext b n A1) = X) : FT w (sPerson b n A) G := by
  rw [← he, dds_s h0 hw hm, hX, dds_e (fun q => h.1 q.1)]
  exact h
/-- while a person's deeds are told: the state against the one ahead of the line -/
def pD (b : Nat → Int) (n : Int) (A A1 : aS) : Prop := (∀ f j : Nat, f ≠ 0 → f ≠ 8 → A1 f j = (sHon b n A) f j) ∧ ∀ j : Nat, ((j : Int) < 4 * A 4 1 ∨ 4 * A 4 1 + 4 ≤ j) → A1 8 j = A 8 j
def pG (Γ : zΓ) (w : Nat) (A A1 : aS) (G G2 : zH) : Prop := (∀ s : Nat, s < 4 → G2.1 2065 (Γ.2.1 w 28) (20 + 4 * (A 4 1).toNat + s) = A1 8 (4 * (A 4 1).toNat + s) ∧ 0 ≤ A1 8 (4 * (A 4 1).toNat + s)) ∧ ∀ j : Nat, j < 4 * (A 4 1).toNat → G2.1 2065 (Γ.2.1 w 28) (20 + j) = G.1 2065 (Γ.2.1 w 28) (20 + j)
theorem gR_person {b : Nat → Int} {n c v : Int} {Γ : zΓ} {w : Nat} {A B : aS} {G G1 : zH} (hfr : zsm [1007, 1008, 1009, 1010, 1004, 1005, 1011, 2063, 2064, 2065, 1018] G G1) (hR : gR b n Γ w A G) (hT : gT b n Γ w B G1) (h5 : A 4 1 < 5) (hB4 : ∀ j : Nat, B 4 j = if j = 1 then A 4 1 + 1 else A 4 j) (hB5 : ∀ j : Nat, B 5 j = if j = (5 + A 4 1).toNat then c else A 5 j) (hB7 : ∀ j : Nat, B 7 j = if j = (A 4 1).toNat then v else A 7 j) (hB8 : ∀ j : Nat, ((j : Int) < 4 * A 4 1 ∨ 4 * A 4 1 + 4 ≤ j) → B 8 j = A 8 j) (hBo : ∀ f j : Nat, f ≠ 0 → f ≠ 4 → f ≠ 5 → f ≠ 7 → f ≠ 8 → B f j = A f j)
    (e18 : G1.1 1018 w 0 = A 4 1 + 1) (e4 : G1.1 1004 w 0 = G.1 1004 w 0) (e5 : G1.1 1005 w 0 = G.1 1005 w 0) (h63 : ∀ j : Nat, G1.1 2063 (Γ.2.1 w 26) j = if j = (5 + A 4 1).toNat then c else G.1 2063 (Γ.2.1 w 26) j) (h64 : ∀ j : Nat, G1.1 2064 (Γ.2.1 w 27) j = if j = (5 + A 4 1).toNat then v else G.1 2064 (Γ.2.1 w 27) j) (h65 : pG Γ w A B G G1) : gR b n Γ w B G1 := by
  obtain ⟨-, hF, hS, hP, hC, hM, hO, hL, hK, hc⟩ := hR
  obtain ⟨p1, p2, p3, p4, p5, p6⟩ := hP
  have s0 := hS.2.2.1
  refine ⟨hT, gF_sm (hBo _ _ (by decide) (by decide) (by decide) (by decide) (by decide)) (hBo _ _ (by decide) (by decide) (by decide) (by decide) (by decide)) e4 e5 hF, ?_, ?_, ?_, ?_, ?_, ?_, ?_, ?_⟩
  · exact gS_of (fun f j hf => by rcases hf with ⟨rfl, rfl⟩ | ⟨rfl, hj⟩ | rfl; (rw [hB4, if_neg (by decide)]); (rw [hB5, if_neg (by omega)]); (exact (hBo _ _ (by decide) (by decide) (by decide) (by decide) (by decide)))) (zsm_at hfr 1017 w 0 (by decide)) (hfr.1 2061 (by decide)) (hfr.1 2062 (by decide)) hS
  · refine ⟨?_, ?_, ?_, fun j hj => ?_, fun j hj => ?_, fun j hj hj2 => ?_⟩
    · rw [hB4, if_pos rfl]; exact e18
    · rw [hB4, if_pos rfl]; omega
    · rw [hB4, if_pos rfl]; omega
    · rw [hB4, if_pos rfl] at hj
      rw [h63, h64, hB5, hB7]
      by_cases q : j = (A 4 1).toNat
      · (repeat rw [if_pos (by omega)])
        try exact ⟨rfl, rfl⟩
      · (repeat rw [if_neg (by omega)])
        exact p4 j (by omega)
    · rw [hB4, if_pos rfl] at hj
      rcases Nat.lt_or_ge j (4 * (A 4 1).toNat) with q | q
      · rw [h65.2 j q, hB8 j (by omega)]
        exact p5 j (by omega)
      · have h6 := (h65.1 (j - 4 * (A 4 1).toNat) (by omega)).1
        rw [show 20 + 4 * (A 4 1).toNat + (j - 4 * (A 4 1).toNat) = 20 + j by omega, show 4 * (A 4 1).toNat + (j - 4 * (A 4 1).toNat) = j by omega] at h6
        exact h6
    · rw [hB4, if_pos rfl] at hj
      rw [hB8 j (by omega)]
      exact p6 j (by omega) hj2
  · exact gC_of (fun f j hf => by rcases hf with ⟨rfl, rfl⟩ | ⟨rfl, hj⟩ | rfl | rfl | rfl; (rw [hB4, if_neg (by decide)]); (rw [hB5, if_neg (by omega)]); (exact (hBo _ _ (by decide) (by decide) (by decide) (by decide) (by decide))); (exact (hBo _ _ (by decide) (by decide) (by decide) (by decide) (by decide))); (exact (hBo _ _ (by decide) (by decide) (by decide) (by decide) (by decide)))) (zsm_at hfr 1019 w 0 (by decide)) (hfr.1 2066 (by decide)) (hfr.1 2067 (by decide)) (hfr.1 2068 (by decide)) (hfr.1 2069 (by decide)) hC
  · exact gM_of (fun f j hf => by rcases hf with ⟨rfl, rfl⟩ | ⟨rfl, hj⟩; (rw [hB4, if_neg (by decide)]); (rw [hB5, if_neg (by omega)])) (zsm_at hfr 1020 w 0 (by decide)) (hfr.1 2070 (by decide)) hM
  · exact gO_of (fun f j hf => by rcases hf with rfl | rfl | rfl | rfl | rfl; (exact (hBo _ _ (by decide) (by decide) (by decide) (by decide) (by decide))); (exact (hBo _ _ (by decide) (by decide) (by decide) (by decide) (by decide))); (exact (hBo _ _ (by decide) (by decide) (by decide) (by decide) (by decide))); (exact (hBo _ _ (by decide) (by decide) (by decide) (by decide) (by decide))); (exact (hBo _ _ (by decide) (by decide) (by decide) (by decide) (by decide)))) (hfr.1 2059 (by decide)) (hfr.1 2060 (by decide)) hO
  · exact gL_of (fun f j hf => by rcases hf with rfl | rfl; (exact (hBo _ _ (by decide) (by decide) (by decide) (by decide) (by decide))); (exact (hBo _ _ (by decide) (by decide) (by decide) (by decide) (by decide)))) (hfr.1 2071 (by decide)) (hfr.1 2072 (by decide)) (hfr.1 2073 (by decide)) hL
  · exact gK_of (fun f j hf => hBo _ _ (by omega) (by omega) (by omega) (by omega) (by omega)) (zsm_at hfr 1021 w 0 (by decide)) (zsm_at hfr 1045 w 0 (by decide)) (hfr.1 2074 (by decide)) (hfr.1 2075 (by decide)) (hfr.1 2076 (by decide)) hK
  · rw [hBo 21 0 (by decide) (by decide) (by decide) (by decide) (by decide), hBo 20 0 (by decide) (by decide) (by decide) (by decide) (by decide)]; exact hc
