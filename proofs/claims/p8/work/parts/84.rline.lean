theorem gL_sm {Γ : zΓ} {w : Nat} {A : aS} {G G1 : zH} {rs : List Nat} (hs : zsm rs G G1) (hr : ∀ r ∈ [2071, 2072, 2073], r ∉ rs) (h : gL Γ w A G) : gL Γ w A G1 := by
  unfold gL at *
  rw [hs.1 2071 (hr _ (by decide)), hs.1 2072 (hr _ (by decide)), hs.1 2073 (hr _ (by decide))]
  exact h
theorem gL_I {Γ : zΓ} {w : Nat} {A : aS} {G : zH} {r a i : Nat} {x : Int} (hr : ∀ r' ∈ [2071, 2072, 2073], r' ≠ r) (h : gL Γ w A G) : gL Γ w A (zuI G r a i x) :=
  gL_sm (rs := [r]) (zsm_I (by simp) zsm_rf) (fun r' h' q => hr r' h' (List.mem_singleton.mp q)) h

theorem gR_sin {b : Nat → Int} {n c v : Int} {Γ : zΓ} {w : Nat} {A B : aS} {G G1 : zH} (hfr : zsm [1007, 1008, 1009, 1010, 1004, 1005, 1011, 2061, 2062, 1017] G G1) (hR : gR b n Γ w A G) (hT : gT b n Γ w B G1) (hF1 : gF w B G1) (hB4 : ∀ j : Nat, B 4 j = if j = 0 then A 4 0 + 1 else A 4 j) (hB5 : ∀ j : Nat, B 5 j = if j = (0 + A 4 0).toNat then c else A 5 j) (hBo : ∀ f j : Nat, f ≠ 0 → f ≠ 4 → f ≠ 5 → f ≠ 6 → B f j = A f j) (h4 : A 4 0 < 4) (hB6 : ∀ j : Nat, B 6 j = if j = (A 4 0).toNat then v else A 6 j) (e17 : G1.1 1017 w 0 = A 4 0 + 1) (h61 : ∀ j : Nat, G1.1 2061 (Γ.2.1 w 24) j = if j = (4 + A 4 0).toNat then c else G.1 2061 (Γ.2.1 w 24) j) (h62 : ∀ j : Nat, G1.1 2062 (Γ.2.1 w 25) j = if j = (4 + A 4 0).toNat then v else G.1 2062 (Γ.2.1 w 25) j) : gR b n Γ w B G1 := by
  obtain ⟨-, hF, hS, hP, hC, hM, hO, hL, hK, hc⟩ := hR
  have s0 := hS.2.2.1
  have s1 := hS.2.1
  have m0 := hM.2.1
  refine ⟨hT, hF1, ?_, ?_, ?_, ?_, ?_, ?_, ?_, ?_⟩
  · refine ⟨?_, ?_, ?_, fun j hj => ?_⟩
    · rw [hB4, if_pos rfl]; exact e17
    · rw [hB4, if_pos rfl]; omega
    · rw [hB4, if_pos rfl]; omega
    · rw [hB4, if_pos rfl] at hj
      rw [h61, h62, hB5, hB6]
      by_cases q : j = (A 4 0).toNat
      · (repeat rw [if_pos (by omega)])
        try exact ⟨rfl, rfl⟩
      · (repeat rw [if_neg (by omega)])
        exact hS.2.2.2 j (by omega)
  · exact gP_of (fun f j hf => by rcases hf with ⟨rfl, rfl⟩ | ⟨rfl, hj⟩ | rfl | rfl; (rw [hB4, if_neg (by decide)]); (rw [hB5, if_neg (by omega)]); (exact (hBo _ _ (by decide) (by decide) (by decide) (by decide))); (exact (hBo _ _ (by decide) (by decide) (by decide) (by decide)))) (zsm_at hfr 1018 w 0 (by decide)) (hfr.1 2063 (by decide)) (hfr.1 2064 (by decide)) (hfr.1 2065 (by decide)) hP
  · exact gC_of (fun f j hf => by rcases hf with ⟨rfl, rfl⟩ | ⟨rfl, hj⟩ | rfl | rfl | rfl; (rw [hB4, if_neg (by decide)]); (rw [hB5, if_neg (by omega)]); (exact (hBo _ _ (by decide) (by decide) (by decide) (by decide))); (exact (hBo _ _ (by decide) (by decide) (by decide) (by decide))); (exact (hBo _ _ (by decide) (by decide) (by decide) (by decide)))) (zsm_at hfr 1019 w 0 (by decide)) (hfr.1 2066 (by decide)) (hfr.1 2067 (by decide)) (hfr.1 2068 (by decide)) (hfr.1 2069 (by decide)) hC
  · exact gM_of (fun f j hf => by rcases hf with ⟨rfl, rfl⟩ | ⟨rfl, hj⟩; (rw [hB4, if_neg (by decide)]); (rw [hB5, if_neg (by omega)])) (zsm_at hfr 1020 w 0 (by decide)) (hfr.1 2070 (by decide)) hM
  · exact gO_of (fun f j hf => by rcases hf with rfl | rfl | rfl | rfl | rfl; (exact (hBo _ _ (by decide) (by decide) (by decide) (by decide))); (exact (hBo _ _ (by decide) (by decide) (by decide) (by decide))); (exact (hBo _ _ (by decide) (by decide) (by decide) (by decide))); (exact (hBo _ _ (by decide) (by decide) (by decide) (by decide))); (exact (hBo _ _ (by decide) (by decide) (by decide) (by decide)))) (hfr.1 2059 (by decide)) (hfr.1 2060 (by decide)) hO
  · exact gL_of (fun f j hf => by rcases hf with rfl | rfl; (exact (hBo _ _ (by decide) (by decide) (by decide) (by decide))); (exact (hBo _ _ (by decide) (by decide) (by decide) (by decide)))) (hfr.1 2071 (by decide)) (hfr.1 2072 (by decide)) (hfr.1 2073 (by decide)) hL
  · exact gK_of (fun f j hf => hBo _ _ (by omega) (by omega) (by omega) (by omega)) (zsm_at hfr 1021 w 0 (by decide)) (zsm_at hfr 1045 w 0 (by decide)) (hfr.1 2074 (by decide)) (hfr.1 2075 (by decide)) (hfr.1 2076 (by decide)) hK
  · rw [hBo 21 0 (by decide) (by decide) (by decide) (by decide), hBo 20 0 (by decide) (by decide) (by decide) (by decide)]; exact hc
theorem gR_may {b : Nat → Int} {n c v : Int} {Γ : zΓ} {w : Nat} {A B : aS} {G G1 : zH} (hfr : zsm [1007, 1008, 1009, 1010, 1004, 1005, 2074, 2075, 2076, 2078, 1043, 1021, 2077, 1042, 1044, 1045, 1046, 1047, 2071, 2072, 2073, 2070, 1020] G G1) (hR : gR b n Γ w A G) (hT : gT b n Γ w B G1) (hF1 : gF w B G1) (hB4 : ∀ j : Nat, B 4 j = if j = 3 then A 4 3 + 1 else A 4 j) (hB5 : ∀ j : Nat, B 5 j = if j = (15 + A 4 3).toNat then c else A 5 j) (hBo : ∀ f j : Nat, 3 ≤ f → f < 16 → f ≠ 4 → f ≠ 5 → B f j = A f j) (h3 : A 4 3 < 3) (hL1 : gL Γ w B G1) (hK1 : gK Γ w B G1) (hc1 : B 21 0 = B 20 0) (e20 : G1.1 1020 w 0 = A 4 3 + 1) (h70 : ∀ j : Nat, G1.1 2070 (Γ.2.1 w 33) j = if j = (3 + A 4 3).toNat then c else G.1 2070 (Γ.2.1 w 33) j) : gR b n Γ w B G1 := by
  obtain ⟨-, hF, hS, hP, hC, hM, hO, hL, hK, hc⟩ := hR
  have s0 := hS.2.2.1
  have s1 := hS.2.1
  have m0 := hM.2.1
  refine ⟨hT, hF1, ?_, ?_, ?_, ?_, ?_, ?_, ?_, ?_⟩
  · exact gS_of (fun f j hf => by rcases hf with ⟨rfl, rfl⟩ | ⟨rfl, hj⟩ | rfl; (rw [hB4, if_neg (by decide)]); (rw [hB5, if_neg (by omega)]); (exact (hBo _ _ (by decide) (by decide) (by decide) (by decide)))) (zsm_at hfr 1017 w 0 (by decide)) (hfr.1 2061 (by decide)) (hfr.1 2062 (by decide)) hS
  · exact gP_of (fun f j hf => by rcases hf with ⟨rfl, rfl⟩ | ⟨rfl, hj⟩ | rfl | rfl; (rw [hB4, if_neg (by decide)]); (rw [hB5, if_neg (by omega)]); (exact (hBo _ _ (by decide) (by decide) (by decide) (by decide))); (exact (hBo _ _ (by decide) (by decide) (by decide) (by decide)))) (zsm_at hfr 1018 w 0 (by decide)) (hfr.1 2063 (by decide)) (hfr.1 2064 (by decide)) (hfr.1 2065 (by decide)) hP
  · exact gC_of (fun f j hf => by rcases hf with ⟨rfl, rfl⟩ | ⟨rfl, hj⟩ | rfl | rfl | rfl; (rw [hB4, if_neg (by decide)]); (rw [hB5, if_neg (by omega)]); (exact (hBo _ _ (by decide) (by decide) (by decide) (by decide))); (exact (hBo _ _ (by decide) (by decide) (by decide) (by decide))); (exact (hBo _ _ (by decide) (by decide) (by decide) (by decide)))) (zsm_at hfr 1019 w 0 (by decide)) (hfr.1 2066 (by decide)) (hfr.1 2067 (by decide)) (hfr.1 2068 (by decide)) (hfr.1 2069 (by decide)) hC
  · refine ⟨?_, ?_, ?_, fun j hj => ?_⟩
    · rw [hB4, if_pos rfl]; exact e20
    · rw [hB4, if_pos rfl]; omega
    · rw [hB4, if_pos rfl]; omega
    · rw [hB4, if_pos rfl] at hj
      rw [h70, hB5]
      by_cases q : j = (A 4 3).toNat
      · (repeat rw [if_pos (by omega)])
      · (repeat rw [if_neg (by omega)])
        exact hM.2.2.2 j (by omega)
  · exact gO_of (fun f j hf => by rcases hf with rfl | rfl | rfl | rfl | rfl; (exact (hBo _ _ (by decide) (by decide) (by decide) (by decide))); (exact (hBo _ _ (by decide) (by decide) (by decide) (by decide))); (exact (hBo _ _ (by decide) (by decide) (by decide) (by decide))); (exact (hBo _ _ (by decide) (by decide) (by decide) (by decide))); (exact (hBo _ _ (by decide) (by decide) (by decide) (by decide)))) (hfr.1 2059 (by decide)) (hfr.1 2060 (by decide)) hO
  · exact hL1
  · exact hK1
  · exact hc1
theorem gR_law {b : Nat → Int} {n : Int} {Γ : zΓ} {w : Nat} {A B : aS} {G G1 : zH} (hfr : zsm [1007, 1008, 1009, 1010, 1004, 1005, 2074, 2075, 2076, 2078, 1043, 1021, 2077, 1042, 1044, 1045, 1046, 1047, 2071, 2072, 2073] G G1) (hR : gR b n Γ w A G) (hT : gT b n Γ w B G1) (hF1 : gF w B G1) (hBo : ∀ f j : Nat, 3 ≤ f → f < 16 → B f j = A f j) (hL1 : gL Γ w B G1) (hK1 : gK Γ w B G1) (hc1 : B 21 0 = B 20 0) : gR b n Γ w B G1 := by
  obtain ⟨-, hF, hS, hP, hC, hM, hO, hL, hK, hc⟩ := hR
  refine ⟨hT, hF1, ?_, ?_, ?_, ?_, ?_, hL1, hK1, hc1⟩
  · exact gS_of (fun f j hf => hBo _ _ (by omega) (by omega)) (zsm_at hfr 1017 w 0 (by decide)) (hfr.1 2061 (by decide)) (hfr.1 2062 (by decide)) hS
  · exact gP_of (fun f j hf => hBo _ _ (by omega) (by omega)) (zsm_at hfr 1018 w 0 (by decide)) (hfr.1 2063 (by decide)) (hfr.1 2064 (by decide)) (hfr.1 2065 (by decide)) hP
  · exact gC_of (fun f j hf => hBo _ _ (by omega) (by omega)) (zsm_at hfr 1019 w 0 (by decide)) (hfr.1 2066 (by decide)) (hfr.1 2067 (by decide)) (hfr.1 2068 (by decide)) (hfr.1 2069 (by decide)) hC
  · exact gM_of (fun f j hf => hBo _ _ (by omega) (by omega)) (zsm_at hfr 1020 w 0 (by decide)) (hfr.1 2070 (by decide)) hM
  · exact gO_of (fun f j hf => hBo _ _ (by omega) (by omega)) (hfr.1 2059 (by decide)) (hfr.1 2060 (by decide)) hO
theorem gR_sm {b : Nat → Int} {n : Int} {Γ : zΓ} {w : Nat} {A B : aS} {G G1 : zH} (hfr : zsm [1007, 1008, 1009, 1010] G G1) (hR : gR b n Γ w A G) (hT : gT b n Γ w B G1) (hBo : ∀ f j : Nat, f ≠ 0 → B f j = A f j) : gR b n Γ w B G1 := by
  obtain ⟨hT0, hF, hS, hP, hC, hM, hO, hL, hK, hc⟩ := hR
  exact gR_law (A := A) (G := G) (zsm_mo hfr (by decide)) ⟨hT0, hF, hS, hP, hC, hM, hO, hL, hK, hc⟩ hT (gF_sm (hBo _ _ (by decide)) (hBo _ _ (by decide)) (zsm_at hfr 1004 w 0 (by decide)) (zsm_at hfr 1005 w 0 (by decide)) hF) (fun f j h1 h2 => hBo _ _ (by omega)) (gL_of (fun f j hf => hBo _ _ (by omega)) (hfr.1 2071 (by decide)) (hfr.1 2072 (by decide)) (hfr.1 2073 (by decide)) hL) (gK_of (fun f j hf => hBo _ _ (by omega)) (zsm_at hfr 1021 w 0 (by decide)) (zsm_at hfr 1045 w 0 (by decide)) (hfr.1 2074 (by decide)) (hfr.1 2075 (by decide)) (hfr.1 2076 (by decide)) hK) (by rw [hBo _ _ (by decide), hBo _ _ (by decide)]; exact hc)
theorem sBd_0 {b : Nat → Int} {n : Int} {A : aS} (h : tW b n A = 0) : sBody b n A = sSin b n A := if_pos h
theorem sBd_1 {b : Nat → Int} {n : Int} {A : aS} (h : tW b n A = 1) : sBody b n A = sPerson b n A := by unfold sBody; rw [if_neg (by omega), if_pos h]
theorem sBd_3 {b : Nat → Int} {n : Int} {A : aS} (h : tW b n A = 3) : sBody b n A = sCake b n A := by unfold sBody; rw [if_neg (by omega), if_neg (by omega), if_pos h]
theorem sBd_8 {b : Nat → Int} {n : Int} {A : aS} (h : tW b n A = 8) : sBody b n A = sE b n (sKindV b n A) (sKind b n A) := by
  unfold sBody
  (repeat rw [if_neg (by omega)])
  rw [if_pos h]
theorem sBd_9 {b : Nat → Int} {n : Int} {A : aS} (h : tW b n A = 9) : sBody b n A = sE b n (4 + sNewV b n 3 A) (sNew b n 3 A) := by
  unfold sBody
  (repeat rw [if_neg (by omega)])
  rw [if_pos h]
theorem sBd_o {b : Nat → Int} {n k : Int} {A : aS} (hk : 0 ≤ k ∧ k ≤ 3) (h : tW b n A = 4 + k) : sBody b n A = sOL b n k A := by
  unfold sBody
  rw [if_neg (by omega), if_neg (by omega), if_neg (by omega)]
  rcases (show k = 0 ∨ k = 1 ∨ k = 2 ∨ k = 3 by omega) with rfl | rfl | rfl | rfl
  · rw [if_pos (by omega)]; rfl
  · rw [if_neg (by omega), if_pos (by omega)]; rfl
  · rw [if_neg (by omega), if_neg (by omega), if_pos (by omega)]; rfl
  · rw [if_neg (by omega), if_neg (by omega), if_neg (by omega), if_pos (by omega)]; rfl
theorem sBd_n {b : Nat → Int} {n : Int} {A : aS} (h : tW b n A < 0 ∨ tW b n A = 2 ∨ 10 ≤ tW b n A) : sBody b n A = sFail b n 1 A := by
  unfold sBody
  (repeat rw [if_neg (by omega)])
theorem FT_line {b : Nat → Int} {n : Int} {w : Nat} {A : aS} {G : zH} (h : FT w (sSemi b n (sBody b n A)) G) : FT w (sLine b n A) G := by
  unfold sLine
  rw [sNumB_ne h.1]
  exact h
theorem FT_body {b : Nat → Int} {n : Int} {w : Nat} {A : aS} {G : zH} (h : FT w (sBody b n A) G) : FT w (sSemi b n (sBody b n A)) G := by
  rw [sSemi_ne h.1]
  exact h
theorem FT_Ene {b : Nat → Int} {n k : Int} {w : Nat} {A : aS} {G : zH} (h : FT w A G) : FT w (sSemi b n (sE b n k A)) G := by
  have e1 : (sBeg k A) 1 0 ≠ 0 := by rw [sBeg_f (by decide) (by decide)]; exact h.1
  refine FT_E (B := sBeg k A) ?_ (sEL_e (fun q => e1 q.1) _)
  rw [sSemi_ne e1]
  exact FT_same h (sBeg_f (by decide) (by decide)) (sBeg_f (by decide) (by decide))
theorem sSin_0 {b : Nat → Int} {n : Int} {A : aS} (h : (sNew b n 0 A) 1 0 ≠ 0) : sSin b n A = sNew b n 0 A := by
  unfold sSin
  rw [sNum_ne h, if_neg h]
theorem sSin_1 {b : Nat → Int} {n : Int} {A : aS} (h : (sNum b n 0 99 (sNew b n 0 A)) 1 0 ≠ 0) : sSin b n A = sNum b n 0 99 (sNew b n 0 A) := by
  unfold sSin
  rw [if_neg h]
theorem sKind_1 {b : Nat → Int} {n : Int} {A : aS} (h : tW b n (sNext b n A) < 10 ∨ 13 < tW b n (sNext b n A)) : sKind b n A = sFail b n 1 (sNext b n A) := if_pos h
theorem sKind_3 {b : Nat → Int} {n : Int} {A : aS} (h : ¬ (tW b n (sNext b n A) < 10 ∨ 13 < tW b n (sNext b n A))) (h2 : A 16 (tW b n (sNext b n A) - 10).toNat < A 17 (tW b n (sNext b n A) - 10).toNat) : sKind b n A = sFail b n 3 (sNext b n A) := by
  unfold sKind
  rw [if_neg h, if_pos (by rw [sNext_f (by decide), sNext_f (by decide)]; exact h2)]
theorem sKind_ok {b : Nat → Int} {n : Int} {A : aS} (h : ¬ (tW b n (sNext b n A) < 10 ∨ 13 < tW b n (sNext b n A))) (h2 : ¬ A 16 (tW b n (sNext b n A) - 10).toNat < A 17 (tW b n (sNext b n A) - 10).toNat) : sKind b n A = sNext b n (sNext b n A) ∧ sKindV b n A = tW b n (sNext b n A) - 10 := by
  unfold sKind sKindV
  rw [if_neg h, sNext_f (by decide), sNext_f (by decide), if_neg h2, if_neg (by rintro (q | q | q); exact h (Or.inl q); exact h (Or.inr q); exact h2 q)]
  exact ⟨rfl, rfl⟩
theorem ob_kw {b : Nat → Int} {n : Int} {Γ : zΓ} {w : Nat} {A : aS} {G : zH} (hG : gT b n Γ w A G) (h1 : G.1 1008 w 0 = 1) (h8 : G.1 1009 w 0 ≤ 8) : tK b n A = 2 ∧ 0 ≤ G.1 1009 w 0 ∧ tW b n A = (if G.1 1009 w 0 < 2 then G.1 1009 w 0 else G.1 1009 w 0 + 1) := by
  have q8 := gT_key hG
  have q6 := q8.1.mp h1
  have q5 := q8.2 q6
  refine ⟨q6, by omega, ?_⟩
  rw [tW_c.1 q6]
  split <;> omega
theorem ob_nk {b : Nat → Int} {n : Int} {Γ : zΓ} {w : Nat} {A : aS} {G : zH} (hG : gT b n Γ w A G) (h : G.1 1008 w 0 ≠ 1 ∨ 8 < G.1 1009 w 0) : tW b n A < 0 ∨ tW b n A = 2 ∨ 10 ≤ tW b n A := by
  have q8 := gT_key hG
  by_cases q : tK b n A = 2
  · have q5 := q8.2 q
    have q7 := q8.1.mpr q
    rw [tW_c.1 q]
    omega
  · rw [tW_c.2 q]
    omega
theorem ob_kd {b : Nat → Int} {n : Int} {Γ : zΓ} {w : Nat} {A : aS} {G : zH} (hG : gT b n Γ w A G) : (G.1 1008 w 0 = 1 ∧ 10 ≤ G.1 1009 w 0 ∧ G.1 1009 w 0 ≤ 13 → tW b n A = G.1 1009 w 0 ∧ tK b n A ≠ 0) ∧ (¬ (G.1 1008 w 0 = 1 ∧ 10 ≤ G.1 1009 w 0 ∧ G.1 1009 w 0 ≤ 13) → tW b n A < 10 ∨ 13 < tW b n A) := by
  have q8 := gT_key hG
  constructor
  · intro q
    have q6 := q8.1.mp q.1
    have q5 := q8.2 q6
    rw [tW_c.1 q6]
    omega
  · intro q
    by_cases q2 : tK b n A = 2
    · have q5 := q8.2 q2
      have q7 := q8.1.mpr q2
      rw [tW_c.1 q2]
      omega
    · rw [tW_c.2 q2]
      omega
