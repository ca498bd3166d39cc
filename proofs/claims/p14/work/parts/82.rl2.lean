section
def oLo (k : Int) : Int := if k = 1 then 1 else 0
def oHi (k : Int) : Int := if k = 0 then 9999 else if k = 1 then 99 else if k = 2 then 999 else 99999
def sOL (b : Nat → Int) (n k : Int) (A : aS) : aS := up (sOnce b n (oLo k) (oHi k) A) (12 + k.toNat) 0 (sOnceV b n (oLo k) (oHi k) A)
theorem ob_n : ∀ m : Nat, m < 16 → ∀ k : Nat, k < 4 → ∃ m' : Nat, m' < 16 ∧ bor (16 * m) (bshl 1 (4 + k)) = 16 * m' := by decide +kernel
theorem ob_j : ∀ m : Nat, m < 16 → ∀ k : Nat, k < 4 → ∀ j : Nat, j < 4 → ob (bor (16 * m) (bshl 1 (4 + k))) j = if j = k then 1 else ob (16 * m) j := by decide +kernel
theorem oH_c {k : Int} (h : 0 ≤ k ∧ k ≤ 3) : (k = 0 → oLo k = 0 ∧ oHi k = 9999) ∧ (k = 1 → oLo k = 1 ∧ oHi k = 99) ∧ (k = 2 → oLo k = 0 ∧ oHi k = 999) ∧ (k = 3 → oLo k = 0 ∧ oHi k = 99999) := by
  refine ⟨fun q => ?_, fun q => ?_, fun q => ?_, fun q => ?_⟩ <;> subst q <;> decide
theorem oH_b {k : Int} (h : 0 ≤ k ∧ k ≤ 3) : 0 ≤ oLo k ∧ oLo k ≤ oHi k ∧ oHi k ≤ 99999 := by
  have := oH_c h
  omega
theorem gR_once {b : Nat → Int} {n k v : Int} {Γ : zΓ} {w : Nat} {A B : aS} {G G1 : zH} (hfr : zsm [1007, 1008, 1009, 1010, 1004, 1005, 1011, 2060, 2059] G G1) (hR : gR b n Γ w A G) (hT : gT b n Γ w B G1) (hk : 0 ≤ k ∧ k ≤ 3) (hB3 : B 3 0 = bor (A 3 0) (bshl 1 (4 + k))) (hBv : B (12 + k.toNat) 0 = v) (hBo : ∀ f j : Nat, f ≠ 0 → f ≠ 3 → f ≠ 12 + k.toNat → B f j = A f j)
    (e4 : G1.1 1004 w 0 = G.1 1004 w 0) (e5 : G1.1 1005 w 0 = G.1 1005 w 0) (h60 : ∀ j : Nat, G1.1 2060 (Γ.2.1 w 23) j = if j = k.toNat then 1 else G.1 2060 (Γ.2.1 w 23) j) (h59 : ∀ j : Nat, G1.1 2059 (Γ.2.1 w 22) j = if j = (4 + k).toNat then v else G.1 2059 (Γ.2.1 w 22) j) : gR b n Γ w B G1 := by
  obtain ⟨-, hF, hS, hP, hC, hM, hO, hL, hK, hc⟩ := hR
  refine ⟨hT, gF_sm (hBo _ _ (by decide) (by decide) (by omega)) (hBo _ _ (by decide) (by decide) (by omega)) e4 e5 hF, ?_, ?_, ?_, ?_, ?_, ?_, ?_, ?_⟩
  · exact gS_of (fun f j hf => hBo _ _ (by omega) (by omega) (by omega)) (zsm_at hfr 1017 w 0 (by decide)) (hfr.1 2061 (by decide)) (hfr.1 2062 (by decide)) hS
  · exact gP_of (fun f j hf => hBo _ _ (by omega) (by omega) (by omega)) (zsm_at hfr 1018 w 0 (by decide)) (hfr.1 2063 (by decide)) (hfr.1 2064 (by decide)) (hfr.1 2065 (by decide)) hP
  · exact gC_of (fun f j hf => hBo _ _ (by omega) (by omega) (by omega)) (zsm_at hfr 1019 w 0 (by decide)) (hfr.1 2066 (by decide)) (hfr.1 2067 (by decide)) (hfr.1 2068 (by decide)) (hfr.1 2069 (by decide)) hC
  · exact gM_of (fun f j hf => hBo _ _ (by omega) (by omega) (by omega)) (zsm_at hfr 1020 w 0 (by decide)) (hfr.1 2070 (by decide)) hM
  · obtain ⟨⟨m, hm, em⟩, h2⟩ := hO
    refine ⟨?_, fun j hj => ?_⟩
    · obtain ⟨m', h3, h4⟩ := ob_n m hm k.toNat (by omega)
      rw [show ((k.toNat : Nat) : Int) = k by omega] at h4
      exact ⟨m', h3, by rw [hB3, em]; exact h4⟩
    · have h5 := ob_j m hm k.toNat (by omega) j hj
      rw [show ((k.toNat : Nat) : Int) = k by omega] at h5
      rw [hB3, em, h5, h60, h59]
      by_cases q : j = k.toNat
      · rw [if_pos q, if_pos q, if_pos (by omega), q, hBv]
        exact ⟨rfl, rfl⟩
      · rw [if_neg q, if_neg q, if_neg (by omega), hBo _ _ (by omega) (by omega) (by omega), ← em]
        exact h2 j hj
  · exact gL_of (fun f j hf => hBo _ _ (by omega) (by omega) (by omega)) (hfr.1 2071 (by decide)) (hfr.1 2072 (by decide)) (hfr.1 2073 (by decide)) hL
  · exact gK_of (fun f j hf => hBo _ _ (by omega) (by omega) (by omega)) (zsm_at hfr 1021 w 0 (by decide)) (zsm_at hfr 1045 w 0 (by decide)) (hfr.1 2074 (by decide)) (hfr.1 2075 (by decide)) (hfr.1 2076 (by decide)) hK
  · rw [hBo 21 0 (by decide) (by decide) (by omega), hBo 20 0 (by decide) (by decide) (by omega)]; exact hc
theorem FT_up {w f j : Nat} {v : Int} {A : aS} {G : zH} (h1 : f ≠ 1) (h2 : f ≠ 2) (h : FT w A G) : FT w (up A f j v) G := FT_same h (up_f (Ne.symm h1)) (up_f (Ne.symm h2))
end
section
theorem sHon_0 {b : Nat → Int} {n : Int} {A : aS} (h : (sNew b n 1 A) 1 0 ≠ 0) : sHon b n A = sNew b n 1 A := by
  unfold sHon
  rw [sNum_ne h, if_neg h]
theorem sHon_1 {b : Nat → Int} {n : Int} {A : aS} (h : (sNum b n 0 100 (sNew b n 1 A)) 1 0 ≠ 0) : sHon b n A = sNum b n 0 100 (sNew b n 1 A) := by
  unfold sHon
  rw [if_neg h]
theorem sPer_ne {b : Nat → Int} {n : Int} {A : aS} (h : (sHon b n A) 1 0 ≠ 0) : sPerson b n A = sHon b n A := dds_e (fun q => h q.1) _
theorem sDeed_1 {b : Nat → Int} {n p : Int} {A : aS} (h : tK b n A ≠ 1) : sDeed b n p A = sFail b n 1 A := if_pos h
theorem sDeed_4 {b : Nat → Int} {n p : Int} {A : aS} (h : tK b n A = 1) (h2 : sFind 0 (tV b n A) A = -1) : sDeed b n p A = sFail b n 4 A := by
  unfold sDeed
  rw [if_neg (by omega), if_pos h2]
theorem sDeed_3 {b : Nat → Int} {n p : Int} {A : aS} (h : tK b n A = 1) (h2 : sFind 0 (tV b n A) A ≠ -1) (h3 : A 8 (p * 4 + sFind 0 (tV b n A) A).toNat ≠ 0) : sDeed b n p A = sFail b n 3 A := by
  unfold sDeed
  rw [if_neg (by omega), if_neg h2, if_pos h3]
theorem sDeed_n {b : Nat → Int} {n p : Int} {A : aS} (h : tK b n A = 1) (h2 : sFind 0 (tV b n A) A ≠ -1) (h3 : ¬ A 8 (p * 4 + sFind 0 (tV b n A) A).toNat ≠ 0) : sDeed b n p A = up (sNum b n 1 9 (sNext b n A)) 8 (p * 4 + sFind 0 (tV b n A) A).toNat (sNumV b n 1 9 (sNext b n A)) := by
  unfold sDeed
  rw [if_neg (by omega), if_neg h2, if_neg h3]
theorem dds_s {b : Nat → Int} {n p : Int} {A : aS} {m : Nat} (h0 : A 1 0 = 0) (hw : tW b n A = 2) (hm : 1 ≤ m) : sDeeds b n p m A = sDeeds b n p (m - 1) (sDeed b n p (sNext b n A)) := by
  obtain ⟨k, rfl⟩ : ∃ k, m = k + 1 := ⟨m - 1, by omega⟩
  rw [sDeeds, if_pos ⟨h0, hw⟩]
  rfl
theorem FT_dd {b : Nat → Int} {n p : Int} {w m : Nat} {A A1 X : aS} {G : zH} (h : FT w X G) (he : sDeeds b n p m A1 = sPerson b n A) (h0 : A1 1 0 = 0) (hw : tW b n A1 = 2) (hm : 1 ≤ m) (hX : sDeed b n p (sNext b n A1) = X) : FT w (sPerson b n A) G := by
  rw [← he, dds_s h0 hw hm, hX, dds_e (fun q => h.1 q.1)]
  exact h
/-- while a person's deeds are told: the state against the one ahead of the line -/
def pD (b : Nat → Int) (n : Int) (A A1 : aS) : Prop := (∀ f j : Nat, f ≠ 0 → f ≠ 8 → A1 f j = (sHon b n A) f j) ∧ ∀ j : Nat, ((j : Int) < 4 * A 4 1 ∨ 4 * A 4 1 + 4 ≤ j) → A1 8 j = A 8 j
def pG (Γ : zΓ) (w : Nat) (A A1 : aS) (G G2 : zH) : Prop := (∀ s : Nat, s < 4 → G2.1 2065 (Γ.2.1 w 28) (20 + 4 * (A 4 1).toNat + s) = A1 8 (4 * (A 4 1).toNat + s) ∧ 0 ≤ A1 8 (4 * (A 4 1).toNat + s)) ∧ ∀ j : Nat, j < 4 * (A 4 1).toNat → G2.1 2065 (Γ.2.1 w 28) (20 + j) = G.1 2065 (Γ.2.1 w 28) (20 + j)
theorem gR_person {b : Nat → Int} {n c v : Int} {Γ : zΓ} {w : Nat} {A B : aS} {G G1 : zH} (hfr : zsm [1007, 1008, 1009, 1010, 1004, 1005, 1011, 2063, 2064, 2065, 1018] G G1) (hR : gR b n Γ w A G) (hT : gT b n Γ w B G1) (h5 : A 4 1 < 5) (hB4 : ∀ j : Nat, B 4 j = if j = 1 then A 4 1 + 1 else A 4 j) (hB5 : ∀ j : Nat, B 5 j = if j = (5 + A 4 1).toNat then c else A 5 j) (hB7 : ∀ j : Nat, B 7 j = if j = (A 4 1).toNat then v else A 7 j) (hB8 : ∀ j : Nat, ((j : Int) < 4 * A 4 1 ∨ 4 * A 4 1 + 4 ≤ j) → B 8 j = A 8 j) (hBo : ∀ f j : Nat, f ≠ 0 → f ≠ 4 → f ≠ 5 → f ≠ 7 → f ≠ 8 → B f j = A f j)
    (e18 : G1.1 1018 w 0 = A 4 1 + 1) (e4 : G1.1 1004 w 0 = G.1 1004 w 0) (e5 : G1.1 1005 w 0 = G.1 1005 w 0) (h63 : ∀ j : Nat, G1.1 2063 (Γ.2.1 w 26) j = if j = (5 + A 4 1).toNat then c else G.1 2063 (Γ.2.1 w 26) j) (h64 : ∀ j : Nat, G1.1 2064 (Γ.2.1 w 27) j = if j = (5 + A 4 1).toNat then v else G.1 2064 (Γ.2.1 w 27) j) (h65 : pG Γ w A B G G1) : gR b n Γ w B G1 := by
  obtain ⟨-, hF, hS, hP, hC, hM, hO, hL, hK, hc⟩ := hR
  obtain ⟨p1, p2, p3, p4, p5, p6⟩ := hP
  have s0 := hS.2.2.1
  refine ⟨hT, gF_sm (hBo _ _ (by decide) (by decide) (by decide) (by decide) (by decide)) (hBo _ _ (by decide) (by decide) (by decide) (by decide) (by decide)) e4 e5 hF, ?_, ?_, ?_, ?_, ?_, ?_, ?_, ?_⟩
  · exact gS_of (fun f j hf => by rcases hf with ⟨rfl, rfl⟩ | ⟨rfl, hj⟩ | rfl; (rw [hB4, if_neg (by decide)]); (rw [hB5, if_neg (by omega)]); (exact (hBo _ _ (by decide) (by decide) (by decide) (by decide) (by decide)))) (zsm_at hfr 1017 w 0 (by decide)) (hfr.1 2061 (by decide)) (hfr.1 2062 (by decide)) hS
  · refine ⟨?_, ?_, ?_, fun j hj => ?_, fun j hj => ?_, fun j hj hj2 => ?_⟩
    · rw [hB4, if_pos rfl]; exact e18
    · rw [hB4, if_pos rfl]; omega
    · rw [hB4, if_pos rfl]; omega
    · rw [hB4, if_pos rfl] at hj
      rw [h63, h64, hB5, hB7]
      by_cases q : j = (A 4 1).toNat
      · (repeat rw [if_pos (by omega)])
        try exact ⟨rfl, rfl⟩
      · (repeat rw [if_neg (by omega)])
        exact p4 j (by omega)
    · rw [hB4, if_pos rfl] at hj
      rcases Nat.lt_or_ge j (4 * (A 4 1).toNat) with q | q
      · rw [h65.2 j q, hB8 j (by omega)]
        exact p5 j (by omega)
      · have h6 := (h65.1 (j - 4 * (A 4 1).toNat) (by omega)).1
        rw [show 20 + 4 * (A 4 1).toNat + (j - 4 * (A 4 1).toNat) = 20 + j by omega, show 4 * (A 4 1).toNat + (j - 4 * (A 4 1).toNat) = j by omega] at h6
        exact h6
    · rw [hB4, if_pos rfl] at hj
      rw [hB8 j (by omega)]
      exact p6 j (by omega) hj2
  · exact gC_of (fun f j hf => by rcases hf with ⟨rfl, rfl⟩ | ⟨rfl, hj⟩ | rfl | rfl | rfl; (rw [hB4, if_neg (by decide)]); (rw [hB5, if_neg (by omega)]); (exact (hBo _ _ (by decide) (by decide) (by decide) (by decide) (by decide))); (exact (hBo _ _ (by decide) (by decide) (by decide) (by decide) (by decide))); (exact (hBo _ _ (by decide) (by decide) (by decide) (by decide) (by decide)))) (zsm_at hfr 1019 w 0 (by decide)) (hfr.1 2066 (by decide)) (hfr.1 2067 (by decide)) (hfr.1 2068 (by decide)) (hfr.1 2069 (by decide)) hC
  · exact gM_of (fun f j hf => by rcases hf with ⟨rfl, rfl⟩ | ⟨rfl, hj⟩; (rw [hB4, if_neg (by decide)]); (rw [hB5, if_neg (by omega)])) (zsm_at hfr 1020 w 0 (by decide)) (hfr.1 2070 (by decide)) hM
  · exact gO_of (fun f j hf => by rcases hf with rfl | rfl | rfl | rfl | rfl; (exact (hBo _ _ (by decide) (by decide) (by decide) (by decide) (by decide))); (exact (hBo _ _ (by decide) (by decide) (by decide) (by decide) (by decide))); (exact (hBo _ _ (by decide) (by decide) (by decide) (by decide) (by decide))); (exact (hBo _ _ (by decide) (by decide) (by decide) (by decide) (by decide))); (exact (hBo _ _ (by decide) (by decide) (by decide) (by decide) (by decide)))) (hfr.1 2059 (by decide)) (hfr.1 2060 (by decide)) hO
  · exact gL_of (fun f j hf => by rcases hf with rfl | rfl; (exact (hBo _ _ (by decide) (by decide) (by decide) (by decide) (by decide))); (exact (hBo _ _ (by decide) (by decide) (by decide) (by decide) (by decide)))) (hfr.1 2071 (by decide)) (hfr.1 2072 (by decide)) (hfr.1 2073 (by decide)) hL
  · exact gK_of (fun f j hf => hBo _ _ (by omega) (by omega) (by omega) (by omega) (by omega)) (zsm_at hfr 1021 w 0 (by decide)) (zsm_at hfr 1045 w 0 (by decide)) (hfr.1 2074 (by decide)) (hfr.1 2075 (by decide)) (hfr.1 2076 (by decide)) hK
  · rw [hBo 21 0 (by decide) (by decide) (by decide) (by decide) (by decide), hBo 20 0 (by decide) (by decide) (by decide) (by decide) (by decide)]; exact hc
end
section
theorem gL_sm {Γ : zΓ} {w : Nat} {A : aS} {G G1 : zH} {rs : List Nat} (hs : zsm rs G G1) (hr : ∀ r ∈ [2071, 2072, 2073], r ∉ rs) (h : gL Γ w A G) : gL Γ w A G1 := by
  unfold gL at *
  rw [hs.1 2071 (hr _ (by decide)), hs.1 2072 (hr _ (by decide)), hs.1 2073 (hr _ (by decide))]
  exact h
theorem gL_I {Γ : zΓ} {w : Nat} {A : aS} {G : zH} {r a i : Nat} {x : Int} (hr : ∀ r' ∈ [2071, 2072, 2073], r' ≠ r) (h : gL Γ w A G) : gL Γ w A (zuI G r a i x) :=
  gL_sm (rs := [r]) (zsm_I (by simp) zsm_rf) (fun r' h' q => hr r' h' (List.mem_singleton.mp q)) h

theorem gR_sin {b : Nat → Int} {n c v : Int} {Γ : zΓ} {w : Nat} {A B : aS} {G G1 : zH} (hfr : zsm [1007, 1008, 1009, 1010, 1004, 1005, 1011, 2061, 2062, 1017] G G1) (hR : gR b n Γ w A G) (hT : gT b n Γ w B G1) (hF1 : gF w B G1) (hB4 : ∀ j : Nat, B 4 j = if j = 0 then A 4 0 + 1 else A 4 j) (hB5 : ∀ j : Nat, B 5 j = if j = (0 + A 4 0).toNat then c else A 5 j) (hBo : ∀ f j : Nat, f ≠ 0 → f ≠ 4 → f ≠ 5 → f ≠ 6 → B f j = A f j) (h4 : A 4 0 < 4) (hB6 : ∀ j : Nat, B 6 j = if j = (A 4 0).toNat then v else A 6 j) (e17 : G1.1 1017 w 0 = A 4 0 + 1) (h61 : ∀ j : Nat, G1.1 2061 (Γ.2.1 w 24) j = if j = (4 + A 4 0).toNat then c else G.1 2061 (Γ.2.1 w 24) j) (h62 : ∀ j : Nat, G1.1 2062 (Γ.2.1 w 25) j = if j = (4 + A 4 0).toNat then v else G.1 2062 (Γ.2.1 w 25) j) : gR b n Γ w B G1 := by
  obtain ⟨-, hF, hS, hP, hC, hM, hO, hL, hK, hc⟩ := hR
  have s0 := hS.2.2.1
  have s1 := hS.2.1
  have m0 := hM.2.1
  refine ⟨hT, hF1, ?_, ?_, ?_, ?_, ?_, ?_, ?_, ?_⟩
  · refine ⟨?_, ?_, ?_, fun j hj => ?_⟩
    · rw [hB4, if_pos rfl]; exact e17
    · rw [hB4, if_pos rfl]; omega
    · rw [hB4, if_pos rfl]; omega
    · rw [hB4, if_pos rfl] at hj
      rw [h61, h62, hB5, hB6]
      by_cases q : j = (A 4 0).toNat
      · (repeat rw [if_pos (by omega)])
        try exact ⟨rfl, rfl⟩
      · (repeat rw [if_neg (by omega)])
        exact hS.2.2.2 j (by omega)
  · exact gP_of (fun f j hf => by rcases hf with ⟨rfl, rfl⟩ | ⟨rfl, hj⟩ | rfl | rfl; (rw [hB4, if_neg (by decide)]); (rw [hB5, if_neg (by omega)]); (exact (hBo _ _ (by decide) (by decide) (by decide) (by decide))); (exact (hBo _ _ (by decide) (by decide) (by decide) (by decide)))) (zsm_at hfr 1018 w 0 (by decide)) (hfr.1 2063 (by decide)) (hfr.1 2064 (by decide)) (hfr.1 2065 (by decide)) hP
  · exact gC_of (fun f j hf => by rcases hf with ⟨rfl, rfl⟩ | ⟨rfl, hj⟩ | rfl | rfl | rfl; (rw [hB4, if_neg (by decide)]); (rw [hB5, if_neg (by omega)]); (exact (hBo _ _ (by decide) (by decide) (by decide) (by decide))); (exact (hBo _ _ (by decide) (by decide) (by decide) (by decide))); (exact (hBo _ _ (by decide) (by decide) (by decide) (by decide)))) (zsm_at hfr 1019 w 0 (by decide)) (hfr.1 2066 (by decide)) (hfr.1 2067 (by decide)) (hfr.1 2068 (by decide)) (hfr.1 2069 (by decide)) hC
  · exact gM_of (fun f j hf => by rcases hf with ⟨rfl, rfl⟩ | ⟨rfl, hj⟩; (rw [hB4, if_neg (by decide)]); (rw [hB5, if_neg (by omega)])) (zsm_at hfr 1020 w 0 (by decide)) (hfr.1 2070 (by decide)) hM
  · exact gO_of (fun f j hf => by rcases hf with rfl | rfl | rfl | rfl | rfl; (exact (hBo _ _ (by decide) (by decide) (by decide) (by decide))); (exact (hBo _ _ (by decide) (by decide) (by decide) (by decide))); (exact (hBo _ _ (by decide) (by decide) (by decide) (by decide))); (exact (hBo _ _ (by decide) (by decide) (by decide) (by decide))); (exact (hBo _ _ (by decide) (by decide) (by decide) (by decide)))) (hfr.1 2059 (by decide)) (hfr.1 2060 (by decide)) hO
  · exact gL_of (fun f j hf => by rcases hf with rfl | rfl; (exact (hBo _ _ (by decide) (by decide) (by decide) (by decide))); (exact (hBo _ _ (by decide) (by decide) (by decide) (by decide)))) (hfr.1 2071 (by decide)) (hfr.1 2072 (by decide)) (hfr.1 2073 (by decide)) hL
  · exact gK_of (fun f j hf => hBo _ _ (by omega) (by omega) (by omega) (by omega)) (zsm_at hfr 1021 w 0 (by decide)) (zsm_at hfr 1045 w 0 (by decide)) (hfr.1 2074 (by decide)) (hfr.1 2075 (by decide)) (hfr.1 2076 (by decide)) hK
  · rw [hBo 21 0 (by decide) (by decide) (by decide) (by decide), hBo 20 0 (by decide) (by decide) (by decide) (by decide)]; exact hc
theorem gR_may {b : Nat → Int} {n c v : Int} {Γ : zΓ} {w : Nat} {A B : aS} {G G1 : zH} (hfr : zsm [1007, 1008, 1009, 1010, 1004, 1005, 2074, 2075, 2076, 2078, 1043, 1021, 2077, 1042, 1044, 1045, 1046, 1047, 2071, 2072, 2073, 2070, 1020] G G1) (hR : gR b n Γ w A G) (hT : gT b n Γ w B G1) (hF1 : gF w B G1) (hB4 : ∀ j : Nat, B 4 j = if j = 3 then A 4 3 + 1 else A 4 j) (hB5 : ∀ j : Nat, B 5 j = if j = (15 + A 4 3).toNat then c else A 5 j) (hBo : ∀ f j : Nat, 3 ≤ f → f < 16 → f ≠ 4 → f ≠ 5 → B f j = A f j) (h3 : A 4 3 < 3) (hL1 : gL Γ w B G1) (hK1 : gK Γ w B G1) (hc1 : B 21 0 = B 20 0) (e20 : G1.1 1020 w 0 = A 4 3 + 1) (h70 : ∀ j : Nat, G1.1 2070 (Γ.2.1 w 33) j = if j = (3 + A 4 3).toNat then c else G.1 2070 (Γ.2.1 w 33) j) : gR b n Γ w B G1 := by
  obtain ⟨-, hF, hS, hP, hC, hM, hO, hL, hK, hc⟩ := hR
  have s0 := hS.2.2.1
  have s1 := hS.2.1
  have m0 := hM.2.1
  refine ⟨hT, hF1, ?_, ?_, ?_, ?_, ?_, ?_, ?_, ?_⟩
  · exact gS_of (fun f j hf => by rcases hf with ⟨rfl, rfl⟩ | ⟨rfl, hj⟩ | rfl; (rw [hB4, if_neg (by decide)]); (rw [hB5, if_neg (by omega)]); (exact (hBo _ _ (by decide) (by decide) (by decide) (by decide)))) (zsm_at hfr 1017 w 0 (by decide)) (hfr.1 2061 (by decide)) (hfr.1 2062 (by decide)) hS
  · exact gP_of (fun f j hf => by rcases hf with ⟨rfl, rfl⟩ | ⟨rfl, hj⟩ | rfl | rfl; (rw [hB4, if_neg (by decide)]); (rw [hB5, if_neg (by omega)]); (exact (hBo _ _ (by decide) (by decide) (by decide) (by decide))); (exact (hBo _ _ (by decide) (by decide) (by decide) (by decide)))) (zsm_at hfr 1018 w 0 (by decide)) (hfr.1 2063 (by decide)) (hfr.1 2064 (by decide)) (hfr.1 2065 (by decide)) hP
  · exact gC_of (fun f j hf => by rcases hf with ⟨rfl, rfl⟩ | ⟨rfl, hj⟩ | rfl | rfl | rfl; (rw [hB4, if_neg (by decide)]); (rw [hB5, if_neg (by omega)]); (exact (hBo _ _ (by decide) (by decide) (by decide) (by decide))); (exact (hBo _ _ (by decide) (by decide) (by decide) (by decide))); (exact (hBo _ _ (by decide) (by decide) (by decide) (by decide)))) (zsm_at hfr 1019 w 0 (by decide)) (hfr.1 2066 (by decide)) (hfr.1 2067 (by decide)) (hfr.1 2068 (by decide)) (hfr.1 2069 (by decide)) hC
  · refine ⟨?_, ?_, ?_, fun j hj => ?_⟩
    · rw [hB4, if_pos rfl]; exact e20
    · rw [hB4, if_pos rfl]; omega
    · rw [hB4, if_pos rfl]; omega
    · rw [hB4, if_pos rfl] at hj
      rw [h70, hB5]
      by_cases q : j = (A 4 3).toNat
      · (repeat rw [if_pos (by omega)])
      · (repeat rw [if_neg (by omega)])
        exact hM.2.2.2 j (by omega)
  · exact gO_of (fun f j hf => by rcases hf with rfl | rfl | rfl | rfl | rfl; (exact (hBo _ _ (by decide) (by decide) (by decide) (by decide))); (exact (hBo _ _ (by decide) (by decide) (by decide) (by decide))); (exact (hBo _ _ (by decide) (by decide) (by decide) (by decide))); (exact (hBo _ _ (by decide) (by decide) (by decide) (by decide))); (exact (hBo _ _ (by decide) (by decide) (by decide) (by decide)))) (hfr.1 2059 (by decide)) (hfr.1 2060 (by decide)) hO
  · exact hL1
  · exact hK1
  · exact hc1
theorem gR_law {b : Nat → Int} {n : Int} {Γ : zΓ} {w : Nat} {A B : aS} {G G1 : zH} (hfr : zsm [1007, 1008, 1009, 1010, 1004, 1005, 2074, 2075, 2076, 2078, 1043, 1021, 2077, 1042, 1044, 1045, 1046, 1047, 2071, 2072, 2073] G G1) (hR : gR b n Γ w A G) (hT : gT b n Γ w B G1) (hF1 : gF w B G1) (hBo : ∀ f j : Nat, 3 ≤ f → f < 16 → B f j = A f j) (hL1 : gL Γ w B G1) (hK1 : gK Γ w B G1) (hc1 : B 21 0 = B 20 0) : gR b n Γ w B G1 := by
  obtain ⟨-, hF, hS, hP, hC, hM, hO, hL, hK, hc⟩ := hR
  refine ⟨hT, hF1, ?_, ?_, ?_, ?_, ?_, hL1, hK1, hc1⟩
  · exact gS_of (fun f j hf => hBo _ _ (by omega) (by omega)) (zsm_at hfr 1017 w 0 (by decide)) (hfr.1 2061 (by decide)) (hfr.1 2062 (by decide)) hS
  · exact gP_of (fun f j hf => hBo _ _ (by omega) (by omega)) (zsm_at hfr 1018 w 0 (by decide)) (hfr.1 2063 (by decide)) (hfr.1 2064 (by decide)) (hfr.1 2065 (by decide)) hP
  · exact gC_of (fun f j hf => hBo _ _ (by omega) (by omega)) (zsm_at hfr 1019 w 0 (by decide)) (hfr.1 2066 (by decide)) (hfr.1 2067 (by decide)) (hfr.1 2068 (by decide)) (hfr.1 2069 (by decide)) hC
  · exact gM_of (fun f j hf => hBo _ _ (by omega) (by omega)) (zsm_at hfr 1020 w 0 (by decide)) (hfr.1 2070 (by decide)) hM
  · exact gO_of (fun f j hf => hBo _ _ (by omega) (by omega)) (hfr.1 2059 (by decide)) (hfr.1 2060 (by decide)) hO
theorem gR_sm {b : Nat → Int} {n : Int} {Γ : zΓ} {w : Nat} {A B : aS} {G G1 : zH} (hfr : zsm [1007, 1008, 1009, 1010] G G1) (hR : gR b n Γ w A G) (hT : gT b n Γ w B G1) (hBo : ∀ f j : Nat, f ≠ 0 → B f j = A f j) : gR b n Γ w B G1 := by
  obtain ⟨hT0, hF, hS, hP, hC, hM, hO, hL, hK, hc⟩ := hR
  exact gR_law (A := A) (G := G) (zsm_mo hfr (by decide)) ⟨hT0, hF, hS, hP, hC, hM, hO, hL, hK, hc⟩ hT (gF_sm (hBo _ _ (by decide)) (hBo _ _ (by decide)) (zsm_at hfr 1004 w 0 (by decide)) (zsm_at hfr 1005 w 0 (by decide)) hF) (fun f j h1 h2 => hBo _ _ (by omega)) (gL_of (fun f j hf => hBo _ _ (by omega)) (hfr.1 2071 (by decide)) (hfr.1 2072 (by decide)) (hfr.1 2073 (by decide)) hL) (gK_of (fun f j hf => hBo _ _ (by omega)) (zsm_at hfr 1021 w 0 (by decide)) (zsm_at hfr 1045 w 0 (by decide)) (hfr.1 2074 (by decide)) (hfr.1 2075 (by decide)) (hfr.1 2076 (by decide)) hK) (by rw [hBo _ _ (by decide), hBo _ _ (by decide)]; exact hc)
theorem sBd_0 {b : Nat → Int} {n : Int} {A : aS} (h : tW b n A = 0) : sBody b n A = sSin b n A := if_pos h
theorem sBd_1 {b : Nat → Int} {n : Int} {A : aS} (h : tW b n A = 1) : sBody b n A = sPerson b n A := by unfold sBody; rw [if_neg (by omega), if_pos h]
theorem sBd_3 {b : Nat → Int} {n : Int} {A : aS} (h : tW b n A = 3) : sBody b n A = sCake b n A := by unfold sBody; rw [if_neg (by omega), if_neg (by omega), if_pos h]
theorem sBd_8 {b : Nat → Int} {n : Int} {A : aS} (h : tW b n A = 8) : sBody b n A = sE b n (sKindV b n A) (sKind b n A) := by
  unfold sBody
  (repeat rw [if_neg (by omega)])
  rw [if_pos h]
theorem sBd_9 {b : Nat → Int} {n : Int} {A : aS} (h : tW b n A = 9) : sBody b n A = sE b n (4 + sNewV b n 3 A) (sNew b n 3 A) := by
  unfold sBody
  (repeat rw [if_neg (by omega)])
  rw [if_pos h]
theorem sBd_o {b : Nat → Int} {n k : Int} {A : aS} (hk : 0 ≤ k ∧ k ≤ 3) (h : tW b n A = 4 + k) : sBody b n A = sOL b n k A := by
  unfold sBody
  rw [if_neg (by omega), if_neg (by omega), if_neg (by omega)]
  rcases (show k = 0 ∨ k = 1 ∨ k = 2 ∨ k = 3 by omega) with rfl | rfl | rfl | rfl
  · rw [if_pos (by omega)]; rfl
  · rw [if_neg (by omega), if_pos (by omega)]; rfl
  · rw [if_neg (by omega), if_neg (by omega), if_pos (by omega)]; rfl
  · rw [if_neg (by omega), if_neg (by omega), if_neg (by omega), if_pos (by omega)]; rfl
theorem sBd_n {b : Nat → Int} {n : Int} {A : aS} (h : tW b n A < 0 ∨ tW b n A = 2 ∨ 10 ≤ tW b n A) : sBody b n A = sFail b n 1 A := by
  unfold sBody
  (repeat rw [if_neg (by omega)])
theorem FT_line {b : Nat → Int} {n : Int} {w : Nat} {A : aS} {G : zH} (h : FT w (sSemi b n (sBody b n A)) G) : FT w (sLine b n A) G := by
  unfold sLine
  rw [sNumB_ne h.1]
  exact h
theorem FT_body {b : Nat → Int} {n : Int} {w : Nat} {A : aS} {G : zH} (h : FT w (sBody b n A) G) : FT w (sSemi b n (sBody b n A)) G := by
  rw [sSemi_ne h.1]
  exact h
theorem FT_Ene {b : Nat → Int} {n k : Int} {w : Nat} {A : aS} {G : zH} (h : FT w A G) : FT w (sSemi b n (sE b n k A)) G := by
  have e1 : (sBeg k A) 1 0 ≠ 0 := by rw [sBeg_f (by decide) (by decide)]; exact h.1
  refine FT_E (B := sBeg k A) ?_ (sEL_e (fun q => e1 q.1) _)
  rw [sSemi_ne e1]
  exact FT_same h (sBeg_f (by decide) (by decide)) (sBeg_f (by decide) (by decide))
theorem sSin_0 {b : Nat → Int} {n : Int} {A : aS} (h : (sNew b n 0 A) 1 0 ≠ 0) : sSin b n A = sNew b n 0 A := by
  unfold sSin
  rw [sNum_ne h, if_neg h]
theorem sSin_1 {b : Nat → Int} {n : Int} {A : aS} (h : (sNum b n 0 99 (sNew b n 0 A)) 1 0 ≠ 0) : sSin b n A = sNum b n 0 99 (sNew b n 0 A) := by
  unfold sSin
  rw [if_neg h]
theorem sKind_1 {b : Nat → Int} {n : Int} {A : aS} (h : tW b n (sNext b n A) < 10 ∨ 13 < tW b n (sNext b n A)) : sKind b n A = sFail b n 1 (sNext b n A) := if_pos h
theorem sKind_3 {b : Nat → Int} {n : Int} {A : aS} (h : ¬ (tW b n (sNext b n A) < 10 ∨ 13 < tW b n (sNext b n A))) (h2 : A 16 (tW b n (sNext b n A) - 10).toNat < A 17 (tW b n (sNext b n A) - 10).toNat) : sKind b n A = sFail b n 3 (sNext b n A) := by
  unfold sKind
  rw [if_neg h, if_pos (by rw [sNext_f (by decide), sNext_f (by decide)]; exact h2)]
theorem sKind_ok {b : Nat → Int} {n : Int} {A : aS} (h : ¬ (tW b n (sNext b n A) < 10 ∨ 13 < tW b n (sNext b n A))) (h2 : ¬ A 16 (tW b n (sNext b n A) - 10).toNat < A 17 (tW b n (sNext b n A) - 10).toNat) : sKind b n A = sNext b n (sNext b n A) ∧ sKindV b n A = tW b n (sNext b n A) - 10 := by
  unfold sKind sKindV
  rw [if_neg h, sNext_f (by decide), sNext_f (by decide), if_neg h2, if_neg (by rintro (q | q | q); exact h (Or.inl q); exact h (Or.inr q); exact h2 q)]
  exact ⟨rfl, rfl⟩
theorem ob_kw {b : Nat → Int} {n : Int} {Γ : zΓ} {w : Nat} {A : aS} {G : zH} (hG : gT b n Γ w A G) (h1 : G.1 1008 w 0 = 1) (h8 : G.1 1009 w 0 ≤ 8) : tK b n A = 2 ∧ 0 ≤ G.1 1009 w 0 ∧ tW b n A = (if G.1 1009 w 0 < 2 then G.1 1009 w 0 else G.1 1009 w 0 + 1) := by
  have q8 := gT_key hG
  have q6 := q8.1.mp h1
  have q5 := q8.2 q6
  refine ⟨q6, by omega, ?_⟩
  rw [tW_c.1 q6]
  split <;> omega
theorem ob_nk {b : Nat → Int} {n : Int} {Γ : zΓ} {w : Nat} {A : aS} {G : zH} (hG : gT b n Γ w A G) (h : G.1 1008 w 0 ≠ 1 ∨ 8 < G.1 1009 w 0) : tW b n A < 0 ∨ tW b n A = 2 ∨ 10 ≤ tW b n A := by
  have q8 := gT_key hG
  by_cases q : tK b n A = 2
  · have q5 := q8.2 q
    have q7 := q8.1.mpr q
    rw [tW_c.1 q]
    omega
  · rw [tW_c.2 q]
    omega
theorem ob_kd {b : Nat → Int} {n : Int} {Γ : zΓ} {w : Nat} {A : aS} {G : zH} (hG : gT b n Γ w A G) : (G.1 1008 w 0 = 1 ∧ 10 ≤ G.1 1009 w 0 ∧ G.1 1009 w 0 ≤ 13 → tW b n A = G.1 1009 w 0 ∧ tK b n A ≠ 0) ∧ (¬ (G.1 1008 w 0 = 1 ∧ 10 ≤ G.1 1009 w 0 ∧ G.1 1009 w 0 ≤ 13) → tW b n A < 10 ∨ 13 < tW b n A) := by
  have q8 := gT_key hG
  constructor
  · intro q
    have q6 := q8.1.mp q.1
    have q5 := q8.2 q6
    rw [tW_c.1 q6]
    omega
  · intro q
    by_cases q2 : tK b n A = 2
    · have q5 := q8.2 q2
      have q7 := q8.1.mpr q2
      rw [tW_c.1 q2]
      omega
    · rw [tW_c.2 q2]
      omega
end
section
/-- as the reference is at a text's beginning -/
def gZ (Γ : zΓ) (w : Nat) (G : zH) : Prop := G.1 1017 w 0 = 0 ∧ G.1 1018 w 0 = 0 ∧ G.1 1019 w 0 = 0 ∧ G.1 1020 w 0 = 0 ∧ G.1 1021 w 0 = 0 ∧ G.1 1045 w 0 = 0 ∧ G.1 2059 (Γ.2.1 w 22) 4 = 100 ∧ G.1 2059 (Γ.2.1 w 22) 5 = 5 ∧ G.1 2059 (Γ.2.1 w 22) 6 = 0 ∧ G.1 2059 (Γ.2.1 w 22) 7 = 0 ∧ (∀ j : Nat, j < 4 → G.1 2060 (Γ.2.1 w 23) j = 0) ∧ (∀ j : Nat, 7 ≤ j → j < 14 → G.1 2071 (Γ.2.1 w 34) j = 0)
theorem ob_0 : ∀ j : Nat, j < 4 → ob 0 j = 0 := by decide +kernel
theorem gD_0 {b : Nat → Int} {n : Int} {Γ : zΓ} {w : Nat} {A B : aS} {G : zH} (hA : sCl A) (hB : ∀ f j : Nat, f ≠ 0 → B f j = A f j) (h : gZ Γ w G) : gD Γ w B G := by
  obtain ⟨a0, a1, a2, a3, a4, a8, a16, a20, a21, a12, a13, a14, a15⟩ := hA
  obtain ⟨z1, z2, z3, z4, z5, z6, z7, z8, z9, z10, z11, z12⟩ := h
  refine ⟨?_, ?_, ?_, ?_, ?_, ?_, ?_, ?_⟩
  · unfold gS
    rw [hB 4 0 (by decide), a4 0 (by decide)]
    exact ⟨z1, by decide, by decide, fun j hj => by omega⟩
  · unfold gP
    rw [hB 4 1 (by decide), a4 1 (by decide)]
    exact ⟨z2, by decide, by decide, fun j hj => by omega, fun j hj => by omega, fun j hj hj2 => by rw [hB 8 j (by decide)]; exact a8 j hj2⟩
  · unfold gC
    rw [hB 4 2 (by decide), a4 2 (by decide)]
    exact ⟨z3, by decide, by decide, fun j hj => by omega⟩
  · unfold gM
    rw [hB 4 3 (by decide), a4 3 (by decide)]
    exact ⟨z4, by decide, by decide, fun j hj => by omega⟩
  · refine ⟨⟨0, by decide, by rw [hB 3 0 (by decide), a3]; rfl⟩, fun j hj => ⟨?_, ?_⟩⟩
    · rw [hB 3 0 (by decide), a3, ob_0 j hj]; exact z11 j hj
    · rw [hB (12 + j) 0 (by omega)]
      rcases (show j = 0 ∨ j = 1 ∨ j = 2 ∨ j = 3 by omega) with rfl | rfl | rfl | rfl
      · exact z7.trans a12.symm
      · exact z8.trans a13.symm
      · exact z9.trans a14.symm
      · exact z10.trans a15.symm
  · intro j hj
    rw [hB 16 j (by decide), hB 17 j (by decide), (a16 j hj).1, (a16 j hj).2, if_neg (by decide)]
    exact ⟨z12 (7 + j) (by omega) (by omega), fun q => absurd q (by decide)⟩
  · unfold gK
    rw [hB 20 0 (by decide), hB 21 0 (by decide), a20, a21]
    exact ⟨z5, z6, fun j hj => by omega⟩
  · rw [hB 20 0 (by decide), hB 21 0 (by decide), a20, a21]
theorem gZ_sm {Γ : zΓ} {w : Nat} {G G1 : zH} {rs : List Nat} (hs : zsm rs G G1) (hr : ∀ r ∈ [1017, 1018, 1019, 1020, 1021, 1045, 2059, 2060, 2071], r ∉ rs) (h : gZ Γ w G) : gZ Γ w G1 := by
  unfold gZ at *
  rw [hs.1 1017 (hr _ (by decide)), hs.1 1018 (hr _ (by decide)), hs.1 1019 (hr _ (by decide)), hs.1 1020 (hr _ (by decide)), hs.1 1021 (hr _ (by decide)), hs.1 1045 (hr _ (by decide)), hs.1 2059 (hr _ (by decide)), hs.1 2060 (hr _ (by decide)), hs.1 2071 (hr _ (by decide))]
  exact h
theorem gT_0 {b : Nat → Int} {n : Int} {Γ : zΓ} {w : Nat} {A : aS} {G G1 : zH} (hn : 0 ≤ n) (hA : A 0 0 = -1) (hb : G.1 2057 (Γ.2.1 w 0) = b) (h6 : G.1 1006 w 0 = n) (h7 : G.1 1007 w 0 = 0) (hs : zsm [1007, 1008, 1009, 1010] G G1) (hq : G1.1 1010 w 0 = sk (G.1 2057 (Γ.2.1 w 0)) (G.1 1006 w 0) (G.1 1007 w 0) ∧ G1.1 1007 w 0 = tkN (G.1 2057 (Γ.2.1 w 0)) (G.1 1006 w 0) (sk (G.1 2057 (Γ.2.1 w 0)) (G.1 1006 w 0) (G.1 1007 w 0)) ∧ tkM (tkK (G.1 2057 (Γ.2.1 w 0)) (G.1 1006 w 0) (sk (G.1 2057 (Γ.2.1 w 0)) (G.1 1006 w 0) (G.1 1007 w 0))) (tkV (G.1 2057 (Γ.2.1 w 0)) (G.1 1006 w 0) (sk (G.1 2057 (Γ.2.1 w 0)) (G.1 1006 w 0) (G.1 1007 w 0))) (G1.1 1008 w 0) (G1.1 1009 w 0)) : gT b n Γ w (sNext b n A) G1 := by
  have e0 : (sNext b n A) 0 0 = 0 := by
    unfold sNext
    rw [if_pos (Or.inl (by omega)), up_eq]
    omega
  have e1 : tP b n (sNext b n A) = sk b n 0 := by
    unfold tP
    rw [e0]
    rfl
  rw [hb, h6, h7, ← e1] at hq
  refine ⟨by rw [hs.1 2057 (by decide)]; exact hb, by rw [hs.1 1006 (by decide)]; exact h6, by rw [e0]; decide, ?_, hq⟩
  rw [e1]
  exact sp_le hn
theorem sLN_s {b : Nat → Int} {n : Int} {A : aS} {m : Nat} {c : Int} (h0 : A 1 0 = 0) (hk : tK b n A ≠ 0) (hm : 1 ≤ m) : sLN b n m A = sLN b n (m - 1) (sLine b n A) ∧ sLC b n m c A = sLC b n (m - 1) (c + 1) (sLine b n A) := by
  obtain ⟨k, rfl⟩ : ∃ k, m = k + 1 := ⟨m - 1, by omega⟩
  rw [sLN, sLC, if_pos ⟨h0, hk⟩, if_pos ⟨h0, hk⟩]
  exact ⟨rfl, rfl⟩
end
section
set_option maxHeartbeats 4000000 in
set_option maxRecDepth 100000 in
theorem c_X8_faultF {l : Launch} {Γ : zΓ} {G : zH} {w : Nat} {k : Int} (hX : zXs Γ)  : zMet l Γ yX8_fault cX8_fault 2 (some .int) 0 [zr 9 w, zi k] G (zpi (fun x G' => G' = G ∧ ((k = 0 → x = G.1 912 w 0) ∧ (k = 1 → x = G.1 913 w 0) ∧ (k ≠ 0 → k ≠ 1 → x = -1)))) := by
  refine zMet_of RX8 hX (by decide) rfl (Nat.le_of_ble_eq_true rfl) ?_
  intro p e s m args below meth c C hr hlk
  show Z p l e (zrm 0) s m args below meth c Γ 2 0 0 (MQ below (zQc Γ (zpi (fun x G' => G' = G ∧ ((k = 0 → x = G.1 912 w 0) ∧ (k = 1 → x = G.1 913 w 0) ∧ (k ≠ 0 → k ≠ 1 → x = -1))))) args s 0 0 (zA Γ)) 0 [some (zr 9 w), some (zi k)] [] G
  refine zs_loc 1 rfl (fun ha1 hb1 => ?_)
  refine zs_iload_n (pc := 0) C dX8_fault_0 rfl ?_
  refine zs_name (fun y1 ey1 => ?_)
  rcases (show y1 = 0 ∨ y1 = 1 ∨ (y1 ≠ 0 ∧ y1 ≠ 1) by omega) with h1 | h1 | h1
  · skip
    refine zs_look (tgt := 28) (pc := 1) C dX8_fault_1 (by decide) (by first | (rw [h1]; done) | (rw [h1]; rfl)) (by decide) ?_
    refine zs_aload_n (pc := 28) C dX8_fault_28 rfl ?_
    refine zs_geti (r := 912) (pc := 29) C dX8_fault_29 w_X8_81 f_9_12 rfl (r_912 0) (fun v29 e29 l29 u29 => ?_)
    exact zs_iret (pc := 32) C hr hlk dX8_fault_32 ⟨rfl, by first | omega | (simp only [zuI_1, zuI_2, zuJ_1, zuJ_2, zuJ_3, zuP_1, zuP_2, zuP_3, zuC_1, zuC_2, reduceIte, Nat.reduceEqDiff, false_and, and_false, true_and, and_true, and_self, or_true, true_or, or_false, false_or]; omega)⟩
  · skip
    refine zs_look (tgt := 33) (pc := 1) C dX8_fault_1 (by decide) (by first | (rw [h1]; done) | (rw [h1]; rfl)) (by decide) ?_
    refine zs_aload_n (pc := 33) C dX8_fault_33 rfl ?_
    refine zs_geti (r := 913) (pc := 34) C dX8_fault_34 w_X8_63 f_9_13 rfl (r_913 0) (fun v34 e34 l34 u34 => ?_)
    exact zs_iret (pc := 37) C hr hlk dX8_fault_37 ⟨rfl, by first | omega | (simp only [zuI_1, zuI_2, zuJ_1, zuJ_2, zuJ_3, zuP_1, zuP_2, zuP_3, zuC_1, zuC_2, reduceIte, Nat.reduceEqDiff, false_and, and_false, true_and, and_true, and_self, or_true, true_or, or_false, false_or]; omega)⟩
  · skip
    refine zs_look (off := 37) (tgt := 38) (pc := 1) C dX8_fault_1 (by decide) (by have h9 := h1; simp [Op.lookupswitch.offset]; omega) (by decide) ?_
    refine zs_iconst (pc := 38) C dX8_fault_38 (by decide) ?_
    exact zs_iret (pc := 39) C hr hlk dX8_fault_39 ⟨rfl, by first | omega | (simp only [zuI_1, zuI_2, zuJ_1, zuJ_2, zuJ_3, zuP_1, zuP_2, zuP_3, zuC_1, zuC_2, reduceIte, Nat.reduceEqDiff, false_and, and_false, true_and, and_true, and_self, or_true, true_or, or_false, false_or]; omega)⟩
end
section
section ZKX
variable {p : Program} {l : Launch} {e : Env} {R : Room} {s : State} {m : MethodId} {args : Array Value} {below : List Frame} {meth : Method} {c : Code} {Γ : zΓ} {cc : ByteArray} {nL : Nat} {own : String} {cells slots : Nat} {Q : State → Prop} {pc : Nat} {ls : List (Option zV)} {st : List zV} {G : zH}
theorem zs_scharX (C : zCx p s m args c Γ cc nL own) {q v n t idx : Nat} {x : Int} {f : Nat → Int32} (hJ : jStr (zA Γ) q v n f s s.heap) (hx : 0 ≤ x ∧ x < n) (d : decode cc pc = .ok (.invokevirtual idx, 3)) (w : jWv own idx yJ0_charAt_5068e RJ0 cJ0_charAt_5068e 2 (some .char) 1) (hR : 4 ≤ R.frames ∧ 150 ≤ R.locals) (hc : cells ≤ R.cells ∧ slots ≤ R.slots) (hw : ((st.map zc).map fun v => v.category).sum ≤ 8)
    (kk : ∀ z : Int, z = (f x.toNat &&& 255).toInt → -2147483648 ≤ z → z ≤ 2147483647 → Z p l e R s m args below meth c Γ nL cells slots Q (pc + 3) ls (zi z :: st) G) : Z p l e R s m args below meth c Γ nL cells slots Q pc ls (zi x :: zr t q :: st) G := by
  intro hG hl hs H locs rl hP hS hL
  obtain ⟨i, rfl⟩ : ∃ i : Nat, x = i := ⟨x.toNat, by omega⟩
  obtain ⟨cell, h1, h2, h3, h4⟩ := hJ.1
  have hq : H[q]? = some cell := by rw [hS.2.1 q (Array.getElem?_eq_some_iff.mp h1).1 h4]; exact h1
  have hrun := va_runV (H := H) (e := e) (below := below) (meth := meth) (locs := locs) (cells := cells) (slots := slots) (As := [.int (nI i)]) (rest := st.map zc) (b := q) (C := RJ0) (g := F0 m pc rl ((zi i :: zr t q :: st).map zc)) (n := 1) ⟨C.1, C.2.1, C.2.2.1, C.2.2.2.1, C.2.2.2.2.1⟩ (j_charAt (l := l) (q := q) (v := v) (n := n) (i := i) (f := f) (by omega))
    ⟨callB_of 1 C.2.2.2.2.1 (zTb_good w.1.2.2.2.2) rfl rfl rfl (by rw [w.2.1]; exact C.2.2.2.2.1 _ w.1.2.2.2.1) (C.2.2.2.2.1 _ w.1.1) w.2.2 (by show 3 + 1 ≤ R.frames ∧ 8 + (2 + 11) + 40 * 3 ≤ R.locals; omega), C.2.2.2.2.1 _ w.1.2.1, C.2.2.2.2.1 _ w.1.2.2.1⟩
    ⟨fun a U g mk h => ⟨h.1, jStr_keep (U := U) (U1 := U.calling g mk a) h.2 (Vm.Alike.refl U.vm) (fun _ _ _ => rfl)⟩, ⟨cell, hq, h2, h3⟩, fun U hU hW => ⟨rfl, jStr_nar (jStr_keep hJ hW.alike (fun x y1 y2 => by rw [hU]; exact hS.2.1 x y1 y2)) (fun _ h => h.elim)⟩⟩
    rfl rfl hL.1 (by rw [List.map_cons, List.map_cons, show zc (zi (i : Int)) = .int (nI i) from congrArg Value.int zi_nI]; rfl) (lv_room hw) d ⟨by simpa using hc.1, by simpa using hc.2⟩
  refine j_back hrun hS (fun r H1 locs1 hr1 hk hS1 => ?_)
  subst hr1
  have e1 := Int32.le_toInt (f i &&& 255)
  have e2 := Int32.toInt_lt (f i &&& 255)
  have h9 := kk (f i &&& 255).toInt rfl (by omega) (by omega) hG hl (zs_cons (v := zi (f i &&& 255).toInt) ⟨by omega, by omega⟩ (zs_tl (zs_tl hs))) H1 locs1 rl (hP.kept (fun k x hx => hk x.1 (hP k x hx).lt)) hS1 hL
  rw [List.map_cons, show zc (zi (f i &&& 255).toInt) = .int (f i &&& 255) from congrArg Value.int (Int32.ofInt_toInt _)] at h9
  exact h9
end ZKX
/-- words learnt from a row of bytes: how many bytes, from which on, the word, its letters, the words -/
def lrn (g : Nat → Int) (n : Int) : Nat → Int → Int → Int → (Nat → Int) → (Nat → Int) × Int
  | 0, _, w, _, W => (W, w)
  | m + 1, k, w, c, W => if k < n ∧ w < 24 then (if g k.toNat = 32 then lrn g n m (k + 1) (w + 1) 0 W else lrn g n m (k + 1) w (c + 1) (fun j => if j = w.toNat then bor (W j) (pkc (g k.toNat) c) else W j)) else (W, w)
theorem lrn_e {g : Nat → Int} {n k w c : Int} {W : Nat → Int} (h : ¬ (k < n ∧ w < 24)) : ∀ m : Nat, lrn g n m k w c W = (W, w)
  | 0 => rfl
  | m + 1 => by rw [lrn, if_neg h]
theorem lrn_s {g : Nat → Int} {n k w c : Int} {W : Nat → Int} (h : k < n) (hw : w < 24) : lrn g n (n - k).toNat k w c W = if g k.toNat = 32 then lrn g n (n - (k + 1)).toNat (k + 1) (w + 1) 0 W else lrn g n (n - (k + 1)).toNat (k + 1) w (c + 1) (fun j => if j = w.toNat then bor (W j) (pkc (g k.toNat) c) else W j) := by
  rw [show (n - k).toNat = (n - (k + 1)).toNat + 1 by omega, lrn, if_pos ⟨h, hw⟩]

set_option maxHeartbeats 4000000 in
set_option maxRecDepth 100000 in
theorem c_X6_learnF {l : Launch} {Γ : zΓ} {G : zH} {w t a v n : Nat} {k : Int} {f : Nat → Int32} (hX : zXs Γ) (hk : 0 ≤ k) (hn7 : n ≤ 700) (hf : ∀ i : Nat, i < n → (f i &&& 255).toInt = 32 ∨ (97 ≤ (f i &&& 255).toInt ∧ (f i &&& 255).toInt ≤ 122)) : zMt l Γ (fun U => jStr (zA Γ) a v n f U U.heap) yX6_learn cX6_learn 7 (some .int) 4 [zr 7 w, zr t a, zi k] G (zpi (fun x G' => zsm [2044] G G' ∧ (0 ≤ x ∧ (G'.1 2044 (Γ.2.1 w 0), x) = lrn (fun i => (f i &&& 255).toInt) (n : Int) ((n : Int) - 0).toNat 0 k 0 (G.1 2044 (Γ.2.1 w 0))))) := by
  refine zMt_of RX6 hX (by decide) rfl (Nat.le_of_ble_eq_true rfl) ?_
  intro p e s m args below meth c C hr hlk hJ
  show Z p l e (zrm 4) s m args below meth c Γ 7 0 0 (MQ below (zQc Γ (zpi (fun x G' => zsm [2044] G G' ∧ (0 ≤ x ∧ (G'.1 2044 (Γ.2.1 w 0), x) = lrn (fun i => (f i &&& 255).toInt) (n : Int) ((n : Int) - 0).toNat 0 k 0 (G.1 2044 (Γ.2.1 w 0)))))) args s 0 0 (zA Γ)) 0 [some (zr 7 w), some (zr t a), some (zi k), none, none, none, none] [] G
  refine zs_loc 2 rfl (fun ha2 hb2 => ?_)
  have hn2 : n < 2147483648 := hJ.2.2.2.2.1
  refine zs_iload_n (pc := 0) C dX6_learn_0 rfl ?_
  refine zs_istore_n (pc := 1) C dX6_learn_1 (by decide) ?_
  dsimp only [zset, zclr, znone]
  refine zs_iconst (pc := 2) C dX6_learn_2 (by decide) ?_
  refine zs_istore (pc := 3) C dX6_learn_3 (by decide) ?_
  dsimp only [zset, zclr, znone]
  refine zs_iconst (pc := 5) C dX6_learn_5 (by decide) ?_
  refine zs_istore (pc := 6) C dX6_learn_6 (by decide) ?_
  dsimp only [zset, zclr, znone]
  have L8 : ∀ (nn : Nat) (x3 x4 x5 : Int) (G1 : zH), (0 ≤ x3) → (0 ≤ x5 ∧ x5 ≤ (n : Int) ∧ 0 ≤ x4 ∧ x4 ≤ x5) → (zsm [2044] G G1) → (lrn (fun i => (f i &&& 255).toInt) (n : Int) ((n : Int) - x5).toNat x5 x3 x4 (G1.1 2044 (Γ.2.1 w 0)) = lrn (fun i => (f i &&& 255).toInt) (n : Int) ((n : Int) - 0).toNat 0 k 0 (G.1 2044 (Γ.2.1 w 0))) → ((n : Int) - x5).toNat < nn → Z p l e (zrm 4) s m args below meth c Γ 7 0 0 (MQ below (zQc Γ (zpi (fun x G' => zsm [2044] G G' ∧ (0 ≤ x ∧ (G'.1 2044 (Γ.2.1 w 0), x) = lrn (fun i => (f i &&& 255).toInt) (n : Int) ((n : Int) - 0).toNat 0 k 0 (G.1 2044 (Γ.2.1 w 0)))))) args s 0 0 (zA Γ)) 8 [some (zr 7 w), some (zr t a), some (zi k), some (zi x3), some (zi x4), some (zi x5), none] [] G1 := by
    intro nn
    induction nn with
    | zero => intro x3 x4 x5 G1 h8_0 h8_1 h8_2 h8_3 hm; exact absurd hm (Nat.not_lt_zero _)
    | succ nn ih8 =>
      intro x3 x4 x5 G1 h8_0 h8_1 h8_2 h8_3 hm8
      refine zs_iload (pc := 8) C dX6_learn_8 rfl ?_
      refine zs_aload_n (pc := 10) C dX6_learn_10 rfl ?_
      refine zs_slen (pc := 11) C hJ dX6_learn_11 jw_length (by decide) ⟨Nat.zero_le _, Nat.zero_le _⟩ (Nat.le_of_ble_eq_true rfl) ?_
      refine zs_icmp_ge (tgt := 72) (pc := 14) C dX6_learn_14 (by decide) (fun h14 => ?_) (fun h14 => ?_)
      · skip
        refine zs_iload_n (pc := 72) C dX6_learn_72 rfl ?_
        exact zs_iret (pc := 73) C hr hlk dX6_learn_73 ⟨by repeat (first | exact zsm_rf | assumption | refine zsm_C (by decide) ?_ | refine zsm_I (by decide) ?_ | refine zsm_J ?_ | refine zsm_c (by assumption) (by decide) ?_), ⟨by omega, (by rw [← h8_3]; exact (lrn_e (by omega) _).symm)⟩⟩
      · skip
        refine zs_iload_n (pc := 17) C dX6_learn_17 rfl ?_
        refine zs_bipush (pc := 18) C dX6_learn_18 (by decide) (by decide) ?_
        refine zs_icmp_ge (tgt := 72) (pc := 20) C dX6_learn_20 (by decide) (fun h20 => ?_) (fun h20 => ?_)
        · skip
          refine zs_iload_n (pc := 72) C dX6_learn_72 rfl ?_
          exact zs_iret (pc := 73) C hr hlk dX6_learn_73 ⟨by repeat (first | exact zsm_rf | assumption | refine zsm_C (by decide) ?_ | refine zsm_I (by decide) ?_ | refine zsm_J ?_ | refine zsm_c (by assumption) (by decide) ?_), ⟨by omega, (by rw [← h8_3]; exact (lrn_e (by omega) _).symm)⟩⟩
        · skip
          refine zs_aload_n (pc := 23) C dX6_learn_23 rfl ?_
          refine zs_iload (pc := 24) C dX6_learn_24 rfl ?_
          refine zs_scharX (pc := 26) C hJ (by omega) dX6_learn_26 jw_charAt (by decide) ⟨Nat.zero_le _, Nat.zero_le _⟩ (Nat.le_of_ble_eq_true rfl) (fun z26 ez26 hz261 hz262 => ?_)
          refine zs_istore (pc := 29) C dX6_learn_29 (by decide) ?_
          dsimp only [zset, zclr, znone]
          refine zs_iload (pc := 31) C dX6_learn_31 rfl ?_
          refine zs_bipush (pc := 33) C dX6_learn_33 (by decide) (by decide) ?_
          have hf9 := hf x5.toNat (by omega)
          rw [← ez26] at hf9
          refine zs_icmp_ne (tgt := 47) (pc := 35) C dX6_learn_35 (by decide) (fun h35 => ?_) (fun h35 => ?_)
          · skip
            refine zs_aload_n (pc := 47) C dX6_learn_47 rfl ?_
            refine zs_getf (pc := 48) C dX6_learn_48 w_X6_11 f_7_0 (by decide) ?_
            refine zs_iload_n (pc := 51) C dX6_learn_51 rfl ?_
            refine zs_dup2 (pc := 52) C dX6_learn_52 ?_
            refine zs_iald (r := 2044) (pc := 53) C dX6_learn_53 a_44 (by decide) (by omega) rfl (r_2044 _) (fun v53 e53 l53 u53 => ?_)
            refine zs_iload (pc := 54) C dX6_learn_54 rfl ?_
            refine zs_iload (pc := 56) C dX6_learn_56 rfl ?_
            refine zSip2 (pc := 58) C dX6_learn_58 s_X6_42 (c_X6_packedF hX (by omega)) (by decide) ⟨Nat.zero_le _, Nat.zero_le _⟩ (Nat.le_of_ble_eq_true rfl) (fun x58 l58 u58 hp58 => ?_)
            have hq58 := hp58
            refine zs_iorX (pc := 61) C dX6_learn_61 (fun z61 ez61 hz611 hz612 => ?_)
            refine zs_iast (r := 2044) (pc := 62) C dX6_learn_62 a_44 (by decide) (by omega) rfl (r_2044 _) (by omega) ?_
            first | refine zs_iinc (pc := 63) C dX6_learn_63 rfl (by decide) (by omega) ?_ | refine zs_iincF (pc := 63) C dX6_learn_63 rfl (by decide) (fun z63 hz631 hz632 => ?_)
            dsimp only [zset, zclr, znone]
            first | refine zs_iinc (pc := 66) C dX6_learn_66 rfl (by decide) (by omega) ?_ | refine zs_iincF (pc := 66) C dX6_learn_66 rfl (by decide) (fun z66 hz661 hz662 => ?_)
            dsimp only [zset, zclr, znone]
            refine zs_goto (tgt := 8) (pc := 69) C dX6_learn_69 (by decide) ?_
            exact zs_wk (ih8 _ _ _ _ (by omega) (by omega) (by repeat (first | exact zsm_rf | assumption | refine zsm_C (by decide) ?_ | refine zsm_I (by decide) ?_ | refine zsm_J ?_ | refine zsm_c (by assumption) (by decide) ?_)) (by have q9 := h8_3; rw [lrn_s (k := x5) (w := x3) (by omega) (by omega)] at q9; (try dsimp only at q9); first | (rw [if_pos (ez26.symm.trans h35)] at q9; exact q9) | (rw [if_neg (fun q8 => h35 (ez26.trans q8))] at q9; rw [← q9]; congr 1; funext j; simp only [zuI_1, zuI_2, zuJ_1, zuJ_2, zuJ_3, zuP_1, zuP_2, zuP_3, zuC_1, zuC_2, reduceIte, Nat.reduceEqDiff, false_and, and_false, true_and, and_true, and_self, or_true, true_or, or_false, false_or]; by_cases q : j = x3.toNat; (rw [if_pos q, if_pos q, q, ez61, hq58, e53, ez26]); (rw [if_neg q, if_neg q]))) (by first | omega | (simp only [zuI_1, zuI_2, zuJ_1, zuJ_2, zuJ_3, zuP_1, zuP_2, zuP_3, zuC_1, zuC_2, reduceIte, Nat.reduceEqDiff, false_and, and_false, true_and, and_true, and_self, or_true, true_or, or_false, false_or]; omega))) (zwk_s rfl (zwk_s rfl (zwk_s rfl (zwk_s rfl (zwk_s rfl (zwk_s rfl (zwk_n zwk_0)))))))
          · skip
            first | refine zs_iinc (pc := 38) C dX6_learn_38 rfl (by decide) (by omega) ?_ | refine zs_iincF (pc := 38) C dX6_learn_38 rfl (by decide) (fun z38 hz381 hz382 => ?_)
            dsimp only [zset, zclr, znone]
            refine zs_iconst (pc := 41) C dX6_learn_41 (by decide) ?_
            refine zs_istore (pc := 42) C dX6_learn_42 (by decide) ?_
            dsimp only [zset, zclr, znone]
            refine zs_goto (tgt := 66) (pc := 44) C dX6_learn_44 (by decide) ?_
            first | refine zs_iinc (pc := 66) C dX6_learn_66 rfl (by decide) (by omega) ?_ | refine zs_iincF (pc := 66) C dX6_learn_66 rfl (by decide) (fun z66 hz661 hz662 => ?_)
            dsimp only [zset, zclr, znone]
            refine zs_goto (tgt := 8) (pc := 69) C dX6_learn_69 (by decide) ?_
            exact zs_wk (ih8 _ _ _ _ (by omega) (by omega) (by repeat (first | exact zsm_rf | assumption | refine zsm_C (by decide) ?_ | refine zsm_I (by decide) ?_ | refine zsm_J ?_ | refine zsm_c (by assumption) (by decide) ?_)) (by have q9 := h8_3; rw [lrn_s (k := x5) (w := x3) (by omega) (by omega)] at q9; (try dsimp only at q9); first | (rw [if_pos (ez26.symm.trans h35)] at q9; exact q9) | (rw [if_neg (fun q8 => h35 (ez26.trans q8))] at q9; rw [← q9]; congr 1; funext j; simp only [zuI_1, zuI_2, zuJ_1, zuJ_2, zuJ_3, zuP_1, zuP_2, zuP_3, zuC_1, zuC_2, reduceIte, Nat.reduceEqDiff, false_and, and_false, true_and, and_true, and_self, or_true, true_or, or_false, false_or]; by_cases q : j = x3.toNat; (rw [if_pos q, if_pos q, q, ez61, hq58, e53, ez26]); (rw [if_neg q, if_neg q]))) (by first | omega | (simp only [zuI_1, zuI_2, zuJ_1, zuJ_2, zuJ_3, zuP_1, zuP_2, zuP_3, zuC_1, zuC_2, reduceIte, Nat.reduceEqDiff, false_and, and_false, true_and, and_true, and_self, or_true, true_or, or_false, false_or]; omega))) (zwk_s rfl (zwk_s rfl (zwk_s rfl (zwk_s rfl (zwk_s rfl (zwk_s rfl (zwk_n zwk_0)))))))
  exact zs_wk (L8 _ _ _ _ _ (by omega) (by omega) zsm_rf rfl (Nat.lt_succ_self _)) (zwk_s rfl (zwk_s rfl (zwk_s rfl (zwk_s rfl (zwk_s rfl (zwk_s rfl (zwk_n zwk_0)))))))

def sB1 : List Int32 := [111, 114, 32, 97, 110, 100, 32, 110, 111, 116, 32, 119, 111, 114, 116, 104, 32, 116, 105, 109, 101, 115, 32, 119, 111, 114, 110, 32, 112, 114, 105, 100, 101, 32, 108, 105, 101, 32, 104, 111, 110, 101, 115, 116, 32, 100, 97, 121, 32]
def sB2 : List Int32 := [115, 105, 110, 32, 112, 101, 114, 115, 111, 110, 32, 100, 105, 100, 32, 99, 97, 107, 101, 32, 103, 114, 97, 105, 110, 32, 103, 114, 105, 115, 116, 32, 115, 116, 111, 110, 101, 32, 115, 101, 101, 100, 32, 108, 97, 119, 32, 109, 97, 121, 32, 103, 114, 105, 110, 100, 32, 119, 101, 97, 114, 32, 119, 97, 110, 116, 32, 112, 97, 105, 114, 32]
def gB1 : Nat → Int := fun i => (sB1.getD i 0 &&& 255).toInt
def gB2 : Nat → Int := fun i => (sB2.getD i 0 &&& 255).toInt
theorem sB1_f : ∀ i : Nat, i < 49 → (sB1.getD i 0 &&& 255).toInt = 32 ∨ (97 ≤ (sB1.getD i 0 &&& 255).toInt ∧ (sB1.getD i 0 &&& 255).toInt ≤ 122) := by decide +kernel
theorem sB2_f : ∀ i : Nat, i < 72 → (sB2.getD i 0 &&& 255).toInt = 32 ∨ (97 ≤ (sB2.getD i 0 &&& 255).toInt ∧ (sB2.getD i 0 &&& 255).toInt ≤ 122) := by decide +kernel
theorem lrn_2 : (lrn gB2 72 72 0 0 0 (fun _ => 0)).2 = 14 := by decide +kernel
theorem lrn_1 : ∀ q : Nat, q < 24 → (lrn gB1 49 49 0 14 0 (lrn gB2 72 72 0 0 0 (fun _ => 0)).1).1 q = wl.getD q 0 := by decide +kernel
end
section
/-- these regions stay, at all that lay there -/
def zpr (rs : List Nat) (Γ : zΓ) (G G1 : zH) : Prop := ∀ r ∈ rs, ∀ a, Γ.1 a ≠ 0 → ∀ i, G1.1 r a i = G.1 r a i
theorem zpr_rf {rs : List Nat} {Γ : zΓ} {G : zH} : zpr rs Γ G G := fun _ _ _ _ _ => rfl
theorem zpr_ag {rs : List Nat} {Γ : zΓ} {G G1 : zH} {t q : Nat} {fr : Nat → Nat} {iv : Nat → Int} (h : zpr rs Γ G G1) (hr : ∀ r ∈ rs, r < 100 * t ∨ 100 * t + zN t ≤ r) : zpr rs Γ G (zag G1 t q fr iv) := fun r h1 a ha i => by
  rw [zag_r (hr r h1)]
  exact h r h1 a ha i
theorem zpr_tr {rs rs' : List Nat} {Γ Γ1 : zΓ} {G G1 G2 : zH} (h1 : zpr rs Γ G G1) (hx : zxt Γ Γ1) (h2 : zpr rs' Γ1 G1 G2) (hs : ∀ r ∈ rs, r ∈ rs') : zpr rs Γ G G2 := fun r h a ha i => (h2 r (hs r h) a (by rw [(hx.2.2.2 a ha).1]; exact ha) i).trans (h1 r h a ha i)
theorem zpr_no {rs ms : List Nat} {Γ Γ1 : zΓ} {G G1 G2 : zH} (h1 : zpr rs Γ G G1) (hx : zxt Γ Γ1) (hz : zsm ms G1 G2) (hr : ∀ r ∈ rs, r ∉ ms) : zpr rs Γ G (zno Γ1 G2) := fun r h a ha i => by
  rw [zno_1 (by rw [(hx.2.2.2 a ha).1]; exact ha), hz.1 r (hr r h)]
  exact h1 r h a ha i
theorem zpr_nn {rs ms : List Nat} {Γ Γ1 : zΓ} {G G1 G2 : zH} (h1 : zpr rs Γ G G1) (hx : zxt Γ Γ1) (hz : zsn ms G1 G2) (hr : ∀ r ∈ rs, r ∉ ms) : zpr rs Γ G (zno Γ1 G2) := fun r h a ha i => by
  rw [zno_1 (by rw [(hx.2.2.2 a ha).1]; exact ha), hz r (hr r h)]
  exact h1 r h a ha i
def zTxF (b : Nat) (o : (Nat → Nat) × (Nat → Nat) × (Nat → Nat → Int)) (U : State) : Prop :=
  (vk_R RX6 24 "or and not worth times worn pride lie honest day " (o.1 3) U ∧ vk_R RX6 26 "sin person did cake grain grist stone seed law may grind wear want pair " (o.1 4) U) ∧
  ∃ (v1 v2 : Nat), jStr (zAb b) (o.1 3) v1 49 (fun j => sB1.getD j 0) U U.heap ∧ jStr (zAb b) (o.1 4) v2 72 (fun j => sB2.getD j 0) U U.heap
theorem zTxF_sty {b : Nat} {o : (Nat → Nat) × (Nat → Nat) × (Nat → Nat → Int)} : zSty b (zTxF b o) := by
  intro U U1 h hW hq
  obtain ⟨⟨h1, h2⟩, v1, v2, h3, h4⟩ := h
  exact ⟨⟨vk_R.warm hW h1, vk_R.warm hW h2⟩, v1, v2, jStr_keep h3 hW.alike hq, jStr_keep h4 hW.alike hq⟩

section ZYF
variable {p : Program} {l : Launch} {e : Env} {R : Room} {s : State} {m : MethodId} {args : Array Value} {below : List Frame} {meth : Method} {c : Code} {Γ Γ0 : zΓ} {b : Nat} {cc : ByteArray} {nL : Nat} {own : String} {cells slots : Nat} {Q : State → Prop} {pc : Nat} {ls : List (Option zV)} {st : List zV} {G : zH} {ws X : va_W} {D : va_G}
theorem v_learnF {post : Int → zH → Prop} (C : zCv p s m args c Γ0 b cc nL own) (hx : zxt Γ0 Γ) {bs : ByteArray} {idx w0 a t v n : Nat} {k : Int} {f : Nat → Int32} {y : MethodName} (d : decode cc pc = .ok (.invokevirtual idx, 3)) (w : zWv own idx y 7 bs 7 (some .int) 2) (hM : zMt l Γ (fun U => jStr (zA Γ) a v n f U U.heap) y bs 7 (some .int) 4 [zr 7 w0, zr t a, zi k] G (zpi post)) (hB : zBn Γ G) (ht0 : Γ.1 w0 = 7) (ha : a = Γ.2.2.2.2.2.1 (t - 200)) (hJ : jStr (zAb b) a v n f s s.heap) (ht : 200 ≤ t) (hR : 5 ≤ R.frames ∧ 200 ≤ R.locals) (hc : cells ≤ R.cells ∧ slots ≤ R.slots) (hw : ((st.map zc).map fun v => v.category).sum ≤ 8) (hk : -2147483648 ≤ k ∧ k ≤ 2147483647)
    (kk : ∀ (x : Int) (G' : zH), post x G' → (-2147483648 ≤ x ∧ x ≤ 2147483647) → zBn Γ (zno Γ G') → V p l e R s m args below meth c b Γ0.2.2.2.1 nL cells slots Q (pc + 3) ls (zi x :: st) (X ++ zWd Γ (zno Γ G'))) : V p l e R s m args below meth c b Γ0.2.2.2.1 nL cells slots Q pc ls (zi k :: zr t a :: zr 7 w0 :: st) (X ++ zWd Γ G) := by
  rw [← hx.2.1]
  refine v_callT (av := [zr t a, zi k]) (zCv_x C hx) d w (by decide) rfl hM hB ?_ (fun U H hU hvm hq hA => by rw [hU]; exact jStr_nar (jStr_keep hJ hvm hq) hA) ?_ (by show 4 + 1 ≤ R.frames ∧ 8 + (7 + 11) + 40 * 4 ≤ R.locals; omega) hc hw (fun r G' hp hz hB' => ?_)
  · intro x hx
    rcases List.mem_cons.mp hx with h | h
    · rw [h]; exact zk_of ht0 (by decide) (by decide)
    · rcases List.mem_cons.mp h with h | h
      · rw [h]; exact Or.inr ⟨ht, ha⟩
      · rw [List.mem_singleton.mp h]; exact hk
  · intro a U g mk h
    exact jStr_keep (U := U) (U1 := U.calling g mk a) h (Vm.Alike.refl U.vm) (fun _ _ _ => rfl)
  · obtain ⟨x, rfl, hp⟩ := hp
    have h := kk x G' hp (hz _ rfl) hB'
    rw [← hx.2.1] at h
    exact h
end ZYF
end
section
/-! the halves of the reference's rows: below them lies what is kept -/
def hhL : List (Nat × Nat) := [(2059, 4), (2061, 4), (2062, 4), (2063, 5), (2064, 5), (2065, 20), (2066, 5), (2067, 5), (2068, 5), (2069, 5), (2070, 3), (2071, 7), (2072, 7), (2073, 7), (2074, 64), (2075, 64), (2076, 64)]
def hh (r : Nat) : Nat := (hhL.lookup r).getD 0
def LHr (G G1 : zH) : Prop := ∀ r a j : Nat, j < hh r → G1.1 r a j = G.1 r a j
theorem LHr_rf {G : zH} : LHr G G := fun _ _ _ _ => rfl
theorem LHr_c {G G1 G2 : zH} (h2 : LHr G1 G2) (h : LHr G G1) : LHr G G2 := fun r a j hj => (h2 r a j hj).trans (h r a j hj)
theorem LHr_I {G G1 : zH} {r a i h : Nat} {x : Int} (hr : hh r ≤ h) (hi : h ≤ i) (hL : LHr G G1) : LHr G (zuI G1 r a i x) := fun r' a' j hj => by
  rw [zuI_1, if_neg (fun q => by have q1 := q.1; subst q1; have q3 := q.2.2; omega)]
  exact hL r' a' j hj
theorem LHr_J {G G1 : zH} {r a i : Nat} {x : Int} (hL : LHr G G1) : LHr G (zuJ G1 r a i x) := hL
theorem hh_in : ∀ r : Nat, r ∉ [2059, 2061, 2062, 2063, 2064, 2065, 2066, 2067, 2068, 2069, 2070, 2071, 2072, 2073, 2074, 2075, 2076] → hh r = 0 := by
  intro r hr
  have e : ∀ (l : List (Nat × Nat)), (∀ q ∈ l, r ≠ q.1) → l.lookup r = none := by
    intro l
    induction l with
    | nil => intro _; rfl
    | cons q l ih =>
      intro h
      have h1 : (r == q.1) = false := beq_false_of_ne (h q List.mem_cons_self)
      rw [show q = (q.1, q.2) from rfl, List.lookup_cons, h1]
      exact ih (fun q2 h2 => h q2 (List.mem_cons_of_mem _ h2))
  unfold hh
  rw [e hhL (fun q hq he => hr (by rw [he]; exact List.mem_map.mpr ⟨q, hq, rfl⟩ : r ∈ hhL.map (fun q => q.1)))]
  rfl
theorem LHr_z {G G1 G2 : zH} {rs : List Nat} (hz : zsm rs G1 G2) (hr : ∀ r ∈ [2059, 2061, 2062, 2063, 2064, 2065, 2066, 2067, 2068, 2069, 2070, 2071, 2072, 2073, 2074, 2075, 2076], r ∉ rs) (h : LHr G G1) : LHr G G2 := fun r a j hj => by
  by_cases q : r ∈ [2059, 2061, 2062, 2063, 2064, 2065, 2066, 2067, 2068, 2069, 2070, 2071, 2072, 2073, 2074, 2075, 2076]
  · rw [hz.1 r (hr r q)]
    exact h r a j hj
  · rw [hh_in r q] at hj
    exact absurd hj (Nat.not_lt_zero _)
end
section
set_option maxHeartbeats 4000000 in
set_option maxRecDepth 100000 in
theorem c_X9_plainL {l : Launch} {Γ : zΓ} {G : zH} {w : Nat}  (hX : zXs Γ) (hM : MI Γ w G) : zMet l Γ yX9_plain cX9_plain 2 none 0 [zr 10 w] G (zpv (fun G' => zsm [1017, 1018, 1019, 1020, 1021, 1045, 2059, 2060, 2071] G G' ∧ LHr G G' ∧ (MI Γ w G' ∧ RC Γ w G' ∧ gZ Γ w G'))) := by
  refine zMet_of RX9 hX (by decide) rfl (Nat.le_of_ble_eq_true rfl) ?_
  intro p e s m args below meth c C hr hlk
  show Z p l e (zrm 0) s m args below meth c Γ 2 0 0 (MQ below (zQc Γ (zpv (fun G' => zsm [1017, 1018, 1019, 1020, 1021, 1045, 2059, 2060, 2071] G G' ∧ LHr G G' ∧ (MI Γ w G' ∧ RC Γ w G' ∧ gZ Γ w G')))) args s 0 0 (zA Γ)) 0 [some (zr 10 w), none] [] G
  have hoo4 := rs_2059 (4 : Int).toNat
  have hoo5 := rs_2059 (5 : Int).toNat
  have hoo6 := rs_2059 (6 : Int).toNat
  have hoo7 := rs_2059 (7 : Int).toNat
  refine zs_aload_n (pc := 0) C dX9_plain_0 rfl ?_
  refine zs_iconst (pc := 1) C dX9_plain_1 (by decide) ?_
  refine zs_puti (r := 1017) (pc := 2) C dX9_plain_2 w_X9_240 f_10_17 rfl (r_1017 0) (by omega) ?_
  refine zs_aload_n (pc := 5) C dX9_plain_5 rfl ?_
  refine zs_iconst (pc := 6) C dX9_plain_6 (by decide) ?_
  refine zs_puti (r := 1018) (pc := 7) C dX9_plain_7 w_X9_243 f_10_18 rfl (r_1018 0) (by omega) ?_
  refine zs_aload_n (pc := 10) C dX9_plain_10 rfl ?_
  refine zs_iconst (pc := 11) C dX9_plain_11 (by decide) ?_
  refine zs_puti (r := 1019) (pc := 12) C dX9_plain_12 w_X9_246 f_10_19 rfl (r_1019 0) (by omega) ?_
  refine zs_aload_n (pc := 15) C dX9_plain_15 rfl ?_
  refine zs_iconst (pc := 16) C dX9_plain_16 (by decide) ?_
  refine zs_puti (r := 1020) (pc := 17) C dX9_plain_17 w_X9_249 f_10_20 rfl (r_1020 0) (by omega) ?_
  refine zs_aload_n (pc := 20) C dX9_plain_20 rfl ?_
  refine zs_iconst (pc := 21) C dX9_plain_21 (by decide) ?_
  refine zs_puti (r := 1021) (pc := 22) C dX9_plain_22 w_X9_252 f_10_21 rfl (r_1021 0) (by omega) ?_
  refine zs_aload_n (pc := 25) C dX9_plain_25 rfl ?_
  refine zs_iconst (pc := 26) C dX9_plain_26 (by decide) ?_
  refine zs_puti (r := 1045) (pc := 27) C dX9_plain_27 w_X9_255 f_10_45 rfl (r_1045 0) (by omega) ?_
  refine zs_aload_n (pc := 30) C dX9_plain_30 rfl ?_
  refine zs_getf (pc := 31) C dX9_plain_31 w_X9_20 f_10_22 (by decide) ?_
  refine zs_iconst (pc := 34) C dX9_plain_34 (by decide) ?_
  refine zs_bipush (pc := 35) C dX9_plain_35 (by decide) (by decide) ?_
  refine zs_iast (r := 2059) (pc := 37) C dX9_plain_37 a_59 (by decide) (by omega) rfl (show zrg 2059 (4 : Int).toNat = ((zrg 2059 (4 : Int).toNat).1, (zrg 2059 (4 : Int).toNat).2) from rfl) (by omega) ?_
  refine zs_aload_n (pc := 38) C dX9_plain_38 rfl ?_
  refine zs_getf (pc := 39) C dX9_plain_39 w_X9_20 f_10_22 (by decide) ?_
  refine zs_iconst (pc := 42) C dX9_plain_42 (by decide) ?_
  refine zs_iconst (pc := 43) C dX9_plain_43 (by decide) ?_
  refine zs_iast (r := 2059) (pc := 44) C dX9_plain_44 a_59 (by decide) (by omega) rfl (show zrg 2059 (5 : Int).toNat = ((zrg 2059 (5 : Int).toNat).1, (zrg 2059 (5 : Int).toNat).2) from rfl) (by omega) ?_
  refine zs_aload_n (pc := 45) C dX9_plain_45 rfl ?_
  refine zs_getf (pc := 46) C dX9_plain_46 w_X9_20 f_10_22 (by decide) ?_
  refine zs_bipush (pc := 49) C dX9_plain_49 (by decide) (by decide) ?_
  refine zs_iconst (pc := 51) C dX9_plain_51 (by decide) ?_
  refine zs_iast (r := 2059) (pc := 52) C dX9_plain_52 a_59 (by decide) (by omega) rfl (show zrg 2059 (6 : Int).toNat = ((zrg 2059 (6 : Int).toNat).1, (zrg 2059 (6 : Int).toNat).2) from rfl) (by omega) ?_
  refine zs_aload_n (pc := 53) C dX9_plain_53 rfl ?_
  refine zs_getf (pc := 54) C dX9_plain_54 w_X9_20 f_10_22 (by decide) ?_
  refine zs_bipush (pc := 57) C dX9_plain_57 (by decide) (by decide) ?_
  refine zs_iconst (pc := 59) C dX9_plain_59 (by decide) ?_
  refine zs_iast (r := 2059) (pc := 60) C dX9_plain_60 a_59 (by decide) (by omega) rfl (show zrg 2059 (7 : Int).toNat = ((zrg 2059 (7 : Int).toNat).1, (zrg 2059 (7 : Int).toNat).2) from rfl) (by omega) ?_
  refine zs_heap (P := fun G1 => zsm [1017, 1018, 1019, 1020, 1021, 1045, 2059] G G1 ∧ LHr G G1 ∧ G1.1 1045 w 0 = 0 ∧ G1.1 1021 w 0 = 0 ∧ (G1.1 1017 w 0 = 0 ∧ G1.1 1018 w 0 = 0 ∧ G1.1 1019 w 0 = 0 ∧ G1.1 1020 w 0 = 0 ∧ G1.1 1021 w 0 = 0 ∧ G1.1 1045 w 0 = 0 ∧ G1.1 2059 (Γ.2.1 w 22) 4 = 100 ∧ G1.1 2059 (Γ.2.1 w 22) 5 = 5 ∧ G1.1 2059 (Γ.2.1 w 22) 6 = 0 ∧ G1.1 2059 (Γ.2.1 w 22) 7 = 0)) ⟨(by repeat (first | exact zsm_rf | assumption | refine zsm_C (by decide) ?_ | refine zsm_I (by decide) ?_ | refine zsm_J ?_ | refine zsm_c (by assumption) (by decide) ?_)), (by repeat (first | exact LHr_rf | assumption | refine LHr_I (h := 0) (by decide) (Nat.zero_le _) ?_ | refine LHr_I (h := 3) (by decide) (by omega) ?_ | refine LHr_I (h := 4) (by decide) (by omega) ?_ | refine LHr_I (h := 5) (by decide) (by omega) ?_ | refine LHr_I (h := 7) (by decide) (by omega) ?_ | refine LHr_I (h := 20) (by decide) (by omega) ?_ | refine LHr_I (h := 64) (by decide) (by omega) ?_ | refine LHr_J ?_ | refine LHr_c (by assumption) ?_ | refine LHr_z (by assumption) (by decide) ?_)), by simp only [zuI_1, zuI_2, zuJ_1, zuJ_2, zuJ_3, zuP_1, zuP_2, zuP_3, zuC_1, zuC_2, reduceIte, Nat.reduceEqDiff, false_and, and_false, true_and, and_true, and_self, or_true, true_or, or_false, false_or], by simp only [zuI_1, zuI_2, zuJ_1, zuJ_2, zuJ_3, zuP_1, zuP_2, zuP_3, zuC_1, zuC_2, reduceIte, Nat.reduceEqDiff, false_and, and_false, true_and, and_true, and_self, or_true, true_or, or_false, false_or], (by refine ⟨?_, ?_, ?_, ?_, ?_, ?_, ?_, ?_, ?_, ?_⟩ <;> simp [zuI_1])⟩ (fun G1 hG1 => ?_)
  obtain ⟨hh1, lwG1, hh2, hh3, hh4⟩ := hG1
  refine zs_iconst (pc := 61) C dX9_plain_61 (by decide) ?_
  refine zs_istore_n (pc := 62) C dX9_plain_62 (by decide) ?_
  dsimp only [zset, zclr, znone]
  have L63 : ∀ (nn : Nat) (x1 : Int) (G2 : zH), (0 ≤ x1 ∧ x1 ≤ 4) → (zsm [2060] G1 G2) → (∀ j : Nat, (j : Int) < x1 → G2.1 2060 (Γ.2.1 w 23) j = 0) → (LHr G1 G2) → (4 - x1).toNat < nn → Z p l e (zrm 0) s m args below meth c Γ 2 0 0 (MQ below (zQc Γ (zpv (fun G' => zsm [1017, 1018, 1019, 1020, 1021, 1045, 2059, 2060, 2071] G G' ∧ LHr G G' ∧ (MI Γ w G' ∧ RC Γ w G' ∧ gZ Γ w G')))) args s 0 0 (zA Γ)) 63 [some (zr 10 w), some (zi x1)] [] G2 := by
    intro nn
    induction nn with
    | zero => intro x1 G2 h63_0 h63_1 h63_2 h63_3 hm; exact absurd hm (Nat.not_lt_zero _)
    | succ nn ih63 =>
      intro x1 G2 h63_0 h63_1 h63_2 h63_3 hm63
      refine zs_iload_n (pc := 63) C dX9_plain_63 rfl ?_
      refine zs_iconst (pc := 64) C dX9_plain_64 (by decide) ?_
      refine zs_icmp_ge (tgt := 81) (pc := 65) C dX9_plain_65 (by decide) (fun h65 => ?_) (fun h65 => ?_)
      · skip
        refine zs_bipush (pc := 81) C dX9_plain_81 (by decide) (by decide) ?_
        refine zs_istore_n (pc := 83) C dX9_plain_83 (by decide) ?_
        dsimp only [zset, zclr, znone]
        have L84 : ∀ (nn : Nat) (x1 : Int) (G3 : zH), (7 ≤ x1 ∧ x1 ≤ 14) → (zsm [1017, 1018, 1019, 1020, 1021, 1045, 2059, 2060, 2071] G G3) → (MI Γ w G3) → (LZ Γ w G3 x1) → (G3.1 1045 w 0 = 0 ∧ G3.1 1021 w 0 = 0) → (G3.1 1017 w 0 = 0 ∧ G3.1 1018 w 0 = 0 ∧ G3.1 1019 w 0 = 0 ∧ G3.1 1020 w 0 = 0 ∧ G3.1 1021 w 0 = 0 ∧ G3.1 1045 w 0 = 0 ∧ G3.1 2059 (Γ.2.1 w 22) 4 = 100 ∧ G3.1 2059 (Γ.2.1 w 22) 5 = 5 ∧ G3.1 2059 (Γ.2.1 w 22) 6 = 0 ∧ G3.1 2059 (Γ.2.1 w 22) 7 = 0) → (∀ j : Nat, j < 4 → G3.1 2060 (Γ.2.1 w 23) j = 0) → (LHr G G3) → (14 - x1).toNat < nn → Z p l e (zrm 0) s m args below meth c Γ 2 0 0 (MQ below (zQc Γ (zpv (fun G' => zsm [1017, 1018, 1019, 1020, 1021, 1045, 2059, 2060, 2071] G G' ∧ LHr G G' ∧ (MI Γ w G' ∧ RC Γ w G' ∧ gZ Γ w G')))) args s 0 0 (zA Γ)) 84 [some (zr 10 w), some (zi x1)] [] G3 := by
          intro nn
          induction nn with
          | zero => intro x1 G3 h84_0 h84_1 h84_2 h84_3 h84_4 h84_5 h84_6 h84_7 hm; exact absurd hm (Nat.not_lt_zero _)
          | succ nn ih84 =>
            intro x1 G3 h84_0 h84_1 h84_2 h84_3 h84_4 h84_5 h84_6 h84_7 hm84
            refine zs_iload_n (pc := 84) C dX9_plain_84 rfl ?_
            refine zs_bipush (pc := 85) C dX9_plain_85 (by decide) (by decide) ?_
            refine zs_icmp_ge (tgt := 103) (pc := 87) C dX9_plain_87 (by decide) (fun h87 => ?_) (fun h87 => ?_)
            · skip
              exact zs_vret (pc := 103) C hr hlk dX9_plain_103 ⟨by repeat (first | exact zsm_rf | assumption | refine zsm_C (by decide) ?_ | refine zsm_I (by decide) ?_ | refine zsm_J ?_ | refine zsm_c (by assumption) (by decide) ?_), (by repeat (first | exact LHr_rf | assumption | refine LHr_I (h := 0) (by decide) (Nat.zero_le _) ?_ | refine LHr_I (h := 3) (by decide) (by omega) ?_ | refine LHr_I (h := 4) (by decide) (by omega) ?_ | refine LHr_I (h := 5) (by decide) (by omega) ?_ | refine LHr_I (h := 7) (by decide) (by omega) ?_ | refine LHr_I (h := 20) (by decide) (by omega) ?_ | refine LHr_I (h := 64) (by decide) (by omega) ?_ | refine LHr_J ?_ | refine LHr_c (by assumption) ?_ | refine LHr_z (by assumption) (by decide) ?_)), ⟨h84_2, RC_z (by omega) h84_3 (by omega), (by obtain ⟨q1, q2, q3, q4, q5, q6, q7, q8, q9, q10⟩ := h84_5; exact ⟨q1, q2, q3, q4, q5, q6, q7, q8, q9, q10, h84_6, fun j j1 j2 => h84_3 j j1 (by omega)⟩)⟩⟩
            · skip
              refine zs_aload_n (pc := 90) C dX9_plain_90 rfl ?_
              refine zs_getf (pc := 91) C dX9_plain_91 w_X9_57 f_10_34 (by decide) ?_
              refine zs_iload_n (pc := 94) C dX9_plain_94 rfl ?_
              refine zs_iconst (pc := 95) C dX9_plain_95 (by decide) ?_
              refine zs_zast (r := 2071) (pc := 96) C dX9_plain_96 a_71 (by decide) (by omega) rfl (r_2071 _) (by omega) (by omega) ?_
              first | refine zs_iinc (pc := 97) C dX9_plain_97 rfl (by decide) (by omega) ?_ | refine zs_iincF (pc := 97) C dX9_plain_97 rfl (by decide) (fun z97 hz971 hz972 => ?_)
              dsimp only [zset, zclr, znone]
              refine zs_goto (tgt := 84) (pc := 100) C dX9_plain_100 (by decide) ?_
              exact zs_wk (ih84 _ _ (by omega) (by repeat (first | exact zsm_rf | assumption | refine zsm_C (by decide) ?_ | refine zsm_I (by decide) ?_ | refine zsm_J ?_ | refine zsm_c (by assumption) (by decide) ?_)) (MI_h71 (by omega) h84_2) (LZ_s (by omega) h84_3) (by first | omega | (simp only [zuI_1, zuI_2, zuJ_1, zuJ_2, zuJ_3, zuP_1, zuP_2, zuP_3, zuC_1, zuC_2, reduceIte, Nat.reduceEqDiff, false_and, and_false, true_and, and_true, and_self, or_true, true_or, or_false, false_or]; omega)) (by simp (disch := decide) only [zuI_nf]; exact h84_5) (fun j hj => by rw [zuI_nf (by decide)]; exact h84_6 j hj) (by repeat (first | exact LHr_rf | assumption | refine LHr_I (h := 0) (by decide) (Nat.zero_le _) ?_ | refine LHr_I (h := 3) (by decide) (by omega) ?_ | refine LHr_I (h := 4) (by decide) (by omega) ?_ | refine LHr_I (h := 5) (by decide) (by omega) ?_ | refine LHr_I (h := 7) (by decide) (by omega) ?_ | refine LHr_I (h := 20) (by decide) (by omega) ?_ | refine LHr_I (h := 64) (by decide) (by omega) ?_ | refine LHr_J ?_ | refine LHr_c (by assumption) ?_ | refine LHr_z (by assumption) (by decide) ?_)) (by first | omega | (simp only [zuI_1, zuI_2, zuJ_1, zuJ_2, zuJ_3, zuP_1, zuP_2, zuP_3, zuC_1, zuC_2, reduceIte, Nat.reduceEqDiff, false_and, and_false, true_and, and_true, and_self, or_true, true_or, or_false, false_or]; omega))) (zwk_s rfl (zwk_s rfl zwk_0))
        exact zs_wk (L84 _ _ _ (by omega) (by repeat (first | exact zsm_rf | assumption | refine zsm_C (by decide) ?_ | refine zsm_I (by decide) ?_ | refine zsm_J ?_ | refine zsm_c (by assumption) (by decide) ?_)) (by repeat (first | assumption | refine MI_I (by decide) ?_ | refine MI_J ?_ | refine MI_sm (by assumption) (by decide) ?_ | refine MI_sn (by assumption) (by decide) ?_)) LZ_0 (by have q1 := zsm_at h63_1 1045 w 0 (by decide); have q2 := zsm_at h63_1 1021 w 0 (by decide); omega) (by rw [h63_1.1 1017 (by decide), h63_1.1 1018 (by decide), h63_1.1 1019 (by decide), h63_1.1 1020 (by decide), h63_1.1 1021 (by decide), h63_1.1 1045 (by decide), h63_1.1 2059 (by decide)]; exact hh4) (fun j hj => h63_2 j (by omega)) (by repeat (first | exact LHr_rf | assumption | refine LHr_I (h := 0) (by decide) (Nat.zero_le _) ?_ | refine LHr_I (h := 3) (by decide) (by omega) ?_ | refine LHr_I (h := 4) (by decide) (by omega) ?_ | refine LHr_I (h := 5) (by decide) (by omega) ?_ | refine LHr_I (h := 7) (by decide) (by omega) ?_ | refine LHr_I (h := 20) (by decide) (by omega) ?_ | refine LHr_I (h := 64) (by decide) (by omega) ?_ | refine LHr_J ?_ | refine LHr_c (by assumption) ?_ | refine LHr_z (by assumption) (by decide) ?_)) (Nat.lt_succ_self _)) (zwk_s rfl (zwk_s rfl zwk_0))
      · skip
        refine zs_aload_n (pc := 68) C dX9_plain_68 rfl ?_
        refine zs_getf (pc := 69) C dX9_plain_69 w_X9_23 f_10_23 (by decide) ?_
        refine zs_iload_n (pc := 72) C dX9_plain_72 rfl ?_
        refine zs_iconst (pc := 73) C dX9_plain_73 (by decide) ?_
        refine zs_zast (r := 2060) (pc := 74) C dX9_plain_74 a_60 (by decide) (by omega) rfl (r_2060 _) (by omega) (by omega) ?_
        first | refine zs_iinc (pc := 75) C dX9_plain_75 rfl (by decide) (by omega) ?_ | refine zs_iincF (pc := 75) C dX9_plain_75 rfl (by decide) (fun z75 hz751 hz752 => ?_)
        dsimp only [zset, zclr, znone]
        refine zs_goto (tgt := 63) (pc := 78) C dX9_plain_78 (by decide) ?_
        exact zs_wk (ih63 _ _ (by omega) (by repeat (first | exact zsm_rf | assumption | refine zsm_C (by decide) ?_ | refine zsm_I (by decide) ?_ | refine zsm_J ?_ | refine zsm_c (by assumption) (by decide) ?_)) (fun j hj => by simp only [zuI_1, zuI_2, zuJ_1, zuJ_2, zuJ_3, zuP_1, zuP_2, zuP_3, zuC_1, zuC_2, reduceIte, Nat.reduceEqDiff, false_and, and_false, true_and, and_true, and_self, or_true, true_or, or_false, false_or]; by_cases q : j = x1.toNat; (rw [if_pos q]); (rw [if_neg q]; exact h63_2 j (by omega))) (by repeat (first | exact LHr_rf | assumption | refine LHr_I (h := 0) (by decide) (Nat.zero_le _) ?_ | refine LHr_I (h := 3) (by decide) (by omega) ?_ | refine LHr_I (h := 4) (by decide) (by omega) ?_ | refine LHr_I (h := 5) (by decide) (by omega) ?_ | refine LHr_I (h := 7) (by decide) (by omega) ?_ | refine LHr_I (h := 20) (by decide) (by omega) ?_ | refine LHr_I (h := 64) (by decide) (by omega) ?_ | refine LHr_J ?_ | refine LHr_c (by assumption) ?_ | refine LHr_z (by assumption) (by decide) ?_)) (by first | omega | (simp only [zuI_1, zuI_2, zuJ_1, zuJ_2, zuJ_3, zuP_1, zuP_2, zuP_3, zuC_1, zuC_2, reduceIte, Nat.reduceEqDiff, false_and, and_false, true_and, and_true, and_self, or_true, true_or, or_false, false_or]; omega))) (zwk_s rfl (zwk_s rfl zwk_0))
  exact zs_wk (L63 _ _ _ (by omega) zsm_rf (fun j hj => by omega) (by repeat (first | exact LHr_rf | assumption | refine LHr_I (h := 0) (by decide) (Nat.zero_le _) ?_ | refine LHr_I (h := 3) (by decide) (by omega) ?_ | refine LHr_I (h := 4) (by decide) (by omega) ?_ | refine LHr_I (h := 5) (by decide) (by omega) ?_ | refine LHr_I (h := 7) (by decide) (by omega) ?_ | refine LHr_I (h := 20) (by decide) (by omega) ?_ | refine LHr_I (h := 64) (by decide) (by omega) ?_ | refine LHr_J ?_ | refine LHr_c (by assumption) ?_ | refine LHr_z (by assumption) (by decide) ?_)) (Nat.lt_succ_self _)) (zwk_s rfl (zwk_s rfl zwk_0))
end
