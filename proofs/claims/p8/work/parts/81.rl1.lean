theorem fnd_nm {f g : Nat → Int} {p q : Nat} {P Q c S : Int} (hP : P = p) (hQ : Q = q) (h : ∀ j : Nat, (j : Int) < S → f (p + j) = g (q + j)) : fndn f P c S.toNat 0 = fndn g Q c S.toNat 0 := by
  refine fnd_cg _ _ (fun i h1 h2 => ?_)
  have h3 := h i.toNat (by omega)
  rw [show (P + i).toNat = p + i.toNat by omega, show (Q + i).toNat = q + i.toNat by omega]
  exact h3
theorem gR_cake {b : Nat → Int} {n c f1 f2 f3 : Int} {Γ : zΓ} {w : Nat} {A B : aS} {G G1 : zH} (hfr : zsm [1007, 1008, 1009, 1010, 1004, 1005, 1011, 2066, 2067, 2068, 2069, 1019] G G1) (hR : gR b n Γ w A G) (hT : gT b n Γ w B G1) (h5 : A 4 2 < 5) (hB4 : ∀ j : Nat, B 4 j = if j = 2 then A 4 2 + 1 else A 4 j) (hB5 : ∀ j : Nat, B 5 j = if j = (10 + A 4 2).toNat then c else A 5 j) (hB9 : ∀ j : Nat, B 9 j = if j = (A 4 2).toNat then f1 else A 9 j) (hB10 : ∀ j : Nat, B 10 j = if j = (A 4 2).toNat then f2 else A 10 j) (hB11 : ∀ j : Nat, B 11 j = if j = (A 4 2).toNat then f3 else A 11 j) (hBo : ∀ f j : Nat, f ≠ 0 → f ≠ 4 → f ≠ 5 → f ≠ 9 → f ≠ 10 → f ≠ 11 → B f j = A f j)
    (e19 : G1.1 1019 w 0 = A 4 2 + 1) (e4 : G1.1 1004 w 0 = G.1 1004 w 0) (e5 : G1.1 1005 w 0 = G.1 1005 w 0) (h66 : ∀ j : Nat, G1.1 2066 (Γ.2.1 w 29) j = if j = (5 + A 4 2).toNat then c else G.1 2066 (Γ.2.1 w 29) j) (h67 : ∀ j : Nat, G1.1 2067 (Γ.2.1 w 30) j = if j = (5 + A 4 2).toNat then f1 else G.1 2067 (Γ.2.1 w 30) j) (h68 : ∀ j : Nat, G1.1 2068 (Γ.2.1 w 31) j = if j = (5 + A 4 2).toNat then f2 else G.1 2068 (Γ.2.1 w 31) j) (h69 : ∀ j : Nat, G1.1 2069 (Γ.2.1 w 32) j = if j = (5 + A 4 2).toNat then f3 else G.1 2069 (Γ.2.1 w 32) j) : gR b n Γ w B G1 := by
  obtain ⟨-, hF, hS, hP, hC, hM, hO, hL, hK, hc⟩ := hR
  have c0 := hC.2.1
  have s0 := hS.2.2.1
  refine ⟨hT, gF_sm (hBo _ _ (by decide) (by decide) (by decide) (by decide) (by decide) (by decide)) (hBo _ _ (by decide) (by decide) (by decide) (by decide) (by decide) (by decide)) e4 e5 hF, ?_, ?_, ?_, ?_, ?_, ?_, ?_, ?_⟩
  · exact gS_of (fun f j hf => by rcases hf with ⟨rfl, rfl⟩ | ⟨rfl, hj⟩ | rfl; (rw [hB4, if_neg (by decide)]); (rw [hB5, if_neg (by omega)]); (exact (hBo _ _ (by decide) (by decide) (by decide) (by decide) (by decide) (by decide)))) (zsm_at hfr 1017 w 0 (by decide)) (hfr.1 2061 (by decide)) (hfr.1 2062 (by decide)) hS
  · exact gP_of (fun f j hf => by rcases hf with ⟨rfl, rfl⟩ | ⟨rfl, hj⟩ | rfl | rfl; (rw [hB4, if_neg (by decide)]); (rw [hB5, if_neg (by omega)]); (exact (hBo _ _ (by decide) (by decide) (by decide) (by decide) (by decide) (by decide))); (exact (hBo _ _ (by decide) (by decide) (by decide) (by decide) (by decide) (by decide)))) (zsm_at hfr 1018 w 0 (by decide)) (hfr.1 2063 (by decide)) (hfr.1 2064 (by decide)) (hfr.1 2065 (by decide)) hP
  · refine ⟨?_, ?_, ?_, fun j hj => ?_⟩
    · rw [hB4, if_pos rfl]; exact e19
    · rw [hB4, if_pos rfl]; omega
    · rw [hB4, if_pos rfl]; omega
    · rw [hB4, if_pos rfl] at hj
      rw [h66, h67, h68, h69, hB5, hB9, hB10, hB11]
      by_cases q : j = (A 4 2).toNat
      · (repeat rw [if_pos (by omega)])
        try exact ⟨rfl, rfl, rfl, rfl⟩
      · (repeat rw [if_neg (by omega)])
        exact hC.2.2.2 j (by omega)
  · exact gM_of (fun f j hf => by rcases hf with ⟨rfl, rfl⟩ | ⟨rfl, hj⟩; (rw [hB4, if_neg (by decide)]); (rw [hB5, if_neg (by omega)])) (zsm_at hfr 1020 w 0 (by decide)) (hfr.1 2070 (by decide)) hM
  · exact gO_of (fun f j hf => by rcases hf with rfl | rfl | rfl | rfl | rfl; (exact (hBo _ _ (by decide) (by decide) (by decide) (by decide) (by decide) (by decide))); (exact (hBo _ _ (by decide) (by decide) (by decide) (by decide) (by decide) (by decide))); (exact (hBo _ _ (by decide) (by decide) (by decide) (by decide) (by decide) (by decide))); (exact (hBo _ _ (by decide) (by decide) (by decide) (by decide) (by decide) (by decide))); (exact (hBo _ _ (by decide) (by decide) (by decide) (by decide) (by decide) (by decide)))) (hfr.1 2059 (by decide)) (hfr.1 2060 (by decide)) hO
  · exact gL_of (fun f j hf => by rcases hf with rfl | rfl; (exact (hBo _ _ (by decide) (by decide) (by decide) (by decide) (by decide) (by decide))); (exact (hBo _ _ (by decide) (by decide) (by decide) (by decide) (by decide) (by decide)))) (hfr.1 2071 (by decide)) (hfr.1 2072 (by decide)) (hfr.1 2073 (by decide)) hL
  · exact gK_of (fun f j hf => hBo _ _ (by omega) (by omega) (by omega) (by omega) (by omega) (by omega)) (zsm_at hfr 1021 w 0 (by decide)) (zsm_at hfr 1045 w 0 (by decide)) (hfr.1 2074 (by decide)) (hfr.1 2075 (by decide)) (hfr.1 2076 (by decide)) hK
  · rw [hBo 21 0 (by decide) (by decide) (by decide) (by decide) (by decide) (by decide), hBo 20 0 (by decide) (by decide) (by decide) (by decide) (by decide) (by decide)]; exact hc
theorem sCake_0 {b : Nat → Int} {n : Int} {A : aS} (h : (sNew b n 2 A) 1 0 ≠ 0) : sCake b n A = sNew b n 2 A := by
  have e1 : sC1 b n A = sNew b n 2 A := sNum_ne h
  have e2 : sC2 b n A = sNew b n 2 A := by unfold sC2; rw [e1, sNum_ne h]
  have e3 : sC3 b n A = sNew b n 2 A := by unfold sC3; rw [e2, sNum_ne h]
  unfold sCake
  rw [e3, if_neg h]
theorem sCake_1 {b : Nat → Int} {n : Int} {A : aS} (h : (sC1 b n A) 1 0 ≠ 0) : sCake b n A = sC1 b n A := by
  have e2 : sC2 b n A = sC1 b n A := sNum_ne h
  have e3 : sC3 b n A = sC1 b n A := by unfold sC3; rw [e2, sNum_ne h]
  unfold sCake
  rw [e3, if_neg h]
theorem sCake_2 {b : Nat → Int} {n : Int} {A : aS} (h : (sC2 b n A) 1 0 ≠ 0) : sCake b n A = sC2 b n A := by
  have e3 : sC3 b n A = sC2 b n A := sNum_ne h
  unfold sCake
  rw [e3, if_neg h]
theorem sCake_3 {b : Nat → Int} {n : Int} {A : aS} (h : (sC3 b n A) 1 0 ≠ 0) : sCake b n A = sC3 b n A := by
  unfold sCake
  rw [if_neg h]

theorem gT_mono {b : Nat → Int} {n : Int} {Γ : zΓ} {w : Nat} {A : aS} {G G1 : zH} (h : gT b n Γ w A G) (h1 : gT b n Γ w (sNext b n A) G1) : G.1 1010 w 0 ≤ G1.1 1010 w 0 := by
  by_cases hk : tK b n A = 0
  · rw [h.2.2.2.2.1, h1.2.2.2.2.1, (tP_next h.2.2.1 h.2.2.2.1).1, tkN_0 (fun q => tK_lt.mpr q hk)]
    exact sp_ge
  · exact Int.le_of_lt (gT_adv h h1 hk)

