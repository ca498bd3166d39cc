def oLo (k : Int) : Int := if k = 1 then 1 else 0
def oHi (k : Int) : Int := if k = 0 then 9999 else if k = 1 then 99 else if k = 2 then 999 else 99999
def sOL (b : Nat → Int) (n k : Int) (A : aS) : aS := up (sOnce b n (oLo k) (oHi k) A) (12 + k.toNat) 0 (sOnceV b n (oLo k) (oHi k) A)
theorem ob_n : ∀ m : Nat, m < 16 → ∀ k : Nat, k < 4 → ∃ m' : Nat, m' < 16 ∧ bor (16 * m) (bshl 1 (4 + k)) = 16 * m' := by decide +kernel
theorem ob_j : ∀ m : Nat, m < 16 → ∀ k : Nat, k < 4 → ∀ j : Nat, j < 4 → ob (bor (16 * m) (bshl 1 (4 + k))) j = if j = k then 1 else ob (16 * m) j := by decide +kernel
theorem oH_c {k : Int} (h : 0 ≤ k ∧ k ≤ 3) : (k = 0 → oLo k = 0 ∧ oHi k = 9999) ∧ (k = 1 → oLo k = 1 ∧ oHi k = 99) ∧ (k = 2 → oLo k = 0 ∧ oHi k = 999) ∧ (k = 3 → oLo k = 0 ∧ oHi k = 99999) := by
  refine ⟨fun q => ?_, fun q => ?_, fun q => ?_, fun q => ?_⟩ <;> subst q <;> decide
theorem oH_b {k : Int} (h : 0 ≤ k ∧ k ≤ 3) : 0 ≤ oLo k ∧ oLo k ≤ oHi k ∧ oHi k ≤ 99999 := by
  have := oH_c h
  omega
theorem gR_once {b : Nat → Int} {n k v : Int} {Γ : zΓ} {w : Nat} {A B : aS} {G G1 : zH} (hfr : zsm [1007, 1008, 1009, 1010, 1004, 1005, 1011, 2060, 2059] G G1) (hR : gR b n Γ w A G) (hT : gT b n Γ w B G1) (hk : 0 ≤ k ∧ k ≤ 3) (hB3 : B 3 0 = bor (A 3 0) (bshl 1 (4 + k))) (hBv : B (12 + k.toNat) 0 = v) (hBo : ∀ f j : Nat, f ≠ 0 → f ≠ 3 → f ≠ 12 + k.toNat → B f j = A f j)
    (e4 : G1.1 1004 w 0 = G.1 1004 w 0) (e5 : G1.1 1005 w 0 = G.1 1005 w 0) (h60 : ∀ j : Nat, G1.1 2060 (Γ.2.1 w 23) j = if j = k.toNat then 1 else G.1 2060 (Γ.2.1 w 23) j) (h59 : ∀ j : Nat, G1.1 2059 (Γ.2.1 w 22) j = if j = (4 + k).toNat then v else G.1 2059 (Γ.2.1 w 22) j) : gR b n Γ w B G1 := by
  obtain ⟨-, hF, hS, hP, hC, hM, hO, hL, hK, hc⟩ := hR
  refine ⟨hT, gF_sm (hBo _ _ (by decide) (by decide) (by omega)) (hBo _ _ (by decide) (by decide) (by omega)) e4 e5 hF, ?_, ?_, ?_, ?_, ?_, ?_, ?_, ?_⟩
  · exact gS_of (fun f j hf => hBo _ _ (by omega) (by omega) (by omega)) (zsm_at hfr 1017 w 0 (by decide)) (hfr.1 2061 (by decide)) (hfr.1 2062 (by decide)) hS
  · exact gP_of (fun f j hf => hBo _ _ (by omega) (by omega) (by omega)) (zsm_at hfr 1018 w 0 (by decide)) (hfr.1 2063 (by decide)) (hfr.1 2064 (by decide)) (hfr.1 2065 (by decide)) hP
  · exact gC_of (fun f j hf => hBo _ _ (by omega) (by omega) (by omega)) (zsm_at hfr 1019 w 0 (by decide)) (hfr.1 2066 (by decide)) (hfr.1 2067 (by decide)) (hfr.1 2068 (by decide)) (hfr.1 2069 (by decide)) hC
  · exact gM_of (fun f j hf => hBo _ _ (by omega) (by omega) (by omega)) (zsm_at hfr 1020 w 0 (by decide)) (hfr.1 2070 (by decide)) hM
  · obtain ⟨⟨m, hm, em⟩, h2⟩ := hO
    refine ⟨?_, fun j hj => ?_⟩
    · obtain ⟨m', h3, h4⟩ := ob_n m hm k.toNat (by omega)
      rw [show ((k.toNat : Nat) : Int) = k by omega] at h4
      exact ⟨m', h3, by rw [hB3, em]; exact h4⟩
    · have h5 := ob_j m hm k.toNat (by omega) j hj
      rw [show ((k.toNat : Nat) : Int) = k by omega] at h5
      rw [hB3, em, h5, h60, h59]
      by_cases q : j = k.toNat
      · rw [if_pos q, if_pos q, if_pos (by omega), q, hBv]
        exact ⟨rfl, rfl⟩
      · rw [if_neg q, if_neg q, if_neg (by omega), hBo _ _ (by omega) (by omega) (by omega), ← em]
        exact h2 j hj
  · exact gL_of (fun f j hf => hBo _ _ (by omega) (by omega) (by omega)) (hfr.1 2071 (by decide)) (hfr.1 2072 (by decide)) (hfr.1 2073 (by decide)) hL
  · exact gK_of (fun f j hf => hBo _ _ (by omega) (by omega) (by omega)) (zsm_at hfr 1021 w 0 (by decide)) (zsm_at hfr 1045 w 0 (by decide)) (hfr.1 2074 (by decide)) (hfr.1 2075 (by decide)) (hfr.1 2076 (by decide)) hK
  · rw [hBo 21 0 (by decide) (by decide) (by omega), hBo 20 0 (by decide) (by decide) (by omega)]; exact hc
theorem FT_up {w f j : Nat} {v : Int} {A : aS} {G : zH} (h1 : f ≠ 1) (h2 : f ≠ 2) (h : FT w A G) : FT w (up A f j v) G := FT_same h (up_f (Ne.symm h1)) (up_f (Ne.symm h2))

