theorem cC_pairsV {l : Launch} {Γ : zΓ} {G : zH} {x : Nat} {T : pS}  (hX : zXs Γ) (hg : SG Γ x) (h : SC Γ x T G) (hp : SP T) (hq : QQ Γ (mNow Γ x) (G.2.2 903 x) (pA T) (pW T) G) (hv : pK T ≠ 0 → QQ Γ (mImg Γ x) (G.2.2 903 x) (pA T) (pV T) G) : zMet l Γ yX8_pairs cX8_pairs 1 (some .long) 10 [zr 9 x] G (zpj (fun u G' => SC Γ x T G' ∧ u = (if (pA T) 4 1 = 0 then -9223372036854775808 else (prX ((pA T) 4 1).toNat (prV (pA T) (pW T))).2.1))) :=
  zMet_mo (c_X8_pairsK hX hq rfl hp.2.1 hp.1) (fun r G' q => by
    obtain ⟨u, e, q⟩ := q
    refine ⟨u, e, ?_⟩
    exact ⟨SC_z h q.1 ⟨by decide, by decide, by decide +kernel⟩, q.2⟩)

theorem cR_pairsV {l : Launch} {Γ : zΓ} {G : zH} {w : Nat} {T : pS}  (hX : zXs Γ) (h : SR Γ w T G) (hp : SP T) : zMet l Γ yX9_pairs cX9_pairs 1 (some .long) 5 [zr 10 w] G (zpj (fun u G' => SR Γ w T G' ∧ u = (if (pA T) 4 1 = 0 then -9223372036854775808 else (rfo ((pA T) 4 1).toNat (prV (pA T) (pW T)) ((((pA T) 4 1).toNat + 1) ^ ((pA T) 4 1).toNat)).2.1))) :=
  zMet_mo (c_X9_pairsP hX h.2.2.2.1.1 h.2.2.1 hp.2.1 hp.1) (fun r G' q => by
    obtain ⟨u, e, q⟩ := q
    refine ⟨u, e, ?_⟩
    exact ⟨SR_j h q.1 (by decide) q.2.2 (by decide), q.2.1⟩)

theorem cC_pairedV {l : Launch} {Γ : zΓ} {G : zH} {x : Nat} {T : pS} {a : Int}  (hX : zXs Γ) (hg : SG Γ x) (h : SC Γ x T G) (hp : SP T) (hq : QQ Γ (mNow Γ x) (G.2.2 903 x) (pA T) (pW T) G) (hv : pK T ≠ 0 → QQ Γ (mImg Γ x) (G.2.2 903 x) (pA T) (pV T) G) : zMet l Γ yX8_paired cX8_paired 3 (some .int) 10 [zr 9 x, zi a] G (zpi (fun u G' => SC Γ x T G' ∧ u = (if (0 ≤ a ∧ a < (pA T) 4 1) then (if (prX ((pA T) 4 1).toNat (prV (pA T) (pW T))).2.2 a.toNat = -1 then -2 else (prX ((pA T) 4 1).toNat (prV (pA T) (pW T))).2.2 a.toNat) else -1))) :=
  zMet_mo (c_X8_pairedK hX hq rfl hp.2.1 hp.1) (fun r G' q => by
    obtain ⟨u, e, q⟩ := q
    refine ⟨u, e, ?_⟩
    exact ⟨SC_z h q.1 ⟨by decide, by decide, by decide +kernel⟩, q.2⟩)

theorem cR_pairedV {l : Launch} {Γ : zΓ} {G : zH} {w : Nat} {T : pS} {a : Int}  (hX : zXs Γ) (h : SR Γ w T G) (hp : SP T) : zMet l Γ yX9_paired cX9_paired 2 (some .int) 5 [zr 10 w, zi a] G (zpi (fun u G' => SR Γ w T G' ∧ u = (if (0 ≤ a ∧ a < (pA T) 4 1) then (if (rfo ((pA T) 4 1).toNat (prV (pA T) (pW T)) ((((pA T) 4 1).toNat + 1) ^ ((pA T) 4 1).toNat)).2.2 a.toNat = (pA T) 4 1 then -2 else (rfo ((pA T) 4 1).toNat (prV (pA T) (pW T)) ((((pA T) 4 1).toNat + 1) ^ ((pA T) 4 1).toNat)).2.2 a.toNat) else -1))) :=
  zMet_mo (c_X9_pairedP hX h.2.2.2.1.1 h.2.2.1 hp.2.1 hp.1) (fun r G' q => by
    obtain ⟨u, e, q⟩ := q
    refine ⟨u, e, ?_⟩
    exact ⟨SR_j h q.1 (by decide) q.2.2 (by decide), q.2.1⟩)

theorem pairsE {T : pS} (hp : SP T) : (if (pA T) 4 1 = 0 then -9223372036854775808 else (prX ((pA T) 4 1).toNat (prV (pA T) (pW T))).2.1) = (if (pA T) 4 1 = 0 then -9223372036854775808 else (rfo ((pA T) 4 1).toNat (prV (pA T) (pW T)) ((((pA T) 4 1).toNat + 1) ^ ((pA T) 4 1).toNat)).2.1) := by
  have h0 := hp.1.1
  by_cases z : (pA T) 4 1 = 0
  · rw [if_pos z, if_pos z]
  · rw [if_neg z, if_neg z]
    have q := prR_n (n := ((pA T) 4 1).toNat) (by omega) (prV (pA T) (pW T))
    rcases q.1.2 with y | y
    · exact absurd y (by rw [q.2]; decide)
    · exact y.1
theorem pairedE {T : pS} {a : Int} (hp : SP T) : (if (0 ≤ a ∧ a < (pA T) 4 1) then (if (prX ((pA T) 4 1).toNat (prV (pA T) (pW T))).2.2 a.toNat = -1 then -2 else (prX ((pA T) 4 1).toNat (prV (pA T) (pW T))).2.2 a.toNat) else -1) = (if (0 ≤ a ∧ a < (pA T) 4 1) then (if (rfo ((pA T) 4 1).toNat (prV (pA T) (pW T)) ((((pA T) 4 1).toNat + 1) ^ ((pA T) 4 1).toNat)).2.2 a.toNat = (pA T) 4 1 then -2 else (rfo ((pA T) 4 1).toNat (prV (pA T) (pW T)) ((((pA T) 4 1).toNat + 1) ^ ((pA T) 4 1).toNat)).2.2 a.toNat) else -1) := by
  have h0 := hp.1.1
  by_cases z : 0 ≤ a ∧ a < (pA T) 4 1
  · rw [if_pos z, if_pos z]
    have q := prR_n (n := ((pA T) 4 1).toNat) (by omega) (prV (pA T) (pW T))
    have nn := rfo_nn (n := ((pA T) 4 1).toNat) (j := a.toNat) (v := (prV (pA T) (pW T))) ((((pA T) 4 1).toNat + 1) ^ ((pA T) 4 1).toNat)
    rcases q.1.2 with y | y
    · exact absurd y (by rw [q.2]; decide)
    · have e := y.2 a.toNat (by omega)
      rw [show ((((pA T) 4 1).toNat : Nat) : Int) = (pA T) 4 1 by omega] at e
      rw [e]
      by_cases g : (rfo ((pA T) 4 1).toNat (prV (pA T) (pW T)) ((((pA T) 4 1).toNat + 1) ^ ((pA T) 4 1).toNat)).2.2 a.toNat = (pA T) 4 1
      · rw [if_pos g, if_pos g, if_pos rfl]
      · rw [if_neg g, if_neg g, if_neg (by omega)]
  · rw [if_neg z, if_neg z]


theorem lC_pairsV {l : Launch} {Γ : zΓ} {G : zH} {x : Nat} {T : pS}  (hX : zXs Γ) (hg : SG Γ x) (h : SC Γ x T G) (hp : SP T) (hq : QQ Γ (mNow Γ x) (G.2.2 903 x) (pA T) (pW T) G) (hv : pK T ≠ 0 → QQ Γ (mImg Γ x) (G.2.2 903 x) (pA T) (pV T) G) : zMet l Γ yX8_pairs cX8_pairs 1 (some .long) 10 [zr 9 x] G (zpj (fun u G2 => ∃ G' : zH, (SC Γ x T G' ∧ u = (if (pA T) 4 1 = 0 then -9223372036854775808 else (prX ((pA T) 4 1).toNat (prV (pA T) (pW T))).2.1)) ∧ G2 = zmx cT Γ G' G)) :=
  zMet_rej cT_c hv8_0 (cC_pairsV (Γ := zre cT Γ) (x := x) (T := T) hX hg h hp hq hv)
theorem lR_pairsV {l : Launch} {Γ : zΓ} {G : zH} {w : Nat} {T : pS}  (hX : zXs Γ) (h : SR Γ w T G) (hp : SP T) : zMet l Γ yX9_pairs cX9_pairs 1 (some .long) 5 [zr 10 w] G (zpj (fun u G2 => ∃ G' : zH, (SR Γ w T G' ∧ u = (if (pA T) 4 1 = 0 then -9223372036854775808 else (rfo ((pA T) 4 1).toNat (prV (pA T) (pW T)) ((((pA T) 4 1).toNat + 1) ^ ((pA T) 4 1).toNat)).2.1)) ∧ G2 = zmx rT Γ G' G)) :=
  zMet_rej rT_c hv9_0 (cR_pairsV (Γ := zre rT Γ) (w := w) (T := T) hX h hp)
theorem lC_pairedV {l : Launch} {Γ : zΓ} {G : zH} {x : Nat} {T : pS} {a : Int}  (hX : zXs Γ) (hg : SG Γ x) (h : SC Γ x T G) (hp : SP T) (hq : QQ Γ (mNow Γ x) (G.2.2 903 x) (pA T) (pW T) G) (hv : pK T ≠ 0 → QQ Γ (mImg Γ x) (G.2.2 903 x) (pA T) (pV T) G) : zMet l Γ yX8_paired cX8_paired 3 (some .int) 10 [zr 9 x, zi a] G (zpi (fun u G2 => ∃ G' : zH, (SC Γ x T G' ∧ u = (if (0 ≤ a ∧ a < (pA T) 4 1) then (if (prX ((pA T) 4 1).toNat (prV (pA T) (pW T))).2.2 a.toNat = -1 then -2 else (prX ((pA T) 4 1).toNat (prV (pA T) (pW T))).2.2 a.toNat) else -1)) ∧ G2 = zmx cT Γ G' G)) :=
  zMet_rei cT_c hv8_1 (cC_pairedV (Γ := zre cT Γ) (x := x) (T := T) hX hg h hp hq hv)
theorem lR_pairedV {l : Launch} {Γ : zΓ} {G : zH} {w : Nat} {T : pS} {a : Int}  (hX : zXs Γ) (h : SR Γ w T G) (hp : SP T) : zMet l Γ yX9_paired cX9_paired 2 (some .int) 5 [zr 10 w, zi a] G (zpi (fun u G2 => ∃ G' : zH, (SR Γ w T G' ∧ u = (if (0 ≤ a ∧ a < (pA T) 4 1) then (if (rfo ((pA T) 4 1).toNat (prV (pA T) (pW T)) ((((pA T) 4 1).toNat + 1) ^ ((pA T) 4 1).toNat)).2.2 a.toNat = (pA T) 4 1 then -2 else (rfo ((pA T) 4 1).toNat (prV (pA T) (pW T)) ((((pA T) 4 1).toNat + 1) ^ ((pA T) 4 1).toNat)).2.2 a.toNat) else -1)) ∧ G2 = zmx rT Γ G' G)) :=
  zMet_rei rT_c hv9_1 (cR_pairedV (Γ := zre rT Γ) (w := w) (T := T) hX h hp)
