theorem cC_crumbV {l : Launch} {Γ : zΓ} {G : zH} {x : Nat} {T : pS} {a k : Int}  (hX : zXs Γ) (hg : SG Γ x) (h : SC Γ x T G) (hp : SP T) (hq : QQ Γ (mNow Γ x) (G.2.2 903 x) (pA T) (pW T) G) (hv : pK T ≠ 0 → QQ Γ (mImg Γ x) (G.2.2 903 x) (pA T) (pV T) G) : zMet l Γ yX8_crumb cX8_crumb 6 (some .int) 4 [zr 9 x, zi a, zi k] G (zpi (fun u G' => SC Γ x T G' ∧ u = (if (0 ≤ a ∧ a < (pW T) 0 0) ∧ 0 ≤ k ∧ k ≤ 3 then crV (pA T) (pW T) a k else -1))) :=
  zMet_mo (c_X8_crumbK hX hq rfl hp.2.1 hp.1) (fun r G' q => by
    obtain ⟨u, e, q⟩ := q
    refine ⟨u, e, ?_⟩
    exact ⟨SC_z h q.1 ⟨by decide, by decide, by decide +kernel⟩, q.2⟩)

theorem cR_crumbV {l : Launch} {Γ : zΓ} {G : zH} {w : Nat} {T : pS} {a k : Int}  (hX : zXs Γ) (h : SR Γ w T G) (hp : SP T) : zMet l Γ yX9_crumb cX9_crumb 9 (some .int) 4 [zr 10 w, zi a, zi k] G (zpi (fun u G' => SR Γ w T G' ∧ u = (if (0 ≤ a ∧ a < (pW T) 0 0) ∧ 0 ≤ k ∧ k ≤ 3 then crV (pA T) (pW T) a k else -1))) :=
  zMet_mo (c_X9_crumbW hX h.2.2.2.1.1 h.2.2.1 hp.2.1 hp.1 h.2.2.2.1.2.1) (fun r G' q => by
    obtain ⟨u, e, q⟩ := q
    refine ⟨u, e, ?_⟩
    exact ⟨SR_j h q.1 (by decide) q.2.2 (by decide), q.2.1⟩)


theorem lC_crumbV {l : Launch} {Γ : zΓ} {G : zH} {x : Nat} {T : pS} {a k : Int}  (hX : zXs Γ) (hg : SG Γ x) (h : SC Γ x T G) (hp : SP T) (hq : QQ Γ (mNow Γ x) (G.2.2 903 x) (pA T) (pW T) G) (hv : pK T ≠ 0 → QQ Γ (mImg Γ x) (G.2.2 903 x) (pA T) (pV T) G) : zMet l Γ yX8_crumb cX8_crumb 6 (some .int) 4 [zr 9 x, zi a, zi k] G (zpi (fun u G2 => ∃ G' : zH, (SC Γ x T G' ∧ u = (if (0 ≤ a ∧ a < (pW T) 0 0) ∧ 0 ≤ k ∧ k ≤ 3 then crV (pA T) (pW T) a k else -1)) ∧ G2 = zmx cT Γ G' G)) :=
  zMet_rei cT_c hv8_2 (cC_crumbV (Γ := zre cT Γ) (x := x) (T := T) hX hg h hp hq hv)
theorem lR_crumbV {l : Launch} {Γ : zΓ} {G : zH} {w : Nat} {T : pS} {a k : Int}  (hX : zXs Γ) (h : SR Γ w T G) (hp : SP T) : zMet l Γ yX9_crumb cX9_crumb 9 (some .int) 4 [zr 10 w, zi a, zi k] G (zpi (fun u G2 => ∃ G' : zH, (SR Γ w T G' ∧ u = (if (0 ≤ a ∧ a < (pW T) 0 0) ∧ 0 ≤ k ∧ k ≤ 3 then crV (pA T) (pW T) a k else -1)) ∧ G2 = zmx rT Γ G' G)) :=
  zMet_rei rT_c hv9_2 (cR_crumbV (Γ := zre rT Γ) (w := w) (T := T) hX h hp)
