theorem cR_lookV {l : Launch} {Γ : zΓ} {G : zH} {w : Nat} {T : pS} {a b : Int}  (hX : zXs Γ) (h : SR Γ w T G) (hp : SP T) : zMet l Γ yX9_look cX9_look 3 (some .int) 2 [zr 10 w, zi a, zi b] G (zpi (fun u G' => SR Γ w T G' ∧ G'.1 1002 w 0 = LKT (pA T) a b ∧ (LKT (pA T) a b = 0 → u = LKV (pA T) (pW T) a b))) :=
  zMet_mo (c_X9_lookW hX h.2.2.2.1.1 h.2.2.1 hp.2.1 hp.1) (fun r G' q => by
    obtain ⟨u, e, q⟩ := q
    refine ⟨u, e, ?_⟩
    exact ⟨SR_j h q.1 (by decide) q.2.2.2 (by decide), q.2.1, q.2.2.1⟩)


theorem lR_lookV {l : Launch} {Γ : zΓ} {G : zH} {w : Nat} {T : pS} {a b : Int}  (hX : zXs Γ) (h : SR Γ w T G) (hp : SP T) : zMet l Γ yX9_look cX9_look 3 (some .int) 2 [zr 10 w, zi a, zi b] G (zpi (fun u G2 => ∃ G' : zH, (SR Γ w T G' ∧ G'.1 1002 w 0 = LKT (pA T) a b ∧ (LKT (pA T) a b = 0 → u = LKV (pA T) (pW T) a b)) ∧ G2 = zmx rT Γ G' G)) :=
  zMet_rei rT_c hv9_2 (cR_lookV (Γ := zre rT Γ) (w := w) (T := T) hX h hp)
