theorem wreg_X : ∀ f : Nat, f < 23 → wreg f ∈ [510, 2026, 2027, 2028, 2029, 2030, 2031, 2032, 2033, 2034, 2035, 2048, 2049, 2050, 2051, 2052, 2053, 2054, 809, 810, 811, 812, 813, 910, 911, 2056] := by decide +kernel
def sA9 : aS := fun f _ => if f = 0 ∨ f = 2 then -1 else if f = 12 then 100 else if f = 13 then 5 else 0
theorem sA9_cl : sCl sA9 := ⟨rfl, rfl, rfl, rfl, fun _ _ => rfl, fun _ _ => rfl, fun _ _ => ⟨rfl, rfl⟩, rfl, rfl, rfl, rfl, rfl, rfl⟩
/-! a text -/
def tOK (T : pS) (a : Int) (A0 : aS) : Prop := 0 ≤ a ∧ a ≤ pT T ∧ (sLN (pB T) a 700 (sNext (pB T) a A0)) 1 0 = 0
noncomputable def ptF (T : pS) (a : Int) (A0 U : aS) : pS := @ite _ (tOK T a A0) (Classical.propDecidable _) ((sLN (pB T) a 700 (sNext (pB T) a A0)), U, U, fun _ => U, pU T, 0, 0, 0, pB T) (if 0 ≤ a ∧ a ≤ pT T then fT T else T)
theorem ptF_1 {T : pS} {a : Int} {A0 U : aS} (h : tOK T a A0) : ptF T a A0 U = ((sLN (pB T) a 700 (sNext (pB T) a A0)), U, U, fun _ => U, pU T, 0, 0, 0, pB T) := if_pos h
theorem ptF_2 {T : pS} {a : Int} {A0 U : aS} (h : ¬ tOK T a A0) : ptF T a A0 U = if 0 ≤ a ∧ a ≤ pT T then fT T else T := if_neg h
theorem SP_t {T : pS} {a : Int} {A0 U : aS} (h700 : pT T ≤ 700) (hA : sCl A0) (hp : SP T) (h : tOK T a A0 → wBeg (sLN (pB T) a 700 (sNext (pB T) a A0)) U ∧ ∀ j : Nat, U 17 j = (pW T) 17 j) : SP (ptF T a A0 U) := by
  by_cases hc : tOK T a A0
  · rw [ptF_1 hc]
    obtain ⟨h1, h2⟩ := h hc
    obtain ⟨t1, t2, t3⟩ := TA_cl (b := pB T) (n := a) (A0 := A0) ⟨hc.1, by have := hc.2.1; omega⟩ hA hc.2.2
    have hW := WI_bg t2 h1
    exact ⟨t1, hW, W7_of h2 hp.2.2.1, wUI_us (wUI_0 hW) (us := fun _ => 0) (fun i hi => absurd (show (i : Int) < 0 from hi) (by omega)), fun z => absurd rfl z⟩
  · rw [ptF_2 hc]
    split
    · exact hp
    · exact hp
theorem cC_text {l : Launch} {Γ : zΓ} {G : zH} {x : Nat} {T : pS} {a : Int}  (hX : zXs Γ) (hg : SG Γ x) (h : SC Γ x T G) (hp : SP T) (hq : QQ Γ (mNow Γ x) (G.2.2 903 x) (pA T) (pW T) G) (hv : pK T ≠ 0 → QQ Γ (mImg Γ x) (G.2.2 903 x) (pA T) (pV T) G) : zMet l Γ yX8_text cX8_text 3 (some .int) 7 [zr 9 x, zi a] G (zpi (fun u G' => ∃ A0 U : aS, sCl A0 ∧ (tOK T a A0 → wBeg (sLN (pB T) a 700 (sNext (pB T) a A0)) U ∧ ∀ j : Nat, U 17 j = (pW T) 17 j) ∧ SC Γ x (ptF T a A0 U) G')) :=
  zMet_mo (c_X8_textW hX h.1.2.2) (fun r G' q => by
    obtain ⟨u, e, hz, q1, q2⟩ := q
    have hs := h.1.1
    have hb : G.1 2055 (Γ.2.1 x 0) = pB T := funext h.1.2.1
    rw [hs, hb] at q1
    rw [hs] at q2
    obtain ⟨⟨h1, h2, h3⟩, h4, h5, h6, h8, h9⟩ := h
    have w54 : ∀ j : Nat, G.1 2054 (Γ.2.1 (Γ.2.1 x 4) 8) j = (pW T) 17 j := fun j => h5.1 17 j (by decide)
    by_cases hr : 0 ≤ a ∧ a ≤ pT T
    · obtain ⟨k0, A0, hA, k1, k2, k3, ok, no⟩ := q1 hr
      refine ⟨u, e, A0, ?_⟩
      by_cases hf : (sLN (pB T) a 700 (sNext (pB T) a A0)) 1 0 = 0
      · have hc : tOK T a A0 := ⟨hr.1, hr.2, hf⟩
        obtain ⟨o1, o2, o3, ⟨U, u1, u2, u3⟩, o4, o5⟩ := ok hf
        refine ⟨U, hA, fun _ => ⟨u2, fun j => (u3 j).trans (w54 j)⟩, ?_⟩
        rw [ptF_1 hc]
        unfold SC
        rw [o1, o2, hz 2055 (by decide), hz 2044 (by decide)]
        exact ⟨⟨k0, h2, h3⟩, AP_s h4, QV_Q u1, ⟨o4, fun j hj => absurd (show (j : Int) < 0 from hj) (by omega)⟩, o5, fun z => absurd rfl z⟩
      · have hc : ¬ tOK T a A0 := fun z => hf z.2.2
        obtain ⟨⟨o1, o2⟩, of, o3, o4⟩ := no hf
        refine ⟨A0, hA, fun z => absurd z hc, ?_⟩
        rw [ptF_2 hc, if_pos hr]
        unfold SC
        rw [o1, o2, hz 2055 (by decide), hz 2044 (by decide), o3 910 (by decide), o3 911 (by decide), o3 2056 (by decide)]
        have kq : ∀ v W, QV Γ v (G.2.2 903 x) (pA T) W G → QV Γ v (G.2.2 903 x) (pA T) W G' := fun v W hQ => ⟨fun f j hf => by rw [o3 _ (wreg_X f hf)]; exact hQ.1 f j hf, TV_OF of h4 hQ.2.1, (o4 v).trans hQ.2.2⟩
        exact ⟨⟨k0, h2, h3⟩, h4, kq _ _ h5, h6, h8, fun z => kq _ _ (h9 z)⟩
    · obtain ⟨k0, k1, k2, k3, ⟨o1, o2⟩, of, o3, o4⟩ := q2 hr
      refine ⟨u, e, sA9, sA9, sA9_cl, fun z => absurd ⟨z.1, z.2.1⟩ hr, ?_⟩
      rw [ptF_2 (fun z => hr ⟨z.1, z.2.1⟩), if_neg hr]
      unfold SC
      rw [o1, o2, hz 2055 (by decide), hz 2044 (by decide), o3 910 (by decide), o3 911 (by decide), o3 2056 (by decide)]
      have kq : ∀ v W, QV Γ v (G.2.2 903 x) (pA T) W G → QV Γ v (G.2.2 903 x) (pA T) W G' := fun v W hQ => ⟨fun f j hf => by rw [o3 _ (wreg_X f hf)]; exact hQ.1 f j hf, TV_OF of h4 hQ.2.1, (o4 v).trans hQ.2.2⟩
      exact ⟨⟨k1, h2, h3⟩, h4, kq _ _ h5, h6, h8, fun z => kq _ _ (h9 z)⟩)

theorem rW_sx {Γ : zΓ} {w : Nat} {b : Int} {W : aS} {G G1 : zH} (e : ∀ r ∈ [2081, 2082, 2083, 2084, 2085, 2086, 2087, 2088, 2089, 2090, 2093, 2094], G1.1 r = G.1 r) (h : rW Γ w b W G) : rW Γ w b W G1 := by
  unfold rW rL rK
  rw [e 2081 (by decide), e 2082 (by decide), e 2083 (by decide), e 2084 (by decide), e 2085 (by decide), e 2086 (by decide), e 2087 (by decide), e 2088 (by decide), e 2089 (by decide), e 2090 (by decide), e 2093 (by decide), e 2094 (by decide)]
  exact h
theorem rS_sx {Γ : zΓ} {w : Nat} {W : aS} {G G1 : zH} (e : ∀ r ∈ [2091, 2092, 2095, 2096, 2097, 2098, 2099, 2100, 1083], G1.1 r = G.1 r) (h : rS Γ w W G) : rS Γ w W G1 := by
  unfold rS rQ
  rw [e 2091 (by decide), e 2092 (by decide), e 2095 (by decide), e 2096 (by decide), e 2097 (by decide), e 2098 (by decide), e 2099 (by decide), e 2100 (by decide), e 1083 (by decide)]
  exact h
theorem iR_sx {Γ : zΓ} {w : Nat} {V : aS} {G G1 : zH} (e1 : G1.1 2106 = G.1 2106) (e2 : G1.1 2107 = G.1 2107) (e3 : G1.1 1087 = G.1 1087) (hj : G1.2.1 1088 w 0 = G.2.1 1088 w 0) (h : iR Γ w V G) : iR Γ w V G1 := by
  obtain ⟨h1, h2, h3, h4⟩ := h
  refine ⟨tF_cg (fun m _ => by rw [e1]) h1, ?_, by rw [e3]; exact h3, hj.trans h4⟩
  rw [e2]
  exact h2

theorem wCod_f {A W : aS} {t i : Int} {f j : Nat} (hf : 21 ≤ f) : (wCod A W t i) f j = W f j := by
  unfold wCod
  split
  · rename_i q
    exact (wGr_ev q.1).2.2.2.2.2.2 f j (by omega)
  · rfl
theorem wBd_f21 {A W : aS} {f j : Nat} (hf : 21 ≤ f) : ∀ m : Nat, (wBd A m W) f j = W f j
  | 0 => rfl
  | m + 1 => by
    rw [wBd]
    split
    · rw [wBake_f (by omega) (by omega) (by omega)]; exact wBd_f21 hf m
    · exact wBd_f21 hf m
theorem wDays_f {A W : aS} {f j : Nat} (hf : 21 ≤ f) : ∀ m : Nat, (wDays A m W) f j = W f j
  | 0 => rfl
  | m + 1 => by
    rw [wDays]
    unfold wDay
    rw [up_f (by omega), wBd_f21 hf, wCod_f hf]
    exact wDays_f hf m

theorem cR_did {l : Launch} {Γ : zΓ} {G : zH} {w : Nat} {T : pS} {a b k : Int}  (hX : zXs Γ) (h : SR Γ w T G) (hp : SP T) : zMet l Γ yX9_did cX9_did 4 (some .int) 1 [zr 10 w, zi a, zi b, zi k] G (zpi (fun u G' => SR Γ w T G' ∧ u = (if ((0 ≤ a ∧ a < (pA T) 4 1) ∧ (0 ≤ b ∧ b < (pA T) 4 0)) then (if k = 0 then (pW T) 11 (a * 4 + b).toNat else if k = 1 then wL (pW T) a b else -1) else -1))) :=
  zMet_mo (c_X9_didW hX h.2.2.2.1.1 h.2.2.1 hp.2.1 hp.1) (fun r G' q => by
    obtain ⟨u, e, q⟩ := q
    refine ⟨u, e, ?_⟩
    exact ⟨SR_o hp h q.1 (by decide) q.2.1, q.2.2⟩)

theorem cR_sack {l : Launch} {Γ : zΓ} {G : zH} {w : Nat} {T : pS} {a k : Int}  (hX : zXs Γ) (h : SR Γ w T G) (hp : SP T) : zMet l Γ yX9_sack cX9_sack 3 (some .int) 0 [zr 10 w, zi a, zi k] G (zpi (fun u G' => SR Γ w T G' ∧ u = (if 0 ≤ a ∧ a < (pW T) 0 0 then (if k = 0 then (pW T) 1 a.toNat else if k = 1 then (pW T) 2 a.toNat else if k = 2 then (pW T) 3 a.toNat else if k = 3 then (pW T) 5 a.toNat else if k = 4 then wLie (pW T) a ((pW T) 2 a.toNat) else -1) else -1))) :=
  zMet_mo (c_X9_sackW hX h.2.2.2.1.1 hp.2.1 h.2.2.2.1.2.1) (fun r G' q => by
    obtain ⟨u, e, q⟩ := q
    refine ⟨u, e, ?_⟩
    exact ⟨SR_o hp h q.1 (by decide) q.2.1, q.2.2⟩)

theorem cR_flour {l : Launch} {Γ : zΓ} {G : zH} {w : Nat} {T : pS} {a : Int}  (hX : zXs Γ) (h : SR Γ w T G) (hp : SP T) : zMet l Γ yX9_flour cX9_flour 2 (some .int) 2 [zr 10 w, zi a] G (zpi (fun u G' => SR Γ w T G' ∧ u = (if 0 ≤ a ∧ a ≤ 999 then wFlour (pW T) a else -1))) :=
  zMet_mo (c_X9_flourW hX h.2.2.2.1.1 hp.2.1) (fun r G' q => by
    obtain ⟨u, e, q⟩ := q
    refine ⟨u, e, ?_⟩
    exact ⟨SR_o hp h q.1 (by decide) q.2.1, q.2.2⟩)

theorem cR_baked {l : Launch} {Γ : zΓ} {G : zH} {w : Nat} {T : pS} {a : Int}  (hX : zXs Γ) (h : SR Γ w T G) (hp : SP T) : zMet l Γ yX9_baked cX9_baked 2 (some .int) 1 [zr 10 w, zi a] G (zpi (fun u G' => SR Γ w T G' ∧ u = (if 0 ≤ a ∧ a < (pA T) 4 2 then (if (pW T) 16 a.toNat = -1 then -2 else (pW T) 16 a.toNat) else -1))) :=
  zMet_mo (c_X9_bakedW hX h.2.2.2.1.1 h.2.2.1 hp.1) (fun r G' q => by
    obtain ⟨u, e, q⟩ := q
    refine ⟨u, e, ?_⟩
    exact ⟨SR_o hp h q.1 (by decide) q.2.1, q.2.2⟩)

theorem cR_fault {l : Launch} {Γ : zΓ} {G : zH} {w : Nat} {T : pS} {a : Int}  (hX : zXs Γ) (h : SR Γ w T G) (hp : SP T) : zMet l Γ yX9_fault cX9_fault 2 (some .int) 0 [zr 10 w, zi a] G (zpi (fun u G' => SR Γ w T G')) :=
  zMet_mo (c_X9_faultO hX) (fun r G' q => by
    obtain ⟨u, e, q⟩ := q
    refine ⟨u, e, ?_⟩
    exact SR_o hp h q.1 (by decide) q.2.1)

theorem cR_named {l : Launch} {Γ : zΓ} {G : zH} {w : Nat} {T : pS} {a b : Int}  (hX : zXs Γ) (h : SR Γ w T G) (hp : SP T) : zMet l Γ yX9_named cX9_named 3 (some .int) 1 [zr 10 w, zi a, zi b] G (zpi (fun u G' => SR Γ w T G')) :=
  zMet_mo (c_X9_namedO hX) (fun r G' q => by
    obtain ⟨u, e, q⟩ := q
    refine ⟨u, e, ?_⟩
    exact SR_o hp h q.1 (by decide) q.2.1)

theorem cR_count {l : Launch} {Γ : zΓ} {G : zH} {w : Nat} {T : pS} {a : Int}  (hX : zXs Γ) (h : SR Γ w T G) (hp : SP T) : zMet l Γ yX9_count cX9_count 2 (some .int) 1 [zr 10 w, zi a] G (zpi (fun u G' => SR Γ w T G')) :=
  zMet_mo (c_X9_countO hX) (fun r G' q => by
    obtain ⟨u, e, q⟩ := q
    refine ⟨u, e, ?_⟩
    exact SR_o hp h q.1 (by decide) q.2.1)

theorem cR_look {l : Launch} {Γ : zΓ} {G : zH} {w : Nat} {T : pS} {a b : Int}  (hX : zXs Γ) (h : SR Γ w T G) (hp : SP T) : zMet l Γ yX9_look cX9_look 3 (some .int) 2 [zr 10 w, zi a, zi b] G (zpi (fun u G' => SR Γ w T G')) :=
  zMet_mo (c_X9_lookO hX) (fun r G' q => by
    obtain ⟨u, e, q⟩ := q
    refine ⟨u, e, ?_⟩
    exact SR_o hp h q.1 (by decide) q.2.1)

theorem cR_mills {l : Launch} {Γ : zΓ} {G : zH} {w : Nat} {T : pS} {a b k : Int}  (hX : zXs Γ) (h : SR Γ w T G) (hp : SP T) : zMet l Γ yX9_mills cX9_mills 10 (some .int) 1 [zr 10 w, zi a, zi b, zi k] G (zpi (fun u G' => SR Γ w T G')) :=
  zMet_mo (c_X9_millsO hX) (fun r G' q => by
    obtain ⟨u, e, q⟩ := q
    refine ⟨u, e, ?_⟩
    exact SR_o hp h q.1 (by decide) q.2.1)

theorem cR_plan {l : Launch} {Γ : zΓ} {G : zH} {w : Nat} {T : pS} {a k : Int}  (hX : zXs Γ) (h : SR Γ w T G) (hp : SP T) : zMet l Γ yX9_plan cX9_plan 3 (some .int) 8 [zr 10 w, zi a, zi k] G (zpi (fun u G' => SR Γ w T G')) :=
  zMet_mo (c_X9_planO hX h.1) (fun r G' q => by
    obtain ⟨u, e, q⟩ := q
    refine ⟨u, e, ?_⟩
    exact SR_o hp h q.1 (by decide) q.2.1)

theorem cR_planned {l : Launch} {Γ : zΓ} {G : zH} {w : Nat} {T : pS} {a b k : Int}  (hX : zXs Γ) (h : SR Γ w T G) (hp : SP T) : zMet l Γ yX9_planned cX9_planned 4 (some .int) 8 [zr 10 w, zi a, zi b, zi k] G (zpi (fun u G' => SR Γ w T G')) :=
  zMet_mo (c_X9_plannedO hX h.1) (fun r G' q => by
    obtain ⟨u, e, q⟩ := q
    refine ⟨u, e, ?_⟩
    exact SR_o hp h q.1 (by decide) q.2.1)

theorem cR_crumb {l : Launch} {Γ : zΓ} {G : zH} {w : Nat} {T : pS} {a k : Int}  (hX : zXs Γ) (h : SR Γ w T G) (hp : SP T) : zMet l Γ yX9_crumb cX9_crumb 9 (some .int) 4 [zr 10 w, zi a, zi k] G (zpi (fun u G' => SR Γ w T G')) :=
  zMet_mo (c_X9_crumbO hX h.1) (fun r G' q => by
    obtain ⟨u, e, q⟩ := q
    refine ⟨u, e, ?_⟩
    exact SR_o hp h q.1 (by decide) q.2.1)

theorem cR_pairs {l : Launch} {Γ : zΓ} {G : zH} {w : Nat} {T : pS}  (hX : zXs Γ) (h : SR Γ w T G) (hp : SP T) : zMet l Γ yX9_pairs cX9_pairs 1 (some .long) 5 [zr 10 w] G (zpj (fun u G' => SR Γ w T G')) :=
  zMet_mo (c_X9_pairsO hX h.1) (fun r G' q => by
    obtain ⟨u, e, q⟩ := q
    refine ⟨u, e, ?_⟩
    exact SR_o hp h q.1 (by decide) q.2.1)

theorem cR_paired {l : Launch} {Γ : zΓ} {G : zH} {w : Nat} {T : pS} {a : Int}  (hX : zXs Γ) (h : SR Γ w T G) (hp : SP T) : zMet l Γ yX9_paired cX9_paired 2 (some .int) 5 [zr 10 w, zi a] G (zpi (fun u G' => SR Γ w T G')) :=
  zMet_mo (c_X9_pairedO hX h.1) (fun r G' q => by
    obtain ⟨u, e, q⟩ := q
    refine ⟨u, e, ?_⟩
    exact SR_o hp h q.1 (by decide) q.2.1)

theorem cR_fine {l : Launch} {Γ : zΓ} {G : zH} {w : Nat} {T : pS} {a b : Int}  (hX : zXs Γ) (h : SR Γ w T G) (hp : SP T) : zMet l Γ yX9_fine cX9_fine 3 (some .int) 5 [zr 10 w, zi a, zi b] G (zpi (fun u G' => SR Γ w T G' ∧ u = (if ((0 ≤ a ∧ a < (pA T) 4 1) ∧ (0 ≤ b ∧ b < (pA T) 4 0)) then wFine (pA T) (pW T) a b else -1))) :=
  zMet_mo (c_X9_fineW hX h.2.2.2.1.1 h.2.2.1 hp.2.1 hp.1) (fun r G' q => by
    obtain ⟨u, e, q⟩ := q
    refine ⟨u, e, ?_⟩
    exact ⟨SR_j h q.1 (by decide) q.2.2 (by decide), q.2.1⟩)

theorem cR_fits {l : Launch} {Γ : zΓ} {G : zH} {w : Nat} {T : pS}  (hX : zXs Γ) (h : SR Γ w T G) (hp : SP T) : zMet l Γ yX9_fits cX9_fits 3 (some .int) 5 [zr 10 w] G (zpi (fun u G' => SR Γ w T G' ∧ u = wFB (pA T) (pW T))) :=
  zMet_mo (c_X9_fitsW hX h.2.2.2.1.1 h.2.2.1 hp.2.1 hp.1 h.2.2.2.1.2.1) (fun r G' q => by
    obtain ⟨u, e, q⟩ := q
    refine ⟨u, e, ?_⟩
    exact ⟨SR_j h q.1 (by decide) q.2.2 (by decide), q.2.1⟩)

theorem cR_law {l : Launch} {Γ : zΓ} {G : zH} {w : Nat} {T : pS} {k a b : Int}  (hX : zXs Γ) (h : SR Γ w T G) (hp : SP T) : zMet l Γ yX9_law cX9_law 6 (some .long) 3 [zr 10 w, zi k, zi a, zi b] G (zpj (fun u G' => SR Γ w T G' ∧ u = (if (0 ≤ k ∧ k ≤ 3 ∧ (0 ≤ a ∧ a < (pA T) 4 1) ∧ (if k = 3 then a < b ∧ 0 ≤ b ∧ b < (pA T) 4 1 else (0 ≤ b ∧ b < (pA T) 4 0) ∧ (k = 2 → 0 < wL (pW T) a b))) ∧ (pA T) 16 k.toNat < (pA T) 17 k.toNat then (if k = 3 then wPair (pA T) (pW T) a b else wLaw (pA T) (pW T) k a b) else -9223372036854775808))) :=
  zMet_mo (c_X9_lawW hX h.2.2.2.1.1 h.2.2.1 hp.2.1 hp.1) (fun r G' q => by
    obtain ⟨u, e, q⟩ := q
    refine ⟨u, e, ?_⟩
    exact ⟨SR_j h q.1 (by decide) q.2.2 (by decide), q.2.1⟩)

theorem cR_feed {l : Launch} {Γ : zΓ} {G : zH} {w : Nat} {T : pS} {a1 a2 a3 a4 a5 : Int}  (hX : zXs Γ) (h : SR Γ w T G) (hp : SP T) : zMet l Γ yX9_feed cX9_feed 8 (some .int) 0 [zr 10 w, zi a1, zi a2, zi a3, zi a4, zi a5] G (zpi (fun u G' => SR Γ w (fF T a1 a2 a3 a4 a5) G' ∧ u = (if pT T + 20 ≤ 700 then pT T + 20 else -1))) :=
  zMet_mo (c_X9_feedFO hX) (fun r G' q => by
    obtain ⟨u, e, q⟩ := q
    refine ⟨u, e, ?_⟩
    obtain ⟨hz, ho, q1, q2⟩ := q
    have hs := h.2.1
    rw [hs.1] at q1 q2
    have hS0 : ∀ t b, (G'.1 1001 w 0 = t ∧ ∀ i : Nat, G'.1 2057 (Γ.2.1 w 0) i = b i) → SR Γ w (pA T, pW T, pV T, pZ T, pU T, pN T, pK T, t, b) G' := fun t b htb => by
      have h0 := hp.2.1.1
      obtain ⟨h1, -, h4, ⟨h5, h6, h7⟩, ⟨h8, h9⟩, h10, h11⟩ := h
      exact ⟨MI_sm hz (by decide) h1, htb, kR_sm hz (by decide) h4, ⟨rW_lo h0.2 ho.1 h5, rS_lo h0.2 hz (by decide) ho.1 h6, rD_j ho.2 (by decide) h7 rfl⟩, ⟨bR_z hz (by decide) h8, by rw [hz.1 1084 (by decide)]; exact h9⟩, by rw [hz.1 1086 (by decide)]; exact h10, fun z => iR_sm hz (by decide) (by rw [ho.2 1088 (by decide)]) (h11 z)⟩
    unfold fF
    by_cases z : pT T + 20 ≤ 700
    · obtain ⟨k1, k2, k3⟩ := q2 z
      rw [if_pos z, if_pos z]
      exact ⟨hS0 _ _ ⟨k2, fun i => by rw [k3 i, hs.2 i]⟩, k1⟩
    · obtain ⟨k1, k2, k3⟩ := q1 (by omega)
      rw [if_neg z, if_neg z]
      exact ⟨hS0 _ _ ⟨k2, fun i => (k3 i).trans (hs.2 i)⟩, k1⟩)

theorem cR_confess {l : Launch} {Γ : zΓ} {G : zH} {w : Nat} {T : pS} {a b : Int}  (hX : zXs Γ) (h : SR Γ w T G) (hp : SP T) : zMet l Γ yX9_confess cX9_confess 3 (some .int) 6 [zr 10 w, zi a, zi b] G (zpi (fun u G' => SR Γ w (if (((0 ≤ a ∧ a < (pA T) 4 1) ∧ (0 ≤ b ∧ b < (pA T) 4 0)) ∧ wCan (pW T)) then fP T (wGrind (pA T) (pW T) a b 1) 0 else T) G' ∧ u = (if ((0 ≤ a ∧ a < (pA T) 4 1) ∧ (0 ≤ b ∧ b < (pA T) 4 0)) then (if wCan (pW T) then (pW T) 0 0 else -2) else -1))) :=
  zMet_mo (c_X9_confessW hX h.2.2.2.1.1 h.2.2.1 hp.2.1 hp.1 h.2.2.2.1.2.1 h.2.2.2.1.2.2 h.2.2.2.2.1.2 hp.2.2.2.1.1 h.2.2.2.2.1.1 hp.2.2.2.1.2.1) (fun r G' q => by
    obtain ⟨u, e, q⟩ := q
    refine ⟨u, e, ?_⟩
    obtain ⟨hz, q1, q2, q3, q4, q5, q6, q7⟩ := q
    refine ⟨?_, q1⟩
    by_cases hc : (((0 ≤ a ∧ a < (pA T) 4 1) ∧ (0 ≤ b ∧ b < (pA T) 4 0)) ∧ wCan (pW T))
    · rw [if_pos hc] at q2 q3 q4
      rw [if_pos hc]
      exact SR_push hp h hz (by decide) q7 ⟨q2, q3, q4⟩ (q5 hc)
    · rw [if_neg hc] at q2 q3 q4
      rw [if_neg hc]
      exact SR_w h hz (by decide) q7 ⟨q2, q3, q4⟩ (q6 hc))

theorem cR_fall {l : Launch} {Γ : zΓ} {G : zH} {w : Nat} {T : pS} {a b : Int}  (hX : zXs Γ) (h : SR Γ w T G) (hp : SP T) : zMet l Γ yX9_fall cX9_fall 3 (some .int) 2 [zr 10 w, zi a, zi b] G (zpi (fun u G' => SR Γ w (if (((0 ≤ a ∧ a < (pA T) 4 1) ∧ (0 ≤ b ∧ b < (pA T) 4 0)) ∧ (pW T) 11 (a * 4 + b).toNat < 99) then fP T (wFall (pW T) a b) (1 + a * 4 + b) else T) G' ∧ u = (if ((0 ≤ a ∧ a < (pA T) 4 1) ∧ (0 ≤ b ∧ b < (pA T) 4 0)) then (if (pW T) 11 (a * 4 + b).toNat < 99 then (pW T) 15 a.toNat + 1 else -2) else -1))) :=
  zMet_mo (c_X9_fallW hX h.2.2.2.1.1 h.2.2.1 hp.2.1 hp.1 h.2.2.2.1.2.1 h.2.2.2.1.2.2 h.2.2.2.2.1.2 hp.2.2.2.1.1 h.2.2.2.2.1.1 hp.2.2.2.1.2.1) (fun r G' q => by
    obtain ⟨u, e, q⟩ := q
    refine ⟨u, e, ?_⟩
    obtain ⟨hz, q1, q2, q3, q4, q5, q6, q7⟩ := q
    refine ⟨?_, q1⟩
    by_cases hc : (((0 ≤ a ∧ a < (pA T) 4 1) ∧ (0 ≤ b ∧ b < (pA T) 4 0)) ∧ (pW T) 11 (a * 4 + b).toNat < 99)
    · rw [if_pos hc] at q2 q3 q4
      rw [if_pos hc]
      exact SR_push hp h hz (by decide) q7 ⟨q2, q3, q4⟩ (q5 hc)
    · rw [if_neg hc] at q2 q3 q4
      rw [if_neg hc]
      exact SR_w h hz (by decide) q7 ⟨q2, q3, q4⟩ (q6 hc))

theorem cR_bake {l : Launch} {Γ : zΓ} {G : zH} {w : Nat} {T : pS} {a : Int}  (hX : zXs Γ) (h : SR Γ w T G) (hp : SP T) : zMet l Γ yX9_bake cX9_bake 2 (some .boolean) 2 [zr 10 w, zi a] G (zpi (fun u G' => SR Γ w (if ((0 ≤ a ∧ a < (pA T) 4 2) ∧ (pW T) 18 0 ≤ (pA T) 11 a.toNat ∧ wCanB (pA T) (pW T) a) then fP T (wBake (pA T) (pW T) a) (21 + a) else T) G' ∧ u = (if ((0 ≤ a ∧ a < (pA T) 4 2) ∧ (pW T) 18 0 ≤ (pA T) 11 a.toNat ∧ wCanB (pA T) (pW T) a) then 1 else 0))) :=
  zMet_mo (c_X9_bakeW hX h.2.2.2.1.1 h.2.2.1 hp.2.1 hp.1 h.2.2.2.1.2.1 h.2.2.2.1.2.2 h.2.2.2.2.1.2 hp.2.2.2.1.1 h.2.2.2.2.1.1 hp.2.2.2.1.2.1) (fun r G' q => by
    obtain ⟨u, e, q⟩ := q
    refine ⟨u, e, ?_⟩
    obtain ⟨hz, q1, q2, q3, q4, q5, q6, q7⟩ := q
    refine ⟨?_, q1⟩
    by_cases hc : ((0 ≤ a ∧ a < (pA T) 4 2) ∧ (pW T) 18 0 ≤ (pA T) 11 a.toNat ∧ wCanB (pA T) (pW T) a)
    · rw [if_pos hc] at q2 q3 q4
      rw [if_pos hc]
      exact SR_push hp h hz (by decide) q7 ⟨q2, q3, q4⟩ (q5 hc)
    · rw [if_neg hc] at q2 q3 q4
      rw [if_neg hc]
      exact SR_w h hz (by decide) q7 ⟨q2, q3, q4⟩ (q6 hc))

theorem cR_ask {l : Launch} {Γ : zΓ} {G : zH} {w : Nat} {T : pS} {a : Int}  (hX : zXs Γ) (h : SR Γ w T G) (hp : SP T) : zMet l Γ yX9_ask cX9_ask 3 (some .int) 6 [zr 10 w, zi a] G (zpi (fun u G' => SR Γ w (if (((0 ≤ a ∧ a < (pA T) 4 1) ∧ wCan (pW T)) ∧ (wAskV (pA T) (pW T) a) ≠ -1) then fP T (wGrind (pA T) (wAsk (pA T) (pW T) a) a (wAskV (pA T) (pW T) a) 1) 0 else if ((0 ≤ a ∧ a < (pA T) 4 1) ∧ wCan (pW T)) then pfW T (wAsk (pA T) (pW T) a) else T) G' ∧ u = (if (0 ≤ a ∧ a < (pA T) 4 1) then (if wCan (pW T) then (if (wAskV (pA T) (pW T) a) = -1 then -3 else (pW T) 0 0) else -2) else -1))) :=
  zMet_mo (c_X9_askW hX h.2.2.2.1.1 h.2.2.1 hp.2.1 hp.1 h.2.2.2.1.2.1 h.2.2.2.1.2.2 h.2.2.2.2.1.2 hp.2.2.2.1.1 h.2.2.2.2.1.1 hp.2.2.2.1.2.1) (fun r G' q => by
    obtain ⟨u, e, q⟩ := q
    refine ⟨u, e, ?_⟩
    obtain ⟨hz, q1, q2, q3, q4, q5, q6, q7⟩ := q
    refine ⟨?_, q1⟩
    by_cases hc : (((0 ≤ a ∧ a < (pA T) 4 1) ∧ wCan (pW T)) ∧ (wAskV (pA T) (pW T) a) ≠ -1)
    · have hc2 := (⟨hc.1.1, hc.1.2, hc.2⟩ : (0 ≤ a ∧ a < (pA T) 4 1) ∧ wCan (pW T) ∧ (wAskV (pA T) (pW T) a) ≠ -1)
      rw [if_pos hc2] at q2 q3 q4
      rw [if_pos hc]
      exact SR_push hp h hz (by decide) q7 ⟨q2, q3, q4⟩ (q5 hc2)
    · have hc2 : ¬ ((0 ≤ a ∧ a < (pA T) 4 1) ∧ wCan (pW T) ∧ (wAskV (pA T) (pW T) a) ≠ -1) := fun z => hc ⟨⟨z.1, z.2.1⟩, z.2.2⟩
      rw [if_neg hc2] at q2 q3 q4
      rw [if_neg hc]
      by_cases hd : ((0 ≤ a ∧ a < (pA T) 4 1) ∧ wCan (pW T))
      · rw [if_pos hd] at q2 q3 q4
        rw [if_pos hd]
        exact SR_w h hz (by decide) q7 ⟨q2, q3, q4⟩ (q6 hc2)
      · rw [if_neg hd] at q2 q3 q4
        rw [if_neg hd]
        exact SR_w h hz (by decide) q7 ⟨q2, q3, q4⟩ (q6 hc2))

theorem cR_days {l : Launch} {Γ : zΓ} {G : zH} {w : Nat} {T : pS} {a : Int}  (hX : zXs Γ) (h : SR Γ w T G) (hp : SP T) : zMet l Γ yX9_days cX9_days 3 (some .int) 7 [zr 10 w, zi a] G (zpi (fun u G' => SR Γ w (if (0 ≤ a ∧ (pW T) 18 0 + a ≤ 100) ∧ 0 < a then f0 T (wDays (pA T) a.toNat (pW T)) else T) G' ∧ u = (if (0 ≤ a ∧ (pW T) 18 0 + a ≤ 100) then (pW T) 18 0 + a else -1))) :=
  zMet_mo (c_X9_daysW hX h.2.2.2.1.1 h.2.2.1 hp.2.1 hp.1 h.2.2.2.1.2.1) (fun r G' q => by
    obtain ⟨u, e, q⟩ := q
    refine ⟨u, e, ?_⟩
    obtain ⟨hz, q1, q2, q3, q4, q5⟩ := q
    refine ⟨?_, q1⟩
    by_cases hc : (0 ≤ a ∧ (pW T) 18 0 + a ≤ 100) ∧ 0 < a
    · rw [if_pos hc.1] at q2 q3
      rw [if_pos hc] at q4
      rw [if_pos hc]
      exact SR_now h hz (by decide) (by rw [q5 1088 (by decide)]) ⟨q2, q3, rD_j q5 (by decide) h.2.2.2.1.2.2 (wDays_f (by decide) _)⟩ ⟨fun v hv => absurd hv (by omega), q4⟩
    · rw [if_neg hc] at q4
      rw [if_neg hc]
      have e : (if (0 ≤ a ∧ (pW T) 18 0 + a ≤ 100) then wDays (pA T) a.toNat (pW T) else (pW T)) = (pW T) := by
        by_cases hd : (0 ≤ a ∧ (pW T) 18 0 + a ≤ 100)
        · have ha : a = 0 := by
            rcases Int.lt_or_le 0 a with z | z
            · exact absurd ⟨hd, z⟩ hc
            · omega
          rw [if_pos hd, ha]
          rfl
        · rw [if_neg hd]
      rw [e] at q2 q3
      exact SR_now (us := pU T) h hz (by decide) (by rw [q5 1088 (by decide)]) ⟨q2, q3, rD_j q5 (by decide) h.2.2.2.1.2.2 rfl⟩ ⟨bR_z hz (by decide) h.2.2.2.2.1.1, q4.trans h.2.2.2.2.1.2⟩)

theorem cR_known {l : Launch} {Γ : zΓ} {G : zH} {w : Nat} {T : pS} {a : Int}  (hX : zXs Γ) (h : SR Γ w T G) (hp : SP T) : zMet l Γ yX9_known cX9_known 2 (some .boolean) 1 [zr 10 w, zi a] G (zpi (fun u G' => SR Γ w (if (-1 ≤ a ∧ a ≤ (pW T) 0 0) then pfW T (up (pW T) 22 0 a) else T) G' ∧ (u = 0 ∨ u = 1) ∧ (u = 1 ↔ (-1 ≤ a ∧ a ≤ (pW T) 0 0)))) :=
  zMet_mo (c_X9_knownW hX h.2.2.2.1.1 h.2.2.2.1.2.1) (fun r G' q => by
    obtain ⟨u, e, q⟩ := q
    refine ⟨u, e, ?_⟩
    obtain ⟨hz, q0, q1, q2, q3, q4⟩ := q
    refine ⟨?_, q0, q1⟩
    have hj : zsj [] G G' := fun r _ => by rw [q4]
    have hb : bR Γ w (pZ T) (pN T) G' ∧ G'.1 1084 w 0 = pN T := ⟨bR_z hz (by decide) h.2.2.2.2.1.1, by rw [hz.1 1084 (by decide)]; exact h.2.2.2.2.1.2⟩
    by_cases hc : (-1 ≤ a ∧ a ≤ (pW T) 0 0)
    · rw [if_pos hc] at q2 q3
      rw [if_pos hc]
      exact SR_now (us := pU T) h hz (by decide) (by rw [q4]) ⟨q2, q3, rD_j hj (by decide) h.2.2.2.1.2.2 (up_f (by decide))⟩ hb
    · rw [if_neg hc] at q2 q3
      rw [if_neg hc]
      exact SR_now (us := pU T) h hz (by decide) (by rw [q4]) ⟨q2, q3, rD_j hj (by decide) h.2.2.2.1.2.2 rfl⟩ hb)

theorem cR_undo {l : Launch} {Γ : zΓ} {G : zH} {w : Nat} {T : pS}  (hX : zXs Γ) (h : SR Γ w T G) (hp : SP T) : zMet l Γ yX9_undo cX9_undo 1 (some .int) 1 [zr 10 w] G (zpi (fun u G' => SR Γ w (if 0 < pN T then (pA T, wUndo (pW T) (pU T (pN T - 1).toNat), pV T, pZ T, pU T, pN T - 1, pK T, pT T, pB T) else T) G' ∧ u = (if 0 < pN T then pN T - 1 else -1))) :=
  zMet_mo (c_X9_undoW hX h.2.2.2.2.1.2 h.2.2.2.2.1.1 hp.2.2.2.1 h.2.2.2.1.1 hp.2.1 h.2.2.2.1.2.1) (fun r G' q => by
    obtain ⟨u, e, q⟩ := q
    refine ⟨u, e, ?_⟩
    obtain ⟨hz, q1, q2, q3⟩ := q
    have hn2 := hp.2.2.2.1.1
    have hj : zsj [] G G' := fun r _ => by rw [q3]
    by_cases hc : 0 < pN T
    · obtain ⟨k1, k2, k3, k4, k5⟩ := q2 (by omega)
      rw [if_pos hc, if_pos hc]
      exact ⟨SR_now h hz (by decide) (by rw [q3]) ⟨k2, k3, rD_j hj (by decide) h.2.2.2.1.2.2 (wUndo_k (wUI_pop hp.2.2.2.1 hc).2).2.2.1⟩ ⟨k4, k5⟩, k1⟩
    · have e0 : pN T = 0 := by omega
      obtain ⟨k1, k2, k3, k4, k5⟩ := q1 e0
      rw [if_neg hc, if_neg hc]
      exact ⟨SR_now (us := pU T) (n := pN T) h hz (by decide) (by rw [q3]) ⟨k2, k3, rD_j hj (by decide) h.2.2.2.1.2.2 rfl⟩ ⟨by rw [e0]; exact k4, k5.trans e0.symm⟩, k1⟩)

theorem cR_run {l : Launch} {Γ : zΓ} {G : zH} {w : Nat} {T : pS} {a b : Int}  (hX : zXs Γ) (h : SR Γ w T G) (hp : SP T) : zMet l Γ yX9_run cX9_run 3 (some .int) 8 [zr 10 w, zi a, zi b] G (zpi (fun u G' => SR Γ w T G' ∧ u = (if ((0 ≤ a ∧ (pW T) 18 0 + a ≤ 100) ∧ 0 ≤ b ∧ b ≤ 999) then wFlour (wTry (pA T) (-1) 0 a.toNat (pW T)) b else -1))) :=
  zMet_mo (c_X9_runW hX h.2.2.2.1.1 h.2.2.1 hp.2.1 hp.1 h.2.2.2.1.2.1) (fun r G' q => by
    obtain ⟨u, e, q⟩ := q
    refine ⟨u, e, ?_⟩
    obtain ⟨hz, q1, q2, q3, q4⟩ := q
    exact ⟨SR_now (us := pU T) h hz (by decide) (by rw [q4 1088 (by decide)]) ⟨q2, q3, rD_j q4 (by decide) h.2.2.2.1.2.2 rfl⟩ ⟨bR_z hz (by decide) h.2.2.2.2.1.1, by rw [hz.1 1084 (by decide)]; exact h.2.2.2.2.1.2⟩, q1⟩)

theorem cR_tried {l : Launch} {Γ : zΓ} {G : zH} {w : Nat} {T : pS} {k i a b : Int}  (hX : zXs Γ) (h : SR Γ w T G) (hp : SP T) : zMet l Γ yX9_tried cX9_tried 5 (some .int) 8 [zr 10 w, zi k, zi i, zi a, zi b] G (zpi (fun u G' => SR Γ w T G' ∧ u = (if (((0 ≤ a ∧ (pW T) 18 0 + a ≤ 100) ∧ 0 ≤ b ∧ b ≤ 999) ∧ ((k = 1 ∧ 0 ≤ i ∧ i < (pA T) 4 1) ∨ (k = 2 ∧ 0 ≤ i ∧ i < (pA T) 4 0) ∨ ((k = 0 ∨ k = 3 ∨ k = 4) ∧ i = 0))) then wFlour (wTry (pA T) k i a.toNat (pW T)) b else -1))) :=
  zMet_mo (c_X9_triedW hX h.2.2.2.1.1 h.2.2.1 hp.2.1 hp.1 h.2.2.2.1.2.1) (fun r G' q => by
    obtain ⟨u, e, q⟩ := q
    refine ⟨u, e, ?_⟩
    obtain ⟨hz, q1, q2, q3, q4⟩ := q
    exact ⟨SR_now (us := pU T) h hz (by decide) (by rw [q4 1088 (by decide)]) ⟨q2, q3, rD_j q4 (by decide) h.2.2.2.1.2.2 rfl⟩ ⟨bR_z hz (by decide) h.2.2.2.2.1.1, by rw [hz.1 1084 (by decide)]; exact h.2.2.2.2.1.2⟩, q1⟩)

theorem cR_lies {l : Launch} {Γ : zΓ} {G : zH} {w : Nat} {T : pS} {a b k : Int}  (hX : zXs Γ) (h : SR Γ w T G) (hp : SP T) : zMet l Γ yX9_lies cX9_lies 9 (some .int) 3 [zr 10 w, zi a, zi b, zi k] G (zpi (fun u G' => SR Γ w T G' ∧ u = (if (0 ≤ a ∧ (0 ≤ b ∧ b < (pA T) 4 1) ∧ 1 ≤ k ∧ k ≤ 40) then (wLies (pA T) b k.toNat (up (pW T) 21 0 a)).1 else -1))) :=
  zMet_mo (c_X9_liesW hX h.2.2.2.1.1 h.2.2.1 hp.2.1 hp.1) (fun r G' q => by
    obtain ⟨u, e, q⟩ := q
    refine ⟨u, e, ?_⟩
    obtain ⟨hz, q1, q2, q3, q4⟩ := q
    refine ⟨SR_now (us := pU T) h hz (by decide) (by rw [q3 1088 (by decide)]) ⟨rW_sm hz (by decide) h.2.2.2.1.1, rS_sm hz (by decide) h.2.2.2.1.2.1, q4.trans h.2.2.2.1.2.2⟩ ⟨bR_z hz (by decide) h.2.2.2.2.1.1, by rw [hz.1 1084 (by decide)]; exact h.2.2.2.2.1.2⟩, ?_⟩
    by_cases hc : (0 ≤ a ∧ (0 ≤ b ∧ b < (pA T) 4 1) ∧ 1 ≤ k ∧ k ≤ 40)
    · rw [if_pos hc]; exact q1 hc
    · rw [if_neg hc]; exact q2 hc)

theorem cR_keep {l : Launch} {Γ : zΓ} {G : zH} {w : Nat} {T : pS}  (hX : zXs Γ) (h : SR Γ w T G) (hp : SP T) : zMet l Γ yX9_keep cX9_keep 2 (some .int) 1 [zr 10 w] G (zpi (fun u G' => (∀ U : aS, wCp U (pW T) → SR Γ w (pA T, pW T, U, pZ T, pU T, pN T, 1, pT T, pB T) G') ∧ u = (pW T) 18 0)) :=
  zMet_mo (c_X9_keepW hX h.2.2.2.1.1 hp.2.1 h.2.2.2.1.2.1 h.2.2.2.1.2.2) (fun r G' q => by
    obtain ⟨u, e, hz, q1, q2, q3, q4⟩ := q
    obtain ⟨h1, h2, h4, ⟨h5, h6, h7⟩, ⟨h8, h9⟩, h10, h11⟩ := h
    refine ⟨u, e, fun U hU => ⟨MI_sm hz (by decide) h1, ⟨by rw [hz.1 1001 (by decide)]; exact h2.1, fun i => by rw [hz.1 2057 (by decide)]; exact h2.2 i⟩, kR_sm hz (by decide) h4, ⟨rW_sm hz (by decide) h5, rS_sm hz (by decide) h6, rD_j q4 (by decide) h7 rfl⟩, ⟨bR_z hz (by decide) h8, by rw [hz.1 1084 (by decide)]; exact h9⟩, q2, fun _ => iR_cp hp.2.1.1.2 hU q3⟩, q1⟩)

theorem cR_back {l : Launch} {Γ : zΓ} {G : zH} {w : Nat} {T : pS}  (hX : zXs Γ) (h : SR Γ w T G) (hp : SP T) : zMet l Γ yX9_back cX9_back 2 (some .int) 1 [zr 10 w] G (zpi (fun u G' => (∀ U : aS, (pK T ≠ 0 → wCp U (pV T)) → SR Γ w (if pK T ≠ 0 then f0 T U else T) G') ∧ u = (if pK T ≠ 0 then (pV T) 18 0 else -1))) := by
  have hk := h.2.2.2.2.2.1
  by_cases hc : pK T ≠ 0
  · exact zMet_mo (c_X9_backW (V := pV T) hX h.2.2.2.1.1 h.2.2.2.1.2.1 h.2.2.2.1.2.2 (hp.2.2.2.2 hc) (fun z => h.2.2.2.2.2.2 hc)) (fun r G' q => by
      obtain ⟨u, e, hz, q1, q2, q3⟩ := q
      rw [hk] at q1 q2
      obtain ⟨k1, k2, k3, k4, k5⟩ := q2 hc
      have h0 := (hp.2.2.2.2 hc).1
      refine ⟨u, e, fun U hU => ?_, by rw [if_pos hc]; exact k1⟩
      rw [if_pos hc]
      exact SR_now h hz (by decide) (by rw [q3 1088 (by decide)]) ⟨rW_cp h0.2 (hU hc) k2, rS_cp h0.2 (hU hc) k3, k4.trans ((hU hc).2.2.2.2 21 (by decide) (by decide)).symm⟩ ⟨fun v hv => absurd hv (by omega), k5⟩)
  · exact zMet_mo (c_X9_backW (V := pW T) hX h.2.2.2.1.1 h.2.2.2.1.2.1 h.2.2.2.1.2.2 hp.2.1 (fun z => absurd (by rw [← hk]; exact z) hc)) (fun r G' q => by
      obtain ⟨u, e, hz, q1, q2, q3⟩ := q
      rw [hk] at q1 q2
      obtain ⟨k1, k2, k3, k4, k5, k6⟩ := q1 (Decidable.byContradiction hc)
      refine ⟨u, e, fun U hU => ?_, by rw [if_neg hc]; exact k1⟩
      rw [if_neg hc]
      exact SR_now (us := pU T) h hz (by decide) (by rw [q3 1088 (by decide)]) ⟨k2, k3, k4⟩ ⟨bR_z hz (by decide) h.2.2.2.2.1.1, k5.trans h.2.2.2.2.1.2⟩)

theorem cR_text {l : Launch} {Γ : zΓ} {G : zH} {w : Nat} {T : pS} {a : Int} {A0 U : aS} (hA : sCl A0) (hU : tOK T a A0 → wBeg (sLN (pB T) a 700 (sNext (pB T) a A0)) U)  (hX : zXs Γ) (h : SR Γ w T G) (hp : SP T) : zMet l Γ yX9_text cX9_text 3 (some .int) 6 [zr 10 w, zi a] G (zpi (fun u G' => SR Γ w (ptF T a A0 U) G')) :=
  zMet_mo (c_X9_textW hX h.1 hA) (fun r G' q => by
    obtain ⟨u, e, hz, ⟨m1, q1, q2⟩, q3, q4⟩ := q
    have hs := h.2.1
    have hb : G.1 2057 (Γ.2.1 w 0) = pB T := funext hs.2
    rw [hs.1, hb] at q1 q3 q4
    rw [hs.1] at q2
    refine ⟨u, e, ?_⟩
    by_cases hc : tOK T a A0
    · obtain ⟨k1, k2, k3, k4⟩ := q3 hc
      obtain ⟨k5, k6, k7⟩ := k2 U (hU hc)
      obtain ⟨k8, -, -, -⟩ := q1 ⟨hc.1, hc.2.1⟩
      rw [ptF_1 hc]
      exact ⟨m1, ⟨k8, fun i => by rw [hz.1 2057 (by decide)]; exact hs.2 i⟩, k1, ⟨k5, k6, k7⟩, ⟨fun v hv => absurd (show (v : Int) < 0 from hv) (by omega), k3⟩, k4, fun z => absurd rfl z⟩
    · obtain ⟨k1, k2, k3⟩ := q4 hc
      obtain ⟨h1, h2, h4, ⟨h5, h6, h7⟩, ⟨h8, h9⟩, h10, h11⟩ := h
      have hS0 : ∀ t, G'.1 1001 w 0 = t → SR Γ w (pA T, pW T, pV T, pZ T, pU T, pN T, pK T, t, pB T) G' := fun t ht => ⟨m1, ⟨ht, fun i => by rw [hz.1 2057 (by decide)]; exact hs.2 i⟩, kR_S h4 k1, ⟨rW_sx (fun r hr => k2 r ((show ∀ r ∈ [2081, 2082, 2083, 2084, 2085, 2086, 2087, 2088, 2089, 2090, 2093, 2094], r ∈ [2081, 2082, 2083, 2084, 2085, 2086, 2087, 2088, 2089, 2090, 2093, 2094, 2091, 2092, 2095, 2096, 2097, 2098, 2099, 2100, 1083, 1084, 1086, 1087, 2105, 2106, 2107] by decide) r hr)) h5, rS_sx (fun r hr => k2 r ((show ∀ r ∈ [2091, 2092, 2095, 2096, 2097, 2098, 2099, 2100, 1083], r ∈ [2081, 2082, 2083, 2084, 2085, 2086, 2087, 2088, 2089, 2090, 2093, 2094, 2091, 2092, 2095, 2096, 2097, 2098, 2099, 2100, 1083, 1084, 1086, 1087, 2105, 2106, 2107] by decide) r hr)) h6, by unfold rD; rw [k3]; exact h7⟩, ⟨fun v hv => tF_cg (fun m _ => by rw [k2 2105 (by decide)]) (h8 v hv), by rw [k2 1084 (by decide)]; exact h9⟩, by rw [k2 1086 (by decide)]; exact h10, fun z => iR_sx (k2 2106 (by decide)) (k2 2107 (by decide)) (k2 1087 (by decide)) (by rw [k3]) (h11 z)⟩
      rw [ptF_2 hc]
      by_cases hr : 0 ≤ a ∧ a ≤ pT T
      · rw [if_pos hr]
        exact hS0 0 (q1 hr).1
      · rw [if_neg hr]
        exact hS0 (pT T) (q2 hr).2.1)
