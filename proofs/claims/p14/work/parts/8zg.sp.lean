theorem W7_ask {A W : aS} {p : Int} (h : W7 W) : W7 (wAsk A W p) := W7_of (fun j => wAsk_0 (by decide)) h
theorem SPs_confess {T : pS} {a b : Int} (hp : SP T) : SP (if (((0 ≤ a ∧ a < (pA T) 4 1) ∧ (0 ≤ b ∧ b < (pA T) 4 0)) ∧ wCan (pW T)) then fP T (wGrind (pA T) (pW T) a b 1) 0 else T) := by
  by_cases hc : (((0 ≤ a ∧ a < (pA T) 4 1) ∧ (0 ≤ b ∧ b < (pA T) 4 0)) ∧ wCan (pW T))
  · rw [if_pos hc]
    have q := wQ_ug (wr := 1) hp.1 hp.2.1 hc.2 hc.1.1 hc.1.2
    exact SP_p (W1 := pW T) hp q.2 (by unfold wUndo; rw [if_neg (by decide), if_neg (by decide)]; exact q.1) wQ_rf (WI_grind hp.1 hp.2.1 hc.1.1 hc.1.2) (W7_of (fun j => W17_grind j) hp.2.2.1)
  · rw [if_neg hc]
    exact hp
theorem SPs_ask {T : pS} {a : Int} (hp : SP T) : SP (if (((0 ≤ a ∧ a < (pA T) 4 1) ∧ wCan (pW T)) ∧ (wAskV (pA T) (pW T) a) ≠ -1) then fP T (wGrind (pA T) (wAsk (pA T) (pW T) a) a (wAskV (pA T) (pW T) a) 1) 0 else if ((0 ≤ a ∧ a < (pA T) 4 1) ∧ wCan (pW T)) then pfW T (wAsk (pA T) (pW T) a) else T) := by
  have hW := WI_ask (p := a) hp.2.1
  have hq : wQ (wAsk (pA T) (pW T) a) (pW T) := wQ_ask wQ_rf
  have h7 : W7 (wAsk (pA T) (pW T) a) := W7_ask hp.2.2.1
  by_cases hc : (((0 ≤ a ∧ a < (pA T) 4 1) ∧ wCan (pW T)) ∧ (wAskV (pA T) (pW T) a) ≠ -1)
  · rw [if_pos hc]
    have hcan : wCan (wAsk (pA T) (pW T) a) := by
      have z := hc.1.2
      unfold wCan
      rw [wAsk_0 (by decide), wAsk_0 (by decide)]
      exact z
    have hv : 0 ≤ (wAskV (pA T) (pW T) a) ∧ (wAskV (pA T) (pW T) a) < (pA T) 4 0 := (wAskV_in hp.1.1.1).resolve_left hc.2
    have q := wQ_ug (wr := 1) hp.1 hW hcan hc.1.1 hv
    exact SP_p (W1 := (wAsk (pA T) (pW T) a)) hp q.2 (by unfold wUndo; rw [if_neg (by decide), if_neg (by decide)]; exact q.1) hq (WI_grind hp.1 hW hc.1.1 hv) (W7_of (fun j => W17_grind j) h7)
  · rw [if_neg hc]
    by_cases hd : ((0 ≤ a ∧ a < (pA T) 4 1) ∧ wCan (pW T))
    · rw [if_pos hd]
      exact SP_w hp hq hW h7
    · rw [if_neg hd]
      exact hp
theorem SPs_fall {T : pS} {a b : Int} (hp : SP T) : SP (if (((0 ≤ a ∧ a < (pA T) 4 1) ∧ (0 ≤ b ∧ b < (pA T) 4 0)) ∧ (pW T) 11 (a * 4 + b).toNat < 99) then fP T (wFall (pW T) a b) (1 + a * 4 + b) else T) := by
  by_cases hc : (((0 ≤ a ∧ a < (pA T) 4 1) ∧ (0 ≤ b ∧ b < (pA T) 4 0)) ∧ (pW T) 11 (a * 4 + b).toNat < 99)
  · rw [if_pos hc]
    have ht := hp.1.1
    obtain ⟨⟨ha, hb⟩, h99⟩ := hc
    have e1 : (1 + a * 4 + b - 1) / 4 = a := by omega
    have e2 : (1 + a * 4 + b - 1) % 4 = b := by omega
    refine SP_p (W1 := pW T) hp (Or.inr (Or.inl ⟨by omega, by omega⟩)) ?_ wQ_rf (WI_fall hp.1 hp.2.1 ha hb h99) (W7_of (fun j => (wFa_ev (pW T) a b).2.2.2 17 j (by decide) (by decide) (by decide)) hp.2.2.1)
    unfold wUndo
    rw [if_neg (by omega), if_pos (by omega), e1, e2]
    exact wQ_uf
  · rw [if_neg hc]
    exact hp
theorem SPs_bake {T : pS} {a : Int} (hp : SP T) : SP (if ((0 ≤ a ∧ a < (pA T) 4 2) ∧ (pW T) 18 0 ≤ (pA T) 11 a.toNat ∧ wCanB (pA T) (pW T) a) then fP T (wBake (pA T) (pW T) a) (21 + a) else T) := by
  by_cases hc : ((0 ≤ a ∧ a < (pA T) 4 2) ∧ (pW T) 18 0 ≤ (pA T) 11 a.toNat ∧ wCanB (pA T) (pW T) a)
  · rw [if_pos hc]
    have q := wQ_ub hp.1 hp.2.1 hc.1 hc.2.2
    refine SP_p (W1 := pW T) hp q.2 ?_ wQ_rf (WI_bake hp.1 hp.2.1 hc.1).1 (W7_bake hp.1 hc.1 hp.2.2.1)
    unfold wUndo
    rw [if_pos (by omega), show 21 + a - 21 = a by omega]
    exact q.1
  · rw [if_neg hc]
    exact hp
theorem SPs_days {T : pS} {a : Int} (hp : SP T) : SP (if (0 ≤ a ∧ (pW T) 18 0 + a ≤ 100) ∧ 0 < a then f0 T (wDays (pA T) a.toNat (pW T)) else T) := by
  by_cases hc : (0 ≤ a ∧ (pW T) 18 0 + a ≤ 100) ∧ 0 < a
  · rw [if_pos hc]
    exact SP_0 hp (WI_days hp.1 hp.2.1 a.toNat (by have := hc.1; omega)).1 (W7_days hp.1 hp.2.2.1 a.toNat)
  · rw [if_neg hc]
    exact hp
theorem SPs_known {T : pS} {a : Int} (hp : SP T) : SP (if (-1 ≤ a ∧ a ≤ (pW T) 0 0) then pfW T (up (pW T) 22 0 a) else T) := by
  by_cases hc : (-1 ≤ a ∧ a ≤ (pW T) 0 0)
  · rw [if_pos hc]
    have h0 := hp.2.1.1
    exact SP_w hp (wQ_u (Or.inr rfl) wQ_rf) (WI_dr (Or.inr rfl) hp.2.1 ⟨fun z => absurd z (by decide), fun _ => ⟨hc.1, by omega⟩⟩) (W7_of (fun j => up_f (by decide)) hp.2.2.1)
  · rw [if_neg hc]
    exact hp
theorem SPs_undo {T : pS} (hp : SP T) : SP (if 0 < pN T then (pA T, wUndo (pW T) (pU T (pN T - 1).toNat), pV T, pZ T, pU T, pN T - 1, pK T, pT T, pB T) else T) := by
  by_cases hc : 0 < pN T
  · rw [if_pos hc]
    obtain ⟨g1, g2, g3, g4, g5⟩ := hp
    have q := wUI_pop g4 hc
    have k := wUndo_k q.2
    have hb := g2.2.2.2.2.2.2.2.2
    have hI : WI (pA T) (wUndo (pW T) (pU T (pN T - 1).toNat)) := WI_Q q.1.2.1 (g4.2.2.2 (pN T - 1).toNat (by omega)) (by rw [k.2.2.1]; exact hb.1) (by rw [k.2.1]; exact hb.2)
    exact ⟨g1, hI, W7_of (fun j => W17_undo q.2 j) g3, q.1, g5⟩
  · rw [if_neg hc]
    exact hp
theorem SPs_feed {T : pS} {a1 a2 a3 a4 a5 : Int} (hp : SP T) : SP (fF T a1 a2 a3 a4 a5) := by
  unfold fF
  split
  · exact hp
  · exact hp
theorem SPs_text {Γ : zΓ} {G : zH} {x : Nat} {T : pS} {a : Int} {A0 U : aS} (hB : zBn Γ G) (h : SC Γ x T G) (hA : sCl A0) (hp : SP T) (hU : tOK T a A0 → wBeg (sLN (pB T) a 700 (sNext (pB T) a A0)) U ∧ ∀ j : Nat, U 17 j = (pW T) 17 j) : SP (ptF T a A0 U) := by
  have q := hB.2.1.1 901 x 0
  rw [r_901] at q
  exact SP_t (by rw [← h.1.1]; exact q.2) hA hp hU
theorem SPs_keep {T : pS} {U : aS} (hp : SP T) (hU : wCp U (pW T)) : SP (pA T, pW T, U, pZ T, pU T, pN T, 1, pT T, pB T) := ⟨hp.1, hp.2.1, hp.2.2.1, hp.2.2.2.1, fun _ => WI_cp hU hp.2.1⟩
theorem SPs_back {T : pS} {U : aS} (hp : SP T) (hU : pK T ≠ 0 → wCp U (pV T) ∧ ∀ j : Nat, U 17 j = (pW T) 17 j) : SP (if pK T ≠ 0 then f0 T U else T) := by
  by_cases hc : pK T ≠ 0
  · rw [if_pos hc]
    exact SP_0 hp (WI_cp (hU hc).1 (hp.2.2.2.2 hc)) (W7_of (hU hc).2 hp.2.2.1)
  · rw [if_neg hc]
    exact hp
theorem hv8_0 {x : Nat} : ∀ t a, zr t a ∈ [zr 9 x] → t < 200 → cT t = true := fun t a h _ => by
  simp only [List.mem_cons, List.not_mem_nil, or_false] at h
  cases h; rfl
theorem hv8_1 {x : Nat} {a1 : Int} : ∀ t a, zr t a ∈ [zr 9 x, zi a1] → t < 200 → cT t = true := fun t a h _ => by
  simp only [List.mem_cons, List.not_mem_nil, or_false] at h
  rcases h with h | h <;> cases h
  rfl
theorem hv8_2 {x : Nat} {a1 a2 : Int} : ∀ t a, zr t a ∈ [zr 9 x, zi a1, zi a2] → t < 200 → cT t = true := fun t a h _ => by
  simp only [List.mem_cons, List.not_mem_nil, or_false] at h
  rcases h with h | h | h <;> cases h
  rfl
theorem hv8_3 {x : Nat} {a1 a2 a3 : Int} : ∀ t a, zr t a ∈ [zr 9 x, zi a1, zi a2, zi a3] → t < 200 → cT t = true := fun t a h _ => by
  simp only [List.mem_cons, List.not_mem_nil, or_false] at h
  rcases h with h | h | h | h <;> cases h
  rfl
theorem hv8_4 {x : Nat} {a1 a2 a3 a4 : Int} : ∀ t a, zr t a ∈ [zr 9 x, zi a1, zi a2, zi a3, zi a4] → t < 200 → cT t = true := fun t a h _ => by
  simp only [List.mem_cons, List.not_mem_nil, or_false] at h
  rcases h with h | h | h | h | h <;> cases h
  rfl
theorem hv8_5 {x : Nat} {a1 a2 a3 a4 a5 : Int} : ∀ t a, zr t a ∈ [zr 9 x, zi a1, zi a2, zi a3, zi a4, zi a5] → t < 200 → cT t = true := fun t a h _ => by
  simp only [List.mem_cons, List.not_mem_nil, or_false] at h
  rcases h with h | h | h | h | h | h <;> cases h
  rfl
theorem hv9_0 {x : Nat} : ∀ t a, zr t a ∈ [zr 10 x] → t < 200 → rT t = true := fun t a h _ => by
  simp only [List.mem_cons, List.not_mem_nil, or_false] at h
  cases h; rfl
theorem hv9_1 {x : Nat} {a1 : Int} : ∀ t a, zr t a ∈ [zr 10 x, zi a1] → t < 200 → rT t = true := fun t a h _ => by
  simp only [List.mem_cons, List.not_mem_nil, or_false] at h
  rcases h with h | h <;> cases h
  rfl
theorem hv9_2 {x : Nat} {a1 a2 : Int} : ∀ t a, zr t a ∈ [zr 10 x, zi a1, zi a2] → t < 200 → rT t = true := fun t a h _ => by
  simp only [List.mem_cons, List.not_mem_nil, or_false] at h
  rcases h with h | h | h <;> cases h
  rfl
theorem hv9_3 {x : Nat} {a1 a2 a3 : Int} : ∀ t a, zr t a ∈ [zr 10 x, zi a1, zi a2, zi a3] → t < 200 → rT t = true := fun t a h _ => by
  simp only [List.mem_cons, List.not_mem_nil, or_false] at h
  rcases h with h | h | h | h <;> cases h
  rfl
theorem hv9_4 {x : Nat} {a1 a2 a3 a4 : Int} : ∀ t a, zr t a ∈ [zr 10 x, zi a1, zi a2, zi a3, zi a4] → t < 200 → rT t = true := fun t a h _ => by
  simp only [List.mem_cons, List.not_mem_nil, or_false] at h
  rcases h with h | h | h | h | h <;> cases h
  rfl
theorem hv9_5 {x : Nat} {a1 a2 a3 a4 a5 : Int} : ∀ t a, zr t a ∈ [zr 10 x, zi a1, zi a2, zi a3, zi a4, zi a5] → t < 200 → rT t = true := fun t a h _ => by
  simp only [List.mem_cons, List.not_mem_nil, or_false] at h
  rcases h with h | h | h | h | h | h <;> cases h
  rfl
theorem lC_did {l : Launch} {Γ : zΓ} {G : zH} {x : Nat} {T : pS} {a b k : Int}  (hX : zXs Γ) (hg : SG Γ x) (h : SC Γ x T G) (hp : SP T) (hq : QQ Γ (mNow Γ x) (G.2.2 903 x) (pA T) (pW T) G) (hv : pK T ≠ 0 → QQ Γ (mImg Γ x) (G.2.2 903 x) (pA T) (pV T) G) : zMet l Γ yX8_did cX8_did 4 (some .int) 2 [zr 9 x, zi a, zi b, zi k] G (zpi (fun u G2 => ∃ G' : zH, (SC Γ x T G' ∧ u = (if ((0 ≤ a ∧ a < (pA T) 4 1) ∧ (0 ≤ b ∧ b < (pA T) 4 0)) then (if k = 0 then (pW T) 11 (a * 4 + b).toNat else if k = 1 then wL (pW T) a b else -1) else -1)) ∧ G2 = zmx cT Γ G' G)) :=
  zMet_rei cT_c hv8_3 (cC_did (Γ := zre cT Γ) (x := x) (T := T) hX hg h hp hq hv)
theorem lC_fault {l : Launch} {Γ : zΓ} {G : zH} {x : Nat} {T : pS} {a : Int}  (hX : zXs Γ) (hg : SG Γ x) (h : SC Γ x T G) (hp : SP T) (hq : QQ Γ (mNow Γ x) (G.2.2 903 x) (pA T) (pW T) G) (hv : pK T ≠ 0 → QQ Γ (mImg Γ x) (G.2.2 903 x) (pA T) (pV T) G) : zMet l Γ yX8_fault cX8_fault 2 (some .int) 0 [zr 9 x, zi a] G (zpi (fun u G2 => ∃ G' : zH, (SC Γ x T G') ∧ G2 = zmx cT Γ G' G)) :=
  zMet_rei cT_c hv8_1 (cC_fault (Γ := zre cT Γ) (x := x) (T := T) hX hg h hp hq hv)
theorem lC_named {l : Launch} {Γ : zΓ} {G : zH} {x : Nat} {T : pS} {a b : Int}  (hX : zXs Γ) (hg : SG Γ x) (h : SC Γ x T G) (hp : SP T) (hq : QQ Γ (mNow Γ x) (G.2.2 903 x) (pA T) (pW T) G) (hv : pK T ≠ 0 → QQ Γ (mImg Γ x) (G.2.2 903 x) (pA T) (pV T) G) : zMet l Γ yX8_named cX8_named 3 (some .int) 1 [zr 9 x, zi a, zi b] G (zpi (fun u G2 => ∃ G' : zH, (SC Γ x T G') ∧ G2 = zmx cT Γ G' G)) :=
  zMet_rei cT_c hv8_2 (cC_named (Γ := zre cT Γ) (x := x) (T := T) hX hg h hp hq hv)
theorem lC_count {l : Launch} {Γ : zΓ} {G : zH} {x : Nat} {T : pS} {a : Int}  (hX : zXs Γ) (hg : SG Γ x) (h : SC Γ x T G) (hp : SP T) (hq : QQ Γ (mNow Γ x) (G.2.2 903 x) (pA T) (pW T) G) (hv : pK T ≠ 0 → QQ Γ (mImg Γ x) (G.2.2 903 x) (pA T) (pV T) G) : zMet l Γ yX8_count cX8_count 2 (some .int) 1 [zr 9 x, zi a] G (zpi (fun u G2 => ∃ G' : zH, (SC Γ x T G') ∧ G2 = zmx cT Γ G' G)) :=
  zMet_rei cT_c hv8_1 (cC_count (Γ := zre cT Γ) (x := x) (T := T) hX hg h hp hq hv)
theorem lC_mills {l : Launch} {Γ : zΓ} {G : zH} {x : Nat} {T : pS} {a b k : Int}  (hX : zXs Γ) (hg : SG Γ x) (h : SC Γ x T G) (hp : SP T) (hq : QQ Γ (mNow Γ x) (G.2.2 903 x) (pA T) (pW T) G) (hv : pK T ≠ 0 → QQ Γ (mImg Γ x) (G.2.2 903 x) (pA T) (pV T) G) : zMet l Γ yX8_mills cX8_mills 8 (some .int) 2 [zr 9 x, zi a, zi b, zi k] G (zpi (fun u G2 => ∃ G' : zH, (SC Γ x T G') ∧ G2 = zmx cT Γ G' G)) :=
  zMet_rei cT_c hv8_3 (cC_mills (Γ := zre cT Γ) (x := x) (T := T) hX hg h hp hq hv)
theorem lC_sack {l : Launch} {Γ : zΓ} {G : zH} {x : Nat} {T : pS} {a k : Int}  (hX : zXs Γ) (hg : SG Γ x) (h : SC Γ x T G) (hp : SP T) (hq : QQ Γ (mNow Γ x) (G.2.2 903 x) (pA T) (pW T) G) (hv : pK T ≠ 0 → QQ Γ (mImg Γ x) (G.2.2 903 x) (pA T) (pV T) G) : zMet l Γ yX8_sack cX8_sack 3 (some .int) 1 [zr 9 x, zi a, zi k] G (zpi (fun u G2 => ∃ G' : zH, (SC Γ x T G' ∧ u = (if 0 ≤ a ∧ a < (pW T) 0 0 then (if k = 0 then (pW T) 1 a.toNat else if k = 1 then (pW T) 2 a.toNat else if k = 2 then (pW T) 3 a.toNat else if k = 3 then (pW T) 5 a.toNat else if k = 4 then wLie (pW T) a ((pW T) 2 a.toNat) else -1) else -1)) ∧ G2 = zmx cT Γ G' G)) :=
  zMet_rei cT_c hv8_2 (cC_sack (Γ := zre cT Γ) (x := x) (T := T) hX hg h hp hq hv)
theorem lC_flour {l : Launch} {Γ : zΓ} {G : zH} {x : Nat} {T : pS} {a : Int}  (hX : zXs Γ) (hg : SG Γ x) (h : SC Γ x T G) (hp : SP T) (hq : QQ Γ (mNow Γ x) (G.2.2 903 x) (pA T) (pW T) G) (hv : pK T ≠ 0 → QQ Γ (mImg Γ x) (G.2.2 903 x) (pA T) (pV T) G) : zMet l Γ yX8_flour cX8_flour 2 (some .int) 1 [zr 9 x, zi a] G (zpi (fun u G2 => ∃ G' : zH, (SC Γ x T G' ∧ u = (if 0 ≤ a ∧ a ≤ 999 then wFlour (pW T) a else -1)) ∧ G2 = zmx cT Γ G' G)) :=
  zMet_rei cT_c hv8_1 (cC_flour (Γ := zre cT Γ) (x := x) (T := T) hX hg h hp hq hv)
theorem lC_baked {l : Launch} {Γ : zΓ} {G : zH} {x : Nat} {T : pS} {a : Int}  (hX : zXs Γ) (hg : SG Γ x) (h : SC Γ x T G) (hp : SP T) (hq : QQ Γ (mNow Γ x) (G.2.2 903 x) (pA T) (pW T) G) (hv : pK T ≠ 0 → QQ Γ (mImg Γ x) (G.2.2 903 x) (pA T) (pV T) G) : zMet l Γ yX8_baked cX8_baked 2 (some .int) 1 [zr 9 x, zi a] G (zpi (fun u G2 => ∃ G' : zH, (SC Γ x T G' ∧ u = (if 0 ≤ a ∧ a < (pA T) 4 2 then (if (pW T) 16 a.toNat ≠ -1 then (pW T) 16 a.toNat else -2) else -1)) ∧ G2 = zmx cT Γ G' G)) :=
  zMet_rei cT_c hv8_1 (cC_baked (Γ := zre cT Γ) (x := x) (T := T) hX hg h hp hq hv)
theorem lC_fine {l : Launch} {Γ : zΓ} {G : zH} {x : Nat} {T : pS} {a b : Int}  (hX : zXs Γ) (hg : SG Γ x) (h : SC Γ x T G) (hp : SP T) (hq : QQ Γ (mNow Γ x) (G.2.2 903 x) (pA T) (pW T) G) (hv : pK T ≠ 0 → QQ Γ (mImg Γ x) (G.2.2 903 x) (pA T) (pV T) G) : zMet l Γ yX8_fine cX8_fine 3 (some .int) 4 [zr 9 x, zi a, zi b] G (zpi (fun u G2 => ∃ G' : zH, (SC Γ x T G' ∧ u = (if ((0 ≤ a ∧ a < (pA T) 4 1) ∧ (0 ≤ b ∧ b < (pA T) 4 0)) then wFine (pA T) (pW T) a b else -1)) ∧ G2 = zmx cT Γ G' G)) :=
  zMet_rei cT_c hv8_2 (cC_fine (Γ := zre cT Γ) (x := x) (T := T) hX hg h hp hq hv)
theorem lC_law {l : Launch} {Γ : zΓ} {G : zH} {x : Nat} {T : pS} {k a b : Int}  (hX : zXs Γ) (hg : SG Γ x) (h : SC Γ x T G) (hp : SP T) (hq : QQ Γ (mNow Γ x) (G.2.2 903 x) (pA T) (pW T) G) (hv : pK T ≠ 0 → QQ Γ (mImg Γ x) (G.2.2 903 x) (pA T) (pV T) G) : zMet l Γ yX8_law cX8_law 4 (some .long) 3 [zr 9 x, zi k, zi a, zi b] G (zpj (fun u G2 => ∃ G' : zH, (SC Γ x T G' ∧ u = (if k = 0 ∨ k = 1 then (if ((0 ≤ a ∧ a < (pA T) 4 1) ∧ (0 ≤ b ∧ b < (pA T) 4 0)) then wLaw (pA T) (pW T) k a b else -9223372036854775808) else if k = 2 then (if ((0 ≤ a ∧ a < (pA T) 4 1) ∧ (0 ≤ b ∧ b < (pA T) 4 0)) ∧ 0 < wL (pW T) a b then wLaw (pA T) (pW T) k a b else -9223372036854775808) else if k = 3 then (if (0 ≤ a ∧ a < (pA T) 4 1) ∧ (0 ≤ b ∧ b < (pA T) 4 1) ∧ a < b then wPair (pA T) (pW T) a b else -9223372036854775808) else -9223372036854775808)) ∧ G2 = zmx cT Γ G' G)) :=
  zMet_rej cT_c hv8_3 (cC_law (Γ := zre cT Γ) (x := x) (T := T) hX hg h hp hq hv)
theorem lC_fits {l : Launch} {Γ : zΓ} {G : zH} {x : Nat} {T : pS}  (hX : zXs Γ) (hg : SG Γ x) (h : SC Γ x T G) (hp : SP T) (hq : QQ Γ (mNow Γ x) (G.2.2 903 x) (pA T) (pW T) G) (hv : pK T ≠ 0 → QQ Γ (mImg Γ x) (G.2.2 903 x) (pA T) (pV T) G) : zMet l Γ yX8_fits cX8_fits 4 (some .int) 5 [zr 9 x] G (zpi (fun u G2 => ∃ G' : zH, (SC Γ x T G' ∧ u = wFB (pA T) (pW T)) ∧ G2 = zmx cT Γ G' G)) :=
  zMet_rei cT_c hv8_0 (cC_fits (Γ := zre cT Γ) (x := x) (T := T) hX hg h hp hq hv)
theorem lC_crumb {l : Launch} {Γ : zΓ} {G : zH} {x : Nat} {T : pS} {a k : Int}  (hX : zXs Γ) (hg : SG Γ x) (h : SC Γ x T G) (hp : SP T) (hq : QQ Γ (mNow Γ x) (G.2.2 903 x) (pA T) (pW T) G) (hv : pK T ≠ 0 → QQ Γ (mImg Γ x) (G.2.2 903 x) (pA T) (pV T) G) : zMet l Γ yX8_crumb cX8_crumb 6 (some .int) 4 [zr 9 x, zi a, zi k] G (zpi (fun u G2 => ∃ G' : zH, (SC Γ x T G') ∧ G2 = zmx cT Γ G' G)) :=
  zMet_rei cT_c hv8_2 (cC_crumb (Γ := zre cT Γ) (x := x) (T := T) hX hg h hp hq hv)
theorem lC_pairs {l : Launch} {Γ : zΓ} {G : zH} {x : Nat} {T : pS}  (hX : zXs Γ) (hg : SG Γ x) (h : SC Γ x T G) (hp : SP T) (hq : QQ Γ (mNow Γ x) (G.2.2 903 x) (pA T) (pW T) G) (hv : pK T ≠ 0 → QQ Γ (mImg Γ x) (G.2.2 903 x) (pA T) (pV T) G) : zMet l Γ yX8_pairs cX8_pairs 1 (some .long) 10 [zr 9 x] G (zpj (fun u G2 => ∃ G' : zH, (SC Γ x T G') ∧ G2 = zmx cT Γ G' G)) :=
  zMet_rej cT_c hv8_0 (cC_pairs (Γ := zre cT Γ) (x := x) (T := T) hX hg h hp hq hv)
theorem lC_paired {l : Launch} {Γ : zΓ} {G : zH} {x : Nat} {T : pS} {a : Int}  (hX : zXs Γ) (hg : SG Γ x) (h : SC Γ x T G) (hp : SP T) (hq : QQ Γ (mNow Γ x) (G.2.2 903 x) (pA T) (pW T) G) (hv : pK T ≠ 0 → QQ Γ (mImg Γ x) (G.2.2 903 x) (pA T) (pV T) G) : zMet l Γ yX8_paired cX8_paired 3 (some .int) 10 [zr 9 x, zi a] G (zpi (fun u G2 => ∃ G' : zH, (SC Γ x T G') ∧ G2 = zmx cT Γ G' G)) :=
  zMet_rei cT_c hv8_1 (cC_paired (Γ := zre cT Γ) (x := x) (T := T) hX hg h hp hq hv)
theorem lC_feed {l : Launch} {Γ : zΓ} {G : zH} {x : Nat} {T : pS} {a1 a2 a3 a4 a5 : Int}  (hX : zXs Γ) (hg : SG Γ x) (h : SC Γ x T G) (hp : SP T) (hq : QQ Γ (mNow Γ x) (G.2.2 903 x) (pA T) (pW T) G) (hv : pK T ≠ 0 → QQ Γ (mImg Γ x) (G.2.2 903 x) (pA T) (pV T) G) : zMet l Γ yX8_feed cX8_feed 6 (some .int) 1 [zr 9 x, zi a1, zi a2, zi a3, zi a4, zi a5] G (zpi (fun u G2 => ∃ G' : zH, (SC Γ x (fF T a1 a2 a3 a4 a5) G' ∧ u = (if pT T + 20 ≤ 700 then pT T + 20 else -1)) ∧ G2 = zmx cT Γ G' G)) :=
  zMet_rei cT_c hv8_5 (cC_feed (Γ := zre cT Γ) (x := x) (T := T) hX hg h hp hq hv)
theorem lC_confess {l : Launch} {Γ : zΓ} {G : zH} {x : Nat} {T : pS} {a b : Int}  (hX : zXs Γ) (hg : SG Γ x) (h : SC Γ x T G) (hp : SP T) (hq : QQ Γ (mNow Γ x) (G.2.2 903 x) (pA T) (pW T) G) (hv : pK T ≠ 0 → QQ Γ (mImg Γ x) (G.2.2 903 x) (pA T) (pV T) G) : zMet l Γ yX8_confess cX8_confess 3 (some .int) 5 [zr 9 x, zi a, zi b] G (zpi (fun u G2 => ∃ G' : zH, (SC Γ x (if (((0 ≤ a ∧ a < (pA T) 4 1) ∧ (0 ≤ b ∧ b < (pA T) 4 0)) ∧ wCan (pW T)) then fP T (wGrind (pA T) (pW T) a b 1) 0 else T) G' ∧ u = (if ((0 ≤ a ∧ a < (pA T) 4 1) ∧ (0 ≤ b ∧ b < (pA T) 4 0)) then (if wCan (pW T) then (pW T) 0 0 else -2) else -1)) ∧ G2 = zmx cT Γ G' G)) :=
  zMet_rei cT_c hv8_2 (cC_confess (Γ := zre cT Γ) (x := x) (T := T) hX hg h hp hq hv)
theorem lC_fall {l : Launch} {Γ : zΓ} {G : zH} {x : Nat} {T : pS} {a b : Int}  (hX : zXs Γ) (hg : SG Γ x) (h : SC Γ x T G) (hp : SP T) (hq : QQ Γ (mNow Γ x) (G.2.2 903 x) (pA T) (pW T) G) (hv : pK T ≠ 0 → QQ Γ (mImg Γ x) (G.2.2 903 x) (pA T) (pV T) G) : zMet l Γ yX8_fall cX8_fall 3 (some .int) 3 [zr 9 x, zi a, zi b] G (zpi (fun u G2 => ∃ G' : zH, (SC Γ x (if (((0 ≤ a ∧ a < (pA T) 4 1) ∧ (0 ≤ b ∧ b < (pA T) 4 0)) ∧ (pW T) 11 (a * 4 + b).toNat < 99) then fP T (wFall (pW T) a b) (1 + a * 4 + b) else T) G' ∧ u = (if ((0 ≤ a ∧ a < (pA T) 4 1) ∧ (0 ≤ b ∧ b < (pA T) 4 0)) then (if (pW T) 11 (a * 4 + b).toNat < 99 then (pW T) 15 a.toNat + 1 else -2) else -1)) ∧ G2 = zmx cT Γ G' G)) :=
  zMet_rei cT_c hv8_2 (cC_fall (Γ := zre cT Γ) (x := x) (T := T) hX hg h hp hq hv)
theorem lC_bake {l : Launch} {Γ : zΓ} {G : zH} {x : Nat} {T : pS} {a : Int}  (hX : zXs Γ) (hg : SG Γ x) (h : SC Γ x T G) (hp : SP T) (hq : QQ Γ (mNow Γ x) (G.2.2 903 x) (pA T) (pW T) G) (hv : pK T ≠ 0 → QQ Γ (mImg Γ x) (G.2.2 903 x) (pA T) (pV T) G) : zMet l Γ yX8_bake cX8_bake 2 (some .boolean) 3 [zr 9 x, zi a] G (zpi (fun u G2 => ∃ G' : zH, (SC Γ x (if ((0 ≤ a ∧ a < (pA T) 4 2) ∧ (pW T) 18 0 ≤ (pA T) 11 a.toNat ∧ wCanB (pA T) (pW T) a) then fP T (wBake (pA T) (pW T) a) (21 + a) else T) G' ∧ (u = 0 ∨ u = 1) ∧ (u = 1 ↔ ((0 ≤ a ∧ a < (pA T) 4 2) ∧ (pW T) 18 0 ≤ (pA T) 11 a.toNat ∧ wCanB (pA T) (pW T) a))) ∧ G2 = zmx cT Γ G' G)) :=
  zMet_rei cT_c hv8_1 (cC_bake (Γ := zre cT Γ) (x := x) (T := T) hX hg h hp hq hv)
theorem lC_ask {l : Launch} {Γ : zΓ} {G : zH} {x : Nat} {T : pS} {a : Int}  (hX : zXs Γ) (hg : SG Γ x) (h : SC Γ x T G) (hp : SP T) (hq : QQ Γ (mNow Γ x) (G.2.2 903 x) (pA T) (pW T) G) (hv : pK T ≠ 0 → QQ Γ (mImg Γ x) (G.2.2 903 x) (pA T) (pV T) G) : zMet l Γ yX8_ask cX8_ask 3 (some .int) 5 [zr 9 x, zi a] G (zpi (fun u G2 => ∃ G' : zH, (SC Γ x (if (((0 ≤ a ∧ a < (pA T) 4 1) ∧ wCan (pW T)) ∧ (wAskV (pA T) (pW T) a) ≠ -1) then fP T (wGrind (pA T) (wAsk (pA T) (pW T) a) a (wAskV (pA T) (pW T) a) 1) 0 else if ((0 ≤ a ∧ a < (pA T) 4 1) ∧ wCan (pW T)) then pfW T (wAsk (pA T) (pW T) a) else T) G' ∧ u = (if (0 ≤ a ∧ a < (pA T) 4 1) then (if wCan (pW T) then (if (wAskV (pA T) (pW T) a) ≠ -1 then (pW T) 0 0 else -3) else -2) else -1)) ∧ G2 = zmx cT Γ G' G)) :=
  zMet_rei cT_c hv8_1 (cC_ask (Γ := zre cT Γ) (x := x) (T := T) hX hg h hp hq hv)
theorem lC_days {l : Launch} {Γ : zΓ} {G : zH} {x : Nat} {T : pS} {a : Int}  (hX : zXs Γ) (hg : SG Γ x) (h : SC Γ x T G) (hp : SP T) (hq : QQ Γ (mNow Γ x) (G.2.2 903 x) (pA T) (pW T) G) (hv : pK T ≠ 0 → QQ Γ (mImg Γ x) (G.2.2 903 x) (pA T) (pV T) G) : zMet l Γ yX8_days cX8_days 3 (some .int) 5 [zr 9 x, zi a] G (zpi (fun u G2 => ∃ G' : zH, (SC Γ x (if (0 ≤ a ∧ (pW T) 18 0 + a ≤ 100) ∧ 0 < a then f0 T (wDays (pA T) a.toNat (pW T)) else T) G' ∧ u = (if (0 ≤ a ∧ (pW T) 18 0 + a ≤ 100) then (pW T) 18 0 + a else -1)) ∧ G2 = zmx cT Γ G' G)) :=
  zMet_rei cT_c hv8_1 (cC_days (Γ := zre cT Γ) (x := x) (T := T) hX hg h hp hq hv)
theorem lC_known {l : Launch} {Γ : zΓ} {G : zH} {x : Nat} {T : pS} {a : Int}  (hX : zXs Γ) (hg : SG Γ x) (h : SC Γ x T G) (hp : SP T) (hq : QQ Γ (mNow Γ x) (G.2.2 903 x) (pA T) (pW T) G) (hv : pK T ≠ 0 → QQ Γ (mImg Γ x) (G.2.2 903 x) (pA T) (pV T) G) : zMet l Γ yX8_known cX8_known 2 (some .boolean) 0 [zr 9 x, zi a] G (zpi (fun u G2 => ∃ G' : zH, (SC Γ x (if (-1 ≤ a ∧ a ≤ (pW T) 0 0) then pfW T (up (pW T) 22 0 a) else T) G' ∧ (u = 0 ∨ u = 1) ∧ (u = 1 ↔ (-1 ≤ a ∧ a ≤ (pW T) 0 0))) ∧ G2 = zmx cT Γ G' G)) :=
  zMet_rei cT_c hv8_1 (cC_known (Γ := zre cT Γ) (x := x) (T := T) hX hg h hp hq hv)
theorem lC_undo {l : Launch} {Γ : zΓ} {G : zH} {x : Nat} {T : pS}  (hX : zXs Γ) (hg : SG Γ x) (h : SC Γ x T G) (hp : SP T) (hq : QQ Γ (mNow Γ x) (G.2.2 903 x) (pA T) (pW T) G) (hv : pK T ≠ 0 → QQ Γ (mImg Γ x) (G.2.2 903 x) (pA T) (pV T) G) : zMet l Γ yX8_undo cX8_undo 2 (some .int) 2 [zr 9 x] G (zpi (fun u G2 => ∃ G' : zH, (SC Γ x (if 0 < pN T then (pA T, wUndo (pW T) (pU T (pN T - 1).toNat), pV T, pZ T, pU T, pN T - 1, pK T, pT T, pB T) else T) G' ∧ u = (if 0 < pN T then pN T - 1 else -1)) ∧ G2 = zmx cT Γ G' G)) :=
  zMet_rei cT_c hv8_0 (cC_undo (Γ := zre cT Γ) (x := x) (T := T) hX hg h hp hq hv)
theorem lC_run {l : Launch} {Γ : zΓ} {G : zH} {x : Nat} {T : pS} {a b : Int}  (hX : zXs Γ) (hg : SG Γ x) (h : SC Γ x T G) (hp : SP T) (hq : QQ Γ (mNow Γ x) (G.2.2 903 x) (pA T) (pW T) G) (hv : pK T ≠ 0 → QQ Γ (mImg Γ x) (G.2.2 903 x) (pA T) (pV T) G) : zMet l Γ yX8_run cX8_run 3 (some .int) 6 [zr 9 x, zi a, zi b] G (zpi (fun u G2 => ∃ G' : zH, (SC Γ x T G' ∧ u = (if ((0 ≤ a ∧ (pW T) 18 0 + a ≤ 100) ∧ 0 ≤ b ∧ b ≤ 999) then wFlour (wTry (pA T) (-1) 0 a.toNat (pW T)) b else -1)) ∧ G2 = zmx cT Γ G' G)) :=
  zMet_rei cT_c hv8_2 (cC_run (Γ := zre cT Γ) (x := x) (T := T) hX hg h hp hq hv)
theorem lC_tried {l : Launch} {Γ : zΓ} {G : zH} {x : Nat} {T : pS} {k i a b : Int}  (hX : zXs Γ) (hg : SG Γ x) (h : SC Γ x T G) (hp : SP T) (hq : QQ Γ (mNow Γ x) (G.2.2 903 x) (pA T) (pW T) G) (hv : pK T ≠ 0 → QQ Γ (mImg Γ x) (G.2.2 903 x) (pA T) (pV T) G) : zMet l Γ yX8_tried cX8_tried 5 (some .int) 6 [zr 9 x, zi k, zi i, zi a, zi b] G (zpi (fun u G2 => ∃ G' : zH, (SC Γ x T G' ∧ u = (if (((0 ≤ a ∧ (pW T) 18 0 + a ≤ 100) ∧ 0 ≤ b ∧ b ≤ 999) ∧ ((k = 1 ∧ 0 ≤ i ∧ i < (pA T) 4 1) ∨ (k = 2 ∧ 0 ≤ i ∧ i < (pA T) 4 0) ∨ ((k = 0 ∨ k = 3 ∨ k = 4) ∧ i = 0))) then wFlour (wTry (pA T) k i a.toNat (pW T)) b else -1)) ∧ G2 = zmx cT Γ G' G)) :=
  zMet_rei cT_c hv8_4 (cC_tried (Γ := zre cT Γ) (x := x) (T := T) hX hg h hp hq hv)
theorem lC_lies {l : Launch} {Γ : zΓ} {G : zH} {x : Nat} {T : pS} {a b k : Int}  (hX : zXs Γ) (hg : SG Γ x) (h : SC Γ x T G) (hp : SP T) (hq : QQ Γ (mNow Γ x) (G.2.2 903 x) (pA T) (pW T) G) (hv : pK T ≠ 0 → QQ Γ (mImg Γ x) (G.2.2 903 x) (pA T) (pV T) G) : zMet l Γ yX8_lies cX8_lies 7 (some .int) 3 [zr 9 x, zi a, zi b, zi k] G (zpi (fun u G2 => ∃ G' : zH, (SC Γ x T G' ∧ u = (if (0 ≤ a ∧ (0 ≤ b ∧ b < (pA T) 4 1) ∧ 1 ≤ k ∧ k ≤ 40) then (wLies (pA T) b k.toNat (up (pW T) 21 0 a)).1 else -1)) ∧ G2 = zmx cT Γ G' G)) :=
  zMet_rei cT_c hv8_3 (cC_lies (Γ := zre cT Γ) (x := x) (T := T) hX hg h hp hq hv)
theorem lC_plan {l : Launch} {Γ : zΓ} {G : zH} {x : Nat} {T : pS} {a k : Int}  (hX : zXs Γ) (hg : SG Γ x) (h : SC Γ x T G) (hp : SP T) (hq : QQ Γ (mNow Γ x) (G.2.2 903 x) (pA T) (pW T) G) (hv : pK T ≠ 0 → QQ Γ (mImg Γ x) (G.2.2 903 x) (pA T) (pV T) G) : zMet l Γ yX8_plan cX8_plan 3 (some .int) 19 [zr 9 x, zi a, zi k] G (zpi (fun u G2 => ∃ G' : zH, (SC Γ x T G') ∧ G2 = zmx cT Γ G' G)) :=
  zMet_rei cT_c hv8_2 (cC_plan (Γ := zre cT Γ) (x := x) (T := T) hX hg h hp hq hv)
theorem lC_planned {l : Launch} {Γ : zΓ} {G : zH} {x : Nat} {T : pS} {a b k : Int}  (hX : zXs Γ) (hg : SG Γ x) (h : SC Γ x T G) (hp : SP T) (hq : QQ Γ (mNow Γ x) (G.2.2 903 x) (pA T) (pW T) G) (hv : pK T ≠ 0 → QQ Γ (mImg Γ x) (G.2.2 903 x) (pA T) (pV T) G) : zMet l Γ yX8_planned cX8_planned 5 (some .int) 19 [zr 9 x, zi a, zi b, zi k] G (zpi (fun u G2 => ∃ G' : zH, (SC Γ x T G') ∧ G2 = zmx cT Γ G' G)) :=
  zMet_rei cT_c hv8_3 (cC_planned (Γ := zre cT Γ) (x := x) (T := T) hX hg h hp hq hv)
theorem lC_keep {l : Launch} {Γ : zΓ} {G : zH} {x : Nat} {T : pS}  (hX : zXs Γ) (hg : SG Γ x) (h : SC Γ x T G) (hp : SP T) (hq : QQ Γ (mNow Γ x) (G.2.2 903 x) (pA T) (pW T) G) (hv : pK T ≠ 0 → QQ Γ (mImg Γ x) (G.2.2 903 x) (pA T) (pV T) G) : zMet l Γ yX8_keep cX8_keep 1 (some .int) 3 [zr 9 x] G (zpi (fun u G2 => ∃ G' : zH, (∃ U : aS, SC Γ x (pA T, pW T, U, pZ T, pU T, pN T, 1, pT T, pB T) G' ∧ wCp U (pW T) ∧ u = (pW T) 18 0) ∧ G2 = zmx cT Γ G' G)) :=
  zMet_rei cT_c hv8_0 (cC_keep (Γ := zre cT Γ) (x := x) (T := T) hX hg h hp hq hv)
theorem lC_back {l : Launch} {Γ : zΓ} {G : zH} {x : Nat} {T : pS}  (hX : zXs Γ) (hg : SG Γ x) (h : SC Γ x T G) (hp : SP T) (hq : QQ Γ (mNow Γ x) (G.2.2 903 x) (pA T) (pW T) G) (hv : pK T ≠ 0 → QQ Γ (mImg Γ x) (G.2.2 903 x) (pA T) (pV T) G) : zMet l Γ yX8_back cX8_back 1 (some .int) 3 [zr 9 x] G (zpi (fun u G2 => ∃ G' : zH, (∃ U : aS, (pK T ≠ 0 → wCp U (pV T) ∧ ∀ j : Nat, U 17 j = (pW T) 17 j) ∧ SC Γ x (if pK T ≠ 0 then f0 T U else T) G' ∧ u = (if pK T ≠ 0 then (pV T) 18 0 else -1)) ∧ G2 = zmx cT Γ G' G)) :=
  zMet_rei cT_c hv8_0 (cC_back (Γ := zre cT Γ) (x := x) (T := T) hX hg h hp hq hv)
theorem lC_text {l : Launch} {Γ : zΓ} {G : zH} {x : Nat} {T : pS} {a : Int}  (hX : zXs Γ) (hg : SG Γ x) (h : SC Γ x T G) (hp : SP T) (hq : QQ Γ (mNow Γ x) (G.2.2 903 x) (pA T) (pW T) G) (hv : pK T ≠ 0 → QQ Γ (mImg Γ x) (G.2.2 903 x) (pA T) (pV T) G) : zMet l Γ yX8_text cX8_text 3 (some .int) 7 [zr 9 x, zi a] G (zpi (fun u G2 => ∃ G' : zH, (∃ A0 U : aS, sCl A0 ∧ (tOK T a A0 → wBeg (sLN (pB T) a 700 (sNext (pB T) a A0)) U ∧ ∀ j : Nat, U 17 j = (pW T) 17 j) ∧ SC Γ x (ptF T a A0 U) G') ∧ G2 = zmx cT Γ G' G)) :=
  zMet_rei cT_c hv8_1 (cC_text (Γ := zre cT Γ) (x := x) (T := T) hX hg h hp hq hv)
theorem lR_did {l : Launch} {Γ : zΓ} {G : zH} {w : Nat} {T : pS} {a b k : Int}  (hX : zXs Γ) (h : SR Γ w T G) (hp : SP T) : zMet l Γ yX9_did cX9_did 4 (some .int) 1 [zr 10 w, zi a, zi b, zi k] G (zpi (fun u G2 => ∃ G' : zH, (SR Γ w T G' ∧ u = (if ((0 ≤ a ∧ a < (pA T) 4 1) ∧ (0 ≤ b ∧ b < (pA T) 4 0)) then (if k = 0 then (pW T) 11 (a * 4 + b).toNat else if k = 1 then wL (pW T) a b else -1) else -1)) ∧ G2 = zmx rT Γ G' G)) :=
  zMet_rei rT_c hv9_3 (cR_did (Γ := zre rT Γ) (w := w) (T := T) hX h hp)
theorem lR_sack {l : Launch} {Γ : zΓ} {G : zH} {w : Nat} {T : pS} {a k : Int}  (hX : zXs Γ) (h : SR Γ w T G) (hp : SP T) : zMet l Γ yX9_sack cX9_sack 3 (some .int) 0 [zr 10 w, zi a, zi k] G (zpi (fun u G2 => ∃ G' : zH, (SR Γ w T G' ∧ u = (if 0 ≤ a ∧ a < (pW T) 0 0 then (if k = 0 then (pW T) 1 a.toNat else if k = 1 then (pW T) 2 a.toNat else if k = 2 then (pW T) 3 a.toNat else if k = 3 then (pW T) 5 a.toNat else if k = 4 then wLie (pW T) a ((pW T) 2 a.toNat) else -1) else -1)) ∧ G2 = zmx rT Γ G' G)) :=
  zMet_rei rT_c hv9_2 (cR_sack (Γ := zre rT Γ) (w := w) (T := T) hX h hp)
theorem lR_flour {l : Launch} {Γ : zΓ} {G : zH} {w : Nat} {T : pS} {a : Int}  (hX : zXs Γ) (h : SR Γ w T G) (hp : SP T) : zMet l Γ yX9_flour cX9_flour 2 (some .int) 2 [zr 10 w, zi a] G (zpi (fun u G2 => ∃ G' : zH, (SR Γ w T G' ∧ u = (if 0 ≤ a ∧ a ≤ 999 then wFlour (pW T) a else -1)) ∧ G2 = zmx rT Γ G' G)) :=
  zMet_rei rT_c hv9_1 (cR_flour (Γ := zre rT Γ) (w := w) (T := T) hX h hp)
theorem lR_baked {l : Launch} {Γ : zΓ} {G : zH} {w : Nat} {T : pS} {a : Int}  (hX : zXs Γ) (h : SR Γ w T G) (hp : SP T) : zMet l Γ yX9_baked cX9_baked 2 (some .int) 1 [zr 10 w, zi a] G (zpi (fun u G2 => ∃ G' : zH, (SR Γ w T G' ∧ u = (if 0 ≤ a ∧ a < (pA T) 4 2 then (if (pW T) 16 a.toNat = -1 then -2 else (pW T) 16 a.toNat) else -1)) ∧ G2 = zmx rT Γ G' G)) :=
  zMet_rei rT_c hv9_1 (cR_baked (Γ := zre rT Γ) (w := w) (T := T) hX h hp)
theorem lR_fault {l : Launch} {Γ : zΓ} {G : zH} {w : Nat} {T : pS} {a : Int}  (hX : zXs Γ) (h : SR Γ w T G) (hp : SP T) : zMet l Γ yX9_fault cX9_fault 2 (some .int) 0 [zr 10 w, zi a] G (zpi (fun u G2 => ∃ G' : zH, (SR Γ w T G') ∧ G2 = zmx rT Γ G' G)) :=
  zMet_rei rT_c hv9_1 (cR_fault (Γ := zre rT Γ) (w := w) (T := T) hX h hp)
theorem lR_named {l : Launch} {Γ : zΓ} {G : zH} {w : Nat} {T : pS} {a b : Int}  (hX : zXs Γ) (h : SR Γ w T G) (hp : SP T) : zMet l Γ yX9_named cX9_named 3 (some .int) 1 [zr 10 w, zi a, zi b] G (zpi (fun u G2 => ∃ G' : zH, (SR Γ w T G') ∧ G2 = zmx rT Γ G' G)) :=
  zMet_rei rT_c hv9_2 (cR_named (Γ := zre rT Γ) (w := w) (T := T) hX h hp)
theorem lR_count {l : Launch} {Γ : zΓ} {G : zH} {w : Nat} {T : pS} {a : Int}  (hX : zXs Γ) (h : SR Γ w T G) (hp : SP T) : zMet l Γ yX9_count cX9_count 2 (some .int) 1 [zr 10 w, zi a] G (zpi (fun u G2 => ∃ G' : zH, (SR Γ w T G') ∧ G2 = zmx rT Γ G' G)) :=
  zMet_rei rT_c hv9_1 (cR_count (Γ := zre rT Γ) (w := w) (T := T) hX h hp)
theorem lR_look {l : Launch} {Γ : zΓ} {G : zH} {w : Nat} {T : pS} {a b : Int}  (hX : zXs Γ) (h : SR Γ w T G) (hp : SP T) : zMet l Γ yX9_look cX9_look 3 (some .int) 2 [zr 10 w, zi a, zi b] G (zpi (fun u G2 => ∃ G' : zH, (SR Γ w T G') ∧ G2 = zmx rT Γ G' G)) :=
  zMet_rei rT_c hv9_2 (cR_look (Γ := zre rT Γ) (w := w) (T := T) hX h hp)
theorem lR_mills {l : Launch} {Γ : zΓ} {G : zH} {w : Nat} {T : pS} {a b k : Int}  (hX : zXs Γ) (h : SR Γ w T G) (hp : SP T) : zMet l Γ yX9_mills cX9_mills 10 (some .int) 1 [zr 10 w, zi a, zi b, zi k] G (zpi (fun u G2 => ∃ G' : zH, (SR Γ w T G') ∧ G2 = zmx rT Γ G' G)) :=
  zMet_rei rT_c hv9_3 (cR_mills (Γ := zre rT Γ) (w := w) (T := T) hX h hp)
theorem lR_plan {l : Launch} {Γ : zΓ} {G : zH} {w : Nat} {T : pS} {a k : Int}  (hX : zXs Γ) (h : SR Γ w T G) (hp : SP T) : zMet l Γ yX9_plan cX9_plan 3 (some .int) 8 [zr 10 w, zi a, zi k] G (zpi (fun u G2 => ∃ G' : zH, (SR Γ w T G') ∧ G2 = zmx rT Γ G' G)) :=
  zMet_rei rT_c hv9_2 (cR_plan (Γ := zre rT Γ) (w := w) (T := T) hX h hp)
theorem lR_planned {l : Launch} {Γ : zΓ} {G : zH} {w : Nat} {T : pS} {a b k : Int}  (hX : zXs Γ) (h : SR Γ w T G) (hp : SP T) : zMet l Γ yX9_planned cX9_planned 4 (some .int) 8 [zr 10 w, zi a, zi b, zi k] G (zpi (fun u G2 => ∃ G' : zH, (SR Γ w T G') ∧ G2 = zmx rT Γ G' G)) :=
  zMet_rei rT_c hv9_3 (cR_planned (Γ := zre rT Γ) (w := w) (T := T) hX h hp)
theorem lR_crumb {l : Launch} {Γ : zΓ} {G : zH} {w : Nat} {T : pS} {a k : Int}  (hX : zXs Γ) (h : SR Γ w T G) (hp : SP T) : zMet l Γ yX9_crumb cX9_crumb 9 (some .int) 4 [zr 10 w, zi a, zi k] G (zpi (fun u G2 => ∃ G' : zH, (SR Γ w T G') ∧ G2 = zmx rT Γ G' G)) :=
  zMet_rei rT_c hv9_2 (cR_crumb (Γ := zre rT Γ) (w := w) (T := T) hX h hp)
theorem lR_pairs {l : Launch} {Γ : zΓ} {G : zH} {w : Nat} {T : pS}  (hX : zXs Γ) (h : SR Γ w T G) (hp : SP T) : zMet l Γ yX9_pairs cX9_pairs 1 (some .long) 5 [zr 10 w] G (zpj (fun u G2 => ∃ G' : zH, (SR Γ w T G') ∧ G2 = zmx rT Γ G' G)) :=
  zMet_rej rT_c hv9_0 (cR_pairs (Γ := zre rT Γ) (w := w) (T := T) hX h hp)
theorem lR_paired {l : Launch} {Γ : zΓ} {G : zH} {w : Nat} {T : pS} {a : Int}  (hX : zXs Γ) (h : SR Γ w T G) (hp : SP T) : zMet l Γ yX9_paired cX9_paired 2 (some .int) 5 [zr 10 w, zi a] G (zpi (fun u G2 => ∃ G' : zH, (SR Γ w T G') ∧ G2 = zmx rT Γ G' G)) :=
  zMet_rei rT_c hv9_1 (cR_paired (Γ := zre rT Γ) (w := w) (T := T) hX h hp)
theorem lR_fine {l : Launch} {Γ : zΓ} {G : zH} {w : Nat} {T : pS} {a b : Int}  (hX : zXs Γ) (h : SR Γ w T G) (hp : SP T) : zMet l Γ yX9_fine cX9_fine 3 (some .int) 5 [zr 10 w, zi a, zi b] G (zpi (fun u G2 => ∃ G' : zH, (SR Γ w T G' ∧ u = (if ((0 ≤ a ∧ a < (pA T) 4 1) ∧ (0 ≤ b ∧ b < (pA T) 4 0)) then wFine (pA T) (pW T) a b else -1)) ∧ G2 = zmx rT Γ G' G)) :=
  zMet_rei rT_c hv9_2 (cR_fine (Γ := zre rT Γ) (w := w) (T := T) hX h hp)
theorem lR_fits {l : Launch} {Γ : zΓ} {G : zH} {w : Nat} {T : pS}  (hX : zXs Γ) (h : SR Γ w T G) (hp : SP T) : zMet l Γ yX9_fits cX9_fits 3 (some .int) 5 [zr 10 w] G (zpi (fun u G2 => ∃ G' : zH, (SR Γ w T G' ∧ u = wFB (pA T) (pW T)) ∧ G2 = zmx rT Γ G' G)) :=
  zMet_rei rT_c hv9_0 (cR_fits (Γ := zre rT Γ) (w := w) (T := T) hX h hp)
theorem lR_law {l : Launch} {Γ : zΓ} {G : zH} {w : Nat} {T : pS} {k a b : Int}  (hX : zXs Γ) (h : SR Γ w T G) (hp : SP T) : zMet l Γ yX9_law cX9_law 6 (some .long) 3 [zr 10 w, zi k, zi a, zi b] G (zpj (fun u G2 => ∃ G' : zH, (SR Γ w T G' ∧ u = (if (0 ≤ k ∧ k ≤ 3 ∧ (0 ≤ a ∧ a < (pA T) 4 1) ∧ (if k = 3 then a < b ∧ 0 ≤ b ∧ b < (pA T) 4 1 else (0 ≤ b ∧ b < (pA T) 4 0) ∧ (k = 2 → 0 < wL (pW T) a b))) ∧ (pA T) 16 k.toNat < (pA T) 17 k.toNat then (if k = 3 then wPair (pA T) (pW T) a b else wLaw (pA T) (pW T) k a b) else -9223372036854775808)) ∧ G2 = zmx rT Γ G' G)) :=
  zMet_rej rT_c hv9_3 (cR_law (Γ := zre rT Γ) (w := w) (T := T) hX h hp)
theorem lR_feed {l : Launch} {Γ : zΓ} {G : zH} {w : Nat} {T : pS} {a1 a2 a3 a4 a5 : Int}  (hX : zXs Γ) (h : SR Γ w T G) (hp : SP T) : zMet l Γ yX9_feed cX9_feed 8 (some .int) 0 [zr 10 w, zi a1, zi a2, zi a3, zi a4, zi a5] G (zpi (fun u G2 => ∃ G' : zH, (SR Γ w (fF T a1 a2 a3 a4 a5) G' ∧ u = (if pT T + 20 ≤ 700 then pT T + 20 else -1)) ∧ G2 = zmx rT Γ G' G)) :=
  zMet_rei rT_c hv9_5 (cR_feed (Γ := zre rT Γ) (w := w) (T := T) hX h hp)
theorem lR_confess {l : Launch} {Γ : zΓ} {G : zH} {w : Nat} {T : pS} {a b : Int}  (hX : zXs Γ) (h : SR Γ w T G) (hp : SP T) : zMet l Γ yX9_confess cX9_confess 3 (some .int) 6 [zr 10 w, zi a, zi b] G (zpi (fun u G2 => ∃ G' : zH, (SR Γ w (if (((0 ≤ a ∧ a < (pA T) 4 1) ∧ (0 ≤ b ∧ b < (pA T) 4 0)) ∧ wCan (pW T)) then fP T (wGrind (pA T) (pW T) a b 1) 0 else T) G' ∧ u = (if ((0 ≤ a ∧ a < (pA T) 4 1) ∧ (0 ≤ b ∧ b < (pA T) 4 0)) then (if wCan (pW T) then (pW T) 0 0 else -2) else -1)) ∧ G2 = zmx rT Γ G' G)) :=
  zMet_rei rT_c hv9_2 (cR_confess (Γ := zre rT Γ) (w := w) (T := T) hX h hp)
theorem lR_fall {l : Launch} {Γ : zΓ} {G : zH} {w : Nat} {T : pS} {a b : Int}  (hX : zXs Γ) (h : SR Γ w T G) (hp : SP T) : zMet l Γ yX9_fall cX9_fall 3 (some .int) 2 [zr 10 w, zi a, zi b] G (zpi (fun u G2 => ∃ G' : zH, (SR Γ w (if (((0 ≤ a ∧ a < (pA T) 4 1) ∧ (0 ≤ b ∧ b < (pA T) 4 0)) ∧ (pW T) 11 (a * 4 + b).toNat < 99) then fP T (wFall (pW T) a b) (1 + a * 4 + b) else T) G' ∧ u = (if ((0 ≤ a ∧ a < (pA T) 4 1) ∧ (0 ≤ b ∧ b < (pA T) 4 0)) then (if (pW T) 11 (a * 4 + b).toNat < 99 then (pW T) 15 a.toNat + 1 else -2) else -1)) ∧ G2 = zmx rT Γ G' G)) :=
  zMet_rei rT_c hv9_2 (cR_fall (Γ := zre rT Γ) (w := w) (T := T) hX h hp)
theorem lR_bake {l : Launch} {Γ : zΓ} {G : zH} {w : Nat} {T : pS} {a : Int}  (hX : zXs Γ) (h : SR Γ w T G) (hp : SP T) : zMet l Γ yX9_bake cX9_bake 2 (some .boolean) 2 [zr 10 w, zi a] G (zpi (fun u G2 => ∃ G' : zH, (SR Γ w (if ((0 ≤ a ∧ a < (pA T) 4 2) ∧ (pW T) 18 0 ≤ (pA T) 11 a.toNat ∧ wCanB (pA T) (pW T) a) then fP T (wBake (pA T) (pW T) a) (21 + a) else T) G' ∧ u = (if ((0 ≤ a ∧ a < (pA T) 4 2) ∧ (pW T) 18 0 ≤ (pA T) 11 a.toNat ∧ wCanB (pA T) (pW T) a) then 1 else 0)) ∧ G2 = zmx rT Γ G' G)) :=
  zMet_rei rT_c hv9_1 (cR_bake (Γ := zre rT Γ) (w := w) (T := T) hX h hp)
theorem lR_ask {l : Launch} {Γ : zΓ} {G : zH} {w : Nat} {T : pS} {a : Int}  (hX : zXs Γ) (h : SR Γ w T G) (hp : SP T) : zMet l Γ yX9_ask cX9_ask 3 (some .int) 6 [zr 10 w, zi a] G (zpi (fun u G2 => ∃ G' : zH, (SR Γ w (if (((0 ≤ a ∧ a < (pA T) 4 1) ∧ wCan (pW T)) ∧ (wAskV (pA T) (pW T) a) ≠ -1) then fP T (wGrind (pA T) (wAsk (pA T) (pW T) a) a (wAskV (pA T) (pW T) a) 1) 0 else if ((0 ≤ a ∧ a < (pA T) 4 1) ∧ wCan (pW T)) then pfW T (wAsk (pA T) (pW T) a) else T) G' ∧ u = (if (0 ≤ a ∧ a < (pA T) 4 1) then (if wCan (pW T) then (if (wAskV (pA T) (pW T) a) = -1 then -3 else (pW T) 0 0) else -2) else -1)) ∧ G2 = zmx rT Γ G' G)) :=
  zMet_rei rT_c hv9_1 (cR_ask (Γ := zre rT Γ) (w := w) (T := T) hX h hp)
theorem lR_days {l : Launch} {Γ : zΓ} {G : zH} {w : Nat} {T : pS} {a : Int}  (hX : zXs Γ) (h : SR Γ w T G) (hp : SP T) : zMet l Γ yX9_days cX9_days 3 (some .int) 7 [zr 10 w, zi a] G (zpi (fun u G2 => ∃ G' : zH, (SR Γ w (if (0 ≤ a ∧ (pW T) 18 0 + a ≤ 100) ∧ 0 < a then f0 T (wDays (pA T) a.toNat (pW T)) else T) G' ∧ u = (if (0 ≤ a ∧ (pW T) 18 0 + a ≤ 100) then (pW T) 18 0 + a else -1)) ∧ G2 = zmx rT Γ G' G)) :=
  zMet_rei rT_c hv9_1 (cR_days (Γ := zre rT Γ) (w := w) (T := T) hX h hp)
theorem lR_known {l : Launch} {Γ : zΓ} {G : zH} {w : Nat} {T : pS} {a : Int}  (hX : zXs Γ) (h : SR Γ w T G) (hp : SP T) : zMet l Γ yX9_known cX9_known 2 (some .boolean) 1 [zr 10 w, zi a] G (zpi (fun u G2 => ∃ G' : zH, (SR Γ w (if (-1 ≤ a ∧ a ≤ (pW T) 0 0) then pfW T (up (pW T) 22 0 a) else T) G' ∧ (u = 0 ∨ u = 1) ∧ (u = 1 ↔ (-1 ≤ a ∧ a ≤ (pW T) 0 0))) ∧ G2 = zmx rT Γ G' G)) :=
  zMet_rei rT_c hv9_1 (cR_known (Γ := zre rT Γ) (w := w) (T := T) hX h hp)
theorem lR_undo {l : Launch} {Γ : zΓ} {G : zH} {w : Nat} {T : pS}  (hX : zXs Γ) (h : SR Γ w T G) (hp : SP T) : zMet l Γ yX9_undo cX9_undo 1 (some .int) 1 [zr 10 w] G (zpi (fun u G2 => ∃ G' : zH, (SR Γ w (if 0 < pN T then (pA T, wUndo (pW T) (pU T (pN T - 1).toNat), pV T, pZ T, pU T, pN T - 1, pK T, pT T, pB T) else T) G' ∧ u = (if 0 < pN T then pN T - 1 else -1)) ∧ G2 = zmx rT Γ G' G)) :=
  zMet_rei rT_c hv9_0 (cR_undo (Γ := zre rT Γ) (w := w) (T := T) hX h hp)
theorem lR_run {l : Launch} {Γ : zΓ} {G : zH} {w : Nat} {T : pS} {a b : Int}  (hX : zXs Γ) (h : SR Γ w T G) (hp : SP T) : zMet l Γ yX9_run cX9_run 3 (some .int) 8 [zr 10 w, zi a, zi b] G (zpi (fun u G2 => ∃ G' : zH, (SR Γ w T G' ∧ u = (if ((0 ≤ a ∧ (pW T) 18 0 + a ≤ 100) ∧ 0 ≤ b ∧ b ≤ 999) then wFlour (wTry (pA T) (-1) 0 a.toNat (pW T)) b else -1)) ∧ G2 = zmx rT Γ G' G)) :=
  zMet_rei rT_c hv9_2 (cR_run (Γ := zre rT Γ) (w := w) (T := T) hX h hp)
theorem lR_tried {l : Launch} {Γ : zΓ} {G : zH} {w : Nat} {T : pS} {k i a b : Int}  (hX : zXs Γ) (h : SR Γ w T G) (hp : SP T) : zMet l Γ yX9_tried cX9_tried 5 (some .int) 8 [zr 10 w, zi k, zi i, zi a, zi b] G (zpi (fun u G2 => ∃ G' : zH, (SR Γ w T G' ∧ u = (if (((0 ≤ a ∧ (pW T) 18 0 + a ≤ 100) ∧ 0 ≤ b ∧ b ≤ 999) ∧ ((k = 1 ∧ 0 ≤ i ∧ i < (pA T) 4 1) ∨ (k = 2 ∧ 0 ≤ i ∧ i < (pA T) 4 0) ∨ ((k = 0 ∨ k = 3 ∨ k = 4) ∧ i = 0))) then wFlour (wTry (pA T) k i a.toNat (pW T)) b else -1)) ∧ G2 = zmx rT Γ G' G)) :=
  zMet_rei rT_c hv9_4 (cR_tried (Γ := zre rT Γ) (w := w) (T := T) hX h hp)
theorem lR_lies {l : Launch} {Γ : zΓ} {G : zH} {w : Nat} {T : pS} {a b k : Int}  (hX : zXs Γ) (h : SR Γ w T G) (hp : SP T) : zMet l Γ yX9_lies cX9_lies 9 (some .int) 3 [zr 10 w, zi a, zi b, zi k] G (zpi (fun u G2 => ∃ G' : zH, (SR Γ w T G' ∧ u = (if (0 ≤ a ∧ (0 ≤ b ∧ b < (pA T) 4 1) ∧ 1 ≤ k ∧ k ≤ 40) then (wLies (pA T) b k.toNat (up (pW T) 21 0 a)).1 else -1)) ∧ G2 = zmx rT Γ G' G)) :=
  zMet_rei rT_c hv9_3 (cR_lies (Γ := zre rT Γ) (w := w) (T := T) hX h hp)
theorem lR_keep {l : Launch} {Γ : zΓ} {G : zH} {w : Nat} {T : pS}  (hX : zXs Γ) (h : SR Γ w T G) (hp : SP T) : zMet l Γ yX9_keep cX9_keep 2 (some .int) 1 [zr 10 w] G (zpi (fun u G2 => ∃ G' : zH, ((∀ U : aS, wCp U (pW T) → SR Γ w (pA T, pW T, U, pZ T, pU T, pN T, 1, pT T, pB T) G') ∧ u = (pW T) 18 0) ∧ G2 = zmx rT Γ G' G)) :=
  zMet_rei rT_c hv9_0 (cR_keep (Γ := zre rT Γ) (w := w) (T := T) hX h hp)
theorem lR_back {l : Launch} {Γ : zΓ} {G : zH} {w : Nat} {T : pS}  (hX : zXs Γ) (h : SR Γ w T G) (hp : SP T) : zMet l Γ yX9_back cX9_back 2 (some .int) 1 [zr 10 w] G (zpi (fun u G2 => ∃ G' : zH, ((∀ U : aS, (pK T ≠ 0 → wCp U (pV T)) → SR Γ w (if pK T ≠ 0 then f0 T U else T) G') ∧ u = (if pK T ≠ 0 then (pV T) 18 0 else -1)) ∧ G2 = zmx rT Γ G' G)) :=
  zMet_rei rT_c hv9_0 (cR_back (Γ := zre rT Γ) (w := w) (T := T) hX h hp)
theorem lR_text {l : Launch} {Γ : zΓ} {G : zH} {w : Nat} {T : pS} {a : Int} {A0 U : aS} (hA : sCl A0) (hU : tOK T a A0 → wBeg (sLN (pB T) a 700 (sNext (pB T) a A0)) U)  (hX : zXs Γ) (h : SR Γ w T G) (hp : SP T) : zMet l Γ yX9_text cX9_text 3 (some .int) 6 [zr 10 w, zi a] G (zpi (fun u G2 => ∃ G' : zH, (SR Γ w (ptF T a A0 U) G') ∧ G2 = zmx rT Γ G' G)) :=
  zMet_rei rT_c hv9_1 (cR_text (Γ := zre rT Γ) (w := w) (T := T) hA hU hX h hp)
