theorem dgn_ge {b : Nat → Int} {n : Int} : ∀ (k : Nat) (p a : Int), 0 ≤ a → 0 ≤ dgn b n k p a
  | 0, _, a, h => h
  | k + 1, p, a, h => by
    rw [dgn]
    split
    · rename_i h1
      have h2 := fD_i.mp h1.2
      exact dgn_ge k _ _ (by omega)
    · exact h
theorem tkV_3 {b : Nat → Int} {n : Int} {A : aS} (h : tK b n A = 3) : 0 ≤ tV b n A := by
  unfold tK tkK at h
  unfold tV tkV
  split at h
  · exact absurd h (by decide)
  · rename_i h1
    rw [if_neg h1]
    split at h
    · split at h
      · exact absurd h (by decide)
      · split at h <;> exact absurd h (by decide)
    · rename_i h2
      rw [if_neg h2]
      split at h
      · rename_i h3
        rw [if_pos h3]
        exact dgn_ge _ _ _ (by decide)
      · split at h <;> exact absurd h (by decide)
theorem sNext_00 {b : Nat → Int} {n : Int} {A B : aS} (e : A 0 0 = B 0 0) : (sNext b n A) 0 0 = (sNext b n B) 0 0 := by
  obtain ⟨-, h, -⟩ := tk_00 (b := b) (n := n) e
  unfold sNext
  rw [h, e]
  split
  · rw [up_eq, up_eq]
  · exact e
theorem gT_adv {b : Nat → Int} {n : Int} {Γ : zΓ} {w : Nat} {A : aS} {G G1 : zH} (h : gT b n Γ w A G) (h1 : gT b n Γ w (sNext b n A) G1) (hk : tK b n A ≠ 0) : G.1 1010 w 0 < G1.1 1010 w 0 := by
  rw [h.2.2.2.2.1, h1.2.2.2.2.1, (tP_next h.2.2.1 h.2.2.2.1).1]
  have q := tkN_gt (b := b) (tK_lt.mp hk)
  have q2 := sp_ge (f := fB) (b := b) (n := n) (p := tkN b n (tP b n A))
  rw [← sk] at q2
  omega
theorem sCount_64 {b : Nat → Int} {n : Int} {A : aS} (h : 64 ≤ A 21 0) : sCount b n A = sFail b n 2 A := by
  have hc : sCnt b n A = sFail b n 2 A := if_pos h
  unfold sCount
  rw [hc, if_neg (sFail_f (by decide))]
theorem sCount_lt {b : Nat → Int} {n : Int} {A : aS} (h0 : A 1 0 = 0) (h : A 21 0 < 64) : sCount b n A = up A 21 0 (A 21 0 + 1) := by
  have hc : sCnt b n A = A := if_neg (by omega)
  unfold sCount
  rw [hc, if_pos h0]
def gX (b : Nat → Int) (n : Int) (Γ : zΓ) (w : Nat) (A : aS) (G : zH) : Prop := gT b n Γ w A G ∧ gK Γ w A G ∧ gE Γ w A G ∧ A 1 0 = 0 ∧ G.1 1004 w 0 = 0 ∧ G.1 1005 w 0 = A 2 0
theorem sPush_at {b : Nat → Int} {n k : Int} {A : aS} (h : A 22 0 < 72) : sPush b n k A = sNext b n (up (up A 26 (A 22 0).toNat k) 22 0 (A 22 0 + 1)) := if_pos h
theorem sLeaf_ok {b : Nat → Int} {n k q : Int} {A : aS} (h0 : A 1 0 = 0) (h : A 21 0 < 64) (hs : A 20 0 < 64) : sLeaf b n k q A = sNext b n (up (up (up (up (up (up (up (up (up A 21 0 (A 21 0 + 1)) 27 (A 20 0).toNat q) 28 (A 20 0).toNat 0) 30 (A 29 0).toNat (A 20 0)) 29 0 (A 29 0 + 1)) 18 (A 20 0).toNat k) 19 (A 20 0).toNat q) 20 0 (A 20 0 + 1)) 24 0 0) := by
  unfold sLeaf
  rw [sCount_lt h0 h, if_pos (by rw [up_f (by decide)]; exact h0)]
  unfold gLeaf
  rw [sW_at (by simp (disch := decide) only [up_f, up_eq]; exact hs)]
  simp (disch := decide) only [up_f, up_eq]
theorem sSide_open {b : Nat → Int} {n : Int} {A : aS} (h : tK b n A = 4 ∧ tV b n A = 15) : sSide b n A = sOpen b n A := if_pos h
theorem sSide_op {b : Nat → Int} {n : Int} {A : aS} (h : tK b n A = 4 ∧ tV b n A = 15) (h8 : A 23 0 < 8) (h72 : A 22 0 < 72) : sSide b n A = sNext b n (up (up (up (up A 23 0 (A 23 0 + 1)) 25 0 1) 26 (A 22 0).toNat 15) 22 0 (A 22 0 + 1)) := by
  rw [sSide_open h]
  unfold sOpen
  rw [if_neg (by omega), sPush_at (by simp (disch := decide) only [up_f]; omega)]
  simp (disch := decide) only [up_f]
theorem sSide_op8 {b : Nat → Int} {n : Int} {A : aS} (h : tK b n A = 4 ∧ tV b n A = 15) (h8 : 8 ≤ A 23 0) : sSide b n A = sFail b n 2 A := by
  rw [sSide_open h]
  unfold sOpen
  rw [if_pos h8]
theorem sSide_not {b : Nat → Int} {n : Int} {A : aS} (h : tK b n A = 2 ∧ tV b n A = 16) (hm : A 25 0 ≠ 0) : sSide b n A = sNot b n A := by
  have e := (tW_c (b := b) (n := n) (A := A)).1 h.1
  unfold sSide
  rw [if_neg (by omega), if_pos (by omega)]
theorem sSide_nt {b : Nat → Int} {n : Int} {A : aS} (h : tK b n A = 2 ∧ tV b n A = 16) (hm : A 25 0 ≠ 0) (h0 : A 1 0 = 0) (h64 : A 21 0 < 64) (h72 : A 22 0 < 72) : sSide b n A = sNext b n (up (up (up A 21 0 (A 21 0 + 1)) 26 (A 22 0).toNat 4) 22 0 (A 22 0 + 1)) := by
  rw [sSide_not h hm]
  unfold sNot
  rw [sCount_lt h0 h64, if_pos (by rw [up_f (by decide)]; exact h0), sPush_at (by simp (disch := decide) only [up_f]; omega)]
  simp (disch := decide) only [up_f]
theorem sSide_nt64 {b : Nat → Int} {n : Int} {A : aS} (h : tK b n A = 2 ∧ tV b n A = 16) (hm : A 25 0 ≠ 0) (h64 : 64 ≤ A 21 0) : sSide b n A = sFail b n 2 A := by
  rw [sSide_not h hm]
  unfold sNot
  rw [sCount_64 h64, if_neg (sFail_f (by decide))]
theorem sSide_num {b : Nat → Int} {n : Int} {A : aS} (h : tK b n A = 3) (hv : tV b n A ≤ 9999) : sSide b n A = sLeaf b n 0 (tV b n A) A := by
  have e := (tW_c (b := b) (n := n) (A := A)).2 (by omega)
  unfold sSide
  rw [if_neg (by omega), if_neg (by omega), if_pos h, if_neg (by omega)]
theorem sSide_big {b : Nat → Int} {n : Int} {A : aS} (h : tK b n A = 3) (hv : 9999 < tV b n A) : sSide b n A = sFail b n 2 A := by
  have e := (tW_c (b := b) (n := n) (A := A)).2 (by omega)
  unfold sSide
  rw [if_neg (by omega), if_neg (by omega), if_pos h, if_pos hv]
  unfold sLeaf
  rw [sCount_ne (sFail_f (by decide)), if_neg (sFail_f (by decide))]
theorem sSide_name {b : Nat → Int} {n : Int} {A : aS} (h : tK b n A = 2) (hv : 17 ≤ tV b n A) : sSide b n A = sLeaf b n 1 (tV b n A - 17) A := by
  have e := (tW_c (b := b) (n := n) (A := A)).1 h
  unfold sSide
  rw [if_neg (by omega), if_neg (by omega), if_neg (by omega), if_pos (by omega), e]
theorem sSide_no {b : Nat → Int} {n : Int} {A : aS} (h1 : ¬ (tK b n A = 4 ∧ tV b n A = 15)) (h2 : ¬ (tK b n A = 2 ∧ tV b n A = 16 ∧ A 25 0 ≠ 0)) (h3 : tK b n A ≠ 3) (h4 : ¬ (tK b n A = 2 ∧ 17 ≤ tV b n A)) : sSide b n A = sFail b n 1 A := by
  have e := tW_c (b := b) (n := n) (A := A)
  unfold sSide
  rw [if_neg h1, if_neg (by omega), if_neg h3, if_neg (by omega)]
theorem sLeaf_64 {b : Nat → Int} {n k q : Int} {A : aS} (h : 64 ≤ A 21 0) : sLeaf b n k q A = sFail b n 2 A := by
  unfold sLeaf
  rw [sCount_64 h, if_neg (sFail_f (by decide))]
/-- a side that is a name or a number: which of them, and what it is -/
def lfX (b : Nat → Int) (n : Int) (A : aS) (x v : Int) : Prop := (0 ≤ x ∧ x ≤ 6 ∧ tK b n A = 2 ∧ 17 ≤ tV b n A ∧ x = tV b n A - 17) ∨ (x < 0 ∧ tK b n A = 3 ∧ v = tV b n A ∧ tV b n A ≤ 9999)
theorem lfX_s {b : Nat → Int} {n : Int} {A : aS} {x v : Int} (h : lfX b n A x v) : (0 ≤ x → x ≤ 6 ∧ sSide b n A = sLeaf b n 1 x A) ∧ (x < 0 → 0 ≤ v ∧ v ≤ 9999 ∧ sSide b n A = sLeaf b n 0 v A) ∧ tK b n A ≠ 0 := by
  rcases h with ⟨h1, h2, h3, h4, h5⟩ | ⟨h1, h2, h3, h4⟩
  · exact ⟨fun _ => ⟨h2, by rw [sSide_name h3 h4, h5]⟩, fun q => by omega, by omega⟩
  · refine ⟨fun q => by omega, fun _ => ⟨?_, by omega, by rw [sSide_num h2 h4, h3]⟩, by omega⟩
    rw [h3]
    exact tkV_3 h2
theorem nm_c {b : Nat → Int} {n : Int} {Γ : zΓ} {w : Nat} {A : aS} {G : zH} {x : Int} (hG : gT b n Γ w A G) (h : -1 ≤ x ∧ (x ≠ -1 → G.1 1008 w 0 = 1 ∧ 17 ≤ G.1 1009 w 0 ∧ x = G.1 1009 w 0 - 17) ∧ (x = -1 → ¬ (G.1 1008 w 0 = 1 ∧ 17 ≤ G.1 1009 w 0))) : (x = -1 ∧ ¬ (tK b n A = 2 ∧ 17 ≤ tV b n A)) ∨ (0 ≤ x ∧ x ≤ 6 ∧ tK b n A = 2 ∧ 17 ≤ tV b n A ∧ x = tV b n A - 17) := by
  have h1 := gT_key hG
  by_cases q : x = -1
  · refine Or.inl ⟨q, fun q2 => h.2.2 q ?_⟩
    have h2 := h1.2 q2.1
    exact ⟨h1.1.mpr q2.1, by omega⟩
  · have h3 := h.2.1 q
    have h4 := h1.1.mp h3.1
    have h2 := h1.2 h4
    refine Or.inr ?_
    omega
theorem gT_kw {b : Nat → Int} {n : Int} {Γ : zΓ} {w : Nat} {A : aS} {G : zH} (hG : gT b n Γ w A G) {k v : Int} (hk : (k = 9 ∧ v = 2) ∨ (k = 14 ∧ v = 15) ∨ (k = 15 ∧ v = 14) ∨ (k = 16 ∧ v = 16)) : (G.1 1008 w 0 = 1 ∧ G.1 1009 w 0 = k) ↔ (tK b n A = 2 ∧ tV b n A = v) := by
  have q8 := gT_key hG
  constructor
  · intro q
    have q6 := q8.1.mp q.1
    have q5 := q8.2 q6
    rcases hk with ⟨rfl, rfl⟩ | ⟨rfl, rfl⟩ | ⟨rfl, rfl⟩ | ⟨rfl, rfl⟩ <;> omega
  · intro q
    have q5 := q8.2 q.1
    refine ⟨q8.1.mpr q.1, ?_⟩
    rcases hk with ⟨rfl, rfl⟩ | ⟨rfl, rfl⟩ | ⟨rfl, rfl⟩ | ⟨rfl, rfl⟩ <;> omega

theorem gX_push {b : Nat → Int} {n k : Int} {Γ : zΓ} {w : Nat} {A B C : aS} {G G1 : zH} (hk : 2 ≤ k ∧ k ≤ 15) (h0 : 0 ≤ A 22 0) (hT : gT b n Γ w (sNext b n A) G1) (hK : gK Γ w A G) (hE : gE Γ w A G)
    (hB : B = sNext b n (up (up C 26 (A 22 0).toNat k) 22 0 (A 22 0 + 1))) (c0 : C 0 0 = A 0 0) (c1 : C 1 0 = 0) (c2 : C 2 0 = A 2 0) (cK : ∀ f j, f = 18 ∨ f = 20 ∨ f = 27 ∨ f = 28 → C f j = A f j) (cE : ∀ f j, f = 26 ∨ f = 29 ∨ f = 30 → C f j = A f j)
    (e4 : G1.1 1004 w 0 = 0) (e5 : G1.1 1005 w 0 = A 2 0) (e42 : G1.1 1042 w 0 = A 22 0 + 1) (e43 : G1.1 1043 w 0 = A 29 0) (e44 : G1.1 1044 w 0 = C 23 0) (e46 : G1.1 1046 w 0 = C 24 0) (e47 : G1.1 1047 w 0 = C 25 0) (e21 : G1.1 1021 w 0 = A 20 0) (e45 : G1.1 1045 w 0 = C 21 0)
    (h74 : G1.1 2074 = G.1 2074) (h75 : G1.1 2075 = G.1 2075) (h76 : G1.1 2076 = G.1 2076) (h78 : G1.1 2078 = G.1 2078) (h77 : ∀ j, G1.1 2077 (Γ.2.1 w 40) j = if j = (A 22 0).toNat then rk k else G.1 2077 (Γ.2.1 w 40) j) : gX b n Γ w B G1 := by
  subst hB
  refine ⟨gT_A (A := sNext b n A) (sNext_00 (by rw [up_f (by decide), up_f (by decide)]; exact c0.symm)) hT, ?_, ?_, ?_, e4, ?_⟩
  · refine ⟨?_, ?_, fun j hj => ?_⟩
    · simp (disch := decide) only [sNext_f, up_f, up_eq, up_at]
      rw [cK 20 0 (by omega)]
      exact e21
    · simp (disch := decide) only [sNext_f, up_f, up_eq, up_at]
      exact e45
    · (simp (disch := decide) only [sNext_f, up_f, up_eq, up_at] at hj)
      rw [cK 20 0 (by omega)] at hj
      simp (disch := decide) only [sNext_f, up_f, up_eq, up_at]
      rw [cK 18 j (by omega), cK 27 j (by omega), cK 28 j (by omega), h74, h75, h76]
      exact hK.2.2 j hj
  · refine gE_push (A := A) (G := G) (k := k) hk h0 ?_ (fun j => ?_) ?_ (fun j => ?_) e42 e43 ?_ ?_ ?_ h77 (fun j => by rw [h78]) hE
    · simp (disch := decide) only [sNext_f, up_f, up_eq, up_at]
    · simp (disch := decide) only [sNext_f, up_f, up_eq, up_at]
      rw [cE 26 j (by omega)]
    · simp (disch := decide) only [sNext_f, up_f, up_eq, up_at]
      exact cE 29 0 (by omega)
    · simp (disch := decide) only [sNext_f, up_f, up_eq, up_at]
      exact cE 30 j (by omega)
    · simp (disch := decide) only [sNext_f, up_f, up_eq, up_at]
      exact e44
    · simp (disch := decide) only [sNext_f, up_f, up_eq, up_at]
      exact e46
    · simp (disch := decide) only [sNext_f, up_f, up_eq, up_at]
      exact e47
  · simp (disch := decide) only [sNext_f, up_f, up_eq, up_at]
    exact c1
  · simp (disch := decide) only [sNext_f, up_f, up_eq, up_at]
    rw [c2]
    exact e5
theorem gX_leaf {b : Nat → Int} {n k q : Int} {Γ : zΓ} {w : Nat} {A B : aS} {G G1 : zH} (h20 : 0 ≤ A 20 0) (h29 : 0 ≤ A 29 0) (h0 : A 1 0 = 0) (hT : gT b n Γ w (sNext b n A) G1) (hK : gK Γ w A G) (hE : gE Γ w A G)
    (hB : B = sNext b n (up (up (up (up (up (up (up (up (up A 21 0 (A 21 0 + 1)) 27 (A 20 0).toNat q) 28 (A 20 0).toNat 0) 30 (A 29 0).toNat (A 20 0)) 29 0 (A 29 0 + 1)) 18 (A 20 0).toNat k) 19 (A 20 0).toNat q) 20 0 (A 20 0 + 1)) 24 0 0))
    (e4 : G1.1 1004 w 0 = 0) (e5 : G1.1 1005 w 0 = A 2 0) (e42 : G1.1 1042 w 0 = A 22 0) (e43 : G1.1 1043 w 0 = A 29 0 + 1) (e44 : G1.1 1044 w 0 = A 23 0) (e46 : G1.1 1046 w 0 = 0) (e47 : G1.1 1047 w 0 = A 25 0) (e21 : G1.1 1021 w 0 = A 20 0 + 1) (e45 : G1.1 1045 w 0 = A 21 0 + 1) (h77 : G1.1 2077 = G.1 2077)
    (h78 : ∀ j, G1.1 2078 (Γ.2.1 w 41) j = if j = (A 29 0).toNat then A 20 0 else G.1 2078 (Γ.2.1 w 41) j) (h74 : ∀ j, G1.1 2074 (Γ.2.1 w 37) j = if j = (64 + A 20 0).toNat then rk k else G.1 2074 (Γ.2.1 w 37) j) (h75 : ∀ j, G1.1 2075 (Γ.2.1 w 38) j = if j = (64 + A 20 0).toNat then q else G.1 2075 (Γ.2.1 w 38) j) (h76 : ∀ j, G1.1 2076 (Γ.2.1 w 39) j = if j = (64 + A 20 0).toNat then 0 else G.1 2076 (Γ.2.1 w 39) j) : gX b n Γ w B G1 := by
  subst hB
  refine ⟨gT_A (A := sNext b n A) (sNext_00 (by simp (disch := decide) only [up_f])) hT, ?_, ?_, ?_, e4, ?_⟩
  · refine gK_add (A := A) (G := G) (k := k) (p := q) (q := 0) h20 ?_ (fun j => ?_) (fun j => ?_) (fun j => ?_) e21 ?_ h74 h75 h76 hK
    · simp (disch := decide) only [sNext_f, up_f, up_eq, up_at]
    · simp (disch := decide) only [sNext_f, up_f, up_eq, up_at]
    · simp (disch := decide) only [sNext_f, up_f, up_eq, up_at]
    · simp (disch := decide) only [sNext_f, up_f, up_eq, up_at]
    · simp (disch := decide) only [sNext_f, up_f, up_eq, up_at]
      exact e45
  · obtain ⟨k1, k2, k3, k4, k5, k6, k7⟩ := hE
    refine ⟨by simp (disch := decide) only [sNext_f, up_f, up_eq, up_at]; exact e42, by simp (disch := decide) only [sNext_f, up_f, up_eq, up_at]; exact e43, by simp (disch := decide) only [sNext_f, up_f, up_eq, up_at]; exact e44, by simp (disch := decide) only [sNext_f, up_f, up_eq, up_at]; exact e46, by simp (disch := decide) only [sNext_f, up_f, up_eq, up_at]; exact e47, fun j hj => ?_, fun j hj => ?_⟩
    · (simp (disch := decide) only [sNext_f, up_f, up_eq, up_at] at hj)
      simp (disch := decide) only [sNext_f, up_f, up_eq, up_at]
      rw [h77]
      exact k6 j hj
    · (simp (disch := decide) only [sNext_f, up_f, up_eq, up_at] at hj)
      simp (disch := decide) only [sNext_f, up_f, up_eq, up_at]
      rw [h78]
      split
      · rfl
      · exact k7 j (by omega)
  · simp (disch := decide) only [sNext_f, up_f, up_eq, up_at]
    exact h0
  · simp (disch := decide) only [sNext_f, up_f, up_eq, up_at]
    exact e5
