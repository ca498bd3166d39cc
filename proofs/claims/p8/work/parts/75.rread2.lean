theorem up_at {A : aS} {f i j : Nat} {v : Int} : up A f i v f j = if j = i then v else A f j := by
  by_cases h : j = i
  · rw [h, up_eq, if_pos rfl]
  · rw [up_j h, if_neg h]
def rk (k : Int) : Int := if k = 2 then 4 else if k = 4 then 2 else if k = 15 then 0 else k
theorem rk_c (k : Int) : (k = 2 → rk k = 4) ∧ (k = 4 → rk k = 2) ∧ (k = 15 → rk k = 0) ∧ (k ≠ 2 → k ≠ 4 → k ≠ 15 → rk k = k) := by
  unfold rk
  refine ⟨fun h => ?_, fun h => ?_, fun h => ?_, fun h1 h2 h3 => ?_⟩
  · rw [if_pos h]
  · rw [if_neg (by omega), if_pos h]
  · rw [if_neg (by omega), if_neg (by omega), if_pos h]
  · rw [if_neg h1, if_neg h2, if_neg h3]
theorem bnd_n : ∀ k : Nat, k < 16 → (k = 2 → bnd k = 1) ∧ (k = 3 → bnd k = 2) ∧ (k = 4 → bnd k = 3) ∧ (5 ≤ k → k ≤ 10 → bnd k = 4) ∧ (11 ≤ k → k ≤ 12 → bnd k = 5) ∧ (13 ≤ k → k ≤ 14 → bnd k = 6) ∧ (k = 15 → bnd k = 0) := by decide +kernel
theorem bnd_c {k : Int} (h : 0 ≤ k ∧ k < 16) : (k = 2 → bnd k = 1) ∧ (k = 3 → bnd k = 2) ∧ (k = 4 → bnd k = 3) ∧ (5 ≤ k → k ≤ 10 → bnd k = 4) ∧ (11 ≤ k → k ≤ 12 → bnd k = 5) ∧ (13 ≤ k → k ≤ 14 → bnd k = 6) ∧ (k = 15 → bnd k = 0) := by
  have h1 := bnd_n k.toNat (by omega)
  rw [show ((k.toNat : Nat) : Int) = k by omega] at h1
  omega
theorem rank_bnd {c v x : Int} (hv : v = rk c) (hc : 2 ≤ c ∧ c ≤ 15) (hq : (v ≥ 13 → x = 6) ∧ (11 ≤ v → v < 13 → x = 5) ∧ (5 ≤ v → v < 11 → x = 4) ∧ (v = 2 → x = 3) ∧ (v = 3 → x = 2) ∧ (v = 4 → x = 1) ∧ (v < 2 → x = 0)) : x = bnd c := by
  have h1 := rk_c c
  have h2 := bnd_c (k := c) (by omega)
  omega
theorem rk_ge {c : Int} (hc : 2 ≤ c ∧ c ≤ 15) (hb : 1 ≤ bnd c) : 2 ≤ rk c ∧ rk c ≤ 14 ∧ (c ≠ 4 → 3 ≤ rk c) ∧ (c = 4 → rk c = 2) := by
  have h1 := rk_c c
  have h2 := bnd_c (k := c) (by omega)
  omega
theorem bnd_pos {c : Int} (hc : 2 ≤ c ∧ c ≤ 15) (hb : ¬ rk c < 2) : 1 ≤ bnd c := by
  have h1 := rk_c c
  have h2 := bnd_c (k := c) (by omega)
  omega
theorem bnd_z {c : Int} (hc : 2 ≤ c ∧ c ≤ 15) (hb : bnd c < 1) : rk c < 2 := by
  have h1 := rk_c c
  have h2 := bnd_c (k := c) (by omega)
  omega
theorem jn_c {c : Int} (hc : 2 ≤ c ∧ c ≤ 14 ∧ c ≠ 4) : 1 ≤ bnd c ∧ bnd c ≤ 6 ∧ bnd c ≠ 3 ∧ 3 ≤ rk c ∧ rk c ≤ 14 := by
  have h1 := rk_c c
  have h2 := bnd_c (k := c) (by omega)
  omega
theorem rk_id {c : Int} (hc : 5 ≤ c ∧ c ≤ 14) : rk c = c := (rk_c c).2.2.2 (by omega) (by omega) (by omega)
def gK (Γ : zΓ) (w : Nat) (A : aS) (G : zH) : Prop := G.1 1021 w 0 = A 20 0 ∧ G.1 1045 w 0 = A 21 0 ∧ ∀ j : Nat, (j : Int) < A 20 0 → G.1 2074 (Γ.2.1 w 37) (64 + j) = rk (A 18 j) ∧ G.1 2075 (Γ.2.1 w 38) (64 + j) = A 27 j ∧ G.1 2076 (Γ.2.1 w 39) (64 + j) = A 28 j
def gE (Γ : zΓ) (w : Nat) (A : aS) (G : zH) : Prop := G.1 1042 w 0 = A 22 0 ∧ G.1 1043 w 0 = A 29 0 ∧ G.1 1044 w 0 = A 23 0 ∧ G.1 1046 w 0 = A 24 0 ∧ G.1 1047 w 0 = A 25 0 ∧ (∀ j : Nat, (j : Int) < A 22 0 → G.1 2077 (Γ.2.1 w 40) j = rk (A 26 j) ∧ 2 ≤ A 26 j ∧ A 26 j ≤ 15) ∧ (∀ j : Nat, (j : Int) < A 29 0 → G.1 2078 (Γ.2.1 w 41) j = A 30 j)
theorem gK_of {Γ : zΓ} {w : Nat} {A B : aS} {G G1 : zH} (hA : ∀ f j, f = 18 ∨ f = 20 ∨ f = 21 ∨ f = 27 ∨ f = 28 → B f j = A f j) (h1 : G1.1 1021 w 0 = G.1 1021 w 0) (h2 : G1.1 1045 w 0 = G.1 1045 w 0) (h3 : G1.1 2074 = G.1 2074) (h4 : G1.1 2075 = G.1 2075) (h5 : G1.1 2076 = G.1 2076) (h : gK Γ w A G) : gK Γ w B G1 := by
  obtain ⟨k1, k2, k3⟩ := h
  unfold gK
  rw [h1, h2, h3, h4, h5, hA 20 0 (by omega), hA 21 0 (by omega)]
  exact ⟨k1, k2, fun j hj => by rw [hA 18 j (by omega), hA 27 j (by omega), hA 28 j (by omega)]; exact k3 j hj⟩
theorem gE_of {Γ : zΓ} {w : Nat} {A B : aS} {G G1 : zH} (hA : ∀ f j, f = 22 ∨ f = 23 ∨ f = 24 ∨ f = 25 ∨ f = 26 ∨ f = 29 ∨ f = 30 → B f j = A f j) (h1 : G1.1 1042 w 0 = G.1 1042 w 0) (h2 : G1.1 1043 w 0 = G.1 1043 w 0) (h3 : G1.1 1044 w 0 = G.1 1044 w 0) (h4 : G1.1 1046 w 0 = G.1 1046 w 0) (h5 : G1.1 1047 w 0 = G.1 1047 w 0) (h6 : G1.1 2077 = G.1 2077) (h7 : G1.1 2078 = G.1 2078) (h : gE Γ w A G) : gE Γ w B G1 := by
  obtain ⟨k1, k2, k3, k4, k5, k6, k7⟩ := h
  unfold gE
  rw [h1, h2, h3, h4, h5, h6, h7, hA 22 0 (by omega), hA 23 0 (by omega), hA 24 0 (by omega), hA 25 0 (by omega), hA 29 0 (by omega)]
  exact ⟨k1, k2, k3, k4, k5, fun j hj => by rw [hA 26 j (by omega)]; exact k6 j hj, fun j hj => by rw [hA 30 j (by omega)]; exact k7 j hj⟩
/-- a sign waits -/
theorem gE_push {Γ : zΓ} {w : Nat} {A B : aS} {G G1 : zH} {k : Int} (hk : 2 ≤ k ∧ k ≤ 15) (h0 : 0 ≤ A 22 0) (b22 : B 22 0 = A 22 0 + 1) (b26 : ∀ j, B 26 j = if j = (A 22 0).toNat then k else A 26 j) (b29 : B 29 0 = A 29 0) (b30 : ∀ j, B 30 j = A 30 j) (e1 : G1.1 1042 w 0 = A 22 0 + 1) (e2 : G1.1 1043 w 0 = A 29 0) (e3 : G1.1 1044 w 0 = B 23 0) (e4 : G1.1 1046 w 0 = B 24 0) (e5 : G1.1 1047 w 0 = B 25 0) (h77 : ∀ j, G1.1 2077 (Γ.2.1 w 40) j = if j = (A 22 0).toNat then rk k else G.1 2077 (Γ.2.1 w 40) j) (h78 : ∀ j, G1.1 2078 (Γ.2.1 w 41) j = G.1 2078 (Γ.2.1 w 41) j) (h : gE Γ w A G) : gE Γ w B G1 := by
  obtain ⟨k1, k2, k3, k4, k5, k6, k7⟩ := h
  refine ⟨by rw [b22]; exact e1, by rw [b29]; exact e2, e3, e4, e5, fun j hj => ?_, fun j hj => by rw [h78, b30]; exact k7 j (by omega)⟩
  rw [h77, b26]
  by_cases q : j = (A 22 0).toNat
  · rw [if_pos q, if_pos q]
    exact ⟨rfl, hk⟩
  · rw [if_neg q, if_neg q]
    exact k6 j (by omega)
/-- a knot is written -/
theorem gK_add {Γ : zΓ} {w : Nat} {A B : aS} {G G1 : zH} {k p q : Int} (h0 : 0 ≤ A 20 0) (b20 : B 20 0 = A 20 0 + 1) (b18 : ∀ j, B 18 j = if j = (A 20 0).toNat then k else A 18 j) (b27 : ∀ j, B 27 j = if j = (A 20 0).toNat then p else A 27 j) (b28 : ∀ j, B 28 j = if j = (A 20 0).toNat then q else A 28 j) (e1 : G1.1 1021 w 0 = A 20 0 + 1) (e2 : G1.1 1045 w 0 = B 21 0) (h74 : ∀ j, G1.1 2074 (Γ.2.1 w 37) j = if j = (64 + A 20 0).toNat then rk k else G.1 2074 (Γ.2.1 w 37) j) (h75 : ∀ j, G1.1 2075 (Γ.2.1 w 38) j = if j = (64 + A 20 0).toNat then p else G.1 2075 (Γ.2.1 w 38) j) (h76 : ∀ j, G1.1 2076 (Γ.2.1 w 39) j = if j = (64 + A 20 0).toNat then q else G.1 2076 (Γ.2.1 w 39) j) (h : gK Γ w A G) : gK Γ w B G1 := by
  obtain ⟨k1, k2, k3⟩ := h
  refine ⟨by rw [b20]; exact e1, e2, fun j hj => ?_⟩
  rw [h74, h75, h76, b18, b27, b28]
  by_cases z : j = (A 20 0).toNat
  · rw [if_pos z, if_pos z, if_pos z, if_pos (by omega), if_pos (by omega), if_pos (by omega)]
    exact ⟨rfl, rfl, rfl⟩
  · rw [if_neg z, if_neg z, if_neg z, if_neg (by omega), if_neg (by omega), if_neg (by omega)]
    exact k3 j (by omega)
theorem sW_at {k q : Int} {A : aS} (h : A 20 0 < 64) : sWrite k q A = up (up (up A 18 (A 20 0).toNat k) 19 (A 20 0).toNat q) 20 0 (A 20 0 + 1) := if_pos h
theorem gOp_4 {A : aS} : gOp 4 A = up (up (up A 27 (A 20 0).toNat (A 30 (A 29 0 - 1).toNat)) 28 (A 20 0).toNat (-1)) 30 (A 29 0 - 1).toNat (A 20 0) := if_pos rfl
theorem gOp_n {k : Int} {A : aS} (h : k ≠ 4) : gOp k A = up (up (up (up A 27 (A 20 0).toNat (A 30 (A 29 0 - 2).toNat)) 28 (A 20 0).toNat (A 30 (A 29 0 - 1).toNat)) 30 (A 29 0 - 2).toNat (A 20 0)) 29 0 (A 29 0 - 1) := if_neg h
theorem bind_4 {Γ : zΓ} {w : Nat} {A : aS} {G G1 : zH} {c : Int} (hK : gK Γ w A G) (hE : gE Γ w A G) (hs : 0 ≤ A 20 0 ∧ A 20 0 < 64) (hw : 0 < A 22 0) (hc : c = 4) (hn : 1 ≤ A 29 0)
    (e42 : G1.1 1042 w 0 = A 22 0 - 1) (e43 : G1.1 1043 w 0 = A 29 0) (e44 : G1.1 1044 w 0 = A 23 0) (e46 : G1.1 1046 w 0 = A 24 0) (e47 : G1.1 1047 w 0 = A 25 0) (e21 : G1.1 1021 w 0 = A 20 0 + 1) (e45 : G1.1 1045 w 0 = A 21 0) (h77 : G1.1 2077 = G.1 2077)
    (h78 : ∀ j, G1.1 2078 (Γ.2.1 w 41) j = if j = (A 29 0 - 1).toNat then A 20 0 else G.1 2078 (Γ.2.1 w 41) j) (h74 : ∀ j, G1.1 2074 (Γ.2.1 w 37) j = if j = (64 + A 20 0).toNat then rk c else G.1 2074 (Γ.2.1 w 37) j) (h75 : ∀ j, G1.1 2075 (Γ.2.1 w 38) j = if j = (64 + A 20 0).toNat then A 30 (A 29 0 - 1).toNat else G.1 2075 (Γ.2.1 w 38) j) (h76 : ∀ j, G1.1 2076 (Γ.2.1 w 39) j = if j = (64 + A 20 0).toNat then -1 else G.1 2076 (Γ.2.1 w 39) j) :
    gK Γ w (sWrite c 0 (gOp c (up A 22 0 (A 22 0 - 1)))) G1 ∧ gE Γ w (sWrite c 0 (gOp c (up A 22 0 (A 22 0 - 1)))) G1 := by
  subst hc
  have z : (up A 22 0 (A 22 0 - 1)) 20 0 = A 20 0 := up_f (by decide)
  have z29 : (up A 22 0 (A 22 0 - 1)) 29 0 = A 29 0 := up_f (by decide)
  rw [sW_at (by rw [gOp_f (by decide), z]; exact hs.2), gOp_f (by decide), gOp_4, z, z29]
  constructor
  · refine gK_add (A := A) (G := G) (k := 4) (p := A 30 (A 29 0 - 1).toNat) (q := -1) hs.1 ?_ (fun j => ?_) (fun j => ?_) (fun j => ?_) e21 ?_ h74 h75 h76 hK
    · simp (disch := decide) only [sNext_f, up_f, up_eq, up_at]
    · simp (disch := decide) only [sNext_f, up_f, up_eq, up_at]
    · simp (disch := decide) only [sNext_f, up_f, up_eq, up_at]
    · simp (disch := decide) only [sNext_f, up_f, up_eq, up_at]
    · simp (disch := decide) only [sNext_f, up_f, up_eq, up_at]
      exact e45
  · obtain ⟨k1, k2, k3, k4, k5, k6, k7⟩ := hE
    refine ⟨by simp (disch := decide) only [sNext_f, up_f, up_eq, up_at]; exact e42, by simp (disch := decide) only [sNext_f, up_f, up_eq, up_at]; exact e43, by simp (disch := decide) only [sNext_f, up_f, up_eq, up_at]; exact e44, by simp (disch := decide) only [sNext_f, up_f, up_eq, up_at]; exact e46, by simp (disch := decide) only [sNext_f, up_f, up_eq, up_at]; exact e47, fun j hj => ?_, fun j hj => ?_⟩
    · (simp (disch := decide) only [sNext_f, up_f, up_eq, up_at] at hj)
      simp (disch := decide) only [sNext_f, up_f, up_eq, up_at]
      rw [h77]
      exact k6 j (by omega)
    · (simp (disch := decide) only [sNext_f, up_f, up_eq, up_at] at hj)
      simp (disch := decide) only [sNext_f, up_f, up_eq, up_at]
      rw [h78]
      split
      · rfl
      · exact k7 j (by omega)
theorem bind_n {Γ : zΓ} {w : Nat} {A : aS} {G G1 : zH} {c : Int} (hK : gK Γ w A G) (hE : gE Γ w A G) (hs : 0 ≤ A 20 0 ∧ A 20 0 < 64) (hw : 0 < A 22 0) (hc : c ≠ 4) (hn : 2 ≤ A 29 0)
    (e42 : G1.1 1042 w 0 = A 22 0 - 1) (e43 : G1.1 1043 w 0 = A 29 0 - 1) (e44 : G1.1 1044 w 0 = A 23 0) (e46 : G1.1 1046 w 0 = A 24 0) (e47 : G1.1 1047 w 0 = A 25 0) (e21 : G1.1 1021 w 0 = A 20 0 + 1) (e45 : G1.1 1045 w 0 = A 21 0) (h77 : G1.1 2077 = G.1 2077)
    (h78 : ∀ j, G1.1 2078 (Γ.2.1 w 41) j = if j = (A 29 0 - 2).toNat then A 20 0 else G.1 2078 (Γ.2.1 w 41) j) (h74 : ∀ j, G1.1 2074 (Γ.2.1 w 37) j = if j = (64 + A 20 0).toNat then rk c else G.1 2074 (Γ.2.1 w 37) j) (h75 : ∀ j, G1.1 2075 (Γ.2.1 w 38) j = if j = (64 + A 20 0).toNat then A 30 (A 29 0 - 2).toNat else G.1 2075 (Γ.2.1 w 38) j) (h76 : ∀ j, G1.1 2076 (Γ.2.1 w 39) j = if j = (64 + A 20 0).toNat then A 30 (A 29 0 - 1).toNat else G.1 2076 (Γ.2.1 w 39) j) :
    gK Γ w (sWrite c 0 (gOp c (up A 22 0 (A 22 0 - 1)))) G1 ∧ gE Γ w (sWrite c 0 (gOp c (up A 22 0 (A 22 0 - 1)))) G1 := by
  have z : (up A 22 0 (A 22 0 - 1)) 20 0 = A 20 0 := up_f (by decide)
  have z29 : (up A 22 0 (A 22 0 - 1)) 29 0 = A 29 0 := up_f (by decide)
  rw [sW_at (by rw [gOp_f (by decide), z]; exact hs.2), gOp_f (by decide), gOp_n hc, z, z29]
  constructor
  · refine gK_add (A := A) (G := G) (k := c) (p := A 30 (A 29 0 - 2).toNat) (q := A 30 (A 29 0 - 1).toNat) hs.1 ?_ (fun j => ?_) (fun j => ?_) (fun j => ?_) e21 ?_ h74 h75 h76 hK
    · simp (disch := decide) only [sNext_f, up_f, up_eq, up_at]
    · simp (disch := decide) only [sNext_f, up_f, up_eq, up_at]
    · simp (disch := decide) only [sNext_f, up_f, up_eq, up_at]
    · simp (disch := decide) only [sNext_f, up_f, up_eq, up_at]
    · simp (disch := decide) only [sNext_f, up_f, up_eq, up_at]
      exact e45
  · obtain ⟨k1, k2, k3, k4, k5, k6, k7⟩ := hE
    refine ⟨by simp (disch := decide) only [sNext_f, up_f, up_eq, up_at]; exact e42, by simp (disch := decide) only [sNext_f, up_f, up_eq, up_at]; exact e43, by simp (disch := decide) only [sNext_f, up_f, up_eq, up_at]; exact e44, by simp (disch := decide) only [sNext_f, up_f, up_eq, up_at]; exact e46, by simp (disch := decide) only [sNext_f, up_f, up_eq, up_at]; exact e47, fun j hj => ?_, fun j hj => ?_⟩
    · (simp (disch := decide) only [sNext_f, up_f, up_eq, up_at] at hj)
      simp (disch := decide) only [sNext_f, up_f, up_eq, up_at]
      rw [h77]
      exact k6 j (by omega)
    · (simp (disch := decide) only [sNext_f, up_f, up_eq, up_at] at hj)
      simp (disch := decide) only [sNext_f, up_f, up_eq, up_at]
      rw [h78]
      split
      · rfl
      · exact k7 j (by omega)

theorem gK_sm {Γ : zΓ} {w : Nat} {A : aS} {G G1 : zH} {rs : List Nat} (hs : zsm rs G G1) (hr : ∀ r ∈ [1021, 1045, 2074, 2075, 2076], r ∉ rs) (h : gK Γ w A G) : gK Γ w A G1 := by
  unfold gK at *
  rw [hs.1 1021 (hr _ (by decide)), hs.1 1045 (hr _ (by decide)), hs.1 2074 (hr _ (by decide)), hs.1 2075 (hr _ (by decide)), hs.1 2076 (hr _ (by decide))]
  exact h
theorem gK_I {Γ : zΓ} {w : Nat} {A : aS} {G : zH} {r a i : Nat} {x : Int} (hr : ∀ r' ∈ [1021, 1045, 2074, 2075, 2076], r' ≠ r) (h : gK Γ w A G) : gK Γ w A (zuI G r a i x) :=
  gK_sm (rs := [r]) (zsm_I (by simp) zsm_rf) (fun r' h' q => hr r' h' (List.mem_singleton.mp q)) h

theorem gE_sm {Γ : zΓ} {w : Nat} {A : aS} {G G1 : zH} {rs : List Nat} (hs : zsm rs G G1) (hr : ∀ r ∈ [1042, 1043, 1044, 1046, 1047, 2077, 2078], r ∉ rs) (h : gE Γ w A G) : gE Γ w A G1 := by
  unfold gE at *
  rw [hs.1 1042 (hr _ (by decide)), hs.1 1043 (hr _ (by decide)), hs.1 1044 (hr _ (by decide)), hs.1 1046 (hr _ (by decide)), hs.1 1047 (hr _ (by decide)), hs.1 2077 (hr _ (by decide)), hs.1 2078 (hr _ (by decide))]
  exact h
theorem gE_I {Γ : zΓ} {w : Nat} {A : aS} {G : zH} {r a i : Nat} {x : Int} (hr : ∀ r' ∈ [1042, 1043, 1044, 1046, 1047, 2077, 2078], r' ≠ r) (h : gE Γ w A G) : gE Γ w A (zuI G r a i x) :=
  gE_sm (rs := [r]) (zsm_I (by simp) zsm_rf) (fun r' h' q => hr r' h' (List.mem_singleton.mp q)) h

set_option maxHeartbeats 4000000 in
set_option maxRecDepth 100000 in
theorem c_X9_nameMetG {l : Launch} {Γ : zΓ} {G : zH} {w : Nat}  (hX : zXs Γ)  : zMet l Γ yX9_nameMet cX9_nameMet 1 (some .int) 0 [zr 10 w] G (zpi (fun x G' => G' = G ∧ (-1 ≤ x ∧ (x ≠ -1 → G.1 1008 w 0 = 1 ∧ 17 ≤ G.1 1009 w 0 ∧ x = G.1 1009 w 0 - 17) ∧ (x = -1 → ¬ (G.1 1008 w 0 = 1 ∧ 17 ≤ G.1 1009 w 0))))) := by
  refine zMet_of RX9 hX (by decide) rfl (Nat.le_of_ble_eq_true rfl) ?_
  intro p e s m args below meth c C hr hlk
  show Z p l e (zrm 0) s m args below meth c Γ 1 0 0 (MQ below (zQc Γ (zpi (fun x G' => G' = G ∧ (-1 ≤ x ∧ (x ≠ -1 → G.1 1008 w 0 = 1 ∧ 17 ≤ G.1 1009 w 0 ∧ x = G.1 1009 w 0 - 17) ∧ (x = -1 → ¬ (G.1 1008 w 0 = 1 ∧ 17 ≤ G.1 1009 w 0)))))) args s 0 0 (zA Γ)) 0 [some (zr 10 w)] [] G
  refine zs_aload_n (pc := 0) C dX9_nameMet_0 rfl ?_
  refine zs_geti (r := 1008) (pc := 1) C dX9_nameMet_1 w_X9_196 f_10_8 rfl (r_1008 0) (fun v1 e1 l1 u1 => ?_)
  refine zs_iconst (pc := 4) C dX9_nameMet_4 (by decide) ?_
  refine zs_icmp_ne (tgt := 27) (pc := 5) C dX9_nameMet_5 (by decide) (fun h5 => ?_) (fun h5 => ?_)
  · skip
    refine zs_iconst (pc := 27) C dX9_nameMet_27 (by decide) ?_
    exact zs_iret (pc := 28) C hr hlk dX9_nameMet_28 ⟨rfl, by first | omega | (simp only [zuI_1, zuI_2, zuJ_1, zuJ_2, zuJ_3, zuP_1, zuP_2, zuP_3, zuC_1, zuC_2, reduceIte, Nat.reduceEqDiff, false_and, and_false, true_and, and_true, and_self, or_true, true_or, or_false, false_or]; omega)⟩
  · skip
    refine zs_aload_n (pc := 8) C dX9_nameMet_8 rfl ?_
    refine zs_geti (r := 1009) (pc := 9) C dX9_nameMet_9 w_X9_207 f_10_9 rfl (r_1009 0) (fun v9 e9 l9 u9 => ?_)
    refine zs_bipush (pc := 12) C dX9_nameMet_12 (by decide) (by decide) ?_
    refine zs_icmp_lt (tgt := 27) (pc := 14) C dX9_nameMet_14 (by decide) (fun h14 => ?_) (fun h14 => ?_)
    · skip
      refine zs_iconst (pc := 27) C dX9_nameMet_27 (by decide) ?_
      exact zs_iret (pc := 28) C hr hlk dX9_nameMet_28 ⟨rfl, by first | omega | (simp only [zuI_1, zuI_2, zuJ_1, zuJ_2, zuJ_3, zuP_1, zuP_2, zuP_3, zuC_1, zuC_2, reduceIte, Nat.reduceEqDiff, false_and, and_false, true_and, and_true, and_self, or_true, true_or, or_false, false_or]; omega)⟩
    · skip
      refine zs_aload_n (pc := 17) C dX9_nameMet_17 rfl ?_
      refine zs_geti (r := 1009) (pc := 18) C dX9_nameMet_18 w_X9_207 f_10_9 rfl (r_1009 0) (fun v18 e18 l18 u18 => ?_)
      refine zs_bipush (pc := 21) C dX9_nameMet_21 (by decide) (by decide) ?_
      first | refine zs_isub (pc := 23) C dX9_nameMet_23 (by omega) ?_ | refine zs_isubF (pc := 23) C dX9_nameMet_23 (fun z23 hz231 hz232 => ?_)
      refine zs_goto (tgt := 28) (pc := 24) C dX9_nameMet_24 (by decide) ?_
      exact zs_iret (pc := 28) C hr hlk dX9_nameMet_28 ⟨rfl, by first | omega | (simp only [zuI_1, zuI_2, zuJ_1, zuJ_2, zuJ_3, zuP_1, zuP_2, zuP_3, zuC_1, zuC_2, reduceIte, Nat.reduceEqDiff, false_and, and_false, true_and, and_true, and_self, or_true, true_or, or_false, false_or]; omega)⟩

