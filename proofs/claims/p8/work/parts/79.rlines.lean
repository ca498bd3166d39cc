def gS (Γ : zΓ) (w : Nat) (A : aS) (G : zH) : Prop := G.1 1017 w 0 = A 4 0 ∧ 0 ≤ A 4 0 ∧ A 4 0 ≤ 4 ∧ ∀ j : Nat, (j : Int) < A 4 0 → G.1 2061 (Γ.2.1 w 24) (4 + j) = A 5 j ∧ G.1 2062 (Γ.2.1 w 25) (4 + j) = A 6 j
def gP (Γ : zΓ) (w : Nat) (A : aS) (G : zH) : Prop := G.1 1018 w 0 = A 4 1 ∧ 0 ≤ A 4 1 ∧ A 4 1 ≤ 5 ∧ (∀ j : Nat, (j : Int) < A 4 1 → G.1 2063 (Γ.2.1 w 26) (5 + j) = A 5 (5 + j) ∧ G.1 2064 (Γ.2.1 w 27) (5 + j) = A 7 j) ∧ (∀ j : Nat, (j : Int) < 4 * A 4 1 → G.1 2065 (Γ.2.1 w 28) (20 + j) = A 8 j) ∧ (∀ j : Nat, 4 * A 4 1 ≤ j → j < 20 → A 8 j = 0)
def gC (Γ : zΓ) (w : Nat) (A : aS) (G : zH) : Prop := G.1 1019 w 0 = A 4 2 ∧ 0 ≤ A 4 2 ∧ A 4 2 ≤ 5 ∧ ∀ j : Nat, (j : Int) < A 4 2 → G.1 2066 (Γ.2.1 w 29) (5 + j) = A 5 (10 + j) ∧ G.1 2067 (Γ.2.1 w 30) (5 + j) = A 9 j ∧ G.1 2068 (Γ.2.1 w 31) (5 + j) = A 10 j ∧ G.1 2069 (Γ.2.1 w 32) (5 + j) = A 11 j
def gM (Γ : zΓ) (w : Nat) (A : aS) (G : zH) : Prop := G.1 1020 w 0 = A 4 3 ∧ 0 ≤ A 4 3 ∧ A 4 3 ≤ 3 ∧ ∀ j : Nat, (j : Int) < A 4 3 → G.1 2070 (Γ.2.1 w 33) (3 + j) = A 5 (15 + j)
def ob (v : Int) (j : Nat) : Int := if band v (bshl 1 (4 + j)) ≠ 0 then 1 else 0
def gO (Γ : zΓ) (w : Nat) (A : aS) (G : zH) : Prop := (∃ m : Nat, m < 16 ∧ A 3 0 = 16 * m) ∧ ∀ j : Nat, j < 4 → G.1 2060 (Γ.2.1 w 23) j = ob (A 3 0) j ∧ G.1 2059 (Γ.2.1 w 22) (4 + j) = A (12 + j) 0
def gL (Γ : zΓ) (w : Nat) (A : aS) (G : zH) : Prop := ∀ j : Nat, j < 7 → G.1 2071 (Γ.2.1 w 34) (7 + j) = (if A 16 j < A 17 j then 1 else 0) ∧ (A 16 j < A 17 j → G.1 2072 (Γ.2.1 w 35) (7 + j) = A 16 j ∧ G.1 2073 (Γ.2.1 w 36) (7 + j) = A 17 j)
def gF (w : Nat) (A : aS) (G : zH) : Prop := A 1 0 = 0 ∧ G.1 1004 w 0 = 0 ∧ G.1 1005 w 0 = A 2 0
/-- the groups of a telling -/
def gD (Γ : zΓ) (w : Nat) (A : aS) (G : zH) : Prop := gS Γ w A G ∧ gP Γ w A G ∧ gC Γ w A G ∧ gM Γ w A G ∧ gO Γ w A G ∧ gL Γ w A G ∧ gK Γ w A G ∧ A 21 0 = A 20 0
def gR (b : Nat → Int) (n : Int) (Γ : zΓ) (w : Nat) (A : aS) (G : zH) : Prop := gT b n Γ w A G ∧ gF w A G ∧ gD Γ w A G
theorem gF_sm {w : Nat} {A B : aS} {G G1 : zH} (h1 : B 1 0 = A 1 0) (h2 : B 2 0 = A 2 0) (e1 : G1.1 1004 w 0 = G.1 1004 w 0) (e2 : G1.1 1005 w 0 = G.1 1005 w 0) (h : gF w A G) : gF w B G1 := by
  unfold gF at *
  rw [h1, h2, e1, e2]
  exact h
theorem gS_of {Γ : zΓ} {w : Nat} {A B : aS} {G G1 : zH} (hA : ∀ f j : Nat, (f = 4 ∧ j = 0) ∨ (f = 5 ∧ j < 5) ∨ f = 6 → B f j = A f j) (h1 : G1.1 1017 w 0 = G.1 1017 w 0) (h2 : G1.1 2061 = G.1 2061) (h3 : G1.1 2062 = G.1 2062) (h : gS Γ w A G) : gS Γ w B G1 := by
  obtain ⟨k1, k2, k3, k4⟩ := h
  have e4 := hA 4 0 (by omega)
  unfold gS
  rw [h1, h2, h3, e4]
  exact ⟨k1, k2, k3, fun j hj => by rw [hA 5 j (by omega), hA 6 j (by omega)]; exact k4 j hj⟩
theorem gP_of {Γ : zΓ} {w : Nat} {A B : aS} {G G1 : zH} (hA : ∀ f j : Nat, (f = 4 ∧ j = 1) ∨ (f = 5 ∧ 5 ≤ j ∧ j < 10) ∨ f = 7 ∨ f = 8 → B f j = A f j) (h1 : G1.1 1018 w 0 = G.1 1018 w 0) (h2 : G1.1 2063 = G.1 2063) (h3 : G1.1 2064 = G.1 2064) (h4 : G1.1 2065 = G.1 2065) (h : gP Γ w A G) : gP Γ w B G1 := by
  obtain ⟨k1, k2, k3, k4, k5, k6⟩ := h
  have e4 := hA 4 1 (by omega)
  unfold gP
  rw [h1, h2, h3, h4, e4]
  exact ⟨k1, k2, k3, fun j hj => by rw [hA 5 (5 + j) (by omega), hA 7 j (by omega)]; exact k4 j hj, fun j hj => by rw [hA 8 j (by omega)]; exact k5 j hj, fun j hj hj2 => by rw [hA 8 j (by omega)]; exact k6 j hj hj2⟩
theorem gC_of {Γ : zΓ} {w : Nat} {A B : aS} {G G1 : zH} (hA : ∀ f j : Nat, (f = 4 ∧ j = 2) ∨ (f = 5 ∧ 10 ≤ j ∧ j < 15) ∨ f = 9 ∨ f = 10 ∨ f = 11 → B f j = A f j) (h1 : G1.1 1019 w 0 = G.1 1019 w 0) (h2 : G1.1 2066 = G.1 2066) (h3 : G1.1 2067 = G.1 2067) (h4 : G1.1 2068 = G.1 2068) (h5 : G1.1 2069 = G.1 2069) (h : gC Γ w A G) : gC Γ w B G1 := by
  obtain ⟨k1, k2, k3, k4⟩ := h
  have e4 := hA 4 2 (by omega)
  unfold gC
  rw [h1, h2, h3, h4, h5, e4]
  exact ⟨k1, k2, k3, fun j hj => by rw [hA 5 (10 + j) (by omega), hA 9 j (by omega), hA 10 j (by omega), hA 11 j (by omega)]; exact k4 j hj⟩
theorem gM_of {Γ : zΓ} {w : Nat} {A B : aS} {G G1 : zH} (hA : ∀ f j : Nat, (f = 4 ∧ j = 3) ∨ (f = 5 ∧ 15 ≤ j) → B f j = A f j) (h1 : G1.1 1020 w 0 = G.1 1020 w 0) (h2 : G1.1 2070 = G.1 2070) (h : gM Γ w A G) : gM Γ w B G1 := by
  obtain ⟨k1, k2, k3, k4⟩ := h
  have e4 := hA 4 3 (by omega)
  unfold gM
  rw [h1, h2, e4]
  exact ⟨k1, k2, k3, fun j hj => by rw [hA 5 (15 + j) (by omega)]; exact k4 j hj⟩
theorem gO_of {Γ : zΓ} {w : Nat} {A B : aS} {G G1 : zH} (hA : ∀ f j : Nat, f = 3 ∨ f = 12 ∨ f = 13 ∨ f = 14 ∨ f = 15 → B f j = A f j) (h1 : G1.1 2059 = G.1 2059) (h2 : G1.1 2060 = G.1 2060) (h : gO Γ w A G) : gO Γ w B G1 := by
  obtain ⟨k1, k2⟩ := h
  have e4 := hA 3 0 (by omega)
  unfold gO
  rw [h1, h2, e4]
  exact ⟨k1, fun j hj => by rw [hA (12 + j) 0 (by omega)]; exact k2 j hj⟩
theorem gL_of {Γ : zΓ} {w : Nat} {A B : aS} {G G1 : zH} (hA : ∀ f j : Nat, f = 16 ∨ f = 17 → B f j = A f j) (h1 : G1.1 2071 = G.1 2071) (h2 : G1.1 2072 = G.1 2072) (h3 : G1.1 2073 = G.1 2073) (h : gL Γ w A G) : gL Γ w B G1 := by
  unfold gL at *
  rw [h1, h2, h3]
  exact fun j hj => by rw [hA 16 j (by omega), hA 17 j (by omega)]; exact h j hj
theorem fnd_cg {f g : Nat → Int} {p q c : Int} : ∀ (m : Nat) (k : Int), (∀ i : Int, k ≤ i → i < k + m → f (p + i).toNat = g (q + i).toNat) → fndn f p c m k = fndn g q c m k
  | 0, _, _ => rfl
  | m + 1, k, h => by
    rw [fndn, fndn, h k (by omega) (by omega), fnd_cg m (k + 1) (fun i h1 h2 => h i (by omega) (by omega))]
theorem sNew_full {b : Nat → Int} {n kd : Int} {A : aS} (h : mst kd ≤ A 4 kd.toNat) : sNew b n kd A = sFail b n 2 A := if_pos h
theorem sNew_1 {b : Nat → Int} {n kd : Int} {A : aS} (h : ¬ mst kd ≤ A 4 kd.toNat) (h1 : tK b n (sNext b n A) ≠ 1) : sNew b n kd A = sFail b n 1 (sNext b n A) := by
  unfold sNew
  rw [if_neg h, if_pos h1]
theorem sNew_3 {b : Nat → Int} {n kd : Int} {A : aS} (h : ¬ mst kd ≤ A 4 kd.toNat) (h1 : tK b n (sNext b n A) = 1) (h2 : sFind kd (tV b n (sNext b n A)) (sNext b n A) ≠ -1) : sNew b n kd A = sFail b n 3 (sNext b n A) := by
  unfold sNew
  rw [if_neg h, if_neg (by omega), if_pos h2]
theorem sNew_ok {b : Nat → Int} {n kd : Int} {A : aS} (h : ¬ mst kd ≤ A 4 kd.toNat) (h1 : tK b n (sNext b n A) = 1) (h2 : sFind kd (tV b n (sNext b n A)) (sNext b n A) = -1) : sNew b n kd A = sNext b n (up (up (sNext b n A) 5 (kd * 5 + A 4 kd.toNat).toNat (tV b n (sNext b n A))) 4 kd.toNat (A 4 kd.toNat + 1)) ∧ sNewV b n kd A = A 4 kd.toNat := by
  constructor
  · unfold sNew
    rw [if_neg h, if_neg (by omega), if_neg (by omega)]
    unfold sAdd
    rw [sNext_f (by decide), if_neg h]
  · unfold sNewV
    rw [if_neg (by rintro (q | q | q); exact h q; omega; omega)]
/-- a name's line up to its name, where it is refused -/
theorem sNew_F {b : Nat → Int} {n kd v : Int} {w : Nat} {A : aS} {G : zH} (h0 : A 1 0 = 0) (h : ¬ mst kd ≤ A 4 kd.toNat) (hv : v = sFind kd (tV b n (sNext b n A)) (sNext b n A)) (hq : G.1 1005 w 0 = tP b n (sNext b n A) ∧ ((tK b n (sNext b n A) ≠ 1 ∧ G.1 1004 w 0 = 1) ∨ (tK b n (sNext b n A) = 1 ∧ v ≠ -1 ∧ G.1 1004 w 0 = 3))) : FT w (sNew b n kd A) G := by
  rcases hq.2 with q | q
  · rw [sNew_1 h q.1]
    exact FT_fail (by rw [sNext_f (by decide)]; exact h0) (by decide) q.2 hq.1
  · rw [sNew_3 h q.1 (by rw [← hv]; exact q.2.1)]
    exact FT_fail (by rw [sNext_f (by decide)]; exact h0) (by decide) q.2.2 hq.1
theorem sNew_T {b : Nat → Int} {n kd : Int} {Γ : zΓ} {w : Nat} {A : aS} {G : zH} (he : sNew b n kd A = sNext b n (up (up (sNext b n A) 5 (kd * 5 + A 4 kd.toNat).toNat (tV b n (sNext b n A))) 4 kd.toNat (A 4 kd.toNat + 1))) (h : gT b n Γ w (sNext b n (sNext b n A)) G) : gT b n Γ w (sNew b n kd A) G := by
  rw [he]
  exact gT_A (sNext_00 (by rw [up_f (by decide), up_f (by decide)])) h
theorem sNew_1f {b : Nat → Int} {n kd : Int} {A : aS} {f j : Nat} (h0 : f ≠ 0) (h4 : f ≠ 4) (h5 : f ≠ 5) (he : sNew b n kd A = sNext b n (up (up (sNext b n A) 5 (kd * 5 + A 4 kd.toNat).toNat (tV b n (sNext b n A))) 4 kd.toNat (A 4 kd.toNat + 1))) : (sNew b n kd A) f j = A f j := by
  rw [he, sNext_f h0, up_f h4, up_f h5, sNext_f h0]
theorem sNew_4f {b : Nat → Int} {n kd : Int} {A : aS} {j : Nat} (he : sNew b n kd A = sNext b n (up (up (sNext b n A) 5 (kd * 5 + A 4 kd.toNat).toNat (tV b n (sNext b n A))) 4 kd.toNat (A 4 kd.toNat + 1))) : (sNew b n kd A) 4 j = (if j = kd.toNat then A 4 kd.toNat + 1 else A 4 j) ∧ (sNew b n kd A) 5 j = (if j = (kd * 5 + A 4 kd.toNat).toNat then tV b n (sNext b n A) else A 5 j) := by
  rw [he, sNext_f (by decide), up_at, up_f (by decide), sNext_f (by decide), sNext_f (by decide), up_f (by decide), up_at, sNext_f (by decide)]
  exact ⟨rfl, rfl⟩
theorem mst_c : mst 0 = 4 ∧ mst 1 = 5 ∧ mst 2 = 5 ∧ mst 3 = 3 := by decide
