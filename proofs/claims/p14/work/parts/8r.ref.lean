/-- the reference's half b holds works -/
def rL (Γ : zΓ) (w : Nat) (b : Int) (W : aS) (G : zH) : Prop := ∀ j : Nat, j < 20 → G.1 2081 (Γ.2.1 w 51) (20 * b + j).toNat = W 11 j ∧ G.1 2082 (Γ.2.1 w 52) (20 * b + j).toNat = W 11 j - W 12 j
def rK (Γ : zΓ) (w : Nat) (b : Int) (W : aS) (G : zH) (n : Int) : Prop := ∀ k : Nat, (k : Int) < n → G.1 2093 (Γ.2.1 w 64) (60 * b + k).toNat = W 3 k ∧ G.1 2094 (Γ.2.1 w 65) (60 * b + k).toNat = W 5 k
def rW (Γ : zΓ) (w : Nat) (b : Int) (W : aS) (G : zH) : Prop := rL Γ w b W G ∧ (∀ j : Nat, j < 5 → G.1 2083 (Γ.2.1 w 53) (5 * b + j).toNat = W 13 j ∧ G.1 2084 (Γ.2.1 w 54) (5 * b + j).toNat = W 14 j ∧ G.1 2085 (Γ.2.1 w 55) (5 * b + j).toNat = W 15 j ∧ G.1 2086 (Γ.2.1 w 56) (5 * b + j).toNat = (if W 16 j = -1 then -2 else W 16 j)) ∧ (G.1 2087 (Γ.2.1 w 57) b.toNat = W 0 0 ∧ G.1 2088 (Γ.2.1 w 58) b.toNat = W 19 0 ∧ G.1 2089 (Γ.2.1 w 59) b.toNat = W 20 0 ∧ G.1 2090 (Γ.2.1 w 60) b.toNat = W 18 0) ∧ rK Γ w b W G (W 0 0)
/-- all that sacks came from, what is known; the number drawn last -/
def rQ (Γ : zΓ) (w : Nat) (W : aS) (G : zH) (n : Int) : Prop := ∀ k : Nat, (k : Int) < n → G.1 2091 (Γ.2.1 w 62) k = W 1 k ∧ G.1 2092 (Γ.2.1 w 63) k = W 2 k ∧ G.1 2095 (Γ.2.1 w 66) k = wLie W k (W 2 k) ∧ G.1 2096 (Γ.2.1 w 67) k = W 6 k ∧ G.1 2097 (Γ.2.1 w 68) k = W 7 k ∧ G.1 2098 (Γ.2.1 w 69) k = W 8 k ∧ G.1 2099 (Γ.2.1 w 70) k = W 9 k ∧ G.1 2100 (Γ.2.1 w 71) k = W 10 k
def rS (Γ : zΓ) (w : Nat) (W : aS) (G : zH) : Prop := rQ Γ w W G (W 0 0) ∧ G.1 1083 w 0 = W 22 0
def rD (w : Nat) (W : aS) (G : zH) : Prop := G.2.1 1061 w 0 = W 21 0
theorem rW_sm {Γ : zΓ} {w : Nat} {b : Int} {W : aS} {G G1 : zH} {rs : List Nat} (hs : zsm rs G G1) (hr : ∀ r ∈ [2081, 2082, 2083, 2084, 2085, 2086, 2087, 2088, 2089, 2090, 2093, 2094], r ∉ rs) (h : rW Γ w b W G) : rW Γ w b W G1 := by
  have e : ∀ r ∈ [2081, 2082, 2083, 2084, 2085, 2086, 2087, 2088, 2089, 2090, 2093, 2094], G1.1 r = G.1 r := fun r h9 => hs.1 r (hr r h9)
  unfold rW rL rK
  rw [e 2081 (by decide), e 2082 (by decide), e 2083 (by decide), e 2084 (by decide), e 2085 (by decide), e 2086 (by decide), e 2087 (by decide), e 2088 (by decide), e 2089 (by decide), e 2090 (by decide), e 2093 (by decide), e 2094 (by decide)]
  exact h
theorem rW_I {Γ : zΓ} {w : Nat} {b : Int} {W : aS} {G : zH} {r a i : Nat} {x : Int} (hr : ∀ r' ∈ [2081, 2082, 2083, 2084, 2085, 2086, 2087, 2088, 2089, 2090, 2093, 2094], r' ≠ r) (h : rW Γ w b W G) : rW Γ w b W (zuI G r a i x) := rW_sm (rs := [r]) (zsm_I (by simp) zsm_rf) (fun r' h9 q => hr r' h9 (by simpa using q)) h
theorem rW_J {Γ : zΓ} {w : Nat} {b : Int} {W : aS} {G : zH} {r a i : Nat} {x : Int} (h : rW Γ w b W G) : rW Γ w b W (zuJ G r a i x) := h
theorem rS_sm {Γ : zΓ} {w : Nat} {W : aS} {G G1 : zH} {rs : List Nat} (hs : zsm rs G G1) (hr : ∀ r ∈ [2091, 2092, 2095, 2096, 2097, 2098, 2099, 2100, 1083], r ∉ rs) (h : rS Γ w W G) : rS Γ w W G1 := by
  have e : ∀ r ∈ [2091, 2092, 2095, 2096, 2097, 2098, 2099, 2100, 1083], G1.1 r = G.1 r := fun r h9 => hs.1 r (hr r h9)
  unfold rS rQ
  rw [e 2091 (by decide), e 2092 (by decide), e 2095 (by decide), e 2096 (by decide), e 2097 (by decide), e 2098 (by decide), e 2099 (by decide), e 2100 (by decide), e 1083 (by decide)]
  exact h
theorem kR_sm {Γ : zΓ} {w : Nat} {A : aS} {G G1 : zH} {rs : List Nat} (hs : zsm rs G G1) (hr : ∀ r ∈ [2059, 2061, 2062, 2063, 2064, 2065, 2066, 2067, 2068, 2069, 2070, 2071, 2072, 2073, 2074, 2075, 2076, 1012, 1013, 1014, 1015, 1016], r ∉ rs) (h : kR Γ w A G) : kR Γ w A G1 := by
  have e : ∀ r ∈ [2059, 2061, 2062, 2063, 2064, 2065, 2066, 2067, 2068, 2069, 2070, 2071, 2072, 2073, 2074, 2075, 2076, 1012, 1013, 1014, 1015, 1016], G1.1 r = G.1 r := fun r h9 => hs.1 r (hr r h9)
  unfold kR
  rw [e 2059 (by decide), e 2061 (by decide), e 2062 (by decide), e 2063 (by decide), e 2064 (by decide), e 2065 (by decide), e 2066 (by decide), e 2067 (by decide), e 2068 (by decide), e 2069 (by decide), e 2070 (by decide), e 2071 (by decide), e 2072 (by decide), e 2073 (by decide), e 2074 (by decide), e 2075 (by decide), e 2076 (by decide), e 1012 (by decide), e 1013 (by decide), e 1014 (by decide), e 1015 (by decide), e 1016 (by decide)]
  exact h
theorem kR_I {Γ : zΓ} {w : Nat} {A : aS} {G : zH} {r a i : Nat} {x : Int} (hr : ∀ r' ∈ [2059, 2061, 2062, 2063, 2064, 2065, 2066, 2067, 2068, 2069, 2070, 2071, 2072, 2073, 2074, 2075, 2076, 1012, 1013, 1014, 1015, 1016], r' ≠ r) (h : kR Γ w A G) : kR Γ w A (zuI G r a i x) := kR_sm (rs := [r]) (zsm_I (by simp) zsm_rf) (fun r' h9 q => hr r' h9 (by simpa using q)) h
theorem kR_J {Γ : zΓ} {w : Nat} {A : aS} {G : zH} {r a i : Nat} {x : Int} (h : kR Γ w A G) : kR Γ w A (zuJ G r a i x) := h
theorem rL_sm {Γ : zΓ} {w : Nat} {b : Int} {W : aS} {G G1 : zH} {rs : List Nat} (hs : zsm rs G G1) (hr : 2081 ∉ rs ∧ 2082 ∉ rs) (h : rL Γ w b W G) : rL Γ w b W G1 := by
  unfold rL
  rw [hs.1 2081 hr.1, hs.1 2082 hr.2]
  exact h
theorem rL_I {Γ : zΓ} {w : Nat} {b : Int} {W : aS} {G : zH} {r a i : Nat} {x : Int} (hr : 2081 ≠ r ∧ 2082 ≠ r) (h : rL Γ w b W G) : rL Γ w b W (zuI G r a i x) := rL_sm (rs := [r]) (zsm_I (by simp) zsm_rf) ⟨by simpa using hr.1, by simpa using hr.2⟩ h
theorem rL_J {Γ : zΓ} {w : Nat} {b : Int} {W : aS} {G : zH} {r a i : Nat} {x : Int} (h : rL Γ w b W G) : rL Γ w b W (zuJ G r a i x) := h
theorem lW_of {Γ : zΓ} {w : Nat} {b p s : Int} {W : aS} {G : zH} (hb : b = 0 ∨ b = 1) (hp : 0 ≤ p ∧ p ≤ 4) (hs : 0 ≤ s ∧ s ≤ 3) (hL : WL W) (h : rL Γ w b W G) : wr (G.1 2081 (Γ.2.1 w 51) (20 * b + 4 * p + s).toNat - G.1 2082 (Γ.2.1 w 52) (20 * b + 4 * p + s).toNat) = wL W p s := by
  have q := h (p * 4 + s).toNat (by omega)
  have q2 := hL (p * 4 + s).toNat (by omega)
  rw [show (20 * b + ((p * 4 + s).toNat : Int)).toNat = (20 * b + 4 * p + s).toNat by omega] at q
  rw [q.1, q.2]
  unfold wr wL
  omega
theorem wPr_s {A W : aS} (hT : TA A) (hW : WI A W) {p : Int} (hp : 0 ≤ p ∧ p ≤ 4) : sM (W 12) (p * 4).toNat (A 4 0).toNat = wPr W p := by
  have h0 := hT.1
  have hz : ∀ m : Nat, (A 4 0).toNat ≤ m → m < 4 → W 12 ((p * 4).toNat + m) = 0 := fun m h1 h2 => by
    have q := hW.2.2.2.1 p.toNat m (by omega) h2
    have q2 := hW.2.2.1 (p.toNat * 4 + m) (by omega)
    rw [show (p * 4).toNat + m = p.toNat * 4 + m by omega]
    rcases q with q | q <;> omega
  have e : ∀ d : Nat, (A 4 0).toNat + d ≤ 4 → sM (W 12) (p * 4).toNat ((A 4 0).toNat + d) = sM (W 12) (p * 4).toNat (A 4 0).toNat := fun d => by
    induction d with
    | zero => intro _; rfl
    | succ d ih =>
      intro hd
      rw [show (A 4 0).toNat + (d + 1) = ((A 4 0).toNat + d) + 1 by omega, sM, hz _ (by omega) (by omega), ih (by omega)]
      omega
  have q := e (4 - (A 4 0).toNat) (by omega)
  rw [show (A 4 0).toNat + (4 - (A 4 0).toNat) = 4 by omega] at q
  exact q.symm
theorem kR_L {Γ : zΓ} {w : Nat} {A : aS} {G : zH} (hK : kR Γ w A G) {k : Int} (hk : 0 ≤ k ∧ k < 7) : (A 16 k.toNat < A 17 k.toNat → G.1 2071 (Γ.2.1 w 34) k.toNat = 1 ∧ G.1 2072 (Γ.2.1 w 35) k.toNat = A 16 k.toNat ∧ G.1 2073 (Γ.2.1 w 36) k.toNat = A 17 k.toNat) ∧ (¬ A 16 k.toNat < A 17 k.toNat → G.1 2071 (Γ.2.1 w 34) k.toNat = 0) := by
  obtain ⟨-, -, -, -, -, -, -, -, -, h, -⟩ := hK
  have q := h k.toNat (by omega)
  refine ⟨fun z => ?_, fun z => ?_⟩
  · rw [if_pos z] at q; exact ⟨q.1, q.2 z⟩
  · rw [if_neg z] at q; exact q.1
theorem lV_g {sg pt ot nm : Nat → Int} {f b : Int} (hf : 0 ≤ f) (hb : f < b) : (vG sg pt ot nm f.toNat (b - f).toNat = 1 ↔ lV sg pt ot nm f b ≠ -9223372036854775808) := by
  unfold lV
  by_cases q : vG sg pt ot nm f.toNat (b - f).toNat = 1
  · rw [if_pos ⟨hb, q⟩]
    have := vG_in q (b - 1).toNat (by omega) (by omega)
    unfold inb at this
    exact ⟨fun _ => by omega, fun _ => q⟩
  · rw [if_neg (fun z => q z.2)]
    exact ⟨fun z => absurd z q, fun z => absurd rfl z⟩

set_option maxHeartbeats 4000000 in
set_option maxRecDepth 100000 in
theorem c_X9_leftOfW {l : Launch} {Γ : zΓ} {G : zH} {w : Nat} {b0 p s : Int} {W : aS} (hX : zXs Γ) (hb : b0 = 0 ∨ b0 = 1) (hp : 0 ≤ p ∧ p ≤ 4) (hs : 0 ≤ s ∧ s ≤ 3) (hR : rL Γ w b0 W G) (hL : WL W)  : zMet l Γ yX9_leftOf cX9_leftOf 4 (some .int) 0 [zr 10 w, zi b0, zi p, zi s] G (zpi (fun x G' => G' = G ∧ (x = wL W p s))) := by
  refine zMet_of RX9 hX (by decide) rfl (Nat.le_of_ble_eq_true rfl) ?_
  intro px9 e sx9 m args below meth c C hr hlk
  show Z px9 l e (zrm 0) sx9 m args below meth c Γ 4 0 0 (MQ below (zQc Γ (zpi (fun x G' => G' = G ∧ (x = wL W p s)))) args sx9 0 0 (zA Γ)) 0 [some (zr 10 w), some (zi b0), some (zi p), some (zi s)] [] G
  refine zs_loc 1 rfl (fun ha1 hb1 => ?_)
  refine zs_loc 2 rfl (fun ha2 hb2 => ?_)
  refine zs_loc 3 rfl (fun ha3 hb3 => ?_)
  refine zs_aload_n (pc := 0) C dX9_leftOf_0 rfl ?_
  refine zs_getf (pc := 1) C dX9_leftOf_1 w_X9_88 f_10_51 (by decide) ?_
  refine zs_bipush (pc := 4) C dX9_leftOf_4 (by decide) (by decide) ?_
  refine zs_iload_n (pc := 6) C dX9_leftOf_6 rfl ?_
  first | refine zs_imul (pc := 7) C dX9_leftOf_7 (by omega) ?_ | refine zs_imulF (pc := 7) C dX9_leftOf_7 (fun z7 hz71 hz72 => ?_)
  refine zs_iconst (pc := 8) C dX9_leftOf_8 (by decide) ?_
  refine zs_iload_n (pc := 9) C dX9_leftOf_9 rfl ?_
  first | refine zs_imul (pc := 10) C dX9_leftOf_10 (by omega) ?_ | refine zs_imulF (pc := 10) C dX9_leftOf_10 (fun z10 hz101 hz102 => ?_)
  first | refine zs_iadd (pc := 11) C dX9_leftOf_11 (by omega) ?_ | refine zs_iaddF (pc := 11) C dX9_leftOf_11 (fun z11 hz111 hz112 => ?_)
  refine zs_iload_n (pc := 12) C dX9_leftOf_12 rfl ?_
  first | refine zs_iadd (pc := 13) C dX9_leftOf_13 (by omega) ?_ | refine zs_iaddF (pc := 13) C dX9_leftOf_13 (fun z13 hz131 hz132 => ?_)
  refine zs_iald (r := 2081) (pc := 14) C dX9_leftOf_14 a_81 (by decide) (by omega) rfl (r_2081 _) (fun v14 e14 l14 u14 => ?_)
  refine zs_aload_n (pc := 15) C dX9_leftOf_15 rfl ?_
  refine zs_getf (pc := 16) C dX9_leftOf_16 w_X9_91 f_10_52 (by decide) ?_
  refine zs_bipush (pc := 19) C dX9_leftOf_19 (by decide) (by decide) ?_
  refine zs_iload_n (pc := 21) C dX9_leftOf_21 rfl ?_
  first | refine zs_imul (pc := 22) C dX9_leftOf_22 (by omega) ?_ | refine zs_imulF (pc := 22) C dX9_leftOf_22 (fun z22 hz221 hz222 => ?_)
  refine zs_iconst (pc := 23) C dX9_leftOf_23 (by decide) ?_
  refine zs_iload_n (pc := 24) C dX9_leftOf_24 rfl ?_
  first | refine zs_imul (pc := 25) C dX9_leftOf_25 (by omega) ?_ | refine zs_imulF (pc := 25) C dX9_leftOf_25 (fun z25 hz251 hz252 => ?_)
  first | refine zs_iadd (pc := 26) C dX9_leftOf_26 (by omega) ?_ | refine zs_iaddF (pc := 26) C dX9_leftOf_26 (fun z26 hz261 hz262 => ?_)
  refine zs_iload_n (pc := 27) C dX9_leftOf_27 rfl ?_
  first | refine zs_iadd (pc := 28) C dX9_leftOf_28 (by omega) ?_ | refine zs_iaddF (pc := 28) C dX9_leftOf_28 (fun z28 hz281 hz282 => ?_)
  refine zs_iald (r := 2082) (pc := 29) C dX9_leftOf_29 a_82 (by decide) (by omega) rfl (r_2082 _) (fun v29 e29 l29 u29 => ?_)
  refine zs_isubE (pc := 30) C dX9_leftOf_30 ?_
  exact zs_iret (pc := 31) C hr hlk dX9_leftOf_31 ⟨rfl, by rw [e14, e29]; exact lW_of hb hp hs hL hR⟩

set_option maxHeartbeats 4000000 in
set_option maxRecDepth 100000 in
theorem c_X9_prideOfW {l : Launch} {Γ : zΓ} {G : zH} {w : Nat} {b0 p : Int} {A W : aS}  (hX : zXs Γ) (hb : b0 = 0 ∨ b0 = 1) (hp : 0 ≤ p ∧ p ≤ 4) (hR : rL Γ w b0 W G) (hK : kR Γ w A G) (hW : WI A W) (hT : TA A)  : zMet l Γ yX9_prideOf cX9_prideOf 5 (some .int) 1 [zr 10 w, zi b0, zi p] G (zpi (fun x G' => G' = G ∧ (x = wPr W p))) := by
  refine zMet_of RX9 hX (by decide) rfl (Nat.le_of_ble_eq_true rfl) ?_
  intro px9 e s m args below meth c C hr hlk
  show Z px9 l e (zrm 1) s m args below meth c Γ 5 0 0 (MQ below (zQc Γ (zpi (fun x G' => G' = G ∧ (x = wPr W p)))) args s 0 0 (zA Γ)) 0 [some (zr 10 w), some (zi b0), some (zi p), none, none] [] G
  refine zs_loc 1 rfl (fun ha1 hb1 => ?_)
  refine zs_loc 2 rfl (fun ha2 hb2 => ?_)
  have hT0 := hT.1
  have hk0 := hK.1.1
  refine zs_iconst (pc := 0) C dX9_prideOf_0 (by decide) ?_
  refine zs_istore_n (pc := 1) C dX9_prideOf_1 (by decide) ?_
  dsimp only [zset, zclr, znone]
  refine zs_iconst (pc := 2) C dX9_prideOf_2 (by decide) ?_
  refine zs_istore (pc := 3) C dX9_prideOf_3 (by decide) ?_
  dsimp only [zset, zclr, znone]
  have L5 : ∀ (nn : Nat) (x3 x4 : Int), (0 ≤ x4 ∧ x4 ≤ A 4 0) → (x3 = sM (W 12) (p * 4).toNat x4.toNat) → (0 ≤ x3 ∧ x3 ≤ 99 * x4) → (4 - x4).toNat < nn → Z px9 l e (zrm 1) s m args below meth c Γ 5 0 0 (MQ below (zQc Γ (zpi (fun x G' => G' = G ∧ (x = wPr W p)))) args s 0 0 (zA Γ)) 5 [some (zr 10 w), some (zi b0), some (zi p), some (zi x3), some (zi x4)] [] G := by
    intro nn
    induction nn with
    | zero => intro x3 x4 h5_0 h5_1 h5_2 hm; exact absurd hm (Nat.not_lt_zero _)
    | succ nn ih5 =>
      intro x3 x4 h5_0 h5_1 h5_2 hm5
      refine zs_iload (pc := 5) C dX9_prideOf_5 rfl ?_
      refine zs_aload_n (pc := 7) C dX9_prideOf_7 rfl ?_
      refine zs_geti (r := 1012) (pc := 8) C dX9_prideOf_8 w_X9_258 f_10_12 rfl (r_1012 0) (fun v8 e8 l8 u8 => ?_)
      refine zs_icmp_ge (tgt := 31) (pc := 11) C dX9_prideOf_11 (by decide) (fun h11 => ?_) (fun h11 => ?_)
      · skip
        have hx4 : x4 = A 4 0 := by omega
        rw [hx4, wPr_s hT hW hp] at h5_1
        refine zs_iload_n (pc := 31) C dX9_prideOf_31 rfl ?_
        exact zs_iret (pc := 32) C hr hlk dX9_prideOf_32 ⟨rfl, h5_1⟩
      · skip
        have hs := sM_s (f := W 12) (b := (p * 4).toNat) (k := x4) (by omega)
        rw [show (p * 4).toNat + x4.toNat = (p * 4 + x4).toNat by omega] at hs
        have hl := (WI_WL hW) (p * 4 + x4).toNat (by omega)
        refine zs_iload_n (pc := 14) C dX9_prideOf_14 rfl ?_
        refine zs_aload_n (pc := 15) C dX9_prideOf_15 rfl ?_
        refine zs_iload_n (pc := 16) C dX9_prideOf_16 rfl ?_
        refine zs_iload_n (pc := 17) C dX9_prideOf_17 rfl ?_
        refine zs_iload (pc := 18) C dX9_prideOf_18 rfl ?_
        refine zVip3 (pc := 20) C dX9_prideOf_20 v_X9_394 (c_X9_leftOfW hX hb hp (by omega) hR (WI_WL hW)) (by decide) (by decide) ⟨Nat.zero_le _, Nat.zero_le _⟩ (Nat.le_of_ble_eq_true rfl) (fun x20 l20 u20 hp20 => ?_)
        have hq20 := hp20
        have hq20b : x20 = W 12 (p * 4 + x4).toNat := hq20
        first | refine zs_iadd (pc := 23) C dX9_prideOf_23 (by omega) ?_ | refine zs_iaddF (pc := 23) C dX9_prideOf_23 (fun z23 hz231 hz232 => ?_)
        refine zs_istore_n (pc := 24) C dX9_prideOf_24 (by decide) ?_
        dsimp only [zset, zclr, znone]
        first | refine zs_iinc (pc := 25) C dX9_prideOf_25 rfl (by decide) (by omega) ?_ | refine zs_iincF (pc := 25) C dX9_prideOf_25 rfl (by decide) (fun z25 hz251 hz252 => ?_)
        dsimp only [zset, zclr, znone]
        refine zs_goto (tgt := 5) (pc := 28) C dX9_prideOf_28 (by decide) ?_
        exact zs_wk (ih5 _ _ (by first | omega | (simp only [zuI_1, zuI_2, zuJ_1, zuJ_2, zuJ_3, zuP_1, zuP_2, zuP_3, zuC_1, zuC_2, reduceIte, Nat.reduceEqDiff, false_and, and_false, true_and, and_true, and_self, or_true, true_or, or_false, false_or]; omega)) (by first | omega | (simp only [zuI_1, zuI_2, zuJ_1, zuJ_2, zuJ_3, zuP_1, zuP_2, zuP_3, zuC_1, zuC_2, reduceIte, Nat.reduceEqDiff, false_and, and_false, true_and, and_true, and_self, or_true, true_or, or_false, false_or]; omega)) (by first | omega | (simp only [zuI_1, zuI_2, zuJ_1, zuJ_2, zuJ_3, zuP_1, zuP_2, zuP_3, zuC_1, zuC_2, reduceIte, Nat.reduceEqDiff, false_and, and_false, true_and, and_true, and_self, or_true, true_or, or_false, false_or]; omega)) (by first | omega | (simp only [zuI_1, zuI_2, zuJ_1, zuJ_2, zuJ_3, zuP_1, zuP_2, zuP_3, zuC_1, zuC_2, reduceIte, Nat.reduceEqDiff, false_and, and_false, true_and, and_true, and_self, or_true, true_or, or_false, false_or]; omega))) (zwk_s rfl (zwk_s rfl (zwk_s rfl (zwk_s rfl (zwk_s rfl zwk_0)))))
  exact zs_wk (L5 _ _ _ (by have := hT.1; omega) (show (0 : Int) = _ from rfl) (by omega) (Nat.lt_succ_self _)) (zwk_s rfl (zwk_s rfl (zwk_s rfl (zwk_s rfl (zwk_s rfl zwk_0)))))

set_option maxHeartbeats 4000000 in
set_option maxRecDepth 100000 in
theorem c_X9_layNamesW {l : Launch} {Γ : zΓ} {G : zH} {w : Nat} {q1 q2 q3 q4 q5 q6 q7 : Int} (hX : zXs Γ)  : zMet l Γ yX9_layNames cX9_layNames 8 none 0 [zr 10 w, zi q1, zi q2, zi q3, zi q4, zi q5, zi q6, zi q7] G (zpv (fun G' => zsm [] G G' ∧ ((∀ j : Nat, j < 7 → (G'.2.1 2079 (Γ.2.1 w 48)) j = if j = 0 then q1 else if j = 1 then q2 else if j = 2 then q3 else if j = 3 then q4 else if j = 4 then q5 else if j = 5 then q6 else q7) ∧ zsj [2079] G G'))) := by
  refine zMet_of RX9 hX (by decide) rfl (Nat.le_of_ble_eq_true rfl) ?_
  intro p e s m args below meth c C hr hlk
  show Z p l e (zrm 0) s m args below meth c Γ 8 0 0 (MQ below (zQc Γ (zpv (fun G' => zsm [] G G' ∧ ((∀ j : Nat, j < 7 → (G'.2.1 2079 (Γ.2.1 w 48)) j = if j = 0 then q1 else if j = 1 then q2 else if j = 2 then q3 else if j = 3 then q4 else if j = 4 then q5 else if j = 5 then q6 else q7) ∧ zsj [2079] G G')))) args s 0 0 (zA Γ)) 0 [some (zr 10 w), some (zi q1), some (zi q2), some (zi q3), some (zi q4), some (zi q5), some (zi q6), some (zi q7)] [] G
  refine zs_loc 1 rfl (fun ha1 hb1 => ?_)
  refine zs_loc 2 rfl (fun ha2 hb2 => ?_)
  refine zs_loc 3 rfl (fun ha3 hb3 => ?_)
  refine zs_loc 4 rfl (fun ha4 hb4 => ?_)
  refine zs_loc 5 rfl (fun ha5 hb5 => ?_)
  refine zs_loc 6 rfl (fun ha6 hb6 => ?_)
  refine zs_loc 7 rfl (fun ha7 hb7 => ?_)
  refine zs_aload_n (pc := 0) C dX9_layNames_0 rfl ?_
  refine zs_getf (pc := 1) C dX9_layNames_1 w_X9_81 f_10_48 (by decide) ?_
  refine zs_iconst (pc := 4) C dX9_layNames_4 (by decide) ?_
  refine zs_iload_n (pc := 5) C dX9_layNames_5 rfl ?_
  refine zs_i2l (pc := 6) C dX9_layNames_6 ?_
  refine zs_last (r := 2079) (pc := 7) C dX9_layNames_7 a_79 (by decide) (by omega) rfl ?_
  refine zs_aload_n (pc := 8) C dX9_layNames_8 rfl ?_
  refine zs_getf (pc := 9) C dX9_layNames_9 w_X9_81 f_10_48 (by decide) ?_
  refine zs_iconst (pc := 12) C dX9_layNames_12 (by decide) ?_
  refine zs_iload_n (pc := 13) C dX9_layNames_13 rfl ?_
  refine zs_i2l (pc := 14) C dX9_layNames_14 ?_
  refine zs_last (r := 2079) (pc := 15) C dX9_layNames_15 a_79 (by decide) (by omega) rfl ?_
  refine zs_aload_n (pc := 16) C dX9_layNames_16 rfl ?_
  refine zs_getf (pc := 17) C dX9_layNames_17 w_X9_81 f_10_48 (by decide) ?_
  refine zs_iconst (pc := 20) C dX9_layNames_20 (by decide) ?_
  refine zs_iload_n (pc := 21) C dX9_layNames_21 rfl ?_
  refine zs_i2l (pc := 22) C dX9_layNames_22 ?_
  refine zs_last (r := 2079) (pc := 23) C dX9_layNames_23 a_79 (by decide) (by omega) rfl ?_
  refine zs_aload_n (pc := 24) C dX9_layNames_24 rfl ?_
  refine zs_getf (pc := 25) C dX9_layNames_25 w_X9_81 f_10_48 (by decide) ?_
  refine zs_iconst (pc := 28) C dX9_layNames_28 (by decide) ?_
  refine zs_iload (pc := 29) C dX9_layNames_29 rfl ?_
  refine zs_i2l (pc := 31) C dX9_layNames_31 ?_
  refine zs_last (r := 2079) (pc := 32) C dX9_layNames_32 a_79 (by decide) (by omega) rfl ?_
  refine zs_aload_n (pc := 33) C dX9_layNames_33 rfl ?_
  refine zs_getf (pc := 34) C dX9_layNames_34 w_X9_81 f_10_48 (by decide) ?_
  refine zs_iconst (pc := 37) C dX9_layNames_37 (by decide) ?_
  refine zs_iload (pc := 38) C dX9_layNames_38 rfl ?_
  refine zs_i2l (pc := 40) C dX9_layNames_40 ?_
  refine zs_last (r := 2079) (pc := 41) C dX9_layNames_41 a_79 (by decide) (by omega) rfl ?_
  refine zs_aload_n (pc := 42) C dX9_layNames_42 rfl ?_
  refine zs_getf (pc := 43) C dX9_layNames_43 w_X9_81 f_10_48 (by decide) ?_
  refine zs_iconst (pc := 46) C dX9_layNames_46 (by decide) ?_
  refine zs_iload (pc := 47) C dX9_layNames_47 rfl ?_
  refine zs_i2l (pc := 49) C dX9_layNames_49 ?_
  refine zs_last (r := 2079) (pc := 50) C dX9_layNames_50 a_79 (by decide) (by omega) rfl ?_
  refine zs_aload_n (pc := 51) C dX9_layNames_51 rfl ?_
  refine zs_getf (pc := 52) C dX9_layNames_52 w_X9_81 f_10_48 (by decide) ?_
  refine zs_bipush (pc := 55) C dX9_layNames_55 (by decide) (by decide) ?_
  refine zs_iload (pc := 57) C dX9_layNames_57 rfl ?_
  refine zs_i2l (pc := 59) C dX9_layNames_59 ?_
  refine zs_last (r := 2079) (pc := 60) C dX9_layNames_60 a_79 (by decide) (by omega) rfl ?_
  exact zs_vret (pc := 61) C hr hlk dX9_layNames_61 ⟨by repeat (first | exact zsm_rf | assumption | refine zsm_C (by decide) ?_ | refine zsm_I (by decide) ?_ | refine zsm_J ?_ | refine zsm_c (by assumption) (by decide) ?_), ⟨fun j hj => by (rcases (show j = 0 ∨ j = 1 ∨ j = 2 ∨ j = 3 ∨ j = 4 ∨ j = 5 ∨ j = 6 by omega) with rfl | rfl | rfl | rfl | rfl | rfl | rfl <;> simp [zuJ_2]), (by repeat (first | exact zsj_rf | assumption | refine zsj_I ?_ | refine zsj_J (by decide) ?_ | refine zsj_e (by assumption) ?_ | refine zsj_c (by assumption) (by decide) ?_))⟩⟩

set_option maxHeartbeats 4000000 in
set_option maxRecDepth 100000 in
theorem c_X9_layOfW {l : Launch} {Γ : zΓ} {G : zH} {w : Nat} {b0 p s : Int} {A W : aS}  (hX : zXs Γ) (hb : b0 = 0 ∨ b0 = 1) (hp : 0 ≤ p ∧ p ≤ 4) (hs : 0 ≤ s ∧ s ≤ 3) (hR : rW Γ w b0 W G) (hK : kR Γ w A G) (hW : WI A W) (hT : TA A) (hs2 : s < A 4 0) (hp2 : p < A 4 1)  : zMet l Γ yX9_layOf cX9_layOf 4 none 2 [zr 10 w, zi b0, zi p, zi s] G (zpv (fun G' => zsm [] G G' ∧ ((∀ j : Nat, j < 7 → (G'.2.1 2079 (Γ.2.1 w 48)) j = wNm A W p s j) ∧ zsj [2079] G G'))) := by
  refine zMet_of RX9 hX (by decide) rfl (Nat.le_of_ble_eq_true rfl) ?_
  intro px9 e sx9 m args below meth c C hr hlk
  show Z px9 l e (zrm 2) sx9 m args below meth c Γ 4 0 0 (MQ below (zQc Γ (zpv (fun G' => zsm [] G G' ∧ ((∀ j : Nat, j < 7 → (G'.2.1 2079 (Γ.2.1 w 48)) j = wNm A W p s j) ∧ zsj [2079] G G')))) args sx9 0 0 (zA Γ)) 0 [some (zr 10 w), some (zi b0), some (zi p), some (zi s)] [] G
  refine zs_loc 1 rfl (fun ha1 hb1 => ?_)
  refine zs_loc 2 rfl (fun ha2 hb2 => ?_)
  refine zs_loc 3 rfl (fun ha3 hb3 => ?_)
  have hT0 := hT.1
  obtain ⟨⟨k12, k13, k14, k15, k16⟩, kb, kS, kP, -, -, kC, kM, kO, kL, kN⟩ := id hK
  obtain ⟨rA, rB, ⟨r1, r2, r3, r4⟩, rC⟩ := id hR
  have rBp := rB p.toNat (by omega)
  rw [show (5 * b0 + (p.toNat : Int)).toNat = (5 * b0 + p).toNat by omega] at rBp
  refine zs_aload_n (pc := 0) C dX9_layOf_0 rfl ?_
  refine zs_aload_n (pc := 1) C dX9_layOf_1 rfl ?_
  refine zs_getf (pc := 2) C dX9_layOf_2 w_X9_30 f_10_25 (by decide) ?_
  refine zs_iload_n (pc := 5) C dX9_layOf_5 rfl ?_
  refine zs_iald (r := 2062) (pc := 6) C dX9_layOf_6 a_62 (by decide) (by omega) rfl (r_2062 _) (fun v6 e6 l6 u6 => ?_)
  have y6 : v6 = A 6 s.toNat := e6.trans (kS s.toNat (by omega)).2
  refine zs_aload_n (pc := 7) C dX9_layOf_7 rfl ?_
  refine zs_getf (pc := 8) C dX9_layOf_8 w_X9_94 f_10_53 (by decide) ?_
  refine zs_iconst (pc := 11) C dX9_layOf_11 (by decide) ?_
  refine zs_iload_n (pc := 12) C dX9_layOf_12 rfl ?_
  first | refine zs_imul (pc := 13) C dX9_layOf_13 (by omega) ?_ | refine zs_imulF (pc := 13) C dX9_layOf_13 (fun z13 hz131 hz132 => ?_)
  refine zs_iload_n (pc := 14) C dX9_layOf_14 rfl ?_
  first | refine zs_iadd (pc := 15) C dX9_layOf_15 (by omega) ?_ | refine zs_iaddF (pc := 15) C dX9_layOf_15 (fun z15 hz151 hz152 => ?_)
  refine zs_iald (r := 2083) (pc := 16) C dX9_layOf_16 a_83 (by decide) (by omega) rfl (r_2083 _) (fun v16 e16 l16 u16 => ?_)
  have y16 : v16 = W 13 p.toNat := e16.trans rBp.1
  refine zs_aload_n (pc := 17) C dX9_layOf_17 rfl ?_
  refine zs_getf (pc := 18) C dX9_layOf_18 w_X9_112 f_10_59 (by decide) ?_
  refine zs_iload_n (pc := 21) C dX9_layOf_21 rfl ?_
  refine zs_iald (r := 2089) (pc := 22) C dX9_layOf_22 a_89 (by decide) (by omega) rfl (r_2089 _) (fun v22 e22 l22 u22 => ?_)
  have y22 : v22 = W 20 0 := e22.trans r3
  refine zs_aload_n (pc := 23) C dX9_layOf_23 rfl ?_
  refine zs_iload_n (pc := 24) C dX9_layOf_24 rfl ?_
  refine zs_iload_n (pc := 25) C dX9_layOf_25 rfl ?_
  refine zVip2 (pc := 26) C dX9_layOf_26 v_X9_404 (c_X9_prideOfW hX hb hp hR.1 hK hW hT) (by decide) (by decide) ⟨Nat.zero_le _, Nat.zero_le _⟩ (Nat.le_of_ble_eq_true rfl) (fun x26 l26 u26 hp26 => ?_)
  have hq26 := hp26
  refine zs_aload_n (pc := 29) C dX9_layOf_29 rfl ?_
  refine zs_iload_n (pc := 30) C dX9_layOf_30 rfl ?_
  refine zs_iload_n (pc := 31) C dX9_layOf_31 rfl ?_
  refine zs_iload_n (pc := 32) C dX9_layOf_32 rfl ?_
  refine zVip3 (pc := 33) C dX9_layOf_33 v_X9_394 (c_X9_leftOfW hX hb hp hs hR.1 (WI_WL hW)) (by decide) (by decide) ⟨Nat.zero_le _, Nat.zero_le _⟩ (Nat.le_of_ble_eq_true rfl) (fun x33 l33 u33 hp33 => ?_)
  have hq33 := hp33
  refine zs_if_le (tgt := 43) (pc := 36) C dX9_layOf_36 (by decide) (fun h36 => ?_) (fun h36 => ?_)
  · skip
    refine zs_iconst (pc := 43) C dX9_layOf_43 (by decide) ?_
    refine zs_aload_n (pc := 44) C dX9_layOf_44 rfl ?_
    refine zs_getf (pc := 45) C dX9_layOf_45 w_X9_36 f_10_27 (by decide) ?_
    refine zs_iload_n (pc := 48) C dX9_layOf_48 rfl ?_
    refine zs_iald (r := 2064) (pc := 49) C dX9_layOf_49 a_64 (by decide) (by omega) rfl (r_2064 _) (fun v49 e49 l49 u49 => ?_)
    have y49 : v49 = A 7 p.toNat := e49.trans (kP p.toNat (by omega)).2
    refine zs_aload_n (pc := 50) C dX9_layOf_50 rfl ?_
    refine zs_getf (pc := 51) C dX9_layOf_51 w_X9_115 f_10_60 (by decide) ?_
    refine zs_iload_n (pc := 54) C dX9_layOf_54 rfl ?_
    refine zs_iald (r := 2090) (pc := 55) C dX9_layOf_55 a_90 (by decide) (by omega) rfl (r_2090 _) (fun v55 e55 l55 u55 => ?_)
    have y55 : v55 = W 18 0 := e55.trans r4
    refine zVv7 (pc := 56) C dX9_layOf_56 v_X9_410 (c_X9_layNamesW hX ) (by decide) (by decide) ⟨Nat.zero_le _, Nat.zero_le _⟩ (Nat.le_of_ble_eq_true rfl) (fun G56 hp56 => ?_)
    obtain ⟨hz56, hq56⟩ := hp56
    exact zs_vret (pc := 59) C hr hlk dX9_layOf_59 ⟨hz56, ⟨fun j hj => by rw [hq56.1 j hj, y6, y16, y22, hq26, y49, y55]; unfold wNm; rcases (show j = 0 ∨ j = 1 ∨ j = 2 ∨ j = 3 ∨ j = 4 ∨ j = 5 ∨ j = 6 by omega) with rfl | rfl | rfl | rfl | rfl | rfl | rfl <;> first | rfl | (show (0 : Int) = if 0 < wL W p s then 0 else 1; rw [if_pos (by omega)]) | (show (1 : Int) = if 0 < wL W p s then 0 else 1; rw [if_neg (by omega)]), hq56.2⟩⟩
  · skip
    refine zs_iconst (pc := 39) C dX9_layOf_39 (by decide) ?_
    refine zs_goto (tgt := 44) (pc := 40) C dX9_layOf_40 (by decide) ?_
    refine zs_aload_n (pc := 44) C dX9_layOf_44 rfl ?_
    refine zs_getf (pc := 45) C dX9_layOf_45 w_X9_36 f_10_27 (by decide) ?_
    refine zs_iload_n (pc := 48) C dX9_layOf_48 rfl ?_
    refine zs_iald (r := 2064) (pc := 49) C dX9_layOf_49 a_64 (by decide) (by omega) rfl (r_2064 _) (fun v49 e49 l49 u49 => ?_)
    have y49 : v49 = A 7 p.toNat := e49.trans (kP p.toNat (by omega)).2
    refine zs_aload_n (pc := 50) C dX9_layOf_50 rfl ?_
    refine zs_getf (pc := 51) C dX9_layOf_51 w_X9_115 f_10_60 (by decide) ?_
    refine zs_iload_n (pc := 54) C dX9_layOf_54 rfl ?_
    refine zs_iald (r := 2090) (pc := 55) C dX9_layOf_55 a_90 (by decide) (by omega) rfl (r_2090 _) (fun v55 e55 l55 u55 => ?_)
    have y55 : v55 = W 18 0 := e55.trans r4
    refine zVv7 (pc := 56) C dX9_layOf_56 v_X9_410 (c_X9_layNamesW hX ) (by decide) (by decide) ⟨Nat.zero_le _, Nat.zero_le _⟩ (Nat.le_of_ble_eq_true rfl) (fun G56 hp56 => ?_)
    obtain ⟨hz56, hq56⟩ := hp56
    exact zs_vret (pc := 59) C hr hlk dX9_layOf_59 ⟨hz56, ⟨fun j hj => by rw [hq56.1 j hj, y6, y16, y22, hq26, y49, y55]; unfold wNm; rcases (show j = 0 ∨ j = 1 ∨ j = 2 ∨ j = 3 ∨ j = 4 ∨ j = 5 ∨ j = 6 by omega) with rfl | rfl | rfl | rfl | rfl | rfl | rfl <;> first | rfl | (show (0 : Int) = if 0 < wL W p s then 0 else 1; rw [if_pos (by omega)]) | (show (1 : Int) = if 0 < wL W p s then 0 else 1; rw [if_neg (by omega)]), hq56.2⟩⟩

theorem nm_cg {f g : Nat → Int} (h : ∀ j : Nat, j < 7 → f j = g j) {sg nb pt ot : Nat → Int} {s0 n : Nat} (hO : smO sg nb pt ot s0 n) : ∀ m : Nat, m ≤ n → (∀ j : Nat, vN sg pt ot f s0 m j = vN sg pt ot g s0 m j) ∧ vG sg pt ot f s0 m = vG sg pt ot g s0 m
  | 0, _ => ⟨fun _ => rfl, rfl⟩
  | m + 1, hm => by
    obtain ⟨i1, i2⟩ := nm_cg h hO m (by omega)
    have e : kV sg pt ot f (vN sg pt ot f s0 m) (s0 + m) = kV sg pt ot g (vN sg pt ot g s0 m) (s0 + m) := by
      unfold kV
      by_cases z0 : sg (s0 + m) = 0
      · rw [if_pos z0, if_pos z0]
      · rw [if_neg z0, if_neg z0]
        by_cases z1 : sg (s0 + m) = 1
        · rw [if_pos z1, if_pos z1]
          obtain ⟨k1, -, -⟩ := hO m (by omega)
          obtain ⟨c1, c2, c3, c4, c5⟩ := k1 (by omega)
          exact h _ (by have := c5 z1; omega)
        · rw [if_neg z1, if_neg z1, i1, i1]
    refine ⟨fun j => ?_, ?_⟩
    · show (if j = s0 + m then _ else _) = (if j = s0 + m then _ else _)
      rw [e, i1]
    · show (if _ ∧ _ then (1 : Int) else 0) = (if _ ∧ _ then (1 : Int) else 0)
      rw [e, i2]
theorem lV_cg {f g : Nat → Int} (h : ∀ j : Nat, j < 7 → f j = g j) {A : aS} (hA : WFA A) {k : Int} (hk : 0 ≤ k ∧ k < 7) : lV (A 18) (A 27) (A 28) f (A 16 k.toNat) (A 17 k.toNat) = lV (A 18) (A 27) (A 28) g (A 16 k.toNat) (A 17 k.toNat) := by
  by_cases q : A 16 k.toNat < A 17 k.toNat
  · obtain ⟨w1, w2, w3, w4⟩ := hA.2 k.toNat (by omega) q
    obtain ⟨e1, e2⟩ := nm_cg h w3 _ (Nat.le_refl _)
    unfold lV
    rw [e2, e1]
  · rw [lV_no (fun z => q z.1), lV_no (fun z => q z.1)]

theorem c_X9_lawOfW {l : Launch} {Γ : zΓ} {G : zH} {w : Nat} {k : Int} {A : aS} {nm : Nat → Int} (hX : zXs Γ) (hK : kR Γ w A G) (hA : WFA A) (hk : 0 ≤ k ∧ k < 7) (hl : A 16 k.toNat < A 17 k.toNat) (hn : ∀ j : Nat, j < 7 → (G.2.1 2079 (Γ.2.1 w 48)) j = nm j) (hbn : ∀ j : Nat, j < 7 → -2147483648 ≤ nm j ∧ nm j ≤ 2147483647) : zMet l Γ yX9_lawOf cX9_lawOf 3 (some .long) 2 [zr 10 w, zi k] G (zpj (fun x G' => zsm [1050] G G' ∧ ((G'.1 1050 w 0 = if (lV (A 18) (A 27) (A 28) nm (A 16 k.toNat) (A 17 k.toNat)) = -9223372036854775808 then 1 else 0) ∧ (x = if (lV (A 18) (A 27) (A 28) nm (A 16 k.toNat) (A 17 k.toNat)) = -9223372036854775808 then 0 else (lV (A 18) (A 27) (A 28) nm (A 16 k.toNat) (A 17 k.toNat))) ∧ zsj [2080] G G'))) := by
  obtain ⟨w1, w2, w3, w4⟩ := hA.2 k.toNat (by omega) hl
  have hA20 := hA.1
  obtain ⟨l1, l2, l3⟩ := (kR_L hK hk).1 hl
  have kN := hK.2.2.2.2.2.2.2.2.2.2
  have hz := c_X9_lawOfK (l := l) (Γ := Γ) (G := G) (w := w) (k := k) (sg := A 18) (nb := A 19) (pt := A 27) (ot := A 28) hX hk (by rw [l2, l3]; exact ⟨w1, hl, by omega⟩) (by rw [l2, l3]; exact w3) (by rw [l2, l3]; exact fun j h1 h2 => kN j (by omega) (by omega)) (fun j hj => by rw [hn j hj]; exact hbn j hj)
  rw [l2, l3] at hz
  refine zMet_mo hz (fun r G' h => ?_)
  obtain ⟨x, hx, h1, h2, h3, h4⟩ := h
  have hg := lV_g (sg := A 18) (pt := A 27) (ot := A 28) (nm := (G.2.1 2079 (Γ.2.1 w 48))) w1 hl
  have hc := lV_cg hn hA hk
  refine ⟨x, hx, h1, ?_, ?_, h4⟩
  · rw [h2, ← hc]
    by_cases z : vG (A 18) (A 27) (A 28) (G.2.1 2079 (Γ.2.1 w 48)) (A 16 k.toNat).toNat (A 17 k.toNat - A 16 k.toNat).toNat = 1
    · rw [if_pos z, if_neg (hg.mp z)]
    · rw [if_neg z, if_pos (Decidable.byContradiction (fun y => z (hg.mpr y)))]
  · rw [h3, ← hc]
    by_cases z : vG (A 18) (A 27) (A 28) (G.2.1 2079 (Γ.2.1 w 48)) (A 16 k.toNat).toNat (A 17 k.toNat - A 16 k.toNat).toNat = 1
    · rw [if_pos z, if_neg (hg.mp z)]
    · rw [if_neg z, if_pos (Decidable.byContradiction (fun y => z (hg.mpr y)))]

set_option maxHeartbeats 4000000 in
set_option maxRecDepth 100000 in
theorem c_X9_boundLawW {l : Launch} {Γ : zΓ} {G : zH} {w : Nat} {k a q : Int} {A : aS} {nm : Nat → Int} (hX : zXs Γ) (hK : kR Γ w A G) (hA : WFA A) (hk : 0 ≤ k ∧ k < 7) (hn : ∀ j : Nat, j < 7 → (G.2.1 2079 (Γ.2.1 w 48)) j = nm j) (hbn : ∀ j : Nat, j < 7 → -2147483648 ≤ nm j ∧ nm j ≤ 2147483647)  : zMet l Γ yX9_boundLaw cX9_boundLaw 6 (some .int) 3 [zr 10 w, zi k, zi a, zi q] G (zpi (fun x G' => zsm [1050] G G' ∧ (x = bV (lV (A 18) (A 27) (A 28) nm (A 16 k.toNat) (A 17 k.toNat)) a q ∧ zsj [2080] G G'))) := by
  refine zMet_of RX9 hX (by decide) rfl (Nat.le_of_ble_eq_true rfl) ?_
  intro p e s m args below meth c C hr hlk
  show Z p l e (zrm 3) s m args below meth c Γ 6 0 0 (MQ below (zQc Γ (zpi (fun x G' => zsm [1050] G G' ∧ (x = bV (lV (A 18) (A 27) (A 28) nm (A 16 k.toNat) (A 17 k.toNat)) a q ∧ zsj [2080] G G')))) args s 0 0 (zA Γ)) 0 [some (zr 10 w), some (zi k), some (zi a), some (zi q), none, none] [] G
  refine zs_loc 1 rfl (fun ha1 hb1 => ?_)
  refine zs_loc 2 rfl (fun ha2 hb2 => ?_)
  refine zs_loc 3 rfl (fun ha3 hb3 => ?_)
  have hkl := kR_L hK hk
  refine zs_aload_n (pc := 0) C dX9_boundLaw_0 rfl ?_
  refine zs_getf (pc := 1) C dX9_boundLaw_1 w_X9_57 f_10_34 (by decide) ?_
  refine zs_iload_n (pc := 4) C dX9_boundLaw_4 rfl ?_
  refine zs_zald (r := 2071) (pc := 5) C dX9_boundLaw_5 a_71 (by decide) (by omega) rfl (r_2071 _) (fun v5 e5 l5 u5 => ?_)
  refine zs_if_ne (tgt := 11) (pc := 6) C dX9_boundLaw_6 (by decide) (fun h6 => ?_) (fun h6 => ?_)
  · skip
    have hl0 : A 16 k.toNat < A 17 k.toNat := Decidable.byContradiction (fun z => by have := hkl.2 z; omega)
    have w9 := hA.2 k.toNat (by omega) hl0
    refine zs_aload_n (pc := 11) C dX9_boundLaw_11 rfl ?_
    refine zs_iload_n (pc := 12) C dX9_boundLaw_12 rfl ?_
    refine zVj1 (pc := 13) C dX9_boundLaw_13 v_X9_418 (c_X9_lawOfW (nm := nm) hX hK hA hk hl0 hn hbn) (by decide) (by decide) ⟨Nat.zero_le _, Nat.zero_le _⟩ (Nat.le_of_ble_eq_true rfl) (fun x13 G13 l13 u13 hp13 => ?_)
    obtain ⟨hz13, hq13⟩ := hp13
    obtain ⟨f13, y13, j13⟩ := hq13
    have hin := lV_in (sg := A 18) (pt := A 27) (ot := A 28) (nm := nm) (f := A 16 k.toNat) (b := A 17 k.toNat) w9.1
    unfold inb at hin
    refine zs_lstore (pc := 16) C dX9_boundLaw_16 (by decide) ?_
    dsimp only [zset, zclr, znone]
    refine zs_aload_n (pc := 18) C dX9_boundLaw_18 rfl ?_
    refine zs_getz (r := 1050) (pc := 19) C dX9_boundLaw_19 w_X9_357 f_10_50 rfl (r_1050 0) (fun v19 e19 l19 u19 => ?_)
    refine zs_if_eq (tgt := 29) (pc := 22) C dX9_boundLaw_22 (by decide) (fun h22 => ?_) (fun h22 => ?_)
    · skip
      refine zs_lload (pc := 29) C dX9_boundLaw_29 rfl ?_
      refine zs_lconst (n := 0) (pc := 31) C dX9_boundLaw_31 rfl (by decide) ?_
      refine zs_lcmp (pc := 32) C dX9_boundLaw_32 (fun z32 hz32 => ?_)
      refine zs_if_ge (tgt := 40) (pc := 33) C dX9_boundLaw_33 (by decide) (fun h33 => ?_) (fun h33 => ?_)
      · skip
        refine zs_lload (pc := 40) C dX9_boundLaw_40 rfl ?_
        refine zs_iload_n (pc := 42) C dX9_boundLaw_42 rfl ?_
        refine zs_i2l (pc := 43) C dX9_boundLaw_43 ?_
        refine zs_lcmp (pc := 44) C dX9_boundLaw_44 (fun z44 hz44 => ?_)
        refine zs_if_le (tgt := 52) (pc := 45) C dX9_boundLaw_45 (by decide) (fun h45 => ?_) (fun h45 => ?_)
        · skip
          refine zs_lload (pc := 52) C dX9_boundLaw_52 rfl ?_
          first | refine zs_l2i (pc := 54) C dX9_boundLaw_54 (by omega) ?_ | refine zs_l2iF (pc := 54) C dX9_boundLaw_54 (fun z54 hz541 hz542 => ?_)
          exact zs_iret (pc := 55) C hr hlk dX9_boundLaw_55 ⟨hz13, ⟨by unfold bV; by_cases z : (lV (A 18) (A 27) (A 28) nm (A 16 k.toNat) (A 17 k.toNat)) = -9223372036854775808; (first | (exact (if_pos z).symm) | (rw [if_pos z] at f13; exfalso; omega)); (rw [if_neg z] at f13 y13 ⊢; (repeat' split) <;> omega), j13⟩⟩
        · skip
          refine zs_iload_n (pc := 48) C dX9_boundLaw_48 rfl ?_
          refine zs_goto (tgt := 55) (pc := 49) C dX9_boundLaw_49 (by decide) ?_
          exact zs_iret (pc := 55) C hr hlk dX9_boundLaw_55 ⟨hz13, ⟨by unfold bV; by_cases z : (lV (A 18) (A 27) (A 28) nm (A 16 k.toNat) (A 17 k.toNat)) = -9223372036854775808; (first | (exact (if_pos z).symm) | (rw [if_pos z] at f13; exfalso; omega)); (rw [if_neg z] at f13 y13 ⊢; (repeat' split) <;> omega), j13⟩⟩
      · skip
        refine zs_iconst (pc := 36) C dX9_boundLaw_36 (by decide) ?_
        refine zs_goto (tgt := 55) (pc := 37) C dX9_boundLaw_37 (by decide) ?_
        exact zs_iret (pc := 55) C hr hlk dX9_boundLaw_55 ⟨hz13, ⟨by unfold bV; by_cases z : (lV (A 18) (A 27) (A 28) nm (A 16 k.toNat) (A 17 k.toNat)) = -9223372036854775808; (first | (exact (if_pos z).symm) | (rw [if_pos z] at f13; exfalso; omega)); (rw [if_neg z] at f13 y13 ⊢; (repeat' split) <;> omega), j13⟩⟩
    · skip
      refine zs_iload_n (pc := 25) C dX9_boundLaw_25 rfl ?_
      refine zs_goto (tgt := 55) (pc := 26) C dX9_boundLaw_26 (by decide) ?_
      exact zs_iret (pc := 55) C hr hlk dX9_boundLaw_55 ⟨hz13, ⟨by unfold bV; by_cases z : (lV (A 18) (A 27) (A 28) nm (A 16 k.toNat) (A 17 k.toNat)) = -9223372036854775808; (first | (exact (if_pos z).symm) | (rw [if_pos z] at f13; exfalso; omega)); (rw [if_neg z] at f13 y13 ⊢; (repeat' split) <;> omega), j13⟩⟩
  · skip
    refine zs_iload_n (pc := 9) C dX9_boundLaw_9 rfl ?_
    exact zs_iret (pc := 10) C hr hlk dX9_boundLaw_10 ⟨zsm_rf, ⟨by rw [lV_no (fun z => by have := (hkl.1 z.1).1; omega)]; rfl, zsj_rf⟩⟩

set_option maxHeartbeats 4000000 in
set_option maxRecDepth 100000 in
theorem c_X9_fineOfW {l : Launch} {Γ : zΓ} {G : zH} {w : Nat} {b0 p s : Int} {A W : aS}  (hX : zXs Γ) (hb : b0 = 0 ∨ b0 = 1) (hp : 0 ≤ p ∧ p ≤ 4) (hs : 0 ≤ s ∧ s ≤ 3) (hR : rW Γ w b0 W G) (hK : kR Γ w A G) (hW : WI A W) (hT : TA A) (hs2 : s < A 4 0) (hp2 : p < A 4 1)  : zMet l Γ yX9_fineOf cX9_fineOf 4 (some .int) 4 [zr 10 w, zi b0, zi p, zi s] G (zpi (fun x G' => zsm [1050] G G' ∧ (x = wFine A W p s ∧ (∀ j : Nat, j < 7 → (G'.2.1 2079 (Γ.2.1 w 48)) j = wNm A W p s j) ∧ zsj [2079, 2080] G G'))) := by
  refine zMet_of RX9 hX (by decide) rfl (Nat.le_of_ble_eq_true rfl) ?_
  intro px9 e sx9 m args below meth c C hr hlk
  show Z px9 l e (zrm 4) sx9 m args below meth c Γ 4 0 0 (MQ below (zQc Γ (zpi (fun x G' => zsm [1050] G G' ∧ (x = wFine A W p s ∧ (∀ j : Nat, j < 7 → (G'.2.1 2079 (Γ.2.1 w 48)) j = wNm A W p s j) ∧ zsj [2079, 2080] G G')))) args sx9 0 0 (zA Γ)) 0 [some (zr 10 w), some (zi b0), some (zi p), some (zi s)] [] G
  refine zs_loc 1 rfl (fun ha1 hb1 => ?_)
  refine zs_loc 2 rfl (fun ha2 hb2 => ?_)
  refine zs_loc 3 rfl (fun ha3 hb3 => ?_)
  have kS := hK.2.2.1
  refine zs_aload_n (pc := 0) C dX9_fineOf_0 rfl ?_
  refine zs_iload_n (pc := 1) C dX9_fineOf_1 rfl ?_
  refine zs_iload_n (pc := 2) C dX9_fineOf_2 rfl ?_
  refine zs_iload_n (pc := 3) C dX9_fineOf_3 rfl ?_
  refine zVv3 (pc := 4) C dX9_fineOf_4 v_X9_421 (c_X9_layOfW hX hb hp hs hR hK hW hT hs2 hp2) (by decide) (by decide) ⟨Nat.zero_le _, Nat.zero_le _⟩ (Nat.le_of_ble_eq_true rfl) (fun G4 hp4 => ?_)
  obtain ⟨hz4, hq4⟩ := hp4
  refine zs_aload_n (pc := 7) C dX9_fineOf_7 rfl ?_
  refine zs_iconst (pc := 8) C dX9_fineOf_8 (by decide) ?_
  refine zs_aload_n (pc := 9) C dX9_fineOf_9 rfl ?_
  refine zs_getf (pc := 10) C dX9_fineOf_10 w_X9_30 f_10_25 (by decide) ?_
  refine zs_iload_n (pc := 13) C dX9_fineOf_13 rfl ?_
  refine zs_iald (r := 2062) (pc := 14) C dX9_fineOf_14 a_62 (by decide) (by omega) rfl (r_2062 _) (fun v14 e14 l14 u14 => ?_)
  have y14 : v14 = A 6 s.toNat := by rw [e14, hz4.1 2062 (by decide)]; exact (kS s.toNat (by omega)).2
  subst y14
  refine zs_sipush (pc := 15) C dX9_fineOf_15 (by decide) (by decide) ?_
  refine zVi3 (pc := 18) C dX9_fineOf_18 v_X9_424 (c_X9_boundLawW (nm := wNm A W p s) hX (kR_sm hz4 (by decide) hK) hT.2.2.2.2.2.2 (by omega) hq4.1 (wNm_in hT hW hp hs ⟨hp2, hs2⟩)) (by decide) (by decide) ⟨Nat.zero_le _, Nat.zero_le _⟩ (Nat.le_of_ble_eq_true rfl) (fun x18 G18 l18 u18 hp18 => ?_)
  obtain ⟨hz18, hq18⟩ := hp18
  exact zs_iret (pc := 21) C hr hlk dX9_fineOf_21 ⟨by repeat (first | exact zsm_rf | assumption | refine zsm_C (by decide) ?_ | refine zsm_I (by decide) ?_ | refine zsm_J ?_ | refine zsm_c (by assumption) (by decide) ?_), ⟨hq18.1, fun j hj => by rw [hq18.2 2079 (by decide)]; exact hq4.1 j hj, zsj_c hq18.2 (by decide) (zsj_c hq4.2 (by decide) zsj_rf)⟩⟩

set_option maxHeartbeats 4000000 in
set_option maxRecDepth 100000 in
theorem c_X9_worthLeftW {l : Launch} {Γ : zΓ} {G : zH} {w : Nat} {p : Int} {A W : aS}  (hX : zXs Γ) (hp : 0 ≤ p ∧ p ≤ 4) (hR : rW Γ w 0 W G) (hK : kR Γ w A G) (hW : WI A W) (hT : TA A)  : zMet l Γ yX9_worthLeft cX9_worthLeft 4 (some .int) 1 [zr 10 w, zi p] G (zpi (fun x G' => G' = G ∧ (x = wSum A (W 12) p (A 4 0).toNat ∧ 0 ≤ x ∧ x ≤ 39204))) := by
  refine zMet_of RX9 hX (by decide) rfl (Nat.le_of_ble_eq_true rfl) ?_
  intro px9 e s m args below meth c C hr hlk
  show Z px9 l e (zrm 1) s m args below meth c Γ 4 0 0 (MQ below (zQc Γ (zpi (fun x G' => G' = G ∧ (x = wSum A (W 12) p (A 4 0).toNat ∧ 0 ≤ x ∧ x ≤ 39204)))) args s 0 0 (zA Γ)) 0 [some (zr 10 w), some (zi p), none, none] [] G
  refine zs_loc 1 rfl (fun ha1 hb1 => ?_)
  have hT0 := hT.1
  have hk0 := hK.1.1
  have kS := hK.2.2.1
  refine zs_iconst (pc := 0) C dX9_worthLeft_0 (by decide) ?_
  refine zs_istore_n (pc := 1) C dX9_worthLeft_1 (by decide) ?_
  dsimp only [zset, zclr, znone]
  refine zs_iconst (pc := 2) C dX9_worthLeft_2 (by decide) ?_
  refine zs_istore_n (pc := 3) C dX9_worthLeft_3 (by decide) ?_
  dsimp only [zset, zclr, znone]
  have L4 : ∀ (nn : Nat) (x2 x3 : Int), (0 ≤ x3 ∧ x3 ≤ A 4 0) → (x2 = wSum A (W 12) p x3.toNat) → (0 ≤ x2 ∧ x2 ≤ 9801 * x3) → (4 - x3).toNat < nn → Z px9 l e (zrm 1) s m args below meth c Γ 4 0 0 (MQ below (zQc Γ (zpi (fun x G' => G' = G ∧ (x = wSum A (W 12) p (A 4 0).toNat ∧ 0 ≤ x ∧ x ≤ 39204)))) args s 0 0 (zA Γ)) 4 [some (zr 10 w), some (zi p), some (zi x2), some (zi x3)] [] G := by
    intro nn
    induction nn with
    | zero => intro x2 x3 h4_0 h4_1 h4_2 hm; exact absurd hm (Nat.not_lt_zero _)
    | succ nn ih4 =>
      intro x2 x3 h4_0 h4_1 h4_2 hm4
      refine zs_iload_n (pc := 4) C dX9_worthLeft_4 rfl ?_
      refine zs_aload_n (pc := 5) C dX9_worthLeft_5 rfl ?_
      refine zs_geti (r := 1012) (pc := 6) C dX9_worthLeft_6 w_X9_258 f_10_12 rfl (r_1012 0) (fun v6 e6 l6 u6 => ?_)
      refine zs_icmp_ge (tgt := 35) (pc := 9) C dX9_worthLeft_9 (by decide) (fun h9 => ?_) (fun h9 => ?_)
      · skip
        have hx3 : x3 = A 4 0 := by omega
        rw [hx3] at h4_1
        refine zs_iload_n (pc := 35) C dX9_worthLeft_35 rfl ?_
        exact zs_iret (pc := 36) C hr hlk dX9_worthLeft_36 ⟨rfl, ⟨h4_1, by omega, by omega⟩⟩
      · skip
        refine zs_iload_n (pc := 12) C dX9_worthLeft_12 rfl ?_
        refine zs_aload_n (pc := 13) C dX9_worthLeft_13 rfl ?_
        refine zs_getf (pc := 14) C dX9_worthLeft_14 w_X9_30 f_10_25 (by decide) ?_
        refine zs_iload_n (pc := 17) C dX9_worthLeft_17 rfl ?_
        refine zs_iald (r := 2062) (pc := 18) C dX9_worthLeft_18 a_62 (by decide) (by omega) rfl (r_2062 _) (fun v18 e18 l18 u18 => ?_)
        have y18 : v18 = A 6 x3.toNat := e18.trans (kS x3.toNat (by omega)).2
        have hl := (WI_WL hW) (p * 4 + x3).toNat (by omega)
        have hs := wSum_s (A := A) (W := W) (p := p) (k := x3) (by omega)
        rw [show (p * 4).toNat + x3.toNat = (p * 4 + x3).toNat by omega] at hs
        have hv := hT.2.1 x3.toNat (by omega)
        have hm := mu99 (a := W 12 (p * 4 + x3).toNat) (b := A 6 x3.toNat) (by omega) (by omega)
        rw [Int.mul_comm] at hs hm
        refine zs_aload_n (pc := 19) C dX9_worthLeft_19 rfl ?_
        refine zs_iconst (pc := 20) C dX9_worthLeft_20 (by decide) ?_
        refine zs_iload_n (pc := 21) C dX9_worthLeft_21 rfl ?_
        refine zs_iload_n (pc := 22) C dX9_worthLeft_22 rfl ?_
        refine zVip3 (pc := 23) C dX9_worthLeft_23 v_X9_394 (c_X9_leftOfW hX (Or.inl rfl) hp (by omega) hR.1 (WI_WL hW)) (by decide) (by decide) ⟨Nat.zero_le _, Nat.zero_le _⟩ (Nat.le_of_ble_eq_true rfl) (fun x23 l23 u23 hp23 => ?_)
        have hq23 := hp23
        have hq23b : x23 = W 12 (p * 4 + x3).toNat := hq23
        subst hq23b
        subst y18
        first | refine zs_imul (pc := 26) C dX9_worthLeft_26 (by omega) ?_ | refine zs_imulF (pc := 26) C dX9_worthLeft_26 (fun z26 hz261 hz262 => ?_)
        first | refine zs_iadd (pc := 27) C dX9_worthLeft_27 (by omega) ?_ | refine zs_iaddF (pc := 27) C dX9_worthLeft_27 (fun z27 hz271 hz272 => ?_)
        refine zs_istore_n (pc := 28) C dX9_worthLeft_28 (by decide) ?_
        dsimp only [zset, zclr, znone]
        first | refine zs_iinc (pc := 29) C dX9_worthLeft_29 rfl (by decide) (by omega) ?_ | refine zs_iincF (pc := 29) C dX9_worthLeft_29 rfl (by decide) (fun z29 hz291 hz292 => ?_)
        dsimp only [zset, zclr, znone]
        refine zs_goto (tgt := 4) (pc := 32) C dX9_worthLeft_32 (by decide) ?_
        exact zs_wk (ih4 _ _ (by first | omega | (simp only [zuI_1, zuI_2, zuJ_1, zuJ_2, zuJ_3, zuP_1, zuP_2, zuP_3, zuC_1, zuC_2, reduceIte, Nat.reduceEqDiff, false_and, and_false, true_and, and_true, and_self, or_true, true_or, or_false, false_or]; omega)) (by first | omega | (simp only [zuI_1, zuI_2, zuJ_1, zuJ_2, zuJ_3, zuP_1, zuP_2, zuP_3, zuC_1, zuC_2, reduceIte, Nat.reduceEqDiff, false_and, and_false, true_and, and_true, and_self, or_true, true_or, or_false, false_or]; omega)) (by first | omega | (simp only [zuI_1, zuI_2, zuJ_1, zuJ_2, zuJ_3, zuP_1, zuP_2, zuP_3, zuC_1, zuC_2, reduceIte, Nat.reduceEqDiff, false_and, and_false, true_and, and_true, and_self, or_true, true_or, or_false, false_or]; omega)) (by first | omega | (simp only [zuI_1, zuI_2, zuJ_1, zuJ_2, zuJ_3, zuP_1, zuP_2, zuP_3, zuC_1, zuC_2, reduceIte, Nat.reduceEqDiff, false_and, and_false, true_and, and_true, and_self, or_true, true_or, or_false, false_or]; omega))) (zwk_s rfl (zwk_s rfl (zwk_s rfl (zwk_s rfl zwk_0))))
  exact zs_wk (L4 _ _ _ (by have := hT.1; omega) (show (0 : Int) = _ from rfl) (by omega) (Nat.lt_succ_self _)) (zwk_s rfl (zwk_s rfl (zwk_s rfl (zwk_s rfl zwk_0))))

set_option maxHeartbeats 4000000 in
set_option maxRecDepth 100000 in
theorem c_X9_layPairW {l : Launch} {Γ : zΓ} {G : zH} {w : Nat} {p q : Int} {A W : aS}  (hX : zXs Γ) (hp : 0 ≤ p ∧ p ≤ 4) (hq : 0 ≤ q ∧ q ≤ 4) (hR : rW Γ w 0 W G) (hK : kR Γ w A G) (hW : WI A W) (hT : TA A) (hq2 : q < A 4 1)  : zMet l Γ yX9_layPair cX9_layPair 3 none 2 [zr 10 w, zi p, zi q] G (zpv (fun G' => zsm [] G G' ∧ ((∀ j : Nat, j < 7 → (G'.2.1 2079 (Γ.2.1 w 48)) j = wNp A W p q j) ∧ zsj [2079] G G'))) := by
  refine zMet_of RX9 hX (by decide) rfl (Nat.le_of_ble_eq_true rfl) ?_
  intro px9 e s m args below meth c C hr hlk
  show Z px9 l e (zrm 2) s m args below meth c Γ 3 0 0 (MQ below (zQc Γ (zpv (fun G' => zsm [] G G' ∧ ((∀ j : Nat, j < 7 → (G'.2.1 2079 (Γ.2.1 w 48)) j = wNp A W p q j) ∧ zsj [2079] G G')))) args s 0 0 (zA Γ)) 0 [some (zr 10 w), some (zi p), some (zi q)] [] G
  refine zs_loc 1 rfl (fun ha1 hb1 => ?_)
  refine zs_loc 2 rfl (fun ha2 hb2 => ?_)
  have kP := hK.2.2.2.1
  obtain ⟨rA, rB, ⟨r1, r2, r3, r4⟩, rC⟩ := id hR
  refine zs_aload_n (pc := 0) C dX9_layPair_0 rfl ?_
  refine zs_aload_n (pc := 1) C dX9_layPair_1 rfl ?_
  refine zs_iload_n (pc := 2) C dX9_layPair_2 rfl ?_
  refine zVip1 (pc := 3) C dX9_layPair_3 v_X9_430 (c_X9_worthLeftW hX hp hR hK hW hT) (by decide) (by decide) ⟨Nat.zero_le _, Nat.zero_le _⟩ (Nat.le_of_ble_eq_true rfl) (fun x3 l3 u3 hp3 => ?_)
  have hq3 := hp3
  refine zs_aload_n (pc := 6) C dX9_layPair_6 rfl ?_
  refine zs_iload_n (pc := 7) C dX9_layPair_7 rfl ?_
  refine zVip1 (pc := 8) C dX9_layPair_8 v_X9_430 (c_X9_worthLeftW hX hq hR hK hW hT) (by decide) (by decide) ⟨Nat.zero_le _, Nat.zero_le _⟩ (Nat.le_of_ble_eq_true rfl) (fun x8 l8 u8 hp8 => ?_)
  have hq8 := hp8
  refine zs_aload_n (pc := 11) C dX9_layPair_11 rfl ?_
  refine zs_getf (pc := 12) C dX9_layPair_12 w_X9_112 f_10_59 (by decide) ?_
  refine zs_iconst (pc := 15) C dX9_layPair_15 (by decide) ?_
  refine zs_iald (r := 2089) (pc := 16) C dX9_layPair_16 a_89 (by decide) (by omega) rfl (r_2089 _) (fun v16 e16 l16 u16 => ?_)
  have y16 : v16 = W 20 0 := e16.trans r3
  refine zs_aload_n (pc := 17) C dX9_layPair_17 rfl ?_
  refine zs_iconst (pc := 18) C dX9_layPair_18 (by decide) ?_
  refine zs_iload_n (pc := 19) C dX9_layPair_19 rfl ?_
  refine zVip2 (pc := 20) C dX9_layPair_20 v_X9_404 (c_X9_prideOfW hX (Or.inl rfl) hp hR.1 hK hW hT) (by decide) (by decide) ⟨Nat.zero_le _, Nat.zero_le _⟩ (Nat.le_of_ble_eq_true rfl) (fun x20 l20 u20 hp20 => ?_)
  have hq20 := hp20
  refine zs_iconst (pc := 23) C dX9_layPair_23 (by decide) ?_
  refine zs_aload_n (pc := 24) C dX9_layPair_24 rfl ?_
  refine zs_getf (pc := 25) C dX9_layPair_25 w_X9_36 f_10_27 (by decide) ?_
  refine zs_iload_n (pc := 28) C dX9_layPair_28 rfl ?_
  refine zs_iald (r := 2064) (pc := 29) C dX9_layPair_29 a_64 (by decide) (by omega) rfl (r_2064 _) (fun v29 e29 l29 u29 => ?_)
  have y29 : v29 = A 7 q.toNat := e29.trans (kP q.toNat (by omega)).2
  refine zs_aload_n (pc := 30) C dX9_layPair_30 rfl ?_
  refine zs_getf (pc := 31) C dX9_layPair_31 w_X9_115 f_10_60 (by decide) ?_
  refine zs_iconst (pc := 34) C dX9_layPair_34 (by decide) ?_
  refine zs_iald (r := 2090) (pc := 35) C dX9_layPair_35 a_90 (by decide) (by omega) rfl (r_2090 _) (fun v35 e35 l35 u35 => ?_)
  have y35 : v35 = W 18 0 := e35.trans r4
  refine zVv7 (pc := 36) C dX9_layPair_36 v_X9_410 (c_X9_layNamesW hX ) (by decide) (by decide) ⟨Nat.zero_le _, Nat.zero_le _⟩ (Nat.le_of_ble_eq_true rfl) (fun G36 hp36 => ?_)
  obtain ⟨hz36, hq36⟩ := hp36
  exact zs_vret (pc := 39) C hr hlk dX9_layPair_39 ⟨hz36, ⟨fun j hj => by rw [hq36.1 j hj, hq3.1, hq8.1, y16, hq20, y29, y35]; unfold wNp; rcases (show j = 0 ∨ j = 1 ∨ j = 2 ∨ j = 3 ∨ j = 4 ∨ j = 5 ∨ j = 6 by omega) with rfl | rfl | rfl | rfl | rfl | rfl | rfl <;> rfl, hq36.2⟩⟩

set_option maxHeartbeats 4000000 in
set_option maxRecDepth 100000 in
theorem c_X9_isPersonW {l : Launch} {Γ : zΓ} {G : zH} {w : Nat} {p : Int} {A : aS} (hX : zXs Γ) (hK : kR Γ w A G)  : zMet l Γ yX9_isPerson cX9_isPerson 2 (some .boolean) 0 [zr 10 w, zi p] G (zpi (fun x G' => G' = G ∧ ((x = 0 ∨ x = 1) ∧ (x = 1 ↔ 0 ≤ p ∧ p < A 4 1)))) := by
  refine zMet_of RX9 hX (by decide) rfl (Nat.le_of_ble_eq_true rfl) ?_
  intro px9 e s m args below meth c C hr hlk
  show Z px9 l e (zrm 0) s m args below meth c Γ 2 0 0 (MQ below (zQc Γ (zpi (fun x G' => G' = G ∧ ((x = 0 ∨ x = 1) ∧ (x = 1 ↔ 0 ≤ p ∧ p < A 4 1))))) args s 0 0 (zA Γ)) 0 [some (zr 10 w), some (zi p)] [] G
  refine zs_loc 1 rfl (fun ha1 hb1 => ?_)
  have k13 := hK.1.2.1
  refine zs_iload_n (pc := 0) C dX9_isPerson_0 rfl ?_
  refine zs_if_lt (tgt := 16) (pc := 1) C dX9_isPerson_1 (by decide) (fun h1 => ?_) (fun h1 => ?_)
  · skip
    refine zs_iconst (pc := 16) C dX9_isPerson_16 (by decide) ?_
    exact zs_zret (pc := 17) C hr hlk dX9_isPerson_17 (by omega) ⟨rfl, (by refine ⟨by omega, ?_⟩; constructor <;> intro hq <;> omega)⟩
  · skip
    refine zs_iload_n (pc := 4) C dX9_isPerson_4 rfl ?_
    refine zs_aload_n (pc := 5) C dX9_isPerson_5 rfl ?_
    refine zs_geti (r := 1013) (pc := 6) C dX9_isPerson_6 w_X9_261 f_10_13 rfl (r_1013 0) (fun v6 e6 l6 u6 => ?_)
    refine zs_icmp_ge (tgt := 16) (pc := 9) C dX9_isPerson_9 (by decide) (fun h9 => ?_) (fun h9 => ?_)
    · skip
      refine zs_iconst (pc := 16) C dX9_isPerson_16 (by decide) ?_
      exact zs_zret (pc := 17) C hr hlk dX9_isPerson_17 (by omega) ⟨rfl, (by refine ⟨by omega, ?_⟩; constructor <;> intro hq <;> omega)⟩
    · skip
      refine zs_iconst (pc := 12) C dX9_isPerson_12 (by decide) ?_
      refine zs_goto (tgt := 17) (pc := 13) C dX9_isPerson_13 (by decide) ?_
      exact zs_zret (pc := 17) C hr hlk dX9_isPerson_17 (by omega) ⟨rfl, (by refine ⟨by omega, ?_⟩; constructor <;> intro hq <;> omega)⟩

set_option maxHeartbeats 4000000 in
set_option maxRecDepth 100000 in
theorem c_X9_isSinW {l : Launch} {Γ : zΓ} {G : zH} {w : Nat} {p : Int} {A : aS} (hX : zXs Γ) (hK : kR Γ w A G)  : zMet l Γ yX9_isSin cX9_isSin 2 (some .boolean) 0 [zr 10 w, zi p] G (zpi (fun x G' => G' = G ∧ ((x = 0 ∨ x = 1) ∧ (x = 1 ↔ 0 ≤ p ∧ p < A 4 0)))) := by
  refine zMet_of RX9 hX (by decide) rfl (Nat.le_of_ble_eq_true rfl) ?_
  intro px9 e s m args below meth c C hr hlk
  show Z px9 l e (zrm 0) s m args below meth c Γ 2 0 0 (MQ below (zQc Γ (zpi (fun x G' => G' = G ∧ ((x = 0 ∨ x = 1) ∧ (x = 1 ↔ 0 ≤ p ∧ p < A 4 0))))) args s 0 0 (zA Γ)) 0 [some (zr 10 w), some (zi p)] [] G
  refine zs_loc 1 rfl (fun ha1 hb1 => ?_)
  have k12 := hK.1.1
  refine zs_iload_n (pc := 0) C dX9_isSin_0 rfl ?_
  refine zs_if_lt (tgt := 16) (pc := 1) C dX9_isSin_1 (by decide) (fun h1 => ?_) (fun h1 => ?_)
  · skip
    refine zs_iconst (pc := 16) C dX9_isSin_16 (by decide) ?_
    exact zs_zret (pc := 17) C hr hlk dX9_isSin_17 (by omega) ⟨rfl, (by refine ⟨by omega, ?_⟩; constructor <;> intro hq <;> omega)⟩
  · skip
    refine zs_iload_n (pc := 4) C dX9_isSin_4 rfl ?_
    refine zs_aload_n (pc := 5) C dX9_isSin_5 rfl ?_
    refine zs_geti (r := 1012) (pc := 6) C dX9_isSin_6 w_X9_258 f_10_12 rfl (r_1012 0) (fun v6 e6 l6 u6 => ?_)
    refine zs_icmp_ge (tgt := 16) (pc := 9) C dX9_isSin_9 (by decide) (fun h9 => ?_) (fun h9 => ?_)
    · skip
      refine zs_iconst (pc := 16) C dX9_isSin_16 (by decide) ?_
      exact zs_zret (pc := 17) C hr hlk dX9_isSin_17 (by omega) ⟨rfl, (by refine ⟨by omega, ?_⟩; constructor <;> intro hq <;> omega)⟩
    · skip
      refine zs_iconst (pc := 12) C dX9_isSin_12 (by decide) ?_
      refine zs_goto (tgt := 17) (pc := 13) C dX9_isSin_13 (by decide) ?_
      exact zs_zret (pc := 17) C hr hlk dX9_isSin_17 (by omega) ⟨rfl, (by refine ⟨by omega, ?_⟩; constructor <;> intro hq <;> omega)⟩

set_option maxHeartbeats 4000000 in
set_option maxRecDepth 100000 in
theorem c_X9_isCakeW {l : Launch} {Γ : zΓ} {G : zH} {w : Nat} {p : Int} {A : aS} (hX : zXs Γ) (hK : kR Γ w A G)  : zMet l Γ yX9_isCake cX9_isCake 2 (some .boolean) 0 [zr 10 w, zi p] G (zpi (fun x G' => G' = G ∧ ((x = 0 ∨ x = 1) ∧ (x = 1 ↔ 0 ≤ p ∧ p < A 4 2)))) := by
  refine zMet_of RX9 hX (by decide) rfl (Nat.le_of_ble_eq_true rfl) ?_
  intro px9 e s m args below meth c C hr hlk
  show Z px9 l e (zrm 0) s m args below meth c Γ 2 0 0 (MQ below (zQc Γ (zpi (fun x G' => G' = G ∧ ((x = 0 ∨ x = 1) ∧ (x = 1 ↔ 0 ≤ p ∧ p < A 4 2))))) args s 0 0 (zA Γ)) 0 [some (zr 10 w), some (zi p)] [] G
  refine zs_loc 1 rfl (fun ha1 hb1 => ?_)
  have k14 := hK.1.2.2.1
  refine zs_iload_n (pc := 0) C dX9_isCake_0 rfl ?_
  refine zs_if_lt (tgt := 16) (pc := 1) C dX9_isCake_1 (by decide) (fun h1 => ?_) (fun h1 => ?_)
  · skip
    refine zs_iconst (pc := 16) C dX9_isCake_16 (by decide) ?_
    exact zs_zret (pc := 17) C hr hlk dX9_isCake_17 (by omega) ⟨rfl, (by refine ⟨by omega, ?_⟩; constructor <;> intro hq <;> omega)⟩
  · skip
    refine zs_iload_n (pc := 4) C dX9_isCake_4 rfl ?_
    refine zs_aload_n (pc := 5) C dX9_isCake_5 rfl ?_
    refine zs_geti (r := 1014) (pc := 6) C dX9_isCake_6 w_X9_264 f_10_14 rfl (r_1014 0) (fun v6 e6 l6 u6 => ?_)
    refine zs_icmp_ge (tgt := 16) (pc := 9) C dX9_isCake_9 (by decide) (fun h9 => ?_) (fun h9 => ?_)
    · skip
      refine zs_iconst (pc := 16) C dX9_isCake_16 (by decide) ?_
      exact zs_zret (pc := 17) C hr hlk dX9_isCake_17 (by omega) ⟨rfl, (by refine ⟨by omega, ?_⟩; constructor <;> intro hq <;> omega)⟩
    · skip
      refine zs_iconst (pc := 12) C dX9_isCake_12 (by decide) ?_
      refine zs_goto (tgt := 17) (pc := 13) C dX9_isCake_13 (by decide) ?_
      exact zs_zret (pc := 17) C hr hlk dX9_isCake_17 (by omega) ⟨rfl, (by refine ⟨by omega, ?_⟩; constructor <;> intro hq <;> omega)⟩

set_option maxHeartbeats 4000000 in
set_option maxRecDepth 100000 in
theorem c_X9_canGrindW {l : Launch} {Γ : zΓ} {G : zH} {w : Nat} {b0 : Int} {W : aS} (hX : zXs Γ) (hb : b0 = 0 ∨ b0 = 1) (hR : rW Γ w b0 W G)  : zMet l Γ yX9_canGrind cX9_canGrind 2 (some .boolean) 0 [zr 10 w, zi b0] G (zpi (fun x G' => G' = G ∧ ((x = 0 ∨ x = 1) ∧ (x = 1 ↔ wCan W)))) := by
  refine zMet_of RX9 hX (by decide) rfl (Nat.le_of_ble_eq_true rfl) ?_
  intro p e s m args below meth c C hr hlk
  show Z p l e (zrm 0) s m args below meth c Γ 2 0 0 (MQ below (zQc Γ (zpi (fun x G' => G' = G ∧ ((x = 0 ∨ x = 1) ∧ (x = 1 ↔ wCan W))))) args s 0 0 (zA Γ)) 0 [some (zr 10 w), some (zi b0)] [] G
  refine zs_loc 1 rfl (fun ha1 hb1 => ?_)
  obtain ⟨rA, rB, ⟨r1, r2, r3, r4⟩, rC⟩ := id hR
  refine zs_aload_n (pc := 0) C dX9_canGrind_0 rfl ?_
  refine zs_getf (pc := 1) C dX9_canGrind_1 w_X9_109 f_10_58 (by decide) ?_
  refine zs_iload_n (pc := 4) C dX9_canGrind_4 rfl ?_
  refine zs_iald (r := 2088) (pc := 5) C dX9_canGrind_5 a_88 (by decide) (by omega) rfl (r_2088 _) (fun v5 e5 l5 u5 => ?_)
  refine zs_if_le (tgt := 24) (pc := 6) C dX9_canGrind_6 (by decide) (fun h6 => ?_) (fun h6 => ?_)
  · skip
    refine zs_iconst (pc := 24) C dX9_canGrind_24 (by decide) ?_
    exact zs_zret (pc := 25) C hr hlk dX9_canGrind_25 (by omega) ⟨rfl, (by unfold wCan; refine ⟨by omega, ?_⟩; constructor <;> intro hq <;> omega)⟩
  · skip
    refine zs_aload_n (pc := 9) C dX9_canGrind_9 rfl ?_
    refine zs_getf (pc := 10) C dX9_canGrind_10 w_X9_106 f_10_57 (by decide) ?_
    refine zs_iload_n (pc := 13) C dX9_canGrind_13 rfl ?_
    refine zs_iald (r := 2087) (pc := 14) C dX9_canGrind_14 a_87 (by decide) (by omega) rfl (r_2087 _) (fun v14 e14 l14 u14 => ?_)
    refine zs_bipush (pc := 15) C dX9_canGrind_15 (by decide) (by decide) ?_
    refine zs_icmp_ge (tgt := 24) (pc := 17) C dX9_canGrind_17 (by decide) (fun h17 => ?_) (fun h17 => ?_)
    · skip
      refine zs_iconst (pc := 24) C dX9_canGrind_24 (by decide) ?_
      exact zs_zret (pc := 25) C hr hlk dX9_canGrind_25 (by omega) ⟨rfl, (by unfold wCan; refine ⟨by omega, ?_⟩; constructor <;> intro hq <;> omega)⟩
    · skip
      refine zs_iconst (pc := 20) C dX9_canGrind_20 (by decide) ?_
      refine zs_goto (tgt := 25) (pc := 21) C dX9_canGrind_21 (by decide) ?_
      exact zs_zret (pc := 25) C hr hlk dX9_canGrind_25 (by omega) ⟨rfl, (by unfold wCan; refine ⟨by omega, ?_⟩; constructor <;> intro hq <;> omega)⟩

set_option maxHeartbeats 4000000 in
set_option maxRecDepth 100000 in
theorem c_X9_flourOfW {l : Launch} {Γ : zΓ} {G : zH} {w : Nat} {b0 a : Int} {A W : aS}  (hX : zXs Γ) (hb : b0 = 0 ∨ b0 = 1) (hR : rW Γ w b0 W G) (hW : WI A W)  : zMet l Γ yX9_flourOf cX9_flourOf 5 (some .int) 0 [zr 10 w, zi b0, zi a] G (zpi (fun x G' => G' = G ∧ (x = wFlour W a))) := by
  refine zMet_of RX9 hX (by decide) rfl (Nat.le_of_ble_eq_true rfl) ?_
  intro p e s m args below meth c C hr hlk
  show Z p l e (zrm 0) s m args below meth c Γ 5 0 0 (MQ below (zQc Γ (zpi (fun x G' => G' = G ∧ (x = wFlour W a)))) args s 0 0 (zA Γ)) 0 [some (zr 10 w), some (zi b0), some (zi a), none, none] [] G
  refine zs_loc 1 rfl (fun ha1 hb1 => ?_)
  refine zs_loc 2 rfl (fun ha2 hb2 => ?_)
  obtain ⟨rA, rB, ⟨r1, r2, r3, r4⟩, rC⟩ := id hR
  have h00 := hW.1
  refine zs_iconst (pc := 0) C dX9_flourOf_0 (by decide) ?_
  refine zs_istore_n (pc := 1) C dX9_flourOf_1 (by decide) ?_
  dsimp only [zset, zclr, znone]
  refine zs_iconst (pc := 2) C dX9_flourOf_2 (by decide) ?_
  refine zs_istore (pc := 3) C dX9_flourOf_3 (by decide) ?_
  dsimp only [zset, zclr, znone]
  have L5 : ∀ (nn : Nat) (x3 x4 : Int), (0 ≤ x4 ∧ x4 ≤ W 0 0) → (x3 = wFl (W 3) (W 5) a x4.toNat) → (0 ≤ x3 ∧ x3 ≤ 99 * x4) → (60 - x4).toNat < nn → Z p l e (zrm 0) s m args below meth c Γ 5 0 0 (MQ below (zQc Γ (zpi (fun x G' => G' = G ∧ (x = wFlour W a)))) args s 0 0 (zA Γ)) 5 [some (zr 10 w), some (zi b0), some (zi a), some (zi x3), some (zi x4)] [] G := by
    intro nn
    induction nn with
    | zero => intro x3 x4 h5_0 h5_1 h5_2 hm; exact absurd hm (Nat.not_lt_zero _)
    | succ nn ih5 =>
      intro x3 x4 h5_0 h5_1 h5_2 hm5
      refine zs_iload (pc := 5) C dX9_flourOf_5 rfl ?_
      refine zs_aload_n (pc := 7) C dX9_flourOf_7 rfl ?_
      refine zs_getf (pc := 8) C dX9_flourOf_8 w_X9_106 f_10_57 (by decide) ?_
      refine zs_iload_n (pc := 11) C dX9_flourOf_11 rfl ?_
      refine zs_iald (r := 2087) (pc := 12) C dX9_flourOf_12 a_87 (by decide) (by omega) rfl (r_2087 _) (fun v12 e12 l12 u12 => ?_)
      refine zs_icmp_ge (tgt := 57) (pc := 13) C dX9_flourOf_13 (by decide) (fun h13 => ?_) (fun h13 => ?_)
      · skip
        have hx4 : x4 = W 0 0 := by omega
        rw [hx4] at h5_1
        refine zs_iload_n (pc := 57) C dX9_flourOf_57 rfl ?_
        exact zs_iret (pc := 58) C hr hlk dX9_flourOf_58 ⟨rfl, h5_1⟩
      · skip
        have hs := wFl_s (W := W) (a := a) (k := x4) (by omega)
        have hc4 := rC x4.toNat (by omega)
        rw [show (60 * b0 + (x4.toNat : Int)).toNat = (60 * b0 + x4).toNat by omega] at hc4
        have hk5 := hW.2.1 x4.toNat (by omega)
        refine zs_iload_n (pc := 16) C dX9_flourOf_16 rfl ?_
        refine zs_aload_n (pc := 17) C dX9_flourOf_17 rfl ?_
        refine zs_getf (pc := 18) C dX9_flourOf_18 w_X9_124 f_10_64 (by decide) ?_
        refine zs_bipush (pc := 21) C dX9_flourOf_21 (by decide) (by decide) ?_
        refine zs_iload_n (pc := 23) C dX9_flourOf_23 rfl ?_
        first | refine zs_imul (pc := 24) C dX9_flourOf_24 (by omega) ?_ | refine zs_imulF (pc := 24) C dX9_flourOf_24 (fun z24 hz241 hz242 => ?_)
        refine zs_iload (pc := 25) C dX9_flourOf_25 rfl ?_
        first | refine zs_iadd (pc := 27) C dX9_flourOf_27 (by omega) ?_ | refine zs_iaddF (pc := 27) C dX9_flourOf_27 (fun z27 hz271 hz272 => ?_)
        refine zs_iald (r := 2093) (pc := 28) C dX9_flourOf_28 a_93 (by decide) (by omega) rfl (r_2093 _) (fun v28 e28 l28 u28 => ?_)
        refine zs_iload_n (pc := 29) C dX9_flourOf_29 rfl ?_
        refine zs_icmp_lt (tgt := 48) (pc := 30) C dX9_flourOf_30 (by decide) (fun h30 => ?_) (fun h30 => ?_)
        · skip
          rw [if_neg (by omega)] at hs
          refine zs_iconst (pc := 48) C dX9_flourOf_48 (by decide) ?_
          first | refine zs_iadd (pc := 49) C dX9_flourOf_49 (by omega) ?_ | refine zs_iaddF (pc := 49) C dX9_flourOf_49 (fun z49 hz491 hz492 => ?_)
          refine zs_istore_n (pc := 50) C dX9_flourOf_50 (by decide) ?_
          dsimp only [zset, zclr, znone]
          first | refine zs_iinc (pc := 51) C dX9_flourOf_51 rfl (by decide) (by omega) ?_ | refine zs_iincF (pc := 51) C dX9_flourOf_51 rfl (by decide) (fun z51 hz511 hz512 => ?_)
          dsimp only [zset, zclr, znone]
          refine zs_goto (tgt := 5) (pc := 54) C dX9_flourOf_54 (by decide) ?_
          exact zs_wk (ih5 _ _ (by first | omega | (simp only [zuI_1, zuI_2, zuJ_1, zuJ_2, zuJ_3, zuP_1, zuP_2, zuP_3, zuC_1, zuC_2, reduceIte, Nat.reduceEqDiff, false_and, and_false, true_and, and_true, and_self, or_true, true_or, or_false, false_or]; omega)) (by first | omega | (simp only [zuI_1, zuI_2, zuJ_1, zuJ_2, zuJ_3, zuP_1, zuP_2, zuP_3, zuC_1, zuC_2, reduceIte, Nat.reduceEqDiff, false_and, and_false, true_and, and_true, and_self, or_true, true_or, or_false, false_or]; omega)) (by first | omega | (simp only [zuI_1, zuI_2, zuJ_1, zuJ_2, zuJ_3, zuP_1, zuP_2, zuP_3, zuC_1, zuC_2, reduceIte, Nat.reduceEqDiff, false_and, and_false, true_and, and_true, and_self, or_true, true_or, or_false, false_or]; omega)) (by first | omega | (simp only [zuI_1, zuI_2, zuJ_1, zuJ_2, zuJ_3, zuP_1, zuP_2, zuP_3, zuC_1, zuC_2, reduceIte, Nat.reduceEqDiff, false_and, and_false, true_and, and_true, and_self, or_true, true_or, or_false, false_or]; omega))) (zwk_s rfl (zwk_s rfl (zwk_s rfl (zwk_s rfl (zwk_s rfl zwk_0)))))
        · skip
          rw [if_pos (by omega)] at hs
          refine zs_aload_n (pc := 33) C dX9_flourOf_33 rfl ?_
          refine zs_getf (pc := 34) C dX9_flourOf_34 w_X9_127 f_10_65 (by decide) ?_
          refine zs_bipush (pc := 37) C dX9_flourOf_37 (by decide) (by decide) ?_
          refine zs_iload_n (pc := 39) C dX9_flourOf_39 rfl ?_
          first | refine zs_imul (pc := 40) C dX9_flourOf_40 (by omega) ?_ | refine zs_imulF (pc := 40) C dX9_flourOf_40 (fun z40 hz401 hz402 => ?_)
          refine zs_iload (pc := 41) C dX9_flourOf_41 rfl ?_
          first | refine zs_iadd (pc := 43) C dX9_flourOf_43 (by omega) ?_ | refine zs_iaddF (pc := 43) C dX9_flourOf_43 (fun z43 hz431 hz432 => ?_)
          refine zs_iald (r := 2094) (pc := 44) C dX9_flourOf_44 a_94 (by decide) (by omega) rfl (r_2094 _) (fun v44 e44 l44 u44 => ?_)
          refine zs_goto (tgt := 49) (pc := 45) C dX9_flourOf_45 (by decide) ?_
          first | refine zs_iadd (pc := 49) C dX9_flourOf_49 (by omega) ?_ | refine zs_iaddF (pc := 49) C dX9_flourOf_49 (fun z49 hz491 hz492 => ?_)
          refine zs_istore_n (pc := 50) C dX9_flourOf_50 (by decide) ?_
          dsimp only [zset, zclr, znone]
          first | refine zs_iinc (pc := 51) C dX9_flourOf_51 rfl (by decide) (by omega) ?_ | refine zs_iincF (pc := 51) C dX9_flourOf_51 rfl (by decide) (fun z51 hz511 hz512 => ?_)
          dsimp only [zset, zclr, znone]
          refine zs_goto (tgt := 5) (pc := 54) C dX9_flourOf_54 (by decide) ?_
          exact zs_wk (ih5 _ _ (by first | omega | (simp only [zuI_1, zuI_2, zuJ_1, zuJ_2, zuJ_3, zuP_1, zuP_2, zuP_3, zuC_1, zuC_2, reduceIte, Nat.reduceEqDiff, false_and, and_false, true_and, and_true, and_self, or_true, true_or, or_false, false_or]; omega)) (by first | omega | (simp only [zuI_1, zuI_2, zuJ_1, zuJ_2, zuJ_3, zuP_1, zuP_2, zuP_3, zuC_1, zuC_2, reduceIte, Nat.reduceEqDiff, false_and, and_false, true_and, and_true, and_self, or_true, true_or, or_false, false_or]; omega)) (by first | omega | (simp only [zuI_1, zuI_2, zuJ_1, zuJ_2, zuJ_3, zuP_1, zuP_2, zuP_3, zuC_1, zuC_2, reduceIte, Nat.reduceEqDiff, false_and, and_false, true_and, and_true, and_self, or_true, true_or, or_false, false_or]; omega)) (by first | omega | (simp only [zuI_1, zuI_2, zuJ_1, zuJ_2, zuJ_3, zuP_1, zuP_2, zuP_3, zuC_1, zuC_2, reduceIte, Nat.reduceEqDiff, false_and, and_false, true_and, and_true, and_self, or_true, true_or, or_false, false_or]; omega))) (zwk_s rfl (zwk_s rfl (zwk_s rfl (zwk_s rfl (zwk_s rfl zwk_0)))))
  exact zs_wk (L5 _ _ _ (by have := hW.1; omega) (show (0 : Int) = _ from rfl) (by omega) (Nat.lt_succ_self _)) (zwk_s rfl (zwk_s rfl (zwk_s rfl (zwk_s rfl (zwk_s rfl zwk_0)))))

set_option maxHeartbeats 4000000 in
set_option maxRecDepth 100000 in
theorem c_X9_heaviestW {l : Launch} {Γ : zΓ} {G : zH} {w : Nat} {p : Int} {A W : aS}  (hX : zXs Γ) (hp : 0 ≤ p ∧ p ≤ 4) (hR : rW Γ w 0 W G) (hK : kR Γ w A G) (hW : WI A W) (hT : TA A)  : zMet l Γ yX9_heaviest cX9_heaviest 4 (some .int) 1 [zr 10 w, zi p] G (zpi (fun x G' => G' = G ∧ (x = wWorst A (W 12) p (A 4 0).toNat ∧ -1 ≤ x ∧ x ≤ 3))) := by
  refine zMet_of RX9 hX (by decide) rfl (Nat.le_of_ble_eq_true rfl) ?_
  intro px9 e s m args below meth c C hr hlk
  show Z px9 l e (zrm 1) s m args below meth c Γ 4 0 0 (MQ below (zQc Γ (zpi (fun x G' => G' = G ∧ (x = wWorst A (W 12) p (A 4 0).toNat ∧ -1 ≤ x ∧ x ≤ 3)))) args s 0 0 (zA Γ)) 0 [some (zr 10 w), some (zi p), none, none] [] G
  refine zs_loc 1 rfl (fun ha1 hb1 => ?_)
  have hT0 := hT.1
  have hk0 := hK.1.1
  have kS := hK.2.2.1
  refine zs_iconst (pc := 0) C dX9_heaviest_0 (by decide) ?_
  refine zs_istore_n (pc := 1) C dX9_heaviest_1 (by decide) ?_
  dsimp only [zset, zclr, znone]
  refine zs_iconst (pc := 2) C dX9_heaviest_2 (by decide) ?_
  refine zs_istore_n (pc := 3) C dX9_heaviest_3 (by decide) ?_
  dsimp only [zset, zclr, znone]
  have L4 : ∀ (nn : Nat) (x2 x3 : Int), (0 ≤ x3 ∧ x3 ≤ A 4 0) → (x2 = wWorst A (W 12) p x3.toNat) → (-1 ≤ x2 ∧ x2 < x3) → (4 - x3).toNat < nn → Z px9 l e (zrm 1) s m args below meth c Γ 4 0 0 (MQ below (zQc Γ (zpi (fun x G' => G' = G ∧ (x = wWorst A (W 12) p (A 4 0).toNat ∧ -1 ≤ x ∧ x ≤ 3)))) args s 0 0 (zA Γ)) 4 [some (zr 10 w), some (zi p), some (zi x2), some (zi x3)] [] G := by
    intro nn
    induction nn with
    | zero => intro x2 x3 h4_0 h4_1 h4_2 hm; exact absurd hm (Nat.not_lt_zero _)
    | succ nn ih4 =>
      intro x2 x3 h4_0 h4_1 h4_2 hm4
      refine zs_iload_n (pc := 4) C dX9_heaviest_4 rfl ?_
      refine zs_aload_n (pc := 5) C dX9_heaviest_5 rfl ?_
      refine zs_geti (r := 1012) (pc := 6) C dX9_heaviest_6 w_X9_258 f_10_12 rfl (r_1012 0) (fun v6 e6 l6 u6 => ?_)
      refine zs_icmp_ge (tgt := 49) (pc := 9) C dX9_heaviest_9 (by decide) (fun h9 => ?_) (fun h9 => ?_)
      · skip
        have hx3 : x3 = A 4 0 := by omega
        rw [hx3] at h4_1
        refine zs_iload_n (pc := 49) C dX9_heaviest_49 rfl ?_
        exact zs_iret (pc := 50) C hr hlk dX9_heaviest_50 ⟨rfl, ⟨h4_1, by omega, by omega⟩⟩
      · skip
        have hs := wWorst_s (A := A) (W := W) (p := p) (k := x3) (by omega)
        rw [show (p * 4).toNat + x3.toNat = (p * 4 + x3).toNat by omega, ← h4_1] at hs
        refine zs_aload_n (pc := 12) C dX9_heaviest_12 rfl ?_
        refine zs_iconst (pc := 13) C dX9_heaviest_13 (by decide) ?_
        refine zs_iload_n (pc := 14) C dX9_heaviest_14 rfl ?_
        refine zs_iload_n (pc := 15) C dX9_heaviest_15 rfl ?_
        refine zVip3 (pc := 16) C dX9_heaviest_16 v_X9_394 (c_X9_leftOfW hX (Or.inl rfl) hp (by omega) hR.1 (WI_WL hW)) (by decide) (by decide) ⟨Nat.zero_le _, Nat.zero_le _⟩ (Nat.le_of_ble_eq_true rfl) (fun x16 l16 u16 hp16 => ?_)
        have hq16 := hp16
        have hq16b : x16 = W 12 (p * 4 + x3).toNat := hq16
        have J43 : ∀ (y2 : Int), (y2 = wWorst A (W 12) p (x3 + 1).toNat ∧ -1 ≤ y2 ∧ y2 ≤ x3) → Z px9 l e (zrm 1) s m args below meth c Γ 4 0 0 (MQ below (zQc Γ (zpi (fun x G' => G' = G ∧ (x = wWorst A (W 12) p (A 4 0).toNat ∧ -1 ≤ x ∧ x ≤ 3)))) args s 0 0 (zA Γ)) 43 [some (zr 10 w), some (zi p), some (zi y2), some (zi x3)] [] G := by
          intro y2 h43_0
          first | refine zs_iinc (pc := 43) C dX9_heaviest_43 rfl (by decide) (by omega) ?_ | refine zs_iincF (pc := 43) C dX9_heaviest_43 rfl (by decide) (fun z43 hz431 hz432 => ?_)
          dsimp only [zset, zclr, znone]
          refine zs_goto (tgt := 4) (pc := 46) C dX9_heaviest_46 (by decide) ?_
          exact zs_wk (ih4 _ _ (by omega) h43_0.1 (by omega) (by first | omega | (simp only [zuI_1, zuI_2, zuJ_1, zuJ_2, zuJ_3, zuP_1, zuP_2, zuP_3, zuC_1, zuC_2, reduceIte, Nat.reduceEqDiff, false_and, and_false, true_and, and_true, and_self, or_true, true_or, or_false, false_or]; omega))) (zwk_s rfl (zwk_s rfl (zwk_s rfl (zwk_s rfl zwk_0))))
        refine zs_if_le (tgt := 43) (pc := 19) C dX9_heaviest_19 (by decide) (fun h19 => ?_) (fun h19 => ?_)
        · skip
          exact zs_wk (J43 _ (by first | (refine ⟨?_, by omega, by omega⟩; omega) | (refine ⟨?_, by omega, by omega⟩; rw [hs, if_neg (by rintro ⟨q1, q2⟩; rcases q2 with q2 | q2 <;> omega)]))) (zwk_s rfl (zwk_s rfl (zwk_s rfl (zwk_s rfl zwk_0))))
        · skip
          refine zs_iload_n (pc := 22) C dX9_heaviest_22 rfl ?_
          refine zs_if_lt (tgt := 41) (pc := 23) C dX9_heaviest_23 (by decide) (fun h23 => ?_) (fun h23 => ?_)
          · skip
            rw [if_pos (by first | exact ⟨by omega, Or.inl (by omega)⟩ | exact ⟨by omega, Or.inr (by omega)⟩)] at hs
            refine zs_iload_n (pc := 41) C dX9_heaviest_41 rfl ?_
            refine zs_istore_n (pc := 42) C dX9_heaviest_42 (by decide) ?_
            dsimp only [zset, zclr, znone]
            exact zs_wk (J43 _ (by first | (refine ⟨?_, by omega, by omega⟩; omega) | (refine ⟨?_, by omega, by omega⟩; rw [hs, if_neg (by rintro ⟨q1, q2⟩; rcases q2 with q2 | q2 <;> omega)]))) (zwk_s rfl (zwk_s rfl (zwk_s rfl (zwk_s rfl zwk_0))))
          · skip
            refine zs_aload_n (pc := 26) C dX9_heaviest_26 rfl ?_
            refine zs_getf (pc := 27) C dX9_heaviest_27 w_X9_30 f_10_25 (by decide) ?_
            refine zs_iload_n (pc := 30) C dX9_heaviest_30 rfl ?_
            refine zs_iald (r := 2062) (pc := 31) C dX9_heaviest_31 a_62 (by decide) (by omega) rfl (r_2062 _) (fun v31 e31 l31 u31 => ?_)
            refine zs_aload_n (pc := 32) C dX9_heaviest_32 rfl ?_
            refine zs_getf (pc := 33) C dX9_heaviest_33 w_X9_30 f_10_25 (by decide) ?_
            refine zs_iload_n (pc := 36) C dX9_heaviest_36 rfl ?_
            refine zs_iald (r := 2062) (pc := 37) C dX9_heaviest_37 a_62 (by decide) (by omega) rfl (r_2062 _) (fun v37 e37 l37 u37 => ?_)
            have y31 : v31 = A 6 x3.toNat := e31.trans (kS x3.toNat (by omega)).2
            have y37 : v37 = A 6 x2.toNat := e37.trans (kS x2.toNat (by omega)).2
            refine zs_icmp_le (tgt := 43) (pc := 38) C dX9_heaviest_38 (by decide) (fun h38 => ?_) (fun h38 => ?_)
            · skip
              exact zs_wk (J43 _ (by first | (refine ⟨?_, by omega, by omega⟩; omega) | (refine ⟨?_, by omega, by omega⟩; rw [hs, if_neg (by rintro ⟨q1, q2⟩; rcases q2 with q2 | q2 <;> omega)]))) (zwk_s rfl (zwk_s rfl (zwk_s rfl (zwk_s rfl zwk_0))))
            · skip
              rw [if_pos (by first | exact ⟨by omega, Or.inl (by omega)⟩ | exact ⟨by omega, Or.inr (by omega)⟩)] at hs
              refine zs_iload_n (pc := 41) C dX9_heaviest_41 rfl ?_
              refine zs_istore_n (pc := 42) C dX9_heaviest_42 (by decide) ?_
              dsimp only [zset, zclr, znone]
              exact zs_wk (J43 _ (by first | (refine ⟨?_, by omega, by omega⟩; omega) | (refine ⟨?_, by omega, by omega⟩; rw [hs, if_neg (by rintro ⟨q1, q2⟩; rcases q2 with q2 | q2 <;> omega)]))) (zwk_s rfl (zwk_s rfl (zwk_s rfl (zwk_s rfl zwk_0))))
  exact zs_wk (L4 _ _ _ (by have := hT.1; omega) (show (-1 : Int) = _ from rfl) (by omega) (Nat.lt_succ_self _)) (zwk_s rfl (zwk_s rfl (zwk_s rfl (zwk_s rfl zwk_0))))

set_option maxHeartbeats 4000000 in
set_option maxRecDepth 100000 in
theorem c_X9_number1W {l : Launch} {Γ : zΓ} {G : zH} {w : Nat} {k d : Int} (hX : zXs Γ) (hk : 0 < k) (hd : G.2.1 1061 w 0 = d) (hd2 : 0 ≤ d ∧ d ≤ 2147483647)  : zMet l Γ yX9_number1 cX9_number1 2 (some .int) 0 [zr 10 w, zi k] G (zpi (fun x G' => zsm [] G G' ∧ (x = wNext d / 65536 % k ∧ 0 ≤ x ∧ x < k ∧ G'.2.1 1061 w 0 = wNext d ∧ zsj [1061] G G'))) := by
  refine zMet_of RX9 hX (by decide) rfl (Nat.le_of_ble_eq_true rfl) ?_
  intro p e s m args below meth c C hr hlk
  show Z p l e (zrm 0) s m args below meth c Γ 2 0 0 (MQ below (zQc Γ (zpi (fun x G' => zsm [] G G' ∧ (x = wNext d / 65536 % k ∧ 0 ≤ x ∧ x < k ∧ G'.2.1 1061 w 0 = wNext d ∧ zsj [1061] G G')))) args s 0 0 (zA Γ)) 0 [some (zr 10 w), some (zi k)] [] G
  refine zs_loc 1 rfl (fun ha1 hb1 => ?_)
  refine zs_aload_n (pc := 0) C dX9_number1_0 rfl ?_
  refine zs_aload_n (pc := 1) C dX9_number1_1 rfl ?_
  refine zs_getj (r := 1061) (pc := 2) C dX9_number1_2 w_X9_375 f_10_61 rfl (fun v2 e2 l2 u2 => ?_)
  have e2b : d = v2 := (e2.trans hd).symm
  subst e2b
  refine zs_ldc2 (n := 1103515245) (pc := 5) C dX9_number1_5 q_X9_448 (by decide) (by decide) ?_
  refine zs_lmulE (pc := 8) C dX9_number1_8 (by omega) ?_
  refine zs_ldc2 (n := 12345) (pc := 9) C dX9_number1_9 q_X9_450 (by decide) (by decide) ?_
  refine zs_laddE (pc := 12) C dX9_number1_12 (by omega) ?_
  refine zs_ldc2 (n := 2147483647) (pc := 13) C dX9_number1_13 q_X9_452 (by decide) (by decide) ?_
  refine zs_landT (pc := 16) C dX9_number1_16 (by omega) ?_
  refine zs_putj (r := 1061) (pc := 17) C dX9_number1_17 w_X9_375 f_10_61 rfl ?_
  refine zs_aload_n (pc := 20) C dX9_number1_20 rfl ?_
  refine zs_getj (r := 1061) (pc := 21) C dX9_number1_21 w_X9_375 f_10_61 rfl (fun v21 e21 l21 u21 => ?_)
  try simp only [zuI_1, zuI_2, zuJ_1, zuJ_2, zuJ_3, zuP_1, zuP_2, zuP_3, zuC_1, zuC_2, reduceIte, Nat.reduceEqDiff, false_and, and_false, true_and, and_true, and_self, or_true, true_or, or_false, false_or] at e21
  have y21 : v21 = wNext d := e21
  subst y21
  have hwn := wNext_in d
  refine zs_ldc2 (n := 65536) (pc := 24) C dX9_number1_24 q_X9_454 (by decide) (by decide) ?_
  refine zs_ldivP (pc := 27) C dX9_number1_27 (by omega) (by omega) (fun hz271 hz272 => ?_)
  refine zs_iload_n (pc := 28) C dX9_number1_28 rfl ?_
  refine zs_i2l (pc := 29) C dX9_number1_29 ?_
  refine zs_lremP (pc := 30) C dX9_number1_30 (by omega) (by omega) (fun hz301 hz302 => ?_)
  first | refine zs_l2i (pc := 31) C dX9_number1_31 (by omega) ?_ | refine zs_l2iF (pc := 31) C dX9_number1_31 (fun z31 hz311 hz312 => ?_)
  exact zs_iret (pc := 32) C hr hlk dX9_number1_32 ⟨by repeat (first | exact zsm_rf | assumption | refine zsm_C (by decide) ?_ | refine zsm_I (by decide) ?_ | refine zsm_J ?_ | refine zsm_c (by assumption) (by decide) ?_), ⟨rfl, by omega, by omega, (by rw [zuJ_2, if_pos ⟨rfl, rfl, rfl⟩]; rfl), (by repeat (first | exact zsj_rf | assumption | refine zsj_I ?_ | refine zsj_J (by decide) ?_ | refine zsj_e (by assumption) ?_ | refine zsj_c (by assumption) (by decide) ?_))⟩⟩

set_option maxHeartbeats 4000000 in
set_option maxRecDepth 100000 in
theorem c_X9_askedW {l : Launch} {Γ : zΓ} {G : zH} {w : Nat} {p : Int} {A W : aS}  (hX : zXs Γ) (hp : 0 ≤ p ∧ p ≤ 4) (hR : rW Γ w 0 W G) (hK : kR Γ w A G) (hW : WI A W) (hT : TA A) (hp2 : p < A 4 1) (hD : rD w W G)  : zMet l Γ yX9_asked cX9_asked 6 (some .int) 2 [zr 10 w, zi p] G (zpi (fun x G' => zsm [] G G' ∧ (x = wAskV A W p ∧ -1 ≤ x ∧ x ≤ 3 ∧ rD w (wAsk A W p) G' ∧ zsj [1061] G G'))) := by
  refine zMet_of RX9 hX (by decide) rfl (Nat.le_of_ble_eq_true rfl) ?_
  intro px9 e s m args below meth c C hr hlk
  show Z px9 l e (zrm 2) s m args below meth c Γ 6 0 0 (MQ below (zQc Γ (zpi (fun x G' => zsm [] G G' ∧ (x = wAskV A W p ∧ -1 ≤ x ∧ x ≤ 3 ∧ rD w (wAsk A W p) G' ∧ zsj [1061] G G')))) args s 0 0 (zA Γ)) 0 [some (zr 10 w), some (zi p), none, none, none, none] [] G
  refine zs_loc 1 rfl (fun ha1 hb1 => ?_)
  have h21 := hW.2.2.2.2.2.2.2.2.1
  have hT0 := hT.1
  have hk0 := hK.1.1
  have kP := hK.2.2.2.1
  refine zs_aload_n (pc := 0) C dX9_asked_0 rfl ?_
  refine zs_iload_n (pc := 1) C dX9_asked_1 rfl ?_
  refine zVip1 (pc := 2) C dX9_asked_2 v_X9_456 (c_X9_heaviestW hX hp hR hK hW hT) (by decide) (by decide) ⟨Nat.zero_le _, Nat.zero_le _⟩ (Nat.le_of_ble_eq_true rfl) (fun x2 l2 u2 hp2 => ?_)
  have hq2 := hp2
  have hq2b : x2 = wWorst A (W 12) p (A 4 0).toNat := hq2.1
  refine zs_istore_n (pc := 5) C dX9_asked_5 (by decide) ?_
  dsimp only [zset, zclr, znone]
  refine zs_aload_n (pc := 6) C dX9_asked_6 rfl ?_
  refine zs_bipush (pc := 7) C dX9_asked_7 (by decide) (by decide) ?_
  refine zVi1 (pc := 9) C dX9_asked_9 v_X9_459 (c_X9_number1W (d := W 21 0) hX (by omega) hD h21) (by decide) (by decide) ⟨Nat.zero_le _, Nat.zero_le _⟩ (Nat.le_of_ble_eq_true rfl) (fun x9 G9 l9 u9 hp9 => ?_)
  obtain ⟨hz9, hq9⟩ := hp9
  obtain ⟨y9, b9, c9, hD9, j9⟩ := hq9
  have y9b : x9 = wD1 W / 65536 % 100 := y9
  have hR9 : rW Γ w 0 W G9 := rW_sm hz9 (by decide) hR
  have hk9 : G9.1 1012 w 0 = A 4 0 := by rw [hz9.1 1012 (by decide)]; exact hk0
  refine zs_aload_n (pc := 12) C dX9_asked_12 rfl ?_
  refine zs_getf (pc := 13) C dX9_asked_13 w_X9_36 f_10_27 (by decide) ?_
  refine zs_iload_n (pc := 16) C dX9_asked_16 rfl ?_
  refine zs_iald (r := 2064) (pc := 17) C dX9_asked_17 a_64 (by decide) (by omega) rfl (r_2064 _) (fun v17 e17 l17 u17 => ?_)
  have y17 : v17 = A 7 p.toNat := by rw [e17, hz9.1 2064 (by decide)]; exact (kP p.toNat (by omega)).2
  refine zs_icmp_ge (tgt := 27) (pc := 18) C dX9_asked_18 (by decide) (fun h18 => ?_) (fun h18 => ?_)
  · skip
    have hho : ¬ wHon A W p := fun q => by have q1 := q.1; have q2 := q.2; omega
    refine zs_iconst (pc := 27) C dX9_asked_27 (by decide) ?_
    refine zs_istore_n (pc := 28) C dX9_asked_28 (by decide) ?_
    dsimp only [zset, zclr, znone]
    refine zs_iconst (pc := 29) C dX9_asked_29 (by decide) ?_
    refine zs_istore (pc := 30) C dX9_asked_30 (by decide) ?_
    dsimp only [zset, zclr, znone]
    have L32 : ∀ (nn : Nat) (x3 x4 : Int), (0 ≤ x4 ∧ x4 ≤ A 4 0) → (x3 = wFree (W 12) p x4.toNat) → (0 ≤ x3 ∧ x3 ≤ x4) → (4 - x4).toNat < nn → Z px9 l e (zrm 2) s m args below meth c Γ 6 0 0 (MQ below (zQc Γ (zpi (fun x G' => zsm [] G G' ∧ (x = wAskV A W p ∧ -1 ≤ x ∧ x ≤ 3 ∧ rD w (wAsk A W p) G' ∧ zsj [1061] G G')))) args s 0 0 (zA Γ)) 32 [some (zr 10 w), some (zi p), some (zi x2), some (zi x3), some (zi x4), none] [] G9 := by
      intro nn
      induction nn with
      | zero => intro x3 x4 h32_0 h32_1 h32_2 hm; exact absurd hm (Nat.not_lt_zero _)
      | succ nn ih32 =>
        intro x3 x4 h32_0 h32_1 h32_2 hm32
        refine zs_iload (pc := 32) C dX9_asked_32 rfl ?_
        refine zs_aload_n (pc := 34) C dX9_asked_34 rfl ?_
        refine zs_geti (r := 1012) (pc := 35) C dX9_asked_35 w_X9_258 f_10_12 rfl (r_1012 0) (fun v35 e35 l35 u35 => ?_)
        refine zs_icmp_ge (tgt := 66) (pc := 38) C dX9_asked_38 (by decide) (fun h38 => ?_) (fun h38 => ?_)
        · skip
          have hx4 : x4 = A 4 0 := by omega
          rw [hx4] at h32_1
          have hfi := wFree_in (F := W 12) (p := p) (A 4 0).toNat
          refine zs_iload_n (pc := 66) C dX9_asked_66 rfl ?_
          refine zs_if_ne (tgt := 72) (pc := 67) C dX9_asked_67 (by decide) (fun h67 => ?_) (fun h67 => ?_)
          · skip
            have hfr : 0 < wFree (W 12) p (A 4 0).toNat := by omega
            refine zs_aload_n (pc := 72) C dX9_asked_72 rfl ?_
            refine zs_iload_n (pc := 73) C dX9_asked_73 rfl ?_
            refine zVi1 (pc := 74) C dX9_asked_74 v_X9_459 (c_X9_number1W (d := wD1 W) hX (by omega) hD9 (wNext_in _)) (by decide) (by decide) ⟨Nat.zero_le _, Nat.zero_le _⟩ (Nat.le_of_ble_eq_true rfl) (fun x74 G74 l74 u74 hp74 => ?_)
            obtain ⟨hz74, hq74⟩ := hp74
            obtain ⟨y74, b74, c74, hD74, j74⟩ := hq74
            have hR74 : rW Γ w 0 W G74 := rW_sm hz74 (by decide) hR9
            rw [h32_1] at y74 c74
            refine zs_istore (pc := 77) C dX9_asked_77 (by decide) ?_
            dsimp only [zset, zclr, znone]
            refine zs_iconst (pc := 79) C dX9_asked_79 (by decide) ?_
            refine zs_istore (pc := 80) C dX9_asked_80 (by decide) ?_
            dsimp only [zset, zclr, znone]
            have L82 : ∀ (nn : Nat) (x4 x5 : Int), (0 ≤ x5 ∧ x5 < A 4 0) → (x4 = x74 - wFree (W 12) p x5.toNat ∧ 0 ≤ x4) → (wFind (W 12) p x74 x5.toNat = -1) → (∀ m : Int, x5 ≤ m → m ≤ A 4 0 → wFree (W 12) p m.toNat ≤ wFree (W 12) p (A 4 0).toNat) → (4 - x5).toNat < nn → Z px9 l e (zrm 2) s m args below meth c Γ 6 0 0 (MQ below (zQc Γ (zpi (fun x G' => zsm [] G G' ∧ (x = wAskV A W p ∧ -1 ≤ x ∧ x ≤ 3 ∧ rD w (wAsk A W p) G' ∧ zsj [1061] G G')))) args s 0 0 (zA Γ)) 82 [some (zr 10 w), some (zi p), some (zi x2), none, some (zi x4), some (zi x5)] [] G74 := by
              intro nn
              induction nn with
              | zero => intro x4 x5 h82_0 h82_1 h82_2 h82_3 hm; exact absurd hm (Nat.not_lt_zero _)
              | succ nn ih82 =>
                intro x4 x5 h82_0 h82_1 h82_2 h82_3 hm82
                have hs5 := wFree_s (W := W) (p := p) (k := x5) (by omega)
                have hf5 := wFind_s (W := W) (p := p) (a := x74) (k := x5) (by omega)
                rw [if_neg (fun q => q h82_2)] at hf5
                have hsp : (p * 4).toNat + x5.toNat = (p * 4 + x5).toNat := by omega
                rw [hsp] at hs5 hf5
                have hl5 := (WI_WL hW) (p * 4 + x5).toNat (by omega)
                have hwl5 : wL W p x5 = W 12 (p * 4 + x5).toNat := rfl
                have hlast := h82_3 (x5 + 1) (by omega) (by omega)
                have hfi5 := wFree_in (F := W 12) (p := p) x5.toNat
                refine zs_aload_n (pc := 82) C dX9_asked_82 rfl ?_
                refine zs_iconst (pc := 83) C dX9_asked_83 (by decide) ?_
                refine zs_iload_n (pc := 84) C dX9_asked_84 rfl ?_
                refine zs_iload (pc := 85) C dX9_asked_85 rfl ?_
                refine zVip3 (pc := 87) C dX9_asked_87 v_X9_394 (c_X9_leftOfW hX (Or.inl rfl) hp (by omega) hR74.1 (WI_WL hW)) (by decide) (by decide) ⟨Nat.zero_le _, Nat.zero_le _⟩ (Nat.le_of_ble_eq_true rfl) (fun x87 l87 u87 hp87 => ?_)
                have hq87 := hp87
                refine zs_if_gt (tgt := 98) (pc := 90) C dX9_asked_90 (by decide) (fun h90 => ?_) (fun h90 => ?_)
                · skip
                  refine zs_iload (pc := 98) C dX9_asked_98 rfl ?_
                  refine zs_aload_n (pc := 100) C dX9_asked_100 rfl ?_
                  refine zs_iconst (pc := 101) C dX9_asked_101 (by decide) ?_
                  refine zs_iload_n (pc := 102) C dX9_asked_102 rfl ?_
                  refine zs_iload (pc := 103) C dX9_asked_103 rfl ?_
                  refine zVip3 (pc := 105) C dX9_asked_105 v_X9_394 (c_X9_leftOfW hX (Or.inl rfl) hp (by omega) hR74.1 (WI_WL hW)) (by decide) (by decide) ⟨Nat.zero_le _, Nat.zero_le _⟩ (Nat.le_of_ble_eq_true rfl) (fun x105 l105 u105 hp105 => ?_)
                  have hq105 := hp105
                  refine zs_if_ne (tgt := 115) (pc := 108) C dX9_asked_108 (by decide) (fun h108 => ?_) (fun h108 => ?_)
                  · skip
                    rw [if_pos (by omega)] at hs5
                    refine zs_iconst (pc := 115) C dX9_asked_115 (by decide) ?_
                    first | refine zs_isub (pc := 116) C dX9_asked_116 (by omega) ?_ | refine zs_isubF (pc := 116) C dX9_asked_116 (fun z116 hz1161 hz1162 => ?_)
                    refine zs_istore (pc := 117) C dX9_asked_117 (by decide) ?_
                    dsimp only [zset, zclr, znone]
                    first | refine zs_iinc (pc := 119) C dX9_asked_119 rfl (by decide) (by omega) ?_ | refine zs_iincF (pc := 119) C dX9_asked_119 rfl (by decide) (fun z119 hz1191 hz1192 => ?_)
                    dsimp only [zset, zclr, znone]
                    refine zs_goto (tgt := 82) (pc := 122) C dX9_asked_122 (by decide) ?_
                    exact zs_wk (ih82 _ _ (by refine ⟨by omega, ?_⟩; rcases Int.lt_or_le (x5 + 1) (A 4 0) with z | z; exact z; exfalso; have hx5 : x5 + 1 = A 4 0 := (by omega); rw [hx5] at hs5; omega) (by omega) (by rw [hf5, if_neg]; rintro ⟨q1, q2⟩; omega) (fun m h1 h2 => h82_3 m (by omega) h2) (by first | omega | (simp only [zuI_1, zuI_2, zuJ_1, zuJ_2, zuJ_3, zuP_1, zuP_2, zuP_3, zuC_1, zuC_2, reduceIte, Nat.reduceEqDiff, false_and, and_false, true_and, and_true, and_self, or_true, true_or, or_false, false_or]; omega))) (zwk_s rfl (zwk_s rfl (zwk_s rfl (zwk_n (zwk_s rfl (zwk_s rfl zwk_0))))))
                  · skip
                    rw [if_neg (by omega)] at hs5
                    refine zs_iconst (pc := 111) C dX9_asked_111 (by decide) ?_
                    refine zs_goto (tgt := 116) (pc := 112) C dX9_asked_112 (by decide) ?_
                    first | refine zs_isub (pc := 116) C dX9_asked_116 (by omega) ?_ | refine zs_isubF (pc := 116) C dX9_asked_116 (fun z116 hz1161 hz1162 => ?_)
                    refine zs_istore (pc := 117) C dX9_asked_117 (by decide) ?_
                    dsimp only [zset, zclr, znone]
                    first | refine zs_iinc (pc := 119) C dX9_asked_119 rfl (by decide) (by omega) ?_ | refine zs_iincF (pc := 119) C dX9_asked_119 rfl (by decide) (fun z119 hz1191 hz1192 => ?_)
                    dsimp only [zset, zclr, znone]
                    refine zs_goto (tgt := 82) (pc := 122) C dX9_asked_122 (by decide) ?_
                    exact zs_wk (ih82 _ _ (by refine ⟨by omega, ?_⟩; rcases Int.lt_or_le (x5 + 1) (A 4 0) with z | z; exact z; exfalso; have hx5 : x5 + 1 = A 4 0 := (by omega); rw [hx5] at hs5; omega) (by omega) (by rw [hf5, if_neg]; rintro ⟨q1, q2⟩; omega) (fun m h1 h2 => h82_3 m (by omega) h2) (by first | omega | (simp only [zuI_1, zuI_2, zuJ_1, zuJ_2, zuJ_3, zuP_1, zuP_2, zuP_3, zuC_1, zuC_2, reduceIte, Nat.reduceEqDiff, false_and, and_false, true_and, and_true, and_self, or_true, true_or, or_false, false_or]; omega))) (zwk_s rfl (zwk_s rfl (zwk_s rfl (zwk_n (zwk_s rfl (zwk_s rfl zwk_0))))))
                · skip
                  refine zs_iload (pc := 93) C dX9_asked_93 rfl ?_
                  refine zs_if_le (tgt := 125) (pc := 95) C dX9_asked_95 (by decide) (fun h95 => ?_) (fun h95 => ?_)
                  · skip
                    refine zs_iload (pc := 125) C dX9_asked_125 rfl ?_
                    exact zs_iret (pc := 127) C hr hlk dX9_asked_127 ⟨by repeat (first | exact zsm_rf | assumption | refine zsm_C (by decide) ?_ | refine zsm_I (by decide) ?_ | refine zsm_J ?_ | refine zsm_c (by assumption) (by decide) ?_), ⟨by unfold wAskV; rw [if_neg hho, if_pos hfr, ← y74]; exact (wFind_hit (W := W) (p := p) (a := x74) (k := x5) (n := A 4 0) (by omega) h82_2 (by rw [hsp]; omega) (by omega)).symm, by omega, by omega, by unfold wAsk; rw [if_neg hho, if_pos hfr]; exact hD74, (by repeat (first | exact zsj_rf | assumption | refine zsj_I ?_ | refine zsj_J (by decide) ?_ | refine zsj_e (by assumption) ?_ | refine zsj_c (by assumption) (by decide) ?_))⟩⟩
                  · skip
                    refine zs_iload (pc := 98) C dX9_asked_98 rfl ?_
                    refine zs_aload_n (pc := 100) C dX9_asked_100 rfl ?_
                    refine zs_iconst (pc := 101) C dX9_asked_101 (by decide) ?_
                    refine zs_iload_n (pc := 102) C dX9_asked_102 rfl ?_
                    refine zs_iload (pc := 103) C dX9_asked_103 rfl ?_
                    refine zVip3 (pc := 105) C dX9_asked_105 v_X9_394 (c_X9_leftOfW hX (Or.inl rfl) hp (by omega) hR74.1 (WI_WL hW)) (by decide) (by decide) ⟨Nat.zero_le _, Nat.zero_le _⟩ (Nat.le_of_ble_eq_true rfl) (fun x105 l105 u105 hp105 => ?_)
                    have hq105 := hp105
                    refine zs_if_ne (tgt := 115) (pc := 108) C dX9_asked_108 (by decide) (fun h108 => ?_) (fun h108 => ?_)
                    · skip
                      rw [if_pos (by omega)] at hs5
                      refine zs_iconst (pc := 115) C dX9_asked_115 (by decide) ?_
                      first | refine zs_isub (pc := 116) C dX9_asked_116 (by omega) ?_ | refine zs_isubF (pc := 116) C dX9_asked_116 (fun z116 hz1161 hz1162 => ?_)
                      refine zs_istore (pc := 117) C dX9_asked_117 (by decide) ?_
                      dsimp only [zset, zclr, znone]
                      first | refine zs_iinc (pc := 119) C dX9_asked_119 rfl (by decide) (by omega) ?_ | refine zs_iincF (pc := 119) C dX9_asked_119 rfl (by decide) (fun z119 hz1191 hz1192 => ?_)
                      dsimp only [zset, zclr, znone]
                      refine zs_goto (tgt := 82) (pc := 122) C dX9_asked_122 (by decide) ?_
                      exact zs_wk (ih82 _ _ (by refine ⟨by omega, ?_⟩; rcases Int.lt_or_le (x5 + 1) (A 4 0) with z | z; exact z; exfalso; have hx5 : x5 + 1 = A 4 0 := (by omega); rw [hx5] at hs5; omega) (by omega) (by rw [hf5, if_neg]; rintro ⟨q1, q2⟩; omega) (fun m h1 h2 => h82_3 m (by omega) h2) (by first | omega | (simp only [zuI_1, zuI_2, zuJ_1, zuJ_2, zuJ_3, zuP_1, zuP_2, zuP_3, zuC_1, zuC_2, reduceIte, Nat.reduceEqDiff, false_and, and_false, true_and, and_true, and_self, or_true, true_or, or_false, false_or]; omega))) (zwk_s rfl (zwk_s rfl (zwk_s rfl (zwk_n (zwk_s rfl (zwk_s rfl zwk_0))))))
                    · skip
                      rw [if_neg (by omega)] at hs5
                      refine zs_iconst (pc := 111) C dX9_asked_111 (by decide) ?_
                      refine zs_goto (tgt := 116) (pc := 112) C dX9_asked_112 (by decide) ?_
                      first | refine zs_isub (pc := 116) C dX9_asked_116 (by omega) ?_ | refine zs_isubF (pc := 116) C dX9_asked_116 (fun z116 hz1161 hz1162 => ?_)
                      refine zs_istore (pc := 117) C dX9_asked_117 (by decide) ?_
                      dsimp only [zset, zclr, znone]
                      first | refine zs_iinc (pc := 119) C dX9_asked_119 rfl (by decide) (by omega) ?_ | refine zs_iincF (pc := 119) C dX9_asked_119 rfl (by decide) (fun z119 hz1191 hz1192 => ?_)
                      dsimp only [zset, zclr, znone]
                      refine zs_goto (tgt := 82) (pc := 122) C dX9_asked_122 (by decide) ?_
                      exact zs_wk (ih82 _ _ (by refine ⟨by omega, ?_⟩; rcases Int.lt_or_le (x5 + 1) (A 4 0) with z | z; exact z; exfalso; have hx5 : x5 + 1 = A 4 0 := (by omega); rw [hx5] at hs5; omega) (by omega) (by rw [hf5, if_neg]; rintro ⟨q1, q2⟩; omega) (fun m h1 h2 => h82_3 m (by omega) h2) (by first | omega | (simp only [zuI_1, zuI_2, zuJ_1, zuJ_2, zuJ_3, zuP_1, zuP_2, zuP_3, zuC_1, zuC_2, reduceIte, Nat.reduceEqDiff, false_and, and_false, true_and, and_true, and_self, or_true, true_or, or_false, false_or]; omega))) (zwk_s rfl (zwk_s rfl (zwk_s rfl (zwk_n (zwk_s rfl (zwk_s rfl zwk_0))))))
            exact zs_wk (L82 _ _ _ (by omega) ⟨by show x74 = x74 - 0; omega, by omega⟩ rfl (fun m h1 h2 => wFree_mo h2) (Nat.lt_succ_self _)) (zwk_s rfl (zwk_s rfl (zwk_s rfl (zwk_n (zwk_s rfl (zwk_s rfl zwk_0))))))
          · skip
            have hfr : ¬ 0 < wFree (W 12) p (A 4 0).toNat := by omega
            refine zs_iconst (pc := 70) C dX9_asked_70 (by decide) ?_
            exact zs_iret (pc := 71) C hr hlk dX9_asked_71 ⟨by repeat (first | exact zsm_rf | assumption | refine zsm_C (by decide) ?_ | refine zsm_I (by decide) ?_ | refine zsm_J ?_ | refine zsm_c (by assumption) (by decide) ?_), ⟨by unfold wAskV; rw [if_neg hho, if_neg hfr], by omega, by omega, by unfold wAsk; rw [if_neg hho, if_neg hfr]; exact hD9, (by repeat (first | exact zsj_rf | assumption | refine zsj_I ?_ | refine zsj_J (by decide) ?_ | refine zsj_e (by assumption) ?_ | refine zsj_c (by assumption) (by decide) ?_))⟩⟩
        · skip
          have hs := wFree_s (W := W) (p := p) (k := x4) (by omega)
          rw [show (p * 4).toNat + x4.toNat = (p * 4 + x4).toNat by omega] at hs
          have hl := (WI_WL hW) (p * 4 + x4).toNat (by omega)
          refine zs_iload_n (pc := 41) C dX9_asked_41 rfl ?_
          refine zs_aload_n (pc := 42) C dX9_asked_42 rfl ?_
          refine zs_iconst (pc := 43) C dX9_asked_43 (by decide) ?_
          refine zs_iload_n (pc := 44) C dX9_asked_44 rfl ?_
          refine zs_iload (pc := 45) C dX9_asked_45 rfl ?_
          refine zVip3 (pc := 47) C dX9_asked_47 v_X9_394 (c_X9_leftOfW hX (Or.inl rfl) hp (by omega) hR9.1 (WI_WL hW)) (by decide) (by decide) ⟨Nat.zero_le _, Nat.zero_le _⟩ (Nat.le_of_ble_eq_true rfl) (fun x47 l47 u47 hp47 => ?_)
          have hq47 := hp47
          have hq47b : x47 = W 12 (p * 4 + x4).toNat := hq47
          refine zs_if_ne (tgt := 57) (pc := 50) C dX9_asked_50 (by decide) (fun h50 => ?_) (fun h50 => ?_)
          · skip
            rw [if_pos (by omega)] at hs
            refine zs_iconst (pc := 57) C dX9_asked_57 (by decide) ?_
            first | refine zs_iadd (pc := 58) C dX9_asked_58 (by omega) ?_ | refine zs_iaddF (pc := 58) C dX9_asked_58 (fun z58 hz581 hz582 => ?_)
            refine zs_istore_n (pc := 59) C dX9_asked_59 (by decide) ?_
            dsimp only [zset, zclr, znone]
            first | refine zs_iinc (pc := 60) C dX9_asked_60 rfl (by decide) (by omega) ?_ | refine zs_iincF (pc := 60) C dX9_asked_60 rfl (by decide) (fun z60 hz601 hz602 => ?_)
            dsimp only [zset, zclr, znone]
            refine zs_goto (tgt := 32) (pc := 63) C dX9_asked_63 (by decide) ?_
            exact zs_wk (ih32 _ _ (by first | omega | (simp only [zuI_1, zuI_2, zuJ_1, zuJ_2, zuJ_3, zuP_1, zuP_2, zuP_3, zuC_1, zuC_2, reduceIte, Nat.reduceEqDiff, false_and, and_false, true_and, and_true, and_self, or_true, true_or, or_false, false_or]; omega)) (by first | omega | (simp only [zuI_1, zuI_2, zuJ_1, zuJ_2, zuJ_3, zuP_1, zuP_2, zuP_3, zuC_1, zuC_2, reduceIte, Nat.reduceEqDiff, false_and, and_false, true_and, and_true, and_self, or_true, true_or, or_false, false_or]; omega)) (by first | omega | (simp only [zuI_1, zuI_2, zuJ_1, zuJ_2, zuJ_3, zuP_1, zuP_2, zuP_3, zuC_1, zuC_2, reduceIte, Nat.reduceEqDiff, false_and, and_false, true_and, and_true, and_self, or_true, true_or, or_false, false_or]; omega)) (by first | omega | (simp only [zuI_1, zuI_2, zuJ_1, zuJ_2, zuJ_3, zuP_1, zuP_2, zuP_3, zuC_1, zuC_2, reduceIte, Nat.reduceEqDiff, false_and, and_false, true_and, and_true, and_self, or_true, true_or, or_false, false_or]; omega))) (zwk_s rfl (zwk_s rfl (zwk_s rfl (zwk_s rfl (zwk_s rfl (zwk_n zwk_0))))))
          · skip
            rw [if_neg (by omega)] at hs
            refine zs_iconst (pc := 53) C dX9_asked_53 (by decide) ?_
            refine zs_goto (tgt := 58) (pc := 54) C dX9_asked_54 (by decide) ?_
            first | refine zs_iadd (pc := 58) C dX9_asked_58 (by omega) ?_ | refine zs_iaddF (pc := 58) C dX9_asked_58 (fun z58 hz581 hz582 => ?_)
            refine zs_istore_n (pc := 59) C dX9_asked_59 (by decide) ?_
            dsimp only [zset, zclr, znone]
            first | refine zs_iinc (pc := 60) C dX9_asked_60 rfl (by decide) (by omega) ?_ | refine zs_iincF (pc := 60) C dX9_asked_60 rfl (by decide) (fun z60 hz601 hz602 => ?_)
            dsimp only [zset, zclr, znone]
            refine zs_goto (tgt := 32) (pc := 63) C dX9_asked_63 (by decide) ?_
            exact zs_wk (ih32 _ _ (by first | omega | (simp only [zuI_1, zuI_2, zuJ_1, zuJ_2, zuJ_3, zuP_1, zuP_2, zuP_3, zuC_1, zuC_2, reduceIte, Nat.reduceEqDiff, false_and, and_false, true_and, and_true, and_self, or_true, true_or, or_false, false_or]; omega)) (by first | omega | (simp only [zuI_1, zuI_2, zuJ_1, zuJ_2, zuJ_3, zuP_1, zuP_2, zuP_3, zuC_1, zuC_2, reduceIte, Nat.reduceEqDiff, false_and, and_false, true_and, and_true, and_self, or_true, true_or, or_false, false_or]; omega)) (by first | omega | (simp only [zuI_1, zuI_2, zuJ_1, zuJ_2, zuJ_3, zuP_1, zuP_2, zuP_3, zuC_1, zuC_2, reduceIte, Nat.reduceEqDiff, false_and, and_false, true_and, and_true, and_self, or_true, true_or, or_false, false_or]; omega)) (by first | omega | (simp only [zuI_1, zuI_2, zuJ_1, zuJ_2, zuJ_3, zuP_1, zuP_2, zuP_3, zuC_1, zuC_2, reduceIte, Nat.reduceEqDiff, false_and, and_false, true_and, and_true, and_self, or_true, true_or, or_false, false_or]; omega))) (zwk_s rfl (zwk_s rfl (zwk_s rfl (zwk_s rfl (zwk_s rfl (zwk_n zwk_0))))))
    exact zs_wk (L32 _ _ _ (by omega) (show (0 : Int) = _ from rfl) (by omega) (Nat.lt_succ_self _)) (zwk_s rfl (zwk_s rfl (zwk_s rfl (zwk_s rfl (zwk_s rfl (zwk_n zwk_0))))))
  · skip
    refine zs_iload_n (pc := 21) C dX9_asked_21 rfl ?_
    refine zs_if_lt (tgt := 27) (pc := 22) C dX9_asked_22 (by decide) (fun h22 => ?_) (fun h22 => ?_)
    · skip
      have hho : ¬ wHon A W p := fun q => by have q1 := q.1; have q2 := q.2; omega
      refine zs_iconst (pc := 27) C dX9_asked_27 (by decide) ?_
      refine zs_istore_n (pc := 28) C dX9_asked_28 (by decide) ?_
      dsimp only [zset, zclr, znone]
      refine zs_iconst (pc := 29) C dX9_asked_29 (by decide) ?_
      refine zs_istore (pc := 30) C dX9_asked_30 (by decide) ?_
      dsimp only [zset, zclr, znone]
      have L32 : ∀ (nn : Nat) (x3 x4 : Int), (0 ≤ x4 ∧ x4 ≤ A 4 0) → (x3 = wFree (W 12) p x4.toNat) → (0 ≤ x3 ∧ x3 ≤ x4) → (4 - x4).toNat < nn → Z px9 l e (zrm 2) s m args below meth c Γ 6 0 0 (MQ below (zQc Γ (zpi (fun x G' => zsm [] G G' ∧ (x = wAskV A W p ∧ -1 ≤ x ∧ x ≤ 3 ∧ rD w (wAsk A W p) G' ∧ zsj [1061] G G')))) args s 0 0 (zA Γ)) 32 [some (zr 10 w), some (zi p), some (zi x2), some (zi x3), some (zi x4), none] [] G9 := by
        intro nn
        induction nn with
        | zero => intro x3 x4 h32_0 h32_1 h32_2 hm; exact absurd hm (Nat.not_lt_zero _)
        | succ nn ih32 =>
          intro x3 x4 h32_0 h32_1 h32_2 hm32
          refine zs_iload (pc := 32) C dX9_asked_32 rfl ?_
          refine zs_aload_n (pc := 34) C dX9_asked_34 rfl ?_
          refine zs_geti (r := 1012) (pc := 35) C dX9_asked_35 w_X9_258 f_10_12 rfl (r_1012 0) (fun v35 e35 l35 u35 => ?_)
          refine zs_icmp_ge (tgt := 66) (pc := 38) C dX9_asked_38 (by decide) (fun h38 => ?_) (fun h38 => ?_)
          · skip
            have hx4 : x4 = A 4 0 := by omega
            rw [hx4] at h32_1
            have hfi := wFree_in (F := W 12) (p := p) (A 4 0).toNat
            refine zs_iload_n (pc := 66) C dX9_asked_66 rfl ?_
            refine zs_if_ne (tgt := 72) (pc := 67) C dX9_asked_67 (by decide) (fun h67 => ?_) (fun h67 => ?_)
            · skip
              have hfr : 0 < wFree (W 12) p (A 4 0).toNat := by omega
              refine zs_aload_n (pc := 72) C dX9_asked_72 rfl ?_
              refine zs_iload_n (pc := 73) C dX9_asked_73 rfl ?_
              refine zVi1 (pc := 74) C dX9_asked_74 v_X9_459 (c_X9_number1W (d := wD1 W) hX (by omega) hD9 (wNext_in _)) (by decide) (by decide) ⟨Nat.zero_le _, Nat.zero_le _⟩ (Nat.le_of_ble_eq_true rfl) (fun x74 G74 l74 u74 hp74 => ?_)
              obtain ⟨hz74, hq74⟩ := hp74
              obtain ⟨y74, b74, c74, hD74, j74⟩ := hq74
              have hR74 : rW Γ w 0 W G74 := rW_sm hz74 (by decide) hR9
              rw [h32_1] at y74 c74
              refine zs_istore (pc := 77) C dX9_asked_77 (by decide) ?_
              dsimp only [zset, zclr, znone]
              refine zs_iconst (pc := 79) C dX9_asked_79 (by decide) ?_
              refine zs_istore (pc := 80) C dX9_asked_80 (by decide) ?_
              dsimp only [zset, zclr, znone]
              have L82 : ∀ (nn : Nat) (x4 x5 : Int), (0 ≤ x5 ∧ x5 < A 4 0) → (x4 = x74 - wFree (W 12) p x5.toNat ∧ 0 ≤ x4) → (wFind (W 12) p x74 x5.toNat = -1) → (∀ m : Int, x5 ≤ m → m ≤ A 4 0 → wFree (W 12) p m.toNat ≤ wFree (W 12) p (A 4 0).toNat) → (4 - x5).toNat < nn → Z px9 l e (zrm 2) s m args below meth c Γ 6 0 0 (MQ below (zQc Γ (zpi (fun x G' => zsm [] G G' ∧ (x = wAskV A W p ∧ -1 ≤ x ∧ x ≤ 3 ∧ rD w (wAsk A W p) G' ∧ zsj [1061] G G')))) args s 0 0 (zA Γ)) 82 [some (zr 10 w), some (zi p), some (zi x2), none, some (zi x4), some (zi x5)] [] G74 := by
                intro nn
                induction nn with
                | zero => intro x4 x5 h82_0 h82_1 h82_2 h82_3 hm; exact absurd hm (Nat.not_lt_zero _)
                | succ nn ih82 =>
                  intro x4 x5 h82_0 h82_1 h82_2 h82_3 hm82
                  have hs5 := wFree_s (W := W) (p := p) (k := x5) (by omega)
                  have hf5 := wFind_s (W := W) (p := p) (a := x74) (k := x5) (by omega)
                  rw [if_neg (fun q => q h82_2)] at hf5
                  have hsp : (p * 4).toNat + x5.toNat = (p * 4 + x5).toNat := by omega
                  rw [hsp] at hs5 hf5
                  have hl5 := (WI_WL hW) (p * 4 + x5).toNat (by omega)
                  have hwl5 : wL W p x5 = W 12 (p * 4 + x5).toNat := rfl
                  have hlast := h82_3 (x5 + 1) (by omega) (by omega)
                  have hfi5 := wFree_in (F := W 12) (p := p) x5.toNat
                  refine zs_aload_n (pc := 82) C dX9_asked_82 rfl ?_
                  refine zs_iconst (pc := 83) C dX9_asked_83 (by decide) ?_
                  refine zs_iload_n (pc := 84) C dX9_asked_84 rfl ?_
                  refine zs_iload (pc := 85) C dX9_asked_85 rfl ?_
                  refine zVip3 (pc := 87) C dX9_asked_87 v_X9_394 (c_X9_leftOfW hX (Or.inl rfl) hp (by omega) hR74.1 (WI_WL hW)) (by decide) (by decide) ⟨Nat.zero_le _, Nat.zero_le _⟩ (Nat.le_of_ble_eq_true rfl) (fun x87 l87 u87 hp87 => ?_)
                  have hq87 := hp87
                  refine zs_if_gt (tgt := 98) (pc := 90) C dX9_asked_90 (by decide) (fun h90 => ?_) (fun h90 => ?_)
                  · skip
                    refine zs_iload (pc := 98) C dX9_asked_98 rfl ?_
                    refine zs_aload_n (pc := 100) C dX9_asked_100 rfl ?_
                    refine zs_iconst (pc := 101) C dX9_asked_101 (by decide) ?_
                    refine zs_iload_n (pc := 102) C dX9_asked_102 rfl ?_
                    refine zs_iload (pc := 103) C dX9_asked_103 rfl ?_
                    refine zVip3 (pc := 105) C dX9_asked_105 v_X9_394 (c_X9_leftOfW hX (Or.inl rfl) hp (by omega) hR74.1 (WI_WL hW)) (by decide) (by decide) ⟨Nat.zero_le _, Nat.zero_le _⟩ (Nat.le_of_ble_eq_true rfl) (fun x105 l105 u105 hp105 => ?_)
                    have hq105 := hp105
                    refine zs_if_ne (tgt := 115) (pc := 108) C dX9_asked_108 (by decide) (fun h108 => ?_) (fun h108 => ?_)
                    · skip
                      rw [if_pos (by omega)] at hs5
                      refine zs_iconst (pc := 115) C dX9_asked_115 (by decide) ?_
                      first | refine zs_isub (pc := 116) C dX9_asked_116 (by omega) ?_ | refine zs_isubF (pc := 116) C dX9_asked_116 (fun z116 hz1161 hz1162 => ?_)
                      refine zs_istore (pc := 117) C dX9_asked_117 (by decide) ?_
                      dsimp only [zset, zclr, znone]
                      first | refine zs_iinc (pc := 119) C dX9_asked_119 rfl (by decide) (by omega) ?_ | refine zs_iincF (pc := 119) C dX9_asked_119 rfl (by decide) (fun z119 hz1191 hz1192 => ?_)
                      dsimp only [zset, zclr, znone]
                      refine zs_goto (tgt := 82) (pc := 122) C dX9_asked_122 (by decide) ?_
                      exact zs_wk (ih82 _ _ (by refine ⟨by omega, ?_⟩; rcases Int.lt_or_le (x5 + 1) (A 4 0) with z | z; exact z; exfalso; have hx5 : x5 + 1 = A 4 0 := (by omega); rw [hx5] at hs5; omega) (by omega) (by rw [hf5, if_neg]; rintro ⟨q1, q2⟩; omega) (fun m h1 h2 => h82_3 m (by omega) h2) (by first | omega | (simp only [zuI_1, zuI_2, zuJ_1, zuJ_2, zuJ_3, zuP_1, zuP_2, zuP_3, zuC_1, zuC_2, reduceIte, Nat.reduceEqDiff, false_and, and_false, true_and, and_true, and_self, or_true, true_or, or_false, false_or]; omega))) (zwk_s rfl (zwk_s rfl (zwk_s rfl (zwk_n (zwk_s rfl (zwk_s rfl zwk_0))))))
                    · skip
                      rw [if_neg (by omega)] at hs5
                      refine zs_iconst (pc := 111) C dX9_asked_111 (by decide) ?_
                      refine zs_goto (tgt := 116) (pc := 112) C dX9_asked_112 (by decide) ?_
                      first | refine zs_isub (pc := 116) C dX9_asked_116 (by omega) ?_ | refine zs_isubF (pc := 116) C dX9_asked_116 (fun z116 hz1161 hz1162 => ?_)
                      refine zs_istore (pc := 117) C dX9_asked_117 (by decide) ?_
                      dsimp only [zset, zclr, znone]
                      first | refine zs_iinc (pc := 119) C dX9_asked_119 rfl (by decide) (by omega) ?_ | refine zs_iincF (pc := 119) C dX9_asked_119 rfl (by decide) (fun z119 hz1191 hz1192 => ?_)
                      dsimp only [zset, zclr, znone]
                      refine zs_goto (tgt := 82) (pc := 122) C dX9_asked_122 (by decide) ?_
                      exact zs_wk (ih82 _ _ (by refine ⟨by omega, ?_⟩; rcases Int.lt_or_le (x5 + 1) (A 4 0) with z | z; exact z; exfalso; have hx5 : x5 + 1 = A 4 0 := (by omega); rw [hx5] at hs5; omega) (by omega) (by rw [hf5, if_neg]; rintro ⟨q1, q2⟩; omega) (fun m h1 h2 => h82_3 m (by omega) h2) (by first | omega | (simp only [zuI_1, zuI_2, zuJ_1, zuJ_2, zuJ_3, zuP_1, zuP_2, zuP_3, zuC_1, zuC_2, reduceIte, Nat.reduceEqDiff, false_and, and_false, true_and, and_true, and_self, or_true, true_or, or_false, false_or]; omega))) (zwk_s rfl (zwk_s rfl (zwk_s rfl (zwk_n (zwk_s rfl (zwk_s rfl zwk_0))))))
                  · skip
                    refine zs_iload (pc := 93) C dX9_asked_93 rfl ?_
                    refine zs_if_le (tgt := 125) (pc := 95) C dX9_asked_95 (by decide) (fun h95 => ?_) (fun h95 => ?_)
                    · skip
                      refine zs_iload (pc := 125) C dX9_asked_125 rfl ?_
                      exact zs_iret (pc := 127) C hr hlk dX9_asked_127 ⟨by repeat (first | exact zsm_rf | assumption | refine zsm_C (by decide) ?_ | refine zsm_I (by decide) ?_ | refine zsm_J ?_ | refine zsm_c (by assumption) (by decide) ?_), ⟨by unfold wAskV; rw [if_neg hho, if_pos hfr, ← y74]; exact (wFind_hit (W := W) (p := p) (a := x74) (k := x5) (n := A 4 0) (by omega) h82_2 (by rw [hsp]; omega) (by omega)).symm, by omega, by omega, by unfold wAsk; rw [if_neg hho, if_pos hfr]; exact hD74, (by repeat (first | exact zsj_rf | assumption | refine zsj_I ?_ | refine zsj_J (by decide) ?_ | refine zsj_e (by assumption) ?_ | refine zsj_c (by assumption) (by decide) ?_))⟩⟩
                    · skip
                      refine zs_iload (pc := 98) C dX9_asked_98 rfl ?_
                      refine zs_aload_n (pc := 100) C dX9_asked_100 rfl ?_
                      refine zs_iconst (pc := 101) C dX9_asked_101 (by decide) ?_
                      refine zs_iload_n (pc := 102) C dX9_asked_102 rfl ?_
                      refine zs_iload (pc := 103) C dX9_asked_103 rfl ?_
                      refine zVip3 (pc := 105) C dX9_asked_105 v_X9_394 (c_X9_leftOfW hX (Or.inl rfl) hp (by omega) hR74.1 (WI_WL hW)) (by decide) (by decide) ⟨Nat.zero_le _, Nat.zero_le _⟩ (Nat.le_of_ble_eq_true rfl) (fun x105 l105 u105 hp105 => ?_)
                      have hq105 := hp105
                      refine zs_if_ne (tgt := 115) (pc := 108) C dX9_asked_108 (by decide) (fun h108 => ?_) (fun h108 => ?_)
                      · skip
                        rw [if_pos (by omega)] at hs5
                        refine zs_iconst (pc := 115) C dX9_asked_115 (by decide) ?_
                        first | refine zs_isub (pc := 116) C dX9_asked_116 (by omega) ?_ | refine zs_isubF (pc := 116) C dX9_asked_116 (fun z116 hz1161 hz1162 => ?_)
                        refine zs_istore (pc := 117) C dX9_asked_117 (by decide) ?_
                        dsimp only [zset, zclr, znone]
                        first | refine zs_iinc (pc := 119) C dX9_asked_119 rfl (by decide) (by omega) ?_ | refine zs_iincF (pc := 119) C dX9_asked_119 rfl (by decide) (fun z119 hz1191 hz1192 => ?_)
                        dsimp only [zset, zclr, znone]
                        refine zs_goto (tgt := 82) (pc := 122) C dX9_asked_122 (by decide) ?_
                        exact zs_wk (ih82 _ _ (by refine ⟨by omega, ?_⟩; rcases Int.lt_or_le (x5 + 1) (A 4 0) with z | z; exact z; exfalso; have hx5 : x5 + 1 = A 4 0 := (by omega); rw [hx5] at hs5; omega) (by omega) (by rw [hf5, if_neg]; rintro ⟨q1, q2⟩; omega) (fun m h1 h2 => h82_3 m (by omega) h2) (by first | omega | (simp only [zuI_1, zuI_2, zuJ_1, zuJ_2, zuJ_3, zuP_1, zuP_2, zuP_3, zuC_1, zuC_2, reduceIte, Nat.reduceEqDiff, false_and, and_false, true_and, and_true, and_self, or_true, true_or, or_false, false_or]; omega))) (zwk_s rfl (zwk_s rfl (zwk_s rfl (zwk_n (zwk_s rfl (zwk_s rfl zwk_0))))))
                      · skip
                        rw [if_neg (by omega)] at hs5
                        refine zs_iconst (pc := 111) C dX9_asked_111 (by decide) ?_
                        refine zs_goto (tgt := 116) (pc := 112) C dX9_asked_112 (by decide) ?_
                        first | refine zs_isub (pc := 116) C dX9_asked_116 (by omega) ?_ | refine zs_isubF (pc := 116) C dX9_asked_116 (fun z116 hz1161 hz1162 => ?_)
                        refine zs_istore (pc := 117) C dX9_asked_117 (by decide) ?_
                        dsimp only [zset, zclr, znone]
                        first | refine zs_iinc (pc := 119) C dX9_asked_119 rfl (by decide) (by omega) ?_ | refine zs_iincF (pc := 119) C dX9_asked_119 rfl (by decide) (fun z119 hz1191 hz1192 => ?_)
                        dsimp only [zset, zclr, znone]
                        refine zs_goto (tgt := 82) (pc := 122) C dX9_asked_122 (by decide) ?_
                        exact zs_wk (ih82 _ _ (by refine ⟨by omega, ?_⟩; rcases Int.lt_or_le (x5 + 1) (A 4 0) with z | z; exact z; exfalso; have hx5 : x5 + 1 = A 4 0 := (by omega); rw [hx5] at hs5; omega) (by omega) (by rw [hf5, if_neg]; rintro ⟨q1, q2⟩; omega) (fun m h1 h2 => h82_3 m (by omega) h2) (by first | omega | (simp only [zuI_1, zuI_2, zuJ_1, zuJ_2, zuJ_3, zuP_1, zuP_2, zuP_3, zuC_1, zuC_2, reduceIte, Nat.reduceEqDiff, false_and, and_false, true_and, and_true, and_self, or_true, true_or, or_false, false_or]; omega))) (zwk_s rfl (zwk_s rfl (zwk_s rfl (zwk_n (zwk_s rfl (zwk_s rfl zwk_0))))))
              exact zs_wk (L82 _ _ _ (by omega) ⟨by show x74 = x74 - 0; omega, by omega⟩ rfl (fun m h1 h2 => wFree_mo h2) (Nat.lt_succ_self _)) (zwk_s rfl (zwk_s rfl (zwk_s rfl (zwk_n (zwk_s rfl (zwk_s rfl zwk_0))))))
            · skip
              have hfr : ¬ 0 < wFree (W 12) p (A 4 0).toNat := by omega
              refine zs_iconst (pc := 70) C dX9_asked_70 (by decide) ?_
              exact zs_iret (pc := 71) C hr hlk dX9_asked_71 ⟨by repeat (first | exact zsm_rf | assumption | refine zsm_C (by decide) ?_ | refine zsm_I (by decide) ?_ | refine zsm_J ?_ | refine zsm_c (by assumption) (by decide) ?_), ⟨by unfold wAskV; rw [if_neg hho, if_neg hfr], by omega, by omega, by unfold wAsk; rw [if_neg hho, if_neg hfr]; exact hD9, (by repeat (first | exact zsj_rf | assumption | refine zsj_I ?_ | refine zsj_J (by decide) ?_ | refine zsj_e (by assumption) ?_ | refine zsj_c (by assumption) (by decide) ?_))⟩⟩
          · skip
            have hs := wFree_s (W := W) (p := p) (k := x4) (by omega)
            rw [show (p * 4).toNat + x4.toNat = (p * 4 + x4).toNat by omega] at hs
            have hl := (WI_WL hW) (p * 4 + x4).toNat (by omega)
            refine zs_iload_n (pc := 41) C dX9_asked_41 rfl ?_
            refine zs_aload_n (pc := 42) C dX9_asked_42 rfl ?_
            refine zs_iconst (pc := 43) C dX9_asked_43 (by decide) ?_
            refine zs_iload_n (pc := 44) C dX9_asked_44 rfl ?_
            refine zs_iload (pc := 45) C dX9_asked_45 rfl ?_
            refine zVip3 (pc := 47) C dX9_asked_47 v_X9_394 (c_X9_leftOfW hX (Or.inl rfl) hp (by omega) hR9.1 (WI_WL hW)) (by decide) (by decide) ⟨Nat.zero_le _, Nat.zero_le _⟩ (Nat.le_of_ble_eq_true rfl) (fun x47 l47 u47 hp47 => ?_)
            have hq47 := hp47
            have hq47b : x47 = W 12 (p * 4 + x4).toNat := hq47
            refine zs_if_ne (tgt := 57) (pc := 50) C dX9_asked_50 (by decide) (fun h50 => ?_) (fun h50 => ?_)
            · skip
              rw [if_pos (by omega)] at hs
              refine zs_iconst (pc := 57) C dX9_asked_57 (by decide) ?_
              first | refine zs_iadd (pc := 58) C dX9_asked_58 (by omega) ?_ | refine zs_iaddF (pc := 58) C dX9_asked_58 (fun z58 hz581 hz582 => ?_)
              refine zs_istore_n (pc := 59) C dX9_asked_59 (by decide) ?_
              dsimp only [zset, zclr, znone]
              first | refine zs_iinc (pc := 60) C dX9_asked_60 rfl (by decide) (by omega) ?_ | refine zs_iincF (pc := 60) C dX9_asked_60 rfl (by decide) (fun z60 hz601 hz602 => ?_)
              dsimp only [zset, zclr, znone]
              refine zs_goto (tgt := 32) (pc := 63) C dX9_asked_63 (by decide) ?_
              exact zs_wk (ih32 _ _ (by first | omega | (simp only [zuI_1, zuI_2, zuJ_1, zuJ_2, zuJ_3, zuP_1, zuP_2, zuP_3, zuC_1, zuC_2, reduceIte, Nat.reduceEqDiff, false_and, and_false, true_and, and_true, and_self, or_true, true_or, or_false, false_or]; omega)) (by first | omega | (simp only [zuI_1, zuI_2, zuJ_1, zuJ_2, zuJ_3, zuP_1, zuP_2, zuP_3, zuC_1, zuC_2, reduceIte, Nat.reduceEqDiff, false_and, and_false, true_and, and_true, and_self, or_true, true_or, or_false, false_or]; omega)) (by first | omega | (simp only [zuI_1, zuI_2, zuJ_1, zuJ_2, zuJ_3, zuP_1, zuP_2, zuP_3, zuC_1, zuC_2, reduceIte, Nat.reduceEqDiff, false_and, and_false, true_and, and_true, and_self, or_true, true_or, or_false, false_or]; omega)) (by first | omega | (simp only [zuI_1, zuI_2, zuJ_1, zuJ_2, zuJ_3, zuP_1, zuP_2, zuP_3, zuC_1, zuC_2, reduceIte, Nat.reduceEqDiff, false_and, and_false, true_and, and_true, and_self, or_true, true_or, or_false, false_or]; omega))) (zwk_s rfl (zwk_s rfl (zwk_s rfl (zwk_s rfl (zwk_s rfl (zwk_n zwk_0))))))
            · skip
              rw [if_neg (by omega)] at hs
              refine zs_iconst (pc := 53) C dX9_asked_53 (by decide) ?_
              refine zs_goto (tgt := 58) (pc := 54) C dX9_asked_54 (by decide) ?_
              first | refine zs_iadd (pc := 58) C dX9_asked_58 (by omega) ?_ | refine zs_iaddF (pc := 58) C dX9_asked_58 (fun z58 hz581 hz582 => ?_)
              refine zs_istore_n (pc := 59) C dX9_asked_59 (by decide) ?_
              dsimp only [zset, zclr, znone]
              first | refine zs_iinc (pc := 60) C dX9_asked_60 rfl (by decide) (by omega) ?_ | refine zs_iincF (pc := 60) C dX9_asked_60 rfl (by decide) (fun z60 hz601 hz602 => ?_)
              dsimp only [zset, zclr, znone]
              refine zs_goto (tgt := 32) (pc := 63) C dX9_asked_63 (by decide) ?_
              exact zs_wk (ih32 _ _ (by first | omega | (simp only [zuI_1, zuI_2, zuJ_1, zuJ_2, zuJ_3, zuP_1, zuP_2, zuP_3, zuC_1, zuC_2, reduceIte, Nat.reduceEqDiff, false_and, and_false, true_and, and_true, and_self, or_true, true_or, or_false, false_or]; omega)) (by first | omega | (simp only [zuI_1, zuI_2, zuJ_1, zuJ_2, zuJ_3, zuP_1, zuP_2, zuP_3, zuC_1, zuC_2, reduceIte, Nat.reduceEqDiff, false_and, and_false, true_and, and_true, and_self, or_true, true_or, or_false, false_or]; omega)) (by first | omega | (simp only [zuI_1, zuI_2, zuJ_1, zuJ_2, zuJ_3, zuP_1, zuP_2, zuP_3, zuC_1, zuC_2, reduceIte, Nat.reduceEqDiff, false_and, and_false, true_and, and_true, and_self, or_true, true_or, or_false, false_or]; omega)) (by first | omega | (simp only [zuI_1, zuI_2, zuJ_1, zuJ_2, zuJ_3, zuP_1, zuP_2, zuP_3, zuC_1, zuC_2, reduceIte, Nat.reduceEqDiff, false_and, and_false, true_and, and_true, and_self, or_true, true_or, or_false, false_or]; omega))) (zwk_s rfl (zwk_s rfl (zwk_s rfl (zwk_s rfl (zwk_s rfl (zwk_n zwk_0))))))
      exact zs_wk (L32 _ _ _ (by omega) (show (0 : Int) = _ from rfl) (by omega) (Nat.lt_succ_self _)) (zwk_s rfl (zwk_s rfl (zwk_s rfl (zwk_s rfl (zwk_s rfl (zwk_n zwk_0))))))
    · skip
      have hho : wHon A W p := ⟨by omega, by omega⟩
      refine zs_iload_n (pc := 25) C dX9_asked_25 rfl ?_
      exact zs_iret (pc := 26) C hr hlk dX9_asked_26 ⟨by repeat (first | exact zsm_rf | assumption | refine zsm_C (by decide) ?_ | refine zsm_I (by decide) ?_ | refine zsm_J ?_ | refine zsm_c (by assumption) (by decide) ?_), ⟨by unfold wAskV; rw [if_pos hho]; exact hq2b, by omega, by omega, by unfold wAsk; rw [if_pos hho]; exact hD9, (by repeat (first | exact zsj_rf | assumption | refine zsj_I ?_ | refine zsj_J (by decide) ?_ | refine zsj_e (by assumption) ?_ | refine zsj_c (by assumption) (by decide) ?_))⟩⟩
