/-! the image -/
def pvS (Γ : zΓ) (w : Nat) (G : zH) (m : Nat) : Int := if m < 60 then G.1 2091 (Γ.2.1 w 62) m else if m < 120 then G.1 2092 (Γ.2.1 w 63) (m - 60) else if m < 180 then G.1 2093 (Γ.2.1 w 64) (m - 120) else if m < 240 then G.1 2095 (Γ.2.1 w 66) (m - 180) else if m < 300 then G.1 2096 (Γ.2.1 w 67) (m - 240) else if m < 360 then G.1 2097 (Γ.2.1 w 68) (m - 300) else if m < 420 then G.1 2098 (Γ.2.1 w 69) (m - 360) else if m < 480 then G.1 2099 (Γ.2.1 w 70) (m - 420) else if m < 540 then G.1 2100 (Γ.2.1 w 71) (m - 480) else 0
theorem pvS_2091 {Γ : zΓ} {w : Nat} {G : zH} {x : Int} (h : 0 ≤ x ∧ x < 60) : pvS Γ w G x.toNat = G.1 2091 (Γ.2.1 w 62) x.toNat := by
  unfold pvS; rw [if_pos (by omega)]
theorem pvS_2092 {Γ : zΓ} {w : Nat} {G : zH} {x : Int} (h : 0 ≤ x ∧ x < 60) : pvS Γ w G (60 + x).toNat = G.1 2092 (Γ.2.1 w 63) x.toNat := by
  unfold pvS; rw [if_neg (by omega), if_pos (by omega), show (60 + x).toNat - 60 = x.toNat by omega]
theorem pvS_2093 {Γ : zΓ} {w : Nat} {G : zH} {x : Int} (h : 0 ≤ x ∧ x < 60) : pvS Γ w G (120 + x).toNat = G.1 2093 (Γ.2.1 w 64) x.toNat := by
  unfold pvS; rw [if_neg (by omega), if_neg (by omega), if_pos (by omega), show (120 + x).toNat - 120 = x.toNat by omega]
theorem pvS_2095 {Γ : zΓ} {w : Nat} {G : zH} {x : Int} (h : 0 ≤ x ∧ x < 60) : pvS Γ w G (180 + x).toNat = G.1 2095 (Γ.2.1 w 66) x.toNat := by
  unfold pvS; rw [if_neg (by omega), if_neg (by omega), if_neg (by omega), if_pos (by omega), show (180 + x).toNat - 180 = x.toNat by omega]
theorem pvS_2096 {Γ : zΓ} {w : Nat} {G : zH} {x : Int} (h : 0 ≤ x ∧ x < 60) : pvS Γ w G (240 + x).toNat = G.1 2096 (Γ.2.1 w 67) x.toNat := by
  unfold pvS; rw [if_neg (by omega), if_neg (by omega), if_neg (by omega), if_neg (by omega), if_pos (by omega), show (240 + x).toNat - 240 = x.toNat by omega]
theorem pvS_2097 {Γ : zΓ} {w : Nat} {G : zH} {x : Int} (h : 0 ≤ x ∧ x < 60) : pvS Γ w G (300 + x).toNat = G.1 2097 (Γ.2.1 w 68) x.toNat := by
  unfold pvS; rw [if_neg (by omega), if_neg (by omega), if_neg (by omega), if_neg (by omega), if_neg (by omega), if_pos (by omega), show (300 + x).toNat - 300 = x.toNat by omega]
theorem pvS_2098 {Γ : zΓ} {w : Nat} {G : zH} {x : Int} (h : 0 ≤ x ∧ x < 60) : pvS Γ w G (360 + x).toNat = G.1 2098 (Γ.2.1 w 69) x.toNat := by
  unfold pvS; rw [if_neg (by omega), if_neg (by omega), if_neg (by omega), if_neg (by omega), if_neg (by omega), if_neg (by omega), if_pos (by omega), show (360 + x).toNat - 360 = x.toNat by omega]
theorem pvS_2099 {Γ : zΓ} {w : Nat} {G : zH} {x : Int} (h : 0 ≤ x ∧ x < 60) : pvS Γ w G (420 + x).toNat = G.1 2099 (Γ.2.1 w 70) x.toNat := by
  unfold pvS; rw [if_neg (by omega), if_neg (by omega), if_neg (by omega), if_neg (by omega), if_neg (by omega), if_neg (by omega), if_neg (by omega), if_pos (by omega), show (420 + x).toNat - 420 = x.toNat by omega]
theorem pvS_2100 {Γ : zΓ} {w : Nat} {G : zH} {x : Int} (h : 0 ≤ x ∧ x < 60) : pvS Γ w G (480 + x).toNat = G.1 2100 (Γ.2.1 w 71) x.toNat := by
  unfold pvS; rw [if_neg (by omega), if_neg (by omega), if_neg (by omega), if_neg (by omega), if_neg (by omega), if_neg (by omega), if_neg (by omega), if_neg (by omega), if_pos (by omega), show (480 + x).toNat - 480 = x.toNat by omega]
/-- the image holds works -/
def iR (Γ : zΓ) (w : Nat) (V : aS) (G : zH) : Prop := rF (tF 2106 (Γ.2.1 w 89) 0 G) V ∧ (∀ k : Nat, (k : Int) < V 0 0 → k < 60 → G.1 2107 (Γ.2.1 w 90) k = V 1 k ∧ G.1 2107 (Γ.2.1 w 90) (60 + k) = V 2 k ∧ G.1 2107 (Γ.2.1 w 90) (120 + k) = V 3 k ∧ G.1 2107 (Γ.2.1 w 90) (180 + k) = wLie V k (V 2 k) ∧ G.1 2107 (Γ.2.1 w 90) (240 + k) = V 6 k ∧ G.1 2107 (Γ.2.1 w 90) (300 + k) = V 7 k ∧ G.1 2107 (Γ.2.1 w 90) (360 + k) = V 8 k ∧ G.1 2107 (Γ.2.1 w 90) (420 + k) = V 9 k ∧ G.1 2107 (Γ.2.1 w 90) (480 + k) = V 10 k) ∧ G.1 1087 w 0 = V 22 0 ∧ G.2.1 1088 w 0 = V 21 0
theorem iR_sm {Γ : zΓ} {w : Nat} {V : aS} {G G1 : zH} {rs : List Nat} (hs : zsm rs G G1) (hr : 2106 ∉ rs ∧ 2107 ∉ rs ∧ 1087 ∉ rs) (hj : G1.2.1 1088 w 0 = G.2.1 1088 w 0) (h : iR Γ w V G) : iR Γ w V G1 := by
  obtain ⟨h1, h2, h3, h4⟩ := h
  refine ⟨tF_cg (fun m _ => by rw [hs.1 2106 hr.1]) h1, ?_, by rw [hs.1 1087 hr.2.2]; exact h3, hj.trans h4⟩
  rw [hs.1 2107 hr.2.1]
  exact h2
theorem iR_of {Γ : zΓ} {w : Nat} {W : aS} {G G1 : zH} (hW : W 0 0 ≤ 60) (hR : rW Γ w 0 W G) (hS : rS Γ w W G) (hD : rD w W G) (h1 : ∀ m : Nat, m < 124 → tF 2106 (Γ.2.1 w 89) 0 G1 m = pvR Γ w G m) (h2 : ∀ m : Nat, m < 540 → G1.1 2107 (Γ.2.1 w 90) m = pvS Γ w G m) (h3 : G1.1 1087 w 0 = G.1 1083 w 0) (h4 : G1.2.1 1088 w 0 = G.2.1 1061 w 0) : iR Γ w W G1 := by
  refine ⟨rF_put hR h1, fun k hk h60 => ?_, h3.trans hS.2, h4.trans hD⟩
  have q := hS.1 k hk
  have q3 := (hR.2.2.2 k hk).1
  rw [show (60 * (0 : Int) + k).toNat = k by omega] at q3
  obtain ⟨q1, q2, q4, q5, q6, q7, q8, q9⟩ := q
  have e0 := pvS_2091 (Γ := Γ) (w := w) (G := G) (x := k) (by omega)
  rw [show ((k : Int)).toNat = k by omega] at e0
  have e60 := pvS_2092 (Γ := Γ) (w := w) (G := G) (x := k) (by omega)
  rw [show ((k : Int)).toNat = k by omega, show (60 + (k : Int)).toNat = 60 + k by omega] at e60
  have e120 := pvS_2093 (Γ := Γ) (w := w) (G := G) (x := k) (by omega)
  rw [show ((k : Int)).toNat = k by omega, show (120 + (k : Int)).toNat = 120 + k by omega] at e120
  have e180 := pvS_2095 (Γ := Γ) (w := w) (G := G) (x := k) (by omega)
  rw [show ((k : Int)).toNat = k by omega, show (180 + (k : Int)).toNat = 180 + k by omega] at e180
  have e240 := pvS_2096 (Γ := Γ) (w := w) (G := G) (x := k) (by omega)
  rw [show ((k : Int)).toNat = k by omega, show (240 + (k : Int)).toNat = 240 + k by omega] at e240
  have e300 := pvS_2097 (Γ := Γ) (w := w) (G := G) (x := k) (by omega)
  rw [show ((k : Int)).toNat = k by omega, show (300 + (k : Int)).toNat = 300 + k by omega] at e300
  have e360 := pvS_2098 (Γ := Γ) (w := w) (G := G) (x := k) (by omega)
  rw [show ((k : Int)).toNat = k by omega, show (360 + (k : Int)).toNat = 360 + k by omega] at e360
  have e420 := pvS_2099 (Γ := Γ) (w := w) (G := G) (x := k) (by omega)
  rw [show ((k : Int)).toNat = k by omega, show (420 + (k : Int)).toNat = 420 + k by omega] at e420
  have e480 := pvS_2100 (Γ := Γ) (w := w) (G := G) (x := k) (by omega)
  rw [show ((k : Int)).toNat = k by omega, show (480 + (k : Int)).toNat = 480 + k by omega] at e480
  refine ⟨(h2 k (by omega)).trans (e0.trans q1), (h2 (60 + k) (by omega)).trans (e60.trans q2), (h2 (120 + k) (by omega)).trans (e120.trans q3), (h2 (180 + k) (by omega)).trans (e180.trans q4), (h2 (240 + k) (by omega)).trans (e240.trans q5), (h2 (300 + k) (by omega)).trans (e300.trans q6), (h2 (360 + k) (by omega)).trans (e360.trans q7), (h2 (420 + k) (by omega)).trans (e420.trans q8), (h2 (480 + k) (by omega)).trans (e480.trans q9)⟩
/-- rows of sacks taken from the image -/
def tkI (Γ : zΓ) (w : Nat) (H : Nat → Int) (n : Int) (G : zH) : Prop := ∀ k : Nat, (k : Int) < n → G.1 2091 (Γ.2.1 w 62) k = H k ∧ G.1 2092 (Γ.2.1 w 63) k = H (60 + k) ∧ G.1 2093 (Γ.2.1 w 64) k = H (120 + k) ∧ G.1 2095 (Γ.2.1 w 66) k = H (180 + k) ∧ G.1 2096 (Γ.2.1 w 67) k = H (240 + k) ∧ G.1 2097 (Γ.2.1 w 68) k = H (300 + k) ∧ G.1 2098 (Γ.2.1 w 69) k = H (360 + k) ∧ G.1 2099 (Γ.2.1 w 70) k = H (420 + k) ∧ G.1 2100 (Γ.2.1 w 71) k = H (480 + k)
theorem tkI_s {Γ : zΓ} {w : Nat} {n v0 v60 v120 v180 v240 v300 v360 v420 v480 : Int} {H : Nat → Int} {G : zH} (hn : 0 ≤ n) (h : tkI Γ w H n G) (g0 : v0 = H n.toNat) (g60 : v60 = H (60 + n).toNat) (g120 : v120 = H (120 + n).toNat) (g180 : v180 = H (180 + n).toNat) (g240 : v240 = H (240 + n).toNat) (g300 : v300 = H (300 + n).toNat) (g360 : v360 = H (360 + n).toNat) (g420 : v420 = H (420 + n).toNat) (g480 : v480 = H (480 + n).toNat) : tkI Γ w H (n + 1) (zuI (zuI (zuI (zuI (zuI (zuI (zuI (zuI (zuI G 2091 (Γ.2.1 w 62) n.toNat v0) 2092 (Γ.2.1 w 63) n.toNat v60) 2093 (Γ.2.1 w 64) n.toNat v120) 2095 (Γ.2.1 w 66) n.toNat v180) 2096 (Γ.2.1 w 67) n.toNat v240) 2097 (Γ.2.1 w 68) n.toNat v300) 2098 (Γ.2.1 w 69) n.toNat v360) 2099 (Γ.2.1 w 70) n.toNat v420) 2100 (Γ.2.1 w 71) n.toNat v480) := fun j hjn => by
  by_cases q : (j : Int) = n
  · have e : j = n.toNat := by omega
    have e60 : (60 + n).toNat = 60 + j := by omega
    have e120 : (120 + n).toNat = 120 + j := by omega
    have e180 : (180 + n).toNat = 180 + j := by omega
    have e240 : (240 + n).toNat = 240 + j := by omega
    have e300 : (300 + n).toNat = 300 + j := by omega
    have e360 : (360 + n).toNat = 360 + j := by omega
    have e420 : (420 + n).toNat = 420 + j := by omega
    have e480 : (480 + n).toNat = 480 + j := by omega
    exact ⟨(ly_ne (Or.inl (by decide)) (ly_ne (Or.inl (by decide)) (ly_ne (Or.inl (by decide)) (ly_ne (Or.inl (by decide)) (ly_ne (Or.inl (by decide)) (ly_ne (Or.inl (by decide)) (ly_ne (Or.inl (by decide)) (ly_ne (Or.inl (by decide)) (ly_at (by rw [e, g0]) e))))))))), (ly_ne (Or.inl (by decide)) (ly_ne (Or.inl (by decide)) (ly_ne (Or.inl (by decide)) (ly_ne (Or.inl (by decide)) (ly_ne (Or.inl (by decide)) (ly_ne (Or.inl (by decide)) (ly_ne (Or.inl (by decide)) (ly_at (by rw [← e60, g60]) e)))))))), (ly_ne (Or.inl (by decide)) (ly_ne (Or.inl (by decide)) (ly_ne (Or.inl (by decide)) (ly_ne (Or.inl (by decide)) (ly_ne (Or.inl (by decide)) (ly_ne (Or.inl (by decide)) (ly_at (by rw [← e120, g120]) e))))))), (ly_ne (Or.inl (by decide)) (ly_ne (Or.inl (by decide)) (ly_ne (Or.inl (by decide)) (ly_ne (Or.inl (by decide)) (ly_ne (Or.inl (by decide)) (ly_at (by rw [← e180, g180]) e)))))), (ly_ne (Or.inl (by decide)) (ly_ne (Or.inl (by decide)) (ly_ne (Or.inl (by decide)) (ly_ne (Or.inl (by decide)) (ly_at (by rw [← e240, g240]) e))))), (ly_ne (Or.inl (by decide)) (ly_ne (Or.inl (by decide)) (ly_ne (Or.inl (by decide)) (ly_at (by rw [← e300, g300]) e)))), (ly_ne (Or.inl (by decide)) (ly_ne (Or.inl (by decide)) (ly_at (by rw [← e360, g360]) e))), (ly_ne (Or.inl (by decide)) (ly_at (by rw [← e420, g420]) e)), (ly_at (by rw [← e480, g480]) e)⟩
  · obtain ⟨z0, z1, z2, z3, z4, z5, z6, z7, z8⟩ := h j (by omega)
    have ni : j ≠ n.toNat := by omega
    exact ⟨(ly_ne (Or.inr ni) (ly_ne (Or.inr ni) (ly_ne (Or.inr ni) (ly_ne (Or.inr ni) (ly_ne (Or.inr ni) (ly_ne (Or.inr ni) (ly_ne (Or.inr ni) (ly_ne (Or.inr ni) (ly_ne (Or.inr ni) z0))))))))), (ly_ne (Or.inr ni) (ly_ne (Or.inr ni) (ly_ne (Or.inr ni) (ly_ne (Or.inr ni) (ly_ne (Or.inr ni) (ly_ne (Or.inr ni) (ly_ne (Or.inr ni) (ly_ne (Or.inr ni) (ly_ne (Or.inr ni) z1))))))))), (ly_ne (Or.inr ni) (ly_ne (Or.inr ni) (ly_ne (Or.inr ni) (ly_ne (Or.inr ni) (ly_ne (Or.inr ni) (ly_ne (Or.inr ni) (ly_ne (Or.inr ni) (ly_ne (Or.inr ni) (ly_ne (Or.inr ni) z2))))))))), (ly_ne (Or.inr ni) (ly_ne (Or.inr ni) (ly_ne (Or.inr ni) (ly_ne (Or.inr ni) (ly_ne (Or.inr ni) (ly_ne (Or.inr ni) (ly_ne (Or.inr ni) (ly_ne (Or.inr ni) (ly_ne (Or.inr ni) z3))))))))), (ly_ne (Or.inr ni) (ly_ne (Or.inr ni) (ly_ne (Or.inr ni) (ly_ne (Or.inr ni) (ly_ne (Or.inr ni) (ly_ne (Or.inr ni) (ly_ne (Or.inr ni) (ly_ne (Or.inr ni) (ly_ne (Or.inr ni) z4))))))))), (ly_ne (Or.inr ni) (ly_ne (Or.inr ni) (ly_ne (Or.inr ni) (ly_ne (Or.inr ni) (ly_ne (Or.inr ni) (ly_ne (Or.inr ni) (ly_ne (Or.inr ni) (ly_ne (Or.inr ni) (ly_ne (Or.inr ni) z5))))))))), (ly_ne (Or.inr ni) (ly_ne (Or.inr ni) (ly_ne (Or.inr ni) (ly_ne (Or.inr ni) (ly_ne (Or.inr ni) (ly_ne (Or.inr ni) (ly_ne (Or.inr ni) (ly_ne (Or.inr ni) (ly_ne (Or.inr ni) z6))))))))), (ly_ne (Or.inr ni) (ly_ne (Or.inr ni) (ly_ne (Or.inr ni) (ly_ne (Or.inr ni) (ly_ne (Or.inr ni) (ly_ne (Or.inr ni) (ly_ne (Or.inr ni) (ly_ne (Or.inr ni) (ly_ne (Or.inr ni) z7))))))))), (ly_ne (Or.inr ni) (ly_ne (Or.inr ni) (ly_ne (Or.inr ni) (ly_ne (Or.inr ni) (ly_ne (Or.inr ni) (ly_ne (Or.inr ni) (ly_ne (Or.inr ni) (ly_ne (Or.inr ni) (ly_ne (Or.inr ni) z8)))))))))⟩
theorem tk_z {Γ : zΓ} {w : Nat} {F : Nat → Int} {G G1 : zH} {rs : List Nat} (hs : zsm rs G G1) (hr : ∀ r ∈ [2081, 2082, 2083, 2084, 2085, 2086, 2087, 2088, 2089, 2090, 2094], r ∉ rs) (h : tkA Γ w F 20 G ∧ tkB Γ w F 5 G ∧ tqK Γ w F 60 G ∧ tkS Γ w F G) : tkA Γ w F 20 G1 ∧ tkB Γ w F 5 G1 ∧ tqK Γ w F 60 G1 ∧ tkS Γ w F G1 := by
  have e : ∀ r ∈ [2081, 2082, 2083, 2084, 2085, 2086, 2087, 2088, 2089, 2090, 2094], G1.1 r = G.1 r := fun r h9 => hs.1 r (hr r h9)
  unfold tkA tkB tqK tkS
  rw [e 2081 (by decide), e 2082 (by decide), e 2083 (by decide), e 2084 (by decide), e 2085 (by decide), e 2086 (by decide), e 2087 (by decide), e 2088 (by decide), e 2089 (by decide), e 2090 (by decide), e 2094 (by decide)]
  exact h
theorem rS_tk {Γ : zΓ} {w : Nat} {H : Nat → Int} {V : aS} {G G0 : zH} (h60 : V 0 0 ≤ 60) (hI : iR Γ w V G0) (hH : ∀ m : Nat, H m = G0.1 2107 (Γ.2.1 w 90) m) (h : tkI Γ w H 60 G) (h83 : G.1 1083 w 0 = G0.1 1087 w 0) : rS Γ w V G ∧ ∀ k : Nat, (k : Int) < V 0 0 → G.1 2093 (Γ.2.1 w 64) k = V 3 k := by
  obtain ⟨-, h2, h3, -⟩ := hI
  refine ⟨⟨fun k hk => ?_, h83.trans h3⟩, fun k hk => ?_⟩
  · obtain ⟨z1, z2, z3, z4, z5, z6, z7, z8, z9⟩ := h k (by omega)
    obtain ⟨y1, y2, y3, y4, y5, y6, y7, y8, y9⟩ := h2 k hk (by omega)
    rw [hH] at z1 z2 z3 z4 z5 z6 z7 z8 z9
    exact ⟨z1.trans y1, z2.trans y2, z4.trans y4, z5.trans y5, z6.trans y6, z7.trans y7, z8.trans y8, z9.trans y9⟩
  · obtain ⟨z1, z2, z3, -⟩ := h k (by omega)
    obtain ⟨y1, y2, y3, -⟩ := h2 k hk (by omega)
    rw [hH] at z3
    exact z3.trans y3
/-- works as they begin, on this side -/
theorem rW_bg {Γ : zΓ} {w : Nat} {A W : aS} {G : zH} (hb : wBeg A W) (h8 : ∀ j : Nat, j < 20 → G.1 2081 (Γ.2.1 w 51) j = A 8 j ∧ G.1 2082 (Γ.2.1 w 52) j = 0) (h5 : ∀ j : Nat, j < 5 → G.1 2083 (Γ.2.1 w 53) j = 0 ∧ G.1 2084 (Γ.2.1 w 54) j = 0 ∧ G.1 2085 (Γ.2.1 w 55) j = 0 ∧ G.1 2086 (Γ.2.1 w 56) j = -2) (h0 : G.1 2087 (Γ.2.1 w 57) 0 = 0 ∧ G.1 2088 (Γ.2.1 w 58) 0 = A 12 0 ∧ G.1 2089 (Γ.2.1 w 59) 0 = A 14 0 ∧ G.1 2090 (Γ.2.1 w 60) 0 = 0) : rW Γ w 0 W G := by
  obtain ⟨b0, b1, b2, b3, b4, b5, b6, b7⟩ := hb
  refine ⟨fun j hj => ?_, fun j hj => ?_, ⟨h0.1.trans b0.symm, h0.2.1.trans b4.symm, h0.2.2.1.trans b5.symm, h0.2.2.2.trans b3.symm⟩, fun k hk => absurd hk (by omega)⟩
  · rw [show (20 * (0 : Int) + j).toNat = j by omega, (b1 j hj).1, (b1 j hj).2, (h8 j hj).1, (h8 j hj).2]
    exact ⟨rfl, by omega⟩
  · obtain ⟨z1, z2, z3, z4⟩ := h5 j hj
    obtain ⟨y1, y2, y3, y4⟩ := b2 j hj
    rw [show (5 * (0 : Int) + j).toNat = j by omega, z1, z2, z3, z4, y1, y2, y3, y4]
    exact ⟨rfl, rfl, rfl, rfl⟩

set_option maxHeartbeats 4000000 in
set_option maxRecDepth 100000 in
theorem c_X9_keepW {l : Launch} {Γ : zΓ} {G : zH} {w : Nat} {A W : aS}  (hX : zXs Γ) (hR : rW Γ w 0 W G) (hW : WI A W) (hS : rS Γ w W G) (hD : rD w W G)  : zMet l Γ yX9_keep cX9_keep 2 (some .int) 1 [zr 10 w] G (zpi (fun x G' => zsm [2106, 2107, 1086, 1087, 1002] G G' ∧ (x = W 18 0 ∧ G'.1 1086 w 0 = 1 ∧ iR Γ w W G' ∧ zsj [1088] G G'))) := by
  refine zMet_of RX9 hX (by decide) rfl (Nat.le_of_ble_eq_true rfl) ?_
  intro p e s m args below meth c C hr hlk
  show Z p l e (zrm 1) s m args below meth c Γ 2 0 0 (MQ below (zQc Γ (zpi (fun x G' => zsm [2106, 2107, 1086, 1087, 1002] G G' ∧ (x = W 18 0 ∧ G'.1 1086 w 0 = 1 ∧ iR Γ w W G' ∧ zsj [1088] G G')))) args s 0 0 (zA Γ)) 0 [some (zr 10 w), none] [] G
  refine zs_aload_n (pc := 0) C dX9_keep_0 rfl ?_
  refine zs_iconst (pc := 1) C dX9_keep_1 (by decide) ?_
  refine zs_puti (r := 1002) (pc := 2) C dX9_keep_2 w_X9_178 f_10_2 rfl (r_1002 0) (by omega) ?_
  refine zs_aload_n (pc := 5) C dX9_keep_5 rfl ?_
  refine zs_iconst (pc := 6) C dX9_keep_6 (by decide) ?_
  refine zs_putz (r := 1086) (pc := 7) C dX9_keep_7 w_X9_385 f_10_86 rfl (r_1086 0) (by omega) (by omega) ?_
  refine zs_aload_n (pc := 10) C dX9_keep_10 rfl ?_
  refine zs_aload_n (pc := 11) C dX9_keep_11 rfl ?_
  refine zs_getj (r := 1061) (pc := 12) C dX9_keep_12 w_X9_375 f_10_61 rfl (fun v12 e12 l12 u12 => ?_)
  try simp only [zuI_1, zuI_2, zuJ_1, zuJ_2, zuJ_3, zuP_1, zuP_2, zuP_3, zuC_1, zuC_2, reduceIte, Nat.reduceEqDiff, false_and, and_false, true_and, and_true, and_self, or_true, true_or, or_false, false_or] at e12
  refine zs_putj (r := 1088) (pc := 15) C dX9_keep_15 w_X9_553 f_10_88 rfl ?_
  refine zs_aload_n (pc := 18) C dX9_keep_18 rfl ?_
  refine zs_aload_n (pc := 19) C dX9_keep_19 rfl ?_
  refine zs_geti (r := 1083) (pc := 20) C dX9_keep_20 w_X9_379 f_10_83 rfl (r_1083 0) (fun v20 e20 l20 u20 => ?_)
  try simp only [zuI_1, zuI_2, zuJ_1, zuJ_2, zuJ_3, zuP_1, zuP_2, zuP_3, zuC_1, zuC_2, reduceIte, Nat.reduceEqDiff, false_and, and_false, true_and, and_true, and_self, or_true, true_or, or_false, false_or] at e20
  refine zs_puti (r := 1087) (pc := 23) C dX9_keep_23 w_X9_556 f_10_87 rfl (r_1087 0) (by omega) ?_
  refine zs_aload_n (pc := 26) C dX9_keep_26 rfl ?_
  refine zs_aload_n (pc := 27) C dX9_keep_27 rfl ?_
  refine zs_getf (pc := 28) C dX9_keep_28 w_X9_166 f_10_89 (by decide) ?_
  refine zs_iconst (pc := 31) C dX9_keep_31 (by decide) ?_
  refine zVv2 (pc := 32) C dX9_keep_32 v_X9_547 (c_X9_putW6 hX (by decide)) (by decide) (by decide) ⟨Nat.zero_le _, Nat.zero_le _⟩ (Nat.le_of_ble_eq_true rfl) (fun G32 hp32 => ?_)
  obtain ⟨hz32, hq32⟩ := hp32
  try simp only [zuI_1, zuI_2, zuJ_1, zuJ_2, zuJ_3, zuP_1, zuP_2, zuP_3, zuC_1, zuC_2, reduceIte, Nat.reduceEqDiff, false_and, and_false, true_and, and_true, and_self, or_true, true_or, or_false, false_or] at hq32
  obtain ⟨p32, o32, j32⟩ := hq32
  have t86 := zsm_at hz32 1086 w 0 (by decide)
  try simp only [zuI_1, zuI_2, zuJ_1, zuJ_2, zuJ_3, zuP_1, zuP_2, zuP_3, zuC_1, zuC_2, reduceIte, Nat.reduceEqDiff, false_and, and_false, true_and, and_true, and_self, or_true, true_or, or_false, false_or] at t86
  have t87 := zsm_at hz32 1087 w 0 (by decide)
  try simp only [zuI_1, zuI_2, zuJ_1, zuJ_2, zuJ_3, zuP_1, zuP_2, zuP_3, zuC_1, zuC_2, reduceIte, Nat.reduceEqDiff, false_and, and_false, true_and, and_true, and_self, or_true, true_or, or_false, false_or] at t87
  refine zs_iconst (pc := 35) C dX9_keep_35 (by decide) ?_
  refine zs_istore_n (pc := 36) C dX9_keep_36 (by decide) ?_
  dsimp only [zset, zclr, znone]
  have L37 : ∀ (nn : Nat) (x1 : Int) (G1 : zH), (0 ≤ x1 ∧ x1 ≤ 60) → (zsm [2106, 2107, 1086, 1087, 1002] G G1) → (PD (fun m => m < 540 ∧ ((m % 60 : Nat) : Int) < x1) 2107 (Γ.2.1 w 90) 0 (pvS Γ w G) G1) → (zsm [2107] G32 G1) → (G1.2.1 = G32.2.1) → (60 - x1).toNat < nn → Z p l e (zrm 1) s m args below meth c Γ 2 0 0 (MQ below (zQc Γ (zpi (fun x G' => zsm [2106, 2107, 1086, 1087, 1002] G G' ∧ (x = W 18 0 ∧ G'.1 1086 w 0 = 1 ∧ iR Γ w W G' ∧ zsj [1088] G G')))) args s 0 0 (zA Γ)) 37 [some (zr 10 w), some (zi x1)] [] G1 := by
    intro nn
    induction nn with
    | zero => intro x1 G1 h37_0 h37_1 h37_2 h37_3 h37_4 hm; exact absurd hm (Nat.not_lt_zero _)
    | succ nn ih37 =>
      intro x1 G1 h37_0 h37_1 h37_2 h37_3 h37_4 hm37
      refine zs_iload_n (pc := 37) C dX9_keep_37 rfl ?_
      refine zs_bipush (pc := 38) C dX9_keep_38 (by decide) (by decide) ?_
      refine zs_icmp_ge (tgt := 187) (pc := 40) C dX9_keep_40 (by decide) (fun h40 => ?_) (fun h40 => ?_)
      · skip
        have hx1 : x1 = 60 := by omega
        have hP : ∀ m : Nat, m < 540 → G1.1 2107 (Γ.2.1 w 90) m = pvS Γ w G m := fun m hm => by
          have q := h37_2 m (show m < 540 ∧ ((m % 60 : Nat) : Int) < x1 from ⟨hm, by omega⟩)
          rw [show (0 + (m : Int)).toNat = m by omega] at q
          exact q
        refine zs_aload_n (pc := 187) C dX9_keep_187 rfl ?_
        refine zs_getf (pc := 188) C dX9_keep_188 w_X9_115 f_10_60 (by decide) ?_
        refine zs_iconst (pc := 191) C dX9_keep_191 (by decide) ?_
        refine zs_iald (r := 2090) (pc := 192) C dX9_keep_192 a_90 (by decide) (by omega) rfl (r_2090 _) (fun v192 e192 l192 u192 => ?_)
        exact zs_iret (pc := 193) C hr hlk dX9_keep_193 (by
            have hI : iR Γ w W G1 := iR_of hW.1.2 hR hS hD (fun m hm => by
                have q := p32 m hm
                unfold tF
                rw [h37_3.1 2106 (by decide)]
                exact q.trans (by unfold pvR; simp only [zuI_1, zuI_2, zuJ_1, zuJ_2, zuJ_3, zuP_1, zuP_2, zuP_3, zuC_1, zuC_2, reduceIte, Nat.reduceEqDiff, false_and, and_false, true_and, and_true, and_self, or_true, true_or, or_false, false_or])) hP (by rw [h37_3.1 1087 (by decide)]; exact t87.trans (by omega)) (by rw [h37_4, j32]; first | (rw [zuJ_2, if_pos ⟨rfl, rfl, rfl⟩]; first | rfl | exact e12.symm | exact e12) | rfl)
            exact ⟨by repeat (first | exact zsm_rf | assumption | refine zsm_C (by decide) ?_ | refine zsm_I (by decide) ?_ | refine zsm_J ?_ | refine zsm_c (by assumption) (by decide) ?_), ⟨by exact (e192.trans (by rw [h37_1.1 2090 (by decide)])).trans hR.2.2.1.2.2.2, by rw [h37_3.1 1086 (by decide)]; exact t86, hI, fun r hr => by rw [h37_4, j32]; simp only [List.mem_cons, List.not_mem_nil, or_false] at hr; exact zsj_J (rs := [1088]) (by decide) zsj_rf r (by simpa using hr)⟩⟩)
      · skip
        refine zs_aload_n (pc := 43) C dX9_keep_43 rfl ?_
        refine zs_getf (pc := 44) C dX9_keep_44 w_X9_169 f_10_90 (by decide) ?_
        refine zs_iload_n (pc := 47) C dX9_keep_47 rfl ?_
        refine zs_aload_n (pc := 48) C dX9_keep_48 rfl ?_
        refine zs_getf (pc := 49) C dX9_keep_49 w_X9_118 f_10_62 (by decide) ?_
        refine zs_iload_n (pc := 52) C dX9_keep_52 rfl ?_
        refine zs_iald (r := 2091) (pc := 53) C dX9_keep_53 a_91 (by decide) (by omega) rfl (r_2091 _) (fun v53 e53 l53 u53 => ?_)
        have y53 : v53 = pvS Γ w G (x1).toNat := (e53.trans (by rw [h37_1.1 2091 (by decide)])).trans (pvS_2091 (by omega)).symm
        refine zs_iast (r := 2107) (pc := 54) C dX9_keep_54 a_107 (by decide) (by omega) rfl (rg7_a (by omega)) (by omega) ?_
        refine zs_aload_n (pc := 55) C dX9_keep_55 rfl ?_
        refine zs_getf (pc := 56) C dX9_keep_56 w_X9_169 f_10_90 (by decide) ?_
        refine zs_bipush (pc := 59) C dX9_keep_59 (by decide) (by decide) ?_
        refine zs_iload_n (pc := 61) C dX9_keep_61 rfl ?_
        first | refine zs_iadd (pc := 62) C dX9_keep_62 (by omega) ?_ | refine zs_iaddF (pc := 62) C dX9_keep_62 (fun z62 hz621 hz622 => ?_)
        refine zs_aload_n (pc := 63) C dX9_keep_63 rfl ?_
        refine zs_getf (pc := 64) C dX9_keep_64 w_X9_121 f_10_63 (by decide) ?_
        refine zs_iload_n (pc := 67) C dX9_keep_67 rfl ?_
        refine zs_iald (r := 2092) (pc := 68) C dX9_keep_68 a_92 (by decide) (by omega) rfl (r_2092 _) (fun v68 e68 l68 u68 => ?_)
        try simp only [zuI_1, zuI_2, zuJ_1, zuJ_2, zuJ_3, zuP_1, zuP_2, zuP_3, zuC_1, zuC_2, reduceIte, Nat.reduceEqDiff, false_and, and_false, true_and, and_true, and_self, or_true, true_or, or_false, false_or] at e68
        have y68 : v68 = pvS Γ w G (60 + x1).toNat := (e68.trans (by rw [h37_1.1 2092 (by decide)])).trans (pvS_2092 (by omega)).symm
        refine zs_iast (r := 2107) (pc := 69) C dX9_keep_69 a_107 (by decide) (by omega) rfl (rg7_b (by omega)) (by omega) ?_
        refine zs_aload_n (pc := 70) C dX9_keep_70 rfl ?_
        refine zs_getf (pc := 71) C dX9_keep_71 w_X9_169 f_10_90 (by decide) ?_
        refine zs_bipush (pc := 74) C dX9_keep_74 (by decide) (by decide) ?_
        refine zs_iload_n (pc := 76) C dX9_keep_76 rfl ?_
        first | refine zs_iadd (pc := 77) C dX9_keep_77 (by omega) ?_ | refine zs_iaddF (pc := 77) C dX9_keep_77 (fun z77 hz771 hz772 => ?_)
        refine zs_aload_n (pc := 78) C dX9_keep_78 rfl ?_
        refine zs_getf (pc := 79) C dX9_keep_79 w_X9_124 f_10_64 (by decide) ?_
        refine zs_iload_n (pc := 82) C dX9_keep_82 rfl ?_
        refine zs_iald (r := 2093) (pc := 83) C dX9_keep_83 a_93 (by decide) (by omega) rfl (r_2093 _) (fun v83 e83 l83 u83 => ?_)
        try simp only [zuI_1, zuI_2, zuJ_1, zuJ_2, zuJ_3, zuP_1, zuP_2, zuP_3, zuC_1, zuC_2, reduceIte, Nat.reduceEqDiff, false_and, and_false, true_and, and_true, and_self, or_true, true_or, or_false, false_or] at e83
        have y83 : v83 = pvS Γ w G (120 + x1).toNat := (e83.trans (by rw [h37_1.1 2093 (by decide)])).trans (pvS_2093 (by omega)).symm
        refine zs_iast (r := 2107) (pc := 84) C dX9_keep_84 a_107 (by decide) (by omega) rfl (rg7_c (by omega)) (by omega) ?_
        refine zs_aload_n (pc := 85) C dX9_keep_85 rfl ?_
        refine zs_getf (pc := 86) C dX9_keep_86 w_X9_169 f_10_90 (by decide) ?_
        refine zs_sipush (pc := 89) C dX9_keep_89 (by decide) (by decide) ?_
        refine zs_iload_n (pc := 92) C dX9_keep_92 rfl ?_
        first | refine zs_iadd (pc := 93) C dX9_keep_93 (by omega) ?_ | refine zs_iaddF (pc := 93) C dX9_keep_93 (fun z93 hz931 hz932 => ?_)
        refine zs_aload_n (pc := 94) C dX9_keep_94 rfl ?_
        refine zs_getf (pc := 95) C dX9_keep_95 w_X9_130 f_10_66 (by decide) ?_
        refine zs_iload_n (pc := 98) C dX9_keep_98 rfl ?_
        refine zs_iald (r := 2095) (pc := 99) C dX9_keep_99 a_95 (by decide) (by omega) rfl (r_2095 _) (fun v99 e99 l99 u99 => ?_)
        try simp only [zuI_1, zuI_2, zuJ_1, zuJ_2, zuJ_3, zuP_1, zuP_2, zuP_3, zuC_1, zuC_2, reduceIte, Nat.reduceEqDiff, false_and, and_false, true_and, and_true, and_self, or_true, true_or, or_false, false_or] at e99
        have y99 : v99 = pvS Γ w G (180 + x1).toNat := (e99.trans (by rw [h37_1.1 2095 (by decide)])).trans (pvS_2095 (by omega)).symm
        refine zs_iast (r := 2107) (pc := 100) C dX9_keep_100 a_107 (by decide) (by omega) rfl (rg7_c (by omega)) (by omega) ?_
        refine zs_aload_n (pc := 101) C dX9_keep_101 rfl ?_
        refine zs_getf (pc := 102) C dX9_keep_102 w_X9_169 f_10_90 (by decide) ?_
        refine zs_sipush (pc := 105) C dX9_keep_105 (by decide) (by decide) ?_
        refine zs_iload_n (pc := 108) C dX9_keep_108 rfl ?_
        first | refine zs_iadd (pc := 109) C dX9_keep_109 (by omega) ?_ | refine zs_iaddF (pc := 109) C dX9_keep_109 (fun z109 hz1091 hz1092 => ?_)
        refine zs_aload_n (pc := 110) C dX9_keep_110 rfl ?_
        refine zs_getf (pc := 111) C dX9_keep_111 w_X9_133 f_10_67 (by decide) ?_
        refine zs_iload_n (pc := 114) C dX9_keep_114 rfl ?_
        refine zs_iald (r := 2096) (pc := 115) C dX9_keep_115 a_96 (by decide) (by omega) rfl (r_2096 _) (fun v115 e115 l115 u115 => ?_)
        try simp only [zuI_1, zuI_2, zuJ_1, zuJ_2, zuJ_3, zuP_1, zuP_2, zuP_3, zuC_1, zuC_2, reduceIte, Nat.reduceEqDiff, false_and, and_false, true_and, and_true, and_self, or_true, true_or, or_false, false_or] at e115
        have y115 : v115 = pvS Γ w G (240 + x1).toNat := (e115.trans (by rw [h37_1.1 2096 (by decide)])).trans (pvS_2096 (by omega)).symm
        refine zs_iast (r := 2107) (pc := 116) C dX9_keep_116 a_107 (by decide) (by omega) rfl (rg7_c (by omega)) (by omega) ?_
        refine zs_aload_n (pc := 117) C dX9_keep_117 rfl ?_
        refine zs_getf (pc := 118) C dX9_keep_118 w_X9_169 f_10_90 (by decide) ?_
        refine zs_sipush (pc := 121) C dX9_keep_121 (by decide) (by decide) ?_
        refine zs_iload_n (pc := 124) C dX9_keep_124 rfl ?_
        first | refine zs_iadd (pc := 125) C dX9_keep_125 (by omega) ?_ | refine zs_iaddF (pc := 125) C dX9_keep_125 (fun z125 hz1251 hz1252 => ?_)
        refine zs_aload_n (pc := 126) C dX9_keep_126 rfl ?_
        refine zs_getf (pc := 127) C dX9_keep_127 w_X9_136 f_10_68 (by decide) ?_
        refine zs_iload_n (pc := 130) C dX9_keep_130 rfl ?_
        refine zs_iald (r := 2097) (pc := 131) C dX9_keep_131 a_97 (by decide) (by omega) rfl (r_2097 _) (fun v131 e131 l131 u131 => ?_)
        try simp only [zuI_1, zuI_2, zuJ_1, zuJ_2, zuJ_3, zuP_1, zuP_2, zuP_3, zuC_1, zuC_2, reduceIte, Nat.reduceEqDiff, false_and, and_false, true_and, and_true, and_self, or_true, true_or, or_false, false_or] at e131
        have y131 : v131 = pvS Γ w G (300 + x1).toNat := (e131.trans (by rw [h37_1.1 2097 (by decide)])).trans (pvS_2097 (by omega)).symm
        refine zs_iast (r := 2107) (pc := 132) C dX9_keep_132 a_107 (by decide) (by omega) rfl (rg7_c (by omega)) (by omega) ?_
        refine zs_aload_n (pc := 133) C dX9_keep_133 rfl ?_
        refine zs_getf (pc := 134) C dX9_keep_134 w_X9_169 f_10_90 (by decide) ?_
        refine zs_sipush (pc := 137) C dX9_keep_137 (by decide) (by decide) ?_
        refine zs_iload_n (pc := 140) C dX9_keep_140 rfl ?_
        first | refine zs_iadd (pc := 141) C dX9_keep_141 (by omega) ?_ | refine zs_iaddF (pc := 141) C dX9_keep_141 (fun z141 hz1411 hz1412 => ?_)
        refine zs_aload_n (pc := 142) C dX9_keep_142 rfl ?_
        refine zs_getf (pc := 143) C dX9_keep_143 w_X9_139 f_10_69 (by decide) ?_
        refine zs_iload_n (pc := 146) C dX9_keep_146 rfl ?_
        refine zs_iald (r := 2098) (pc := 147) C dX9_keep_147 a_98 (by decide) (by omega) rfl (r_2098 _) (fun v147 e147 l147 u147 => ?_)
        try simp only [zuI_1, zuI_2, zuJ_1, zuJ_2, zuJ_3, zuP_1, zuP_2, zuP_3, zuC_1, zuC_2, reduceIte, Nat.reduceEqDiff, false_and, and_false, true_and, and_true, and_self, or_true, true_or, or_false, false_or] at e147
        have y147 : v147 = pvS Γ w G (360 + x1).toNat := (e147.trans (by rw [h37_1.1 2098 (by decide)])).trans (pvS_2098 (by omega)).symm
        refine zs_iast (r := 2107) (pc := 148) C dX9_keep_148 a_107 (by decide) (by omega) rfl (rg7_c (by omega)) (by omega) ?_
        refine zs_aload_n (pc := 149) C dX9_keep_149 rfl ?_
        refine zs_getf (pc := 150) C dX9_keep_150 w_X9_169 f_10_90 (by decide) ?_
        refine zs_sipush (pc := 153) C dX9_keep_153 (by decide) (by decide) ?_
        refine zs_iload_n (pc := 156) C dX9_keep_156 rfl ?_
        first | refine zs_iadd (pc := 157) C dX9_keep_157 (by omega) ?_ | refine zs_iaddF (pc := 157) C dX9_keep_157 (fun z157 hz1571 hz1572 => ?_)
        refine zs_aload_n (pc := 158) C dX9_keep_158 rfl ?_
        refine zs_getf (pc := 159) C dX9_keep_159 w_X9_142 f_10_70 (by decide) ?_
        refine zs_iload_n (pc := 162) C dX9_keep_162 rfl ?_
        refine zs_iald (r := 2099) (pc := 163) C dX9_keep_163 a_99 (by decide) (by omega) rfl (r_2099 _) (fun v163 e163 l163 u163 => ?_)
        try simp only [zuI_1, zuI_2, zuJ_1, zuJ_2, zuJ_3, zuP_1, zuP_2, zuP_3, zuC_1, zuC_2, reduceIte, Nat.reduceEqDiff, false_and, and_false, true_and, and_true, and_self, or_true, true_or, or_false, false_or] at e163
        have y163 : v163 = pvS Γ w G (420 + x1).toNat := (e163.trans (by rw [h37_1.1 2099 (by decide)])).trans (pvS_2099 (by omega)).symm
        refine zs_iast (r := 2107) (pc := 164) C dX9_keep_164 a_107 (by decide) (by omega) rfl (rg7_c (by omega)) (by omega) ?_
        refine zs_aload_n (pc := 165) C dX9_keep_165 rfl ?_
        refine zs_getf (pc := 166) C dX9_keep_166 w_X9_169 f_10_90 (by decide) ?_
        refine zs_sipush (pc := 169) C dX9_keep_169 (by decide) (by decide) ?_
        refine zs_iload_n (pc := 172) C dX9_keep_172 rfl ?_
        first | refine zs_iadd (pc := 173) C dX9_keep_173 (by omega) ?_ | refine zs_iaddF (pc := 173) C dX9_keep_173 (fun z173 hz1731 hz1732 => ?_)
        refine zs_aload_n (pc := 174) C dX9_keep_174 rfl ?_
        refine zs_getf (pc := 175) C dX9_keep_175 w_X9_145 f_10_71 (by decide) ?_
        refine zs_iload_n (pc := 178) C dX9_keep_178 rfl ?_
        refine zs_iald (r := 2100) (pc := 179) C dX9_keep_179 a_100 (by decide) (by omega) rfl (r_2100 _) (fun v179 e179 l179 u179 => ?_)
        try simp only [zuI_1, zuI_2, zuJ_1, zuJ_2, zuJ_3, zuP_1, zuP_2, zuP_3, zuC_1, zuC_2, reduceIte, Nat.reduceEqDiff, false_and, and_false, true_and, and_true, and_self, or_true, true_or, or_false, false_or] at e179
        have y179 : v179 = pvS Γ w G (480 + x1).toNat := (e179.trans (by rw [h37_1.1 2100 (by decide)])).trans (pvS_2100 (by omega)).symm
        refine zs_iast (r := 2107) (pc := 180) C dX9_keep_180 a_107 (by decide) (by omega) rfl (rg7_c (by omega)) (by omega) ?_
        first | refine zs_iinc (pc := 181) C dX9_keep_181 rfl (by decide) (by omega) ?_ | refine zs_iincF (pc := 181) C dX9_keep_181 rfl (by decide) (fun z181 hz1811 hz1812 => ?_)
        dsimp only [zset, zclr, znone]
        refine zs_goto (tgt := 37) (pc := 184) C dX9_keep_184 (by decide) ?_
        exact zs_wk (ih37 _ _ (by omega) (by repeat (first | exact zsm_rf | assumption | refine zsm_C (by decide) ?_ | refine zsm_I (by decide) ?_ | refine zsm_J ?_ | refine zsm_c (by assumption) (by decide) ?_)) (PD_mo (PD_w (480 + x1).toNat (PD_w (420 + x1).toNat (PD_w (360 + x1).toNat (PD_w (300 + x1).toNat (PD_w (240 + x1).toNat (PD_w (180 + x1).toNat (PD_w (120 + x1).toNat (PD_w (60 + x1).toNat (PD_w (x1).toNat h37_2 (by decide) (by omega) y53) (by decide) (by omega) y68) (by decide) (by omega) y83) (by decide) (by omega) y99) (by decide) (by omega) y115) (by decide) (by omega) y131) (by decide) (by omega) y147) (by decide) (by omega) y163) (by decide) (by omega) y179) (fun m hm => by
                obtain ⟨g1, g2⟩ := hm
                by_cases q : ((m % 60 : Nat) : Int) < x1
                · exact (Or.inl (Or.inl (Or.inl (Or.inl (Or.inl (Or.inl (Or.inl (Or.inl (Or.inl ⟨g1, q⟩)))))))))
                · rcases (show m / 60 = 0 ∨ m / 60 = 1 ∨ m / 60 = 2 ∨ m / 60 = 3 ∨ m / 60 = 4 ∨ m / 60 = 5 ∨ m / 60 = 6 ∨ m / 60 = 7 ∨ m / 60 = 8 by omega) with z | z | z | z | z | z | z | z | z
                  · exact (Or.inl (Or.inl (Or.inl (Or.inl (Or.inl (Or.inl (Or.inl (Or.inl (Or.inr (by omega))))))))))
                  · exact (Or.inl (Or.inl (Or.inl (Or.inl (Or.inl (Or.inl (Or.inl (Or.inr (by omega)))))))))
                  · exact (Or.inl (Or.inl (Or.inl (Or.inl (Or.inl (Or.inl (Or.inr (by omega))))))))
                  · exact (Or.inl (Or.inl (Or.inl (Or.inl (Or.inl (Or.inr (by omega)))))))
                  · exact (Or.inl (Or.inl (Or.inl (Or.inl (Or.inr (by omega))))))
                  · exact (Or.inl (Or.inl (Or.inl (Or.inr (by omega)))))
                  · exact (Or.inl (Or.inl (Or.inr (by omega))))
                  · exact (Or.inl (Or.inr (by omega)))
                  · exact (Or.inr (by omega))
                  )) (by repeat (first | exact zsm_rf | assumption | refine zsm_C (by decide) ?_ | refine zsm_I (by decide) ?_ | refine zsm_J ?_ | refine zsm_c (by assumption) (by decide) ?_)) h37_4 (by first | omega | (simp only [zuI_1, zuI_2, zuJ_1, zuJ_2, zuJ_3, zuP_1, zuP_2, zuP_3, zuC_1, zuC_2, reduceIte, Nat.reduceEqDiff, false_and, and_false, true_and, and_true, and_self, or_true, true_or, or_false, false_or]; omega))) (zwk_s rfl (zwk_s rfl zwk_0))
  exact zs_wk (L37 _ _ _ (by omega) (by repeat (first | exact zsm_rf | assumption | refine zsm_C (by decide) ?_ | refine zsm_I (by decide) ?_ | refine zsm_J ?_ | refine zsm_c (by assumption) (by decide) ?_)) (fun m hm => absurd hm.2 (by omega)) zsm_rf rfl (Nat.lt_succ_self _)) (zwk_s rfl (zwk_s rfl zwk_0))

set_option maxHeartbeats 4000000 in
set_option maxRecDepth 100000 in
theorem c_X9_backW {l : Launch} {Γ : zΓ} {G : zH} {w : Nat} {V : aS} {A W : aS}  (hX : zXs Γ) (hR : rW Γ w 0 W G) (hS : rS Γ w W G) (hD : rD w W G) (hV : WI A V) (hI : G.1 1086 w 0 ≠ 0 → iR Γ w V G)  : zMet l Γ yX9_back cX9_back 2 (some .int) 1 [zr 10 w] G (zpi (fun x G' => zsm [2081, 2082, 2083, 2084, 2085, 2086, 2087, 2088, 2089, 2090, 2094, 2091, 2092, 2093, 2095, 2096, 2097, 2098, 2099, 2100, 1002, 1083, 1084] G G' ∧ ((G.1 1086 w 0 = 0 → x = -1 ∧ rW Γ w 0 W G' ∧ rS Γ w W G' ∧ rD w W G' ∧ G'.1 1084 w 0 = G.1 1084 w 0 ∧ G'.2.1 = G.2.1) ∧ (G.1 1086 w 0 ≠ 0 → x = V 18 0 ∧ rW Γ w 0 V G' ∧ rS Γ w V G' ∧ rD w V G' ∧ G'.1 1084 w 0 = 0) ∧ zsj [1061] G G'))) := by
  refine zMet_of RX9 hX (by decide) rfl (Nat.le_of_ble_eq_true rfl) ?_
  intro p e s m args below meth c C hr hlk
  show Z p l e (zrm 1) s m args below meth c Γ 2 0 0 (MQ below (zQc Γ (zpi (fun x G' => zsm [2081, 2082, 2083, 2084, 2085, 2086, 2087, 2088, 2089, 2090, 2094, 2091, 2092, 2093, 2095, 2096, 2097, 2098, 2099, 2100, 1002, 1083, 1084] G G' ∧ ((G.1 1086 w 0 = 0 → x = -1 ∧ rW Γ w 0 W G' ∧ rS Γ w W G' ∧ rD w W G' ∧ G'.1 1084 w 0 = G.1 1084 w 0 ∧ G'.2.1 = G.2.1) ∧ (G.1 1086 w 0 ≠ 0 → x = V 18 0 ∧ rW Γ w 0 V G' ∧ rS Γ w V G' ∧ rD w V G' ∧ G'.1 1084 w 0 = 0) ∧ zsj [1061] G G')))) args s 0 0 (zA Γ)) 0 [some (zr 10 w), none] [] G
  refine zs_aload_n (pc := 0) C dX9_back_0 rfl ?_
  refine zs_iconst (pc := 1) C dX9_back_1 (by decide) ?_
  refine zs_puti (r := 1002) (pc := 2) C dX9_back_2 w_X9_178 f_10_2 rfl (r_1002 0) (by omega) ?_
  refine zs_aload_n (pc := 5) C dX9_back_5 rfl ?_
  refine zs_getz (r := 1086) (pc := 6) C dX9_back_6 w_X9_385 f_10_86 rfl (r_1086 0) (fun v6 e6 l6 u6 => ?_)
  try simp only [zuI_1, zuI_2, zuJ_1, zuJ_2, zuJ_3, zuP_1, zuP_2, zuP_3, zuC_1, zuC_2, reduceIte, Nat.reduceEqDiff, false_and, and_false, true_and, and_true, and_self, or_true, true_or, or_false, false_or] at e6
  refine zs_if_ne (tgt := 14) (pc := 9) C dX9_back_9 (by decide) (fun h9 => ?_) (fun h9 => ?_)
  · skip
    have h86 : G.1 1086 w 0 ≠ 0 := by omega
    have hIm := hI h86
    refine zs_aload_n (pc := 14) C dX9_back_14 rfl ?_
    refine zs_aload_n (pc := 15) C dX9_back_15 rfl ?_
    refine zs_getj (r := 1088) (pc := 16) C dX9_back_16 w_X9_553 f_10_88 rfl (fun v16 e16 l16 u16 => ?_)
    try simp only [zuI_1, zuI_2, zuJ_1, zuJ_2, zuJ_3, zuP_1, zuP_2, zuP_3, zuC_1, zuC_2, reduceIte, Nat.reduceEqDiff, false_and, and_false, true_and, and_true, and_self, or_true, true_or, or_false, false_or] at e16
    refine zs_putj (r := 1061) (pc := 19) C dX9_back_19 w_X9_375 f_10_61 rfl ?_
    refine zs_aload_n (pc := 22) C dX9_back_22 rfl ?_
    refine zs_aload_n (pc := 23) C dX9_back_23 rfl ?_
    refine zs_geti (r := 1087) (pc := 24) C dX9_back_24 w_X9_556 f_10_87 rfl (r_1087 0) (fun v24 e24 l24 u24 => ?_)
    try simp only [zuI_1, zuI_2, zuJ_1, zuJ_2, zuJ_3, zuP_1, zuP_2, zuP_3, zuC_1, zuC_2, reduceIte, Nat.reduceEqDiff, false_and, and_false, true_and, and_true, and_self, or_true, true_or, or_false, false_or] at e24
    refine zs_puti (r := 1083) (pc := 27) C dX9_back_27 w_X9_379 f_10_83 rfl (r_1083 0) (by omega) ?_
    refine zs_aload_n (pc := 30) C dX9_back_30 rfl ?_
    refine zs_aload_n (pc := 31) C dX9_back_31 rfl ?_
    refine zs_getf (pc := 32) C dX9_back_32 w_X9_166 f_10_89 (by decide) ?_
    refine zs_iconst (pc := 35) C dX9_back_35 (by decide) ?_
    refine zVv2 (pc := 36) C dX9_back_36 v_X9_550 (c_X9_takeW6 hX (by decide)) (by decide) (by decide) ⟨Nat.zero_le _, Nat.zero_le _⟩ (Nat.le_of_ble_eq_true rfl) (fun G36 hp36 => ?_)
    obtain ⟨hz36, hq36⟩ := hp36
    try simp only [zuI_1, zuI_2, zuJ_1, zuJ_2, zuJ_3, zuP_1, zuP_2, zuP_3, zuC_1, zuC_2, reduceIte, Nat.reduceEqDiff, false_and, and_false, true_and, and_true, and_self, or_true, true_or, or_false, false_or] at hq36
    obtain ⟨tA, tB, tK, tS, j36⟩ := hq36
    have t83 := zsm_at hz36 1083 w 0 (by decide)
    try simp only [zuI_1, zuI_2, zuJ_1, zuJ_2, zuJ_3, zuP_1, zuP_2, zuP_3, zuC_1, zuC_2, reduceIte, Nat.reduceEqDiff, false_and, and_false, true_and, and_true, and_self, or_true, true_or, or_false, false_or] at t83
    refine zs_iconst (pc := 39) C dX9_back_39 (by decide) ?_
    refine zs_istore_n (pc := 40) C dX9_back_40 (by decide) ?_
    dsimp only [zset, zclr, znone]
    have L41 : ∀ (nn : Nat) (x1 : Int) (G1 : zH), (0 ≤ x1 ∧ x1 ≤ 60) → (zsm [2081, 2082, 2083, 2084, 2085, 2086, 2087, 2088, 2089, 2090, 2094, 2091, 2092, 2093, 2095, 2096, 2097, 2098, 2099, 2100, 1002, 1083, 1084] G G1) → (tkI Γ w (fun m => G.1 2107 (Γ.2.1 w 90) m) x1 G1) → (zsm [2091, 2092, 2093, 2095, 2096, 2097, 2098, 2099, 2100] G36 G1) → (G1.2.1 = G36.2.1) → (60 - x1).toNat < nn → Z p l e (zrm 1) s m args below meth c Γ 2 0 0 (MQ below (zQc Γ (zpi (fun x G' => zsm [2081, 2082, 2083, 2084, 2085, 2086, 2087, 2088, 2089, 2090, 2094, 2091, 2092, 2093, 2095, 2096, 2097, 2098, 2099, 2100, 1002, 1083, 1084] G G' ∧ ((G.1 1086 w 0 = 0 → x = -1 ∧ rW Γ w 0 W G' ∧ rS Γ w W G' ∧ rD w W G' ∧ G'.1 1084 w 0 = G.1 1084 w 0 ∧ G'.2.1 = G.2.1) ∧ (G.1 1086 w 0 ≠ 0 → x = V 18 0 ∧ rW Γ w 0 V G' ∧ rS Γ w V G' ∧ rD w V G' ∧ G'.1 1084 w 0 = 0) ∧ zsj [1061] G G')))) args s 0 0 (zA Γ)) 41 [some (zr 10 w), some (zi x1)] [] G1 := by
      intro nn
      induction nn with
      | zero => intro x1 G1 h41_0 h41_1 h41_2 h41_3 h41_4 hm; exact absurd hm (Nat.not_lt_zero _)
      | succ nn ih41 =>
        intro x1 G1 h41_0 h41_1 h41_2 h41_3 h41_4 hm41
        refine zs_iload_n (pc := 41) C dX9_back_41 rfl ?_
        refine zs_bipush (pc := 42) C dX9_back_42 (by decide) (by decide) ?_
        refine zs_icmp_ge (tgt := 191) (pc := 44) C dX9_back_44 (by decide) (fun h44 => ?_) (fun h44 => ?_)
        · skip
          have hx1 : x1 = 60 := by omega
          rw [hx1] at h41_2
          obtain ⟨uA, uB, uK, uS⟩ := tk_z h41_3 (by decide) ⟨tA, tB, tK, tS⟩
          have hrs := rS_tk hV.1.2 hIm (fun m => rfl) h41_2 (by rw [h41_3.1 1083 (by decide)]; exact t83.trans (by omega))
          have hRV : rW Γ w 0 V G1 := rW_tk hV.1.2 (tF_cg (fun m _ => by simp only [zuI_1, zuI_2, zuJ_1, zuJ_2, zuJ_3, zuP_1, zuP_2, zuP_3, zuC_1, zuC_2, reduceIte, Nat.reduceEqDiff, false_and, and_false, true_and, and_true, and_self, or_true, true_or, or_false, false_or]) hIm.1) uA uB uK uS hrs.2
          refine zs_aload_n (pc := 191) C dX9_back_191 rfl ?_
          refine zs_iconst (pc := 192) C dX9_back_192 (by decide) ?_
          refine zs_puti (r := 1084) (pc := 193) C dX9_back_193 w_X9_382 f_10_84 rfl (r_1084 0) (by omega) ?_
          refine zs_aload_n (pc := 196) C dX9_back_196 rfl ?_
          refine zs_getf (pc := 197) C dX9_back_197 w_X9_115 f_10_60 (by decide) ?_
          refine zs_iconst (pc := 200) C dX9_back_200 (by decide) ?_
          refine zs_iald (r := 2090) (pc := 201) C dX9_back_201 a_90 (by decide) (by omega) rfl (r_2090 _) (fun v201 e201 l201 u201 => ?_)
          try simp only [zuI_1, zuI_2, zuJ_1, zuJ_2, zuJ_3, zuP_1, zuP_2, zuP_3, zuC_1, zuC_2, reduceIte, Nat.reduceEqDiff, false_and, and_false, true_and, and_true, and_self, or_true, true_or, or_false, false_or] at e201
          exact zs_iret (pc := 202) C hr hlk dX9_back_202 (by exact ⟨by repeat (first | exact zsm_rf | assumption | refine zsm_C (by decide) ?_ | refine zsm_I (by decide) ?_ | refine zsm_J ?_ | refine zsm_c (by assumption) (by decide) ?_), ⟨fun z => absurd z h86, fun _ => ⟨(by first | exact e201.trans hRV.2.2.1.2.2.2 | (rw [e201]; exact hRV.2.2.1.2.2.2)), (by repeat (first | assumption | refine rW_sm (by assumption) (by decide) ?_ | refine rW_I (by decide) ?_ | refine rW_J ?_)), rS_sm (rs := [1084]) (zsm_I (by simp) zsm_rf) (by decide) hrs.1, (by show G1.2.1 1061 w 0 = _; rw [h41_4, j36, zuJ_2, if_pos ⟨rfl, rfl, rfl⟩]; first | exact hIm.2.2.2 | exact e16.trans hIm.2.2.2), by simp only [zuI_1, zuI_2, zuJ_1, zuJ_2, zuJ_3, zuP_1, zuP_2, zuP_3, zuC_1, zuC_2, reduceIte, Nat.reduceEqDiff, false_and, and_false, true_and, and_true, and_self, or_true, true_or, or_false, false_or]⟩, fun r hr => by show G1.2.1 r = _; rw [h41_4, j36]; exact zsj_J (rs := [1061]) (by decide) zsj_rf r hr⟩⟩)
        · skip
          refine zs_aload_n (pc := 47) C dX9_back_47 rfl ?_
          refine zs_getf (pc := 48) C dX9_back_48 w_X9_118 f_10_62 (by decide) ?_
          refine zs_iload_n (pc := 51) C dX9_back_51 rfl ?_
          refine zs_aload_n (pc := 52) C dX9_back_52 rfl ?_
          refine zs_getf (pc := 53) C dX9_back_53 w_X9_169 f_10_90 (by decide) ?_
          refine zs_iload_n (pc := 56) C dX9_back_56 rfl ?_
          refine zs_iald (r := 2107) (pc := 57) C dX9_back_57 a_107 (by decide) (by omega) rfl (rg7_a (by omega)) (fun v57 e57 l57 u57 => ?_)
          have y57 : v57 = (fun m => G.1 2107 (Γ.2.1 w 90) m) (x1).toNat := e57.trans (by rw [h41_1.1 2107 (by decide)])
          refine zs_iast (r := 2091) (pc := 58) C dX9_back_58 a_91 (by decide) (by omega) rfl (r_2091 _) (by omega) ?_
          refine zs_aload_n (pc := 59) C dX9_back_59 rfl ?_
          refine zs_getf (pc := 60) C dX9_back_60 w_X9_121 f_10_63 (by decide) ?_
          refine zs_iload_n (pc := 63) C dX9_back_63 rfl ?_
          refine zs_aload_n (pc := 64) C dX9_back_64 rfl ?_
          refine zs_getf (pc := 65) C dX9_back_65 w_X9_169 f_10_90 (by decide) ?_
          refine zs_bipush (pc := 68) C dX9_back_68 (by decide) (by decide) ?_
          refine zs_iload_n (pc := 70) C dX9_back_70 rfl ?_
          first | refine zs_iadd (pc := 71) C dX9_back_71 (by omega) ?_ | refine zs_iaddF (pc := 71) C dX9_back_71 (fun z71 hz711 hz712 => ?_)
          refine zs_iald (r := 2107) (pc := 72) C dX9_back_72 a_107 (by decide) (by omega) rfl (rg7_b (by omega)) (fun v72 e72 l72 u72 => ?_)
          try simp only [zuI_1, zuI_2, zuJ_1, zuJ_2, zuJ_3, zuP_1, zuP_2, zuP_3, zuC_1, zuC_2, reduceIte, Nat.reduceEqDiff, false_and, and_false, true_and, and_true, and_self, or_true, true_or, or_false, false_or] at e72
          have y72 : v72 = (fun m => G.1 2107 (Γ.2.1 w 90) m) (60 + x1).toNat := e72.trans (by rw [h41_1.1 2107 (by decide)])
          refine zs_iast (r := 2092) (pc := 73) C dX9_back_73 a_92 (by decide) (by omega) rfl (r_2092 _) (by omega) ?_
          refine zs_aload_n (pc := 74) C dX9_back_74 rfl ?_
          refine zs_getf (pc := 75) C dX9_back_75 w_X9_124 f_10_64 (by decide) ?_
          refine zs_iload_n (pc := 78) C dX9_back_78 rfl ?_
          refine zs_aload_n (pc := 79) C dX9_back_79 rfl ?_
          refine zs_getf (pc := 80) C dX9_back_80 w_X9_169 f_10_90 (by decide) ?_
          refine zs_bipush (pc := 83) C dX9_back_83 (by decide) (by decide) ?_
          refine zs_iload_n (pc := 85) C dX9_back_85 rfl ?_
          first | refine zs_iadd (pc := 86) C dX9_back_86 (by omega) ?_ | refine zs_iaddF (pc := 86) C dX9_back_86 (fun z86 hz861 hz862 => ?_)
          refine zs_iald (r := 2107) (pc := 87) C dX9_back_87 a_107 (by decide) (by omega) rfl (rg7_c (by omega)) (fun v87 e87 l87 u87 => ?_)
          try simp only [zuI_1, zuI_2, zuJ_1, zuJ_2, zuJ_3, zuP_1, zuP_2, zuP_3, zuC_1, zuC_2, reduceIte, Nat.reduceEqDiff, false_and, and_false, true_and, and_true, and_self, or_true, true_or, or_false, false_or] at e87
          have y87 : v87 = (fun m => G.1 2107 (Γ.2.1 w 90) m) (120 + x1).toNat := e87.trans (by rw [h41_1.1 2107 (by decide)])
          refine zs_iast (r := 2093) (pc := 88) C dX9_back_88 a_93 (by decide) (by omega) rfl (r_2093 _) (by omega) ?_
          refine zs_aload_n (pc := 89) C dX9_back_89 rfl ?_
          refine zs_getf (pc := 90) C dX9_back_90 w_X9_130 f_10_66 (by decide) ?_
          refine zs_iload_n (pc := 93) C dX9_back_93 rfl ?_
          refine zs_aload_n (pc := 94) C dX9_back_94 rfl ?_
          refine zs_getf (pc := 95) C dX9_back_95 w_X9_169 f_10_90 (by decide) ?_
          refine zs_sipush (pc := 98) C dX9_back_98 (by decide) (by decide) ?_
          refine zs_iload_n (pc := 101) C dX9_back_101 rfl ?_
          first | refine zs_iadd (pc := 102) C dX9_back_102 (by omega) ?_ | refine zs_iaddF (pc := 102) C dX9_back_102 (fun z102 hz1021 hz1022 => ?_)
          refine zs_iald (r := 2107) (pc := 103) C dX9_back_103 a_107 (by decide) (by omega) rfl (rg7_c (by omega)) (fun v103 e103 l103 u103 => ?_)
          try simp only [zuI_1, zuI_2, zuJ_1, zuJ_2, zuJ_3, zuP_1, zuP_2, zuP_3, zuC_1, zuC_2, reduceIte, Nat.reduceEqDiff, false_and, and_false, true_and, and_true, and_self, or_true, true_or, or_false, false_or] at e103
          have y103 : v103 = (fun m => G.1 2107 (Γ.2.1 w 90) m) (180 + x1).toNat := e103.trans (by rw [h41_1.1 2107 (by decide)])
          refine zs_iast (r := 2095) (pc := 104) C dX9_back_104 a_95 (by decide) (by omega) rfl (r_2095 _) (by omega) ?_
          refine zs_aload_n (pc := 105) C dX9_back_105 rfl ?_
          refine zs_getf (pc := 106) C dX9_back_106 w_X9_133 f_10_67 (by decide) ?_
          refine zs_iload_n (pc := 109) C dX9_back_109 rfl ?_
          refine zs_aload_n (pc := 110) C dX9_back_110 rfl ?_
          refine zs_getf (pc := 111) C dX9_back_111 w_X9_169 f_10_90 (by decide) ?_
          refine zs_sipush (pc := 114) C dX9_back_114 (by decide) (by decide) ?_
          refine zs_iload_n (pc := 117) C dX9_back_117 rfl ?_
          first | refine zs_iadd (pc := 118) C dX9_back_118 (by omega) ?_ | refine zs_iaddF (pc := 118) C dX9_back_118 (fun z118 hz1181 hz1182 => ?_)
          refine zs_iald (r := 2107) (pc := 119) C dX9_back_119 a_107 (by decide) (by omega) rfl (rg7_c (by omega)) (fun v119 e119 l119 u119 => ?_)
          try simp only [zuI_1, zuI_2, zuJ_1, zuJ_2, zuJ_3, zuP_1, zuP_2, zuP_3, zuC_1, zuC_2, reduceIte, Nat.reduceEqDiff, false_and, and_false, true_and, and_true, and_self, or_true, true_or, or_false, false_or] at e119
          have y119 : v119 = (fun m => G.1 2107 (Γ.2.1 w 90) m) (240 + x1).toNat := e119.trans (by rw [h41_1.1 2107 (by decide)])
          refine zs_iast (r := 2096) (pc := 120) C dX9_back_120 a_96 (by decide) (by omega) rfl (r_2096 _) (by omega) ?_
          refine zs_aload_n (pc := 121) C dX9_back_121 rfl ?_
          refine zs_getf (pc := 122) C dX9_back_122 w_X9_136 f_10_68 (by decide) ?_
          refine zs_iload_n (pc := 125) C dX9_back_125 rfl ?_
          refine zs_aload_n (pc := 126) C dX9_back_126 rfl ?_
          refine zs_getf (pc := 127) C dX9_back_127 w_X9_169 f_10_90 (by decide) ?_
          refine zs_sipush (pc := 130) C dX9_back_130 (by decide) (by decide) ?_
          refine zs_iload_n (pc := 133) C dX9_back_133 rfl ?_
          first | refine zs_iadd (pc := 134) C dX9_back_134 (by omega) ?_ | refine zs_iaddF (pc := 134) C dX9_back_134 (fun z134 hz1341 hz1342 => ?_)
          refine zs_iald (r := 2107) (pc := 135) C dX9_back_135 a_107 (by decide) (by omega) rfl (rg7_c (by omega)) (fun v135 e135 l135 u135 => ?_)
          try simp only [zuI_1, zuI_2, zuJ_1, zuJ_2, zuJ_3, zuP_1, zuP_2, zuP_3, zuC_1, zuC_2, reduceIte, Nat.reduceEqDiff, false_and, and_false, true_and, and_true, and_self, or_true, true_or, or_false, false_or] at e135
          have y135 : v135 = (fun m => G.1 2107 (Γ.2.1 w 90) m) (300 + x1).toNat := e135.trans (by rw [h41_1.1 2107 (by decide)])
          refine zs_iast (r := 2097) (pc := 136) C dX9_back_136 a_97 (by decide) (by omega) rfl (r_2097 _) (by omega) ?_
          refine zs_aload_n (pc := 137) C dX9_back_137 rfl ?_
          refine zs_getf (pc := 138) C dX9_back_138 w_X9_139 f_10_69 (by decide) ?_
          refine zs_iload_n (pc := 141) C dX9_back_141 rfl ?_
          refine zs_aload_n (pc := 142) C dX9_back_142 rfl ?_
          refine zs_getf (pc := 143) C dX9_back_143 w_X9_169 f_10_90 (by decide) ?_
          refine zs_sipush (pc := 146) C dX9_back_146 (by decide) (by decide) ?_
          refine zs_iload_n (pc := 149) C dX9_back_149 rfl ?_
          first | refine zs_iadd (pc := 150) C dX9_back_150 (by omega) ?_ | refine zs_iaddF (pc := 150) C dX9_back_150 (fun z150 hz1501 hz1502 => ?_)
          refine zs_iald (r := 2107) (pc := 151) C dX9_back_151 a_107 (by decide) (by omega) rfl (rg7_c (by omega)) (fun v151 e151 l151 u151 => ?_)
          try simp only [zuI_1, zuI_2, zuJ_1, zuJ_2, zuJ_3, zuP_1, zuP_2, zuP_3, zuC_1, zuC_2, reduceIte, Nat.reduceEqDiff, false_and, and_false, true_and, and_true, and_self, or_true, true_or, or_false, false_or] at e151
          have y151 : v151 = (fun m => G.1 2107 (Γ.2.1 w 90) m) (360 + x1).toNat := e151.trans (by rw [h41_1.1 2107 (by decide)])
          refine zs_iast (r := 2098) (pc := 152) C dX9_back_152 a_98 (by decide) (by omega) rfl (r_2098 _) (by omega) ?_
          refine zs_aload_n (pc := 153) C dX9_back_153 rfl ?_
          refine zs_getf (pc := 154) C dX9_back_154 w_X9_142 f_10_70 (by decide) ?_
          refine zs_iload_n (pc := 157) C dX9_back_157 rfl ?_
          refine zs_aload_n (pc := 158) C dX9_back_158 rfl ?_
          refine zs_getf (pc := 159) C dX9_back_159 w_X9_169 f_10_90 (by decide) ?_
          refine zs_sipush (pc := 162) C dX9_back_162 (by decide) (by decide) ?_
          refine zs_iload_n (pc := 165) C dX9_back_165 rfl ?_
          first | refine zs_iadd (pc := 166) C dX9_back_166 (by omega) ?_ | refine zs_iaddF (pc := 166) C dX9_back_166 (fun z166 hz1661 hz1662 => ?_)
          refine zs_iald (r := 2107) (pc := 167) C dX9_back_167 a_107 (by decide) (by omega) rfl (rg7_c (by omega)) (fun v167 e167 l167 u167 => ?_)
          try simp only [zuI_1, zuI_2, zuJ_1, zuJ_2, zuJ_3, zuP_1, zuP_2, zuP_3, zuC_1, zuC_2, reduceIte, Nat.reduceEqDiff, false_and, and_false, true_and, and_true, and_self, or_true, true_or, or_false, false_or] at e167
          have y167 : v167 = (fun m => G.1 2107 (Γ.2.1 w 90) m) (420 + x1).toNat := e167.trans (by rw [h41_1.1 2107 (by decide)])
          refine zs_iast (r := 2099) (pc := 168) C dX9_back_168 a_99 (by decide) (by omega) rfl (r_2099 _) (by omega) ?_
          refine zs_aload_n (pc := 169) C dX9_back_169 rfl ?_
          refine zs_getf (pc := 170) C dX9_back_170 w_X9_145 f_10_71 (by decide) ?_
          refine zs_iload_n (pc := 173) C dX9_back_173 rfl ?_
          refine zs_aload_n (pc := 174) C dX9_back_174 rfl ?_
          refine zs_getf (pc := 175) C dX9_back_175 w_X9_169 f_10_90 (by decide) ?_
          refine zs_sipush (pc := 178) C dX9_back_178 (by decide) (by decide) ?_
          refine zs_iload_n (pc := 181) C dX9_back_181 rfl ?_
          first | refine zs_iadd (pc := 182) C dX9_back_182 (by omega) ?_ | refine zs_iaddF (pc := 182) C dX9_back_182 (fun z182 hz1821 hz1822 => ?_)
          refine zs_iald (r := 2107) (pc := 183) C dX9_back_183 a_107 (by decide) (by omega) rfl (rg7_c (by omega)) (fun v183 e183 l183 u183 => ?_)
          try simp only [zuI_1, zuI_2, zuJ_1, zuJ_2, zuJ_3, zuP_1, zuP_2, zuP_3, zuC_1, zuC_2, reduceIte, Nat.reduceEqDiff, false_and, and_false, true_and, and_true, and_self, or_true, true_or, or_false, false_or] at e183
          have y183 : v183 = (fun m => G.1 2107 (Γ.2.1 w 90) m) (480 + x1).toNat := e183.trans (by rw [h41_1.1 2107 (by decide)])
          refine zs_iast (r := 2100) (pc := 184) C dX9_back_184 a_100 (by decide) (by omega) rfl (r_2100 _) (by omega) ?_
          first | refine zs_iinc (pc := 185) C dX9_back_185 rfl (by decide) (by omega) ?_ | refine zs_iincF (pc := 185) C dX9_back_185 rfl (by decide) (fun z185 hz1851 hz1852 => ?_)
          dsimp only [zset, zclr, znone]
          refine zs_goto (tgt := 41) (pc := 188) C dX9_back_188 (by decide) ?_
          exact zs_wk (ih41 _ _ (by omega) (by repeat (first | exact zsm_rf | assumption | refine zsm_C (by decide) ?_ | refine zsm_I (by decide) ?_ | refine zsm_J ?_ | refine zsm_c (by assumption) (by decide) ?_)) (tkI_s (by omega) h41_2 y57 y72 y87 y103 y119 y135 y151 y167 y183) (by repeat (first | exact zsm_rf | assumption | refine zsm_C (by decide) ?_ | refine zsm_I (by decide) ?_ | refine zsm_J ?_ | refine zsm_c (by assumption) (by decide) ?_)) h41_4 (by first | omega | (simp only [zuI_1, zuI_2, zuJ_1, zuJ_2, zuJ_3, zuP_1, zuP_2, zuP_3, zuC_1, zuC_2, reduceIte, Nat.reduceEqDiff, false_and, and_false, true_and, and_true, and_self, or_true, true_or, or_false, false_or]; omega))) (zwk_s rfl (zwk_s rfl zwk_0))
    exact zs_wk (L41 _ _ _ (by omega) (by repeat (first | exact zsm_rf | assumption | refine zsm_C (by decide) ?_ | refine zsm_I (by decide) ?_ | refine zsm_J ?_ | refine zsm_c (by assumption) (by decide) ?_)) (fun j hj => by omega) zsm_rf rfl (Nat.lt_succ_self _)) (zwk_s rfl (zwk_s rfl zwk_0))
  · skip
    refine zs_iconst (pc := 12) C dX9_back_12 (by decide) ?_
    exact zs_iret (pc := 13) C hr hlk dX9_back_13 (by
        have h86 : G.1 1086 w 0 = 0 := by omega
        exact ⟨by repeat (first | exact zsm_rf | assumption | refine zsm_C (by decide) ?_ | refine zsm_I (by decide) ?_ | refine zsm_J ?_ | refine zsm_c (by assumption) (by decide) ?_), ⟨fun _ => ⟨rfl, (by repeat (first | assumption | refine rW_sm (by assumption) (by decide) ?_ | refine rW_I (by decide) ?_ | refine rW_J ?_)), rS_sm (rs := [1002]) (zsm_I (by simp) zsm_rf) (by decide) hS, hD, by simp only [zuI_1, zuI_2, zuJ_1, zuJ_2, zuJ_3, zuP_1, zuP_2, zuP_3, zuC_1, zuC_2, reduceIte, Nat.reduceEqDiff, false_and, and_false, true_and, and_true, and_self, or_true, true_or, or_false, false_or], rfl⟩, fun z => absurd h86 z, zsj_rf⟩⟩)

set_option maxHeartbeats 4000000 in
set_option maxRecDepth 100000 in
theorem c_X9_beginW {l : Launch} {Γ : zΓ} {G : zH} {w : Nat} {A : aS}  (hX : zXs Γ) (hK : kR Γ w A G) (h80 : ∀ j : Nat, j < 20 → ¬ ((j : Int) < 4 * A 4 1 ∧ (j : Int) % 4 < A 4 0) → A 8 j = 0)  : zMet l Γ yX9_begin cX9_begin 2 none 0 [zr 10 w] G (zpv (fun G' => zsm [2081, 2082, 2083, 2084, 2085, 2086, 2087, 2088, 2089, 2090, 1083, 1084, 1086] G G' ∧ ((∀ W : aS, wBeg A W → rW Γ w 0 W G' ∧ rS Γ w W G' ∧ rD w W G') ∧ G'.1 1084 w 0 = 0 ∧ G'.1 1086 w 0 = 0 ∧ zsj [1061] G G'))) := by
  refine zMet_of RX9 hX (by decide) rfl (Nat.le_of_ble_eq_true rfl) ?_
  intro p e s m args below meth c C hr hlk
  show Z p l e (zrm 0) s m args below meth c Γ 2 0 0 (MQ below (zQc Γ (zpv (fun G' => zsm [2081, 2082, 2083, 2084, 2085, 2086, 2087, 2088, 2089, 2090, 1083, 1084, 1086] G G' ∧ ((∀ W : aS, wBeg A W → rW Γ w 0 W G' ∧ rS Γ w W G' ∧ rD w W G') ∧ G'.1 1084 w 0 = 0 ∧ G'.1 1086 w 0 = 0 ∧ zsj [1061] G G')))) args s 0 0 (zA Γ)) 0 [some (zr 10 w), none] [] G
  obtain ⟨⟨k12, k13, k14, k15, k16⟩, kb, kS, kP, kD, kZ, kC, kM, kO, kL, kN⟩ := id hK
  refine zs_iconst (pc := 0) C dX9_begin_0 (by decide) ?_
  refine zs_istore_n (pc := 1) C dX9_begin_1 (by decide) ?_
  dsimp only [zset, zclr, znone]
  have L2 : ∀ (nn : Nat) (x1 : Int) (G1 : zH), (0 ≤ x1 ∧ x1 ≤ 20) → (zsm [2081, 2082, 2083, 2084, 2085, 2086, 2087, 2088, 2089, 2090, 1083, 1084, 1086] G G1) → (∀ j : Nat, j < 20 → (j : Int) < x1 → G1.1 2081 (Γ.2.1 w 51) j = A 8 j ∧ G1.1 2082 (Γ.2.1 w 52) j = 0) → (G1.2.1 = G.2.1) → (20 - x1).toNat < nn → Z p l e (zrm 0) s m args below meth c Γ 2 0 0 (MQ below (zQc Γ (zpv (fun G' => zsm [2081, 2082, 2083, 2084, 2085, 2086, 2087, 2088, 2089, 2090, 1083, 1084, 1086] G G' ∧ ((∀ W : aS, wBeg A W → rW Γ w 0 W G' ∧ rS Γ w W G' ∧ rD w W G') ∧ G'.1 1084 w 0 = 0 ∧ G'.1 1086 w 0 = 0 ∧ zsj [1061] G G')))) args s 0 0 (zA Γ)) 2 [some (zr 10 w), some (zi x1)] [] G1 := by
    intro nn
    induction nn with
    | zero => intro x1 G1 h2_0 h2_1 h2_2 h2_3 hm; exact absurd hm (Nat.not_lt_zero _)
    | succ nn ih2 =>
      intro x1 G1 h2_0 h2_1 h2_2 h2_3 hm2
      refine zs_iload_n (pc := 2) C dX9_begin_2 rfl ?_
      refine zs_bipush (pc := 3) C dX9_begin_3 (by decide) (by decide) ?_
      refine zs_icmp_ge (tgt := 57) (pc := 5) C dX9_begin_5 (by decide) (fun h5 => ?_) (fun h5 => ?_)
      · skip
        have hx1 : x1 = 20 := by omega
        rw [hx1] at h2_2
        refine zs_iconst (pc := 57) C dX9_begin_57 (by decide) ?_
        refine zs_istore_n (pc := 58) C dX9_begin_58 (by decide) ?_
        dsimp only [zset, zclr, znone]
        have L59 : ∀ (nn : Nat) (x1 : Int) (G2 : zH), (0 ≤ x1 ∧ x1 ≤ 5) → (zsm [2081, 2082, 2083, 2084, 2085, 2086, 2087, 2088, 2089, 2090, 1083, 1084, 1086] G G2) → (∀ j : Nat, j < 20 → (j : Int) < 20 → G2.1 2081 (Γ.2.1 w 51) j = A 8 j ∧ G2.1 2082 (Γ.2.1 w 52) j = 0) → (∀ j : Nat, j < 5 → (j : Int) < x1 → G2.1 2083 (Γ.2.1 w 53) j = 0 ∧ G2.1 2084 (Γ.2.1 w 54) j = 0 ∧ G2.1 2085 (Γ.2.1 w 55) j = 0 ∧ G2.1 2086 (Γ.2.1 w 56) j = -2) → (G2.2.1 = G.2.1) → (5 - x1).toNat < nn → Z p l e (zrm 0) s m args below meth c Γ 2 0 0 (MQ below (zQc Γ (zpv (fun G' => zsm [2081, 2082, 2083, 2084, 2085, 2086, 2087, 2088, 2089, 2090, 1083, 1084, 1086] G G' ∧ ((∀ W : aS, wBeg A W → rW Γ w 0 W G' ∧ rS Γ w W G' ∧ rD w W G') ∧ G'.1 1084 w 0 = 0 ∧ G'.1 1086 w 0 = 0 ∧ zsj [1061] G G')))) args s 0 0 (zA Γ)) 59 [some (zr 10 w), some (zi x1)] [] G2 := by
          intro nn
          induction nn with
          | zero => intro x1 G2 h59_0 h59_1 h59_2 h59_3 h59_4 hm; exact absurd hm (Nat.not_lt_zero _)
          | succ nn ih59 =>
            intro x1 G2 h59_0 h59_1 h59_2 h59_3 h59_4 hm59
            refine zs_iload_n (pc := 59) C dX9_begin_59 rfl ?_
            refine zs_iconst (pc := 60) C dX9_begin_60 (by decide) ?_
            refine zs_icmp_ge (tgt := 99) (pc := 61) C dX9_begin_61 (by decide) (fun h61 => ?_) (fun h61 => ?_)
            · skip
              have hx1 : x1 = 5 := by omega
              rw [hx1] at h59_3
              refine zs_aload_n (pc := 99) C dX9_begin_99 rfl ?_
              refine zs_getf (pc := 100) C dX9_begin_100 w_X9_106 f_10_57 (by decide) ?_
              refine zs_iconst (pc := 103) C dX9_begin_103 (by decide) ?_
              refine zs_iconst (pc := 104) C dX9_begin_104 (by decide) ?_
              refine zs_iast (r := 2087) (pc := 105) C dX9_begin_105 a_87 (by decide) (by omega) rfl (r_2087 _) (by omega) ?_
              refine zs_aload_n (pc := 106) C dX9_begin_106 rfl ?_
              refine zs_getf (pc := 107) C dX9_begin_107 w_X9_109 f_10_58 (by decide) ?_
              refine zs_iconst (pc := 110) C dX9_begin_110 (by decide) ?_
              refine zs_aload_n (pc := 111) C dX9_begin_111 rfl ?_
              refine zs_getf (pc := 112) C dX9_begin_112 w_X9_20 f_10_22 (by decide) ?_
              refine zs_iconst (pc := 115) C dX9_begin_115 (by decide) ?_
              refine zs_iald (r := 2059) (pc := 116) C dX9_begin_116 a_59 (by decide) (by omega) rfl rfl (fun v116 e116 l116 u116 => ?_)
              try simp only [zuI_1, zuI_2, zuJ_1, zuJ_2, zuJ_3, zuP_1, zuP_2, zuP_3, zuC_1, zuC_2, reduceIte, Nat.reduceEqDiff, false_and, and_false, true_and, and_true, and_self, or_true, true_or, or_false, false_or] at e116
              have hoo := rs_2059 (0 : Int).toNat
              refine zs_iast (r := 2088) (pc := 117) C dX9_begin_117 a_88 (by decide) (by omega) rfl (r_2088 _) (by omega) ?_
              refine zs_aload_n (pc := 118) C dX9_begin_118 rfl ?_
              refine zs_getf (pc := 119) C dX9_begin_119 w_X9_112 f_10_59 (by decide) ?_
              refine zs_iconst (pc := 122) C dX9_begin_122 (by decide) ?_
              refine zs_aload_n (pc := 123) C dX9_begin_123 rfl ?_
              refine zs_getf (pc := 124) C dX9_begin_124 w_X9_20 f_10_22 (by decide) ?_
              refine zs_iconst (pc := 127) C dX9_begin_127 (by decide) ?_
              refine zs_iald (r := 2059) (pc := 128) C dX9_begin_128 a_59 (by decide) (by omega) rfl rfl (fun v128 e128 l128 u128 => ?_)
              try simp only [zuI_1, zuI_2, zuJ_1, zuJ_2, zuJ_3, zuP_1, zuP_2, zuP_3, zuC_1, zuC_2, reduceIte, Nat.reduceEqDiff, false_and, and_false, true_and, and_true, and_self, or_true, true_or, or_false, false_or] at e128
              have hoo2 := rs_2059 (2 : Int).toNat
              refine zs_iast (r := 2089) (pc := 129) C dX9_begin_129 a_89 (by decide) (by omega) rfl (r_2089 _) (by omega) ?_
              refine zs_aload_n (pc := 130) C dX9_begin_130 rfl ?_
              refine zs_getf (pc := 131) C dX9_begin_131 w_X9_115 f_10_60 (by decide) ?_
              refine zs_iconst (pc := 134) C dX9_begin_134 (by decide) ?_
              refine zs_iconst (pc := 135) C dX9_begin_135 (by decide) ?_
              refine zs_iast (r := 2090) (pc := 136) C dX9_begin_136 a_90 (by decide) (by omega) rfl (r_2090 _) (by omega) ?_
              refine zs_aload_n (pc := 137) C dX9_begin_137 rfl ?_
              refine zs_aload_n (pc := 138) C dX9_begin_138 rfl ?_
              refine zs_getf (pc := 139) C dX9_begin_139 w_X9_20 f_10_22 (by decide) ?_
              refine zs_iconst (pc := 142) C dX9_begin_142 (by decide) ?_
              refine zs_iald (r := 2059) (pc := 143) C dX9_begin_143 a_59 (by decide) (by omega) rfl rfl (fun v143 e143 l143 u143 => ?_)
              try simp only [zuI_1, zuI_2, zuJ_1, zuJ_2, zuJ_3, zuP_1, zuP_2, zuP_3, zuC_1, zuC_2, reduceIte, Nat.reduceEqDiff, false_and, and_false, true_and, and_true, and_self, or_true, true_or, or_false, false_or] at e143
              have hoo3 := rs_2059 (3 : Int).toNat
              refine zs_i2l (pc := 144) C dX9_begin_144 ?_
              refine zs_putj (r := 1061) (pc := 145) C dX9_begin_145 w_X9_375 f_10_61 rfl ?_
              refine zs_aload_n (pc := 148) C dX9_begin_148 rfl ?_
              refine zs_iconst (pc := 149) C dX9_begin_149 (by decide) ?_
              refine zs_puti (r := 1083) (pc := 150) C dX9_begin_150 w_X9_379 f_10_83 rfl (r_1083 0) (by omega) ?_
              refine zs_aload_n (pc := 153) C dX9_begin_153 rfl ?_
              refine zs_iconst (pc := 154) C dX9_begin_154 (by decide) ?_
              refine zs_puti (r := 1084) (pc := 155) C dX9_begin_155 w_X9_382 f_10_84 rfl (r_1084 0) (by omega) ?_
              refine zs_aload_n (pc := 158) C dX9_begin_158 rfl ?_
              refine zs_iconst (pc := 159) C dX9_begin_159 (by decide) ?_
              refine zs_putz (r := 1086) (pc := 160) C dX9_begin_160 w_X9_385 f_10_86 rfl (r_1086 0) (by omega) (by omega) ?_
              skip
              exact zs_vret (pc := 163) C hr hlk dX9_begin_163 (by
                  have y116 : v116 = A 12 0 := (e116.trans (by rw [h59_1.1 2059 (by decide)]; rfl)).trans (kO 0 (by decide))
                  have y128 : v128 = A 14 0 := (e128.trans (by rw [h59_1.1 2059 (by decide)]; rfl)).trans (kO 2 (by decide))
                  have y143 : v143 = A 15 0 := (e143.trans (by rw [h59_1.1 2059 (by decide)]; rfl)).trans (kO 3 (by decide))
                  refine ⟨by repeat (first | exact zsm_rf | assumption | refine zsm_C (by decide) ?_ | refine zsm_I (by decide) ?_ | refine zsm_J ?_ | refine zsm_c (by assumption) (by decide) ?_), ⟨fun W hb => ⟨rW_bg hb (fun j hj => by simp only [zuI_1, zuI_2, zuJ_1, zuJ_2, zuJ_3, zuP_1, zuP_2, zuP_3, zuC_1, zuC_2, reduceIte, Nat.reduceEqDiff, false_and, and_false, true_and, and_true, and_self, or_true, true_or, or_false, false_or]; exact h59_2 j hj (by omega)) (fun j hj => by simp only [zuI_1, zuI_2, zuJ_1, zuJ_2, zuJ_3, zuP_1, zuP_2, zuP_3, zuC_1, zuC_2, reduceIte, Nat.reduceEqDiff, false_and, and_false, true_and, and_true, and_self, or_true, true_or, or_false, false_or]; exact h59_3 j hj (by omega)) ⟨by simp only [zuI_1, zuI_2, zuJ_1, zuJ_2, zuJ_3, zuP_1, zuP_2, zuP_3, zuC_1, zuC_2, reduceIte, Nat.reduceEqDiff, false_and, and_false, true_and, and_true, and_self, or_true, true_or, or_false, false_or]; first | done | rfl | exact if_pos rfl, by simp only [zuI_1, zuI_2, zuJ_1, zuJ_2, zuJ_3, zuP_1, zuP_2, zuP_3, zuC_1, zuC_2, reduceIte, Nat.reduceEqDiff, false_and, and_false, true_and, and_true, and_self, or_true, true_or, or_false, false_or]; first | exact y116 | exact (if_pos rfl).trans y116, by simp only [zuI_1, zuI_2, zuJ_1, zuJ_2, zuJ_3, zuP_1, zuP_2, zuP_3, zuC_1, zuC_2, reduceIte, Nat.reduceEqDiff, false_and, and_false, true_and, and_true, and_self, or_true, true_or, or_false, false_or]; first | exact y128 | exact (if_pos rfl).trans y128, by simp only [zuI_1, zuI_2, zuJ_1, zuJ_2, zuJ_3, zuP_1, zuP_2, zuP_3, zuC_1, zuC_2, reduceIte, Nat.reduceEqDiff, false_and, and_false, true_and, and_true, and_self, or_true, true_or, or_false, false_or]; first | done | rfl | exact if_pos rfl⟩, ⟨(fun k hk => absurd hk (by rw [hb.1]; omega)), by simp only [zuI_1, zuI_2, zuJ_1, zuJ_2, zuJ_3, zuP_1, zuP_2, zuP_3, zuC_1, zuC_2, reduceIte, Nat.reduceEqDiff, false_and, and_false, true_and, and_true, and_self, or_true, true_or, or_false, false_or]; exact hb.2.2.2.2.2.2.2.symm⟩, by show (zuJ _ _ _ _ _).2.1 1061 w 0 = _; rw [zuJ_2, if_pos ⟨rfl, rfl, rfl⟩, y143]; exact hb.2.2.2.2.2.2.1.symm⟩, by simp only [zuI_1, zuI_2, zuJ_1, zuJ_2, zuJ_3, zuP_1, zuP_2, zuP_3, zuC_1, zuC_2, reduceIte, Nat.reduceEqDiff, false_and, and_false, true_and, and_true, and_self, or_true, true_or, or_false, false_or], by simp only [zuI_1, zuI_2, zuJ_1, zuJ_2, zuJ_3, zuP_1, zuP_2, zuP_3, zuC_1, zuC_2, reduceIte, Nat.reduceEqDiff, false_and, and_false, true_and, and_true, and_self, or_true, true_or, or_false, false_or], ?_⟩⟩
                  exact zsj_I (zsj_I (zsj_I (zsj_J (by decide) (zsj_e h59_4 zsj_rf)))))
            · skip
              refine zs_aload_n (pc := 64) C dX9_begin_64 rfl ?_
              refine zs_getf (pc := 65) C dX9_begin_65 w_X9_94 f_10_53 (by decide) ?_
              refine zs_iload_n (pc := 68) C dX9_begin_68 rfl ?_
              refine zs_iconst (pc := 69) C dX9_begin_69 (by decide) ?_
              refine zs_iast (r := 2083) (pc := 70) C dX9_begin_70 a_83 (by decide) (by omega) rfl (r_2083 _) (by omega) ?_
              refine zs_aload_n (pc := 71) C dX9_begin_71 rfl ?_
              refine zs_getf (pc := 72) C dX9_begin_72 w_X9_97 f_10_54 (by decide) ?_
              refine zs_iload_n (pc := 75) C dX9_begin_75 rfl ?_
              refine zs_iconst (pc := 76) C dX9_begin_76 (by decide) ?_
              refine zs_iast (r := 2084) (pc := 77) C dX9_begin_77 a_84 (by decide) (by omega) rfl (r_2084 _) (by omega) ?_
              refine zs_aload_n (pc := 78) C dX9_begin_78 rfl ?_
              refine zs_getf (pc := 79) C dX9_begin_79 w_X9_100 f_10_55 (by decide) ?_
              refine zs_iload_n (pc := 82) C dX9_begin_82 rfl ?_
              refine zs_iconst (pc := 83) C dX9_begin_83 (by decide) ?_
              refine zs_iast (r := 2085) (pc := 84) C dX9_begin_84 a_85 (by decide) (by omega) rfl (r_2085 _) (by omega) ?_
              refine zs_aload_n (pc := 85) C dX9_begin_85 rfl ?_
              refine zs_getf (pc := 86) C dX9_begin_86 w_X9_103 f_10_56 (by decide) ?_
              refine zs_iload_n (pc := 89) C dX9_begin_89 rfl ?_
              refine zs_bipush (pc := 90) C dX9_begin_90 (by decide) (by decide) ?_
              refine zs_iast (r := 2086) (pc := 92) C dX9_begin_92 a_86 (by decide) (by omega) rfl (r_2086 _) (by omega) ?_
              first | refine zs_iinc (pc := 93) C dX9_begin_93 rfl (by decide) (by omega) ?_ | refine zs_iincF (pc := 93) C dX9_begin_93 rfl (by decide) (fun z93 hz931 hz932 => ?_)
              dsimp only [zset, zclr, znone]
              refine zs_goto (tgt := 59) (pc := 96) C dX9_begin_96 (by decide) ?_
              exact zs_wk (ih59 _ _ (by omega) (by repeat (first | exact zsm_rf | assumption | refine zsm_C (by decide) ?_ | refine zsm_I (by decide) ?_ | refine zsm_J ?_ | refine zsm_c (by assumption) (by decide) ?_)) (fun j hj hn => by have z := h59_2 j hj (by omega); exact ⟨ly_ne (Or.inl (by decide)) (ly_ne (Or.inl (by decide)) (ly_ne (Or.inl (by decide)) (ly_ne (Or.inl (by decide)) z.1))), ly_ne (Or.inl (by decide)) (ly_ne (Or.inl (by decide)) (ly_ne (Or.inl (by decide)) (ly_ne (Or.inl (by decide)) z.2)))⟩) (fun j hj hn => by by_cases q : j = x1.toNat; (rw [q]; exact ⟨ly_ne (Or.inl (by decide)) (ly_ne (Or.inl (by decide)) (ly_ne (Or.inl (by decide)) (ly_at rfl rfl))), ly_ne (Or.inl (by decide)) (ly_ne (Or.inl (by decide)) (ly_at rfl rfl)), ly_ne (Or.inl (by decide)) (ly_at rfl rfl), ly_at rfl rfl⟩); (obtain ⟨z1, z2, z3, z4⟩ := h59_3 j hj (by omega); exact ⟨ly_ne (Or.inr q) (ly_ne (Or.inr q) (ly_ne (Or.inr q) (ly_ne (Or.inr q) z1))), ly_ne (Or.inr q) (ly_ne (Or.inr q) (ly_ne (Or.inr q) (ly_ne (Or.inr q) z2))), ly_ne (Or.inr q) (ly_ne (Or.inr q) (ly_ne (Or.inr q) (ly_ne (Or.inr q) z3))), ly_ne (Or.inr q) (ly_ne (Or.inr q) (ly_ne (Or.inr q) (ly_ne (Or.inr q) z4)))⟩)) h59_4 (by first | omega | (simp only [zuI_1, zuI_2, zuJ_1, zuJ_2, zuJ_3, zuP_1, zuP_2, zuP_3, zuC_1, zuC_2, reduceIte, Nat.reduceEqDiff, false_and, and_false, true_and, and_true, and_self, or_true, true_or, or_false, false_or]; omega))) (zwk_s rfl (zwk_s rfl zwk_0))
        exact zs_wk (L59 _ _ _ (by omega) h2_1 h2_2 (fun j hj hn => by omega) h2_3 (Nat.lt_succ_self _)) (zwk_s rfl (zwk_s rfl zwk_0))
      · skip
        refine zs_aload_n (pc := 8) C dX9_begin_8 rfl ?_
        refine zs_getf (pc := 9) C dX9_begin_9 w_X9_88 f_10_51 (by decide) ?_
        refine zs_iload_n (pc := 12) C dX9_begin_12 rfl ?_
        have J43 : ∀ (vb : Int), (vb = A 8 x1.toNat ∧ -2147483648 ≤ vb ∧ vb ≤ 2147483647) → Z p l e (zrm 0) s m args below meth c Γ 2 0 0 (MQ below (zQc Γ (zpv (fun G' => zsm [2081, 2082, 2083, 2084, 2085, 2086, 2087, 2088, 2089, 2090, 1083, 1084, 1086] G G' ∧ ((∀ W : aS, wBeg A W → rW Γ w 0 W G' ∧ rS Γ w W G' ∧ rD w W G') ∧ G'.1 1084 w 0 = 0 ∧ G'.1 1086 w 0 = 0 ∧ zsj [1061] G G')))) args s 0 0 (zA Γ)) 43 [some (zr 10 w), some (zi x1)] [zi vb, zi x1, zr 81 (Γ.2.1 w 51)] G1 := by
          intro vb h43_0
          have hvb := h43_0.1
          have hvb2 := h43_0.2
          refine zs_iast (r := 2081) (pc := 43) C dX9_begin_43 a_81 (by decide) (by omega) rfl (r_2081 _) (by omega) ?_
          refine zs_aload_n (pc := 44) C dX9_begin_44 rfl ?_
          refine zs_getf (pc := 45) C dX9_begin_45 w_X9_91 f_10_52 (by decide) ?_
          refine zs_iload_n (pc := 48) C dX9_begin_48 rfl ?_
          refine zs_iconst (pc := 49) C dX9_begin_49 (by decide) ?_
          refine zs_iast (r := 2082) (pc := 50) C dX9_begin_50 a_82 (by decide) (by omega) rfl (r_2082 _) (by omega) ?_
          first | refine zs_iinc (pc := 51) C dX9_begin_51 rfl (by decide) (by omega) ?_ | refine zs_iincF (pc := 51) C dX9_begin_51 rfl (by decide) (fun z51 hz511 hz512 => ?_)
          dsimp only [zset, zclr, znone]
          refine zs_goto (tgt := 2) (pc := 54) C dX9_begin_54 (by decide) ?_
          exact zs_wk (ih2 _ _ (by omega) (by repeat (first | exact zsm_rf | assumption | refine zsm_C (by decide) ?_ | refine zsm_I (by decide) ?_ | refine zsm_J ?_ | refine zsm_c (by assumption) (by decide) ?_)) (fun j hj hn => by by_cases q : j = x1.toNat; (rw [q]; exact ⟨ly_ne (Or.inl (by decide)) (ly_at hvb.symm rfl), ly_at rfl rfl⟩); (have z := h2_2 j hj (by omega); exact ⟨ly_ne (Or.inl (by decide)) (ly_ne (Or.inr q) z.1), ly_ne (Or.inr q) (ly_ne (Or.inl (by decide)) z.2)⟩)) h2_3 (by first | omega | (simp only [zuI_1, zuI_2, zuJ_1, zuJ_2, zuJ_3, zuP_1, zuP_2, zuP_3, zuC_1, zuC_2, reduceIte, Nat.reduceEqDiff, false_and, and_false, true_and, and_true, and_self, or_true, true_or, or_false, false_or]; omega))) (zwk_s rfl (zwk_s rfl zwk_0))
        refine zs_iload_n (pc := 13) C dX9_begin_13 rfl ?_
        refine zs_iconst (pc := 14) C dX9_begin_14 (by decide) ?_
        refine zs_aload_n (pc := 15) C dX9_begin_15 rfl ?_
        refine zs_geti (r := 1013) (pc := 16) C dX9_begin_16 w_X9_261 f_10_13 rfl (r_1013 0) (fun v16 e16 l16 u16 => ?_)
        have y16 : v16 = A 4 1 := e16.trans (by rw [h2_1.1 1013 (by decide)]; exact k13)
        first | refine zs_imul (pc := 19) C dX9_begin_19 (by omega) ?_ | refine zs_imulF (pc := 19) C dX9_begin_19 (fun z19 hz191 hz192 => ?_)
        refine zs_icmp_ge (tgt := 42) (pc := 20) C dX9_begin_20 (by decide) (fun h20 => ?_) (fun h20 => ?_)
        · skip
          refine zs_iconst (pc := 42) C dX9_begin_42 (by decide) ?_
          exact zs_wk (J43 _ (by first | exact ⟨y38, by omega, by omega⟩ | exact ⟨(h80 x1.toNat (by omega) (by omega)).symm, by omega, by omega⟩)) (zwk_s rfl (zwk_s rfl zwk_0))
        · skip
          refine zs_iload_n (pc := 23) C dX9_begin_23 rfl ?_
          refine zs_iconst (pc := 24) C dX9_begin_24 (by decide) ?_
          first | refine zs_irem (pc := 25) C dX9_begin_25 (by omega) (by omega) (fun hz251 hz252 => ?_) | refine zs_iremF (pc := 25) C dX9_begin_25 (by omega) (fun z25 hz251 hz252 => ?_)
          refine zs_aload_n (pc := 26) C dX9_begin_26 rfl ?_
          refine zs_geti (r := 1012) (pc := 27) C dX9_begin_27 w_X9_258 f_10_12 rfl (r_1012 0) (fun v27 e27 l27 u27 => ?_)
          have y27 : v27 = A 4 0 := e27.trans (by rw [h2_1.1 1012 (by decide)]; exact k12)
          refine zs_icmp_ge (tgt := 42) (pc := 30) C dX9_begin_30 (by decide) (fun h30 => ?_) (fun h30 => ?_)
          · skip
            refine zs_iconst (pc := 42) C dX9_begin_42 (by decide) ?_
            exact zs_wk (J43 _ (by first | exact ⟨y38, by omega, by omega⟩ | exact ⟨(h80 x1.toNat (by omega) (by omega)).symm, by omega, by omega⟩)) (zwk_s rfl (zwk_s rfl zwk_0))
          · skip
            refine zs_aload_n (pc := 33) C dX9_begin_33 rfl ?_
            refine zs_getf (pc := 34) C dX9_begin_34 w_X9_39 f_10_28 (by decide) ?_
            refine zs_iload_n (pc := 37) C dX9_begin_37 rfl ?_
            refine zs_iald (r := 2065) (pc := 38) C dX9_begin_38 a_65 (by decide) (by omega) rfl (r_2065 _) (fun v38 e38 l38 u38 => ?_)
            have y38 : v38 = A 8 x1.toNat := (e38.trans (by rw [h2_1.1 2065 (by decide)])).trans (kD x1.toNat (by omega))
            refine zs_goto (tgt := 43) (pc := 39) C dX9_begin_39 (by decide) ?_
            exact zs_wk (J43 _ (by first | exact ⟨y38, by omega, by omega⟩ | exact ⟨(h80 x1.toNat (by omega) (by omega)).symm, by omega, by omega⟩)) (zwk_s rfl (zwk_s rfl zwk_0))
  exact zs_wk (L2 _ _ _ (by omega) zsm_rf (fun j hj hn => by omega) rfl (Nat.lt_succ_self _)) (zwk_s rfl (zwk_s rfl zwk_0))
