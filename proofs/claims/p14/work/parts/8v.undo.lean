/-! a row of works put away -/
def PD (D : Nat → Prop) (r bb : Nat) (q : Int) (F : Nat → Int) (G : zH) : Prop := ∀ m : Nat, D m → G.1 r bb (q + m).toNat = F m
theorem PD_w {D : Nat → Prop} {r bb : Nat} {q v : Int} {F : Nat → Int} {G : zH} {i : Nat} (k : Nat) (h : PD D r bb q F G) (hq : 0 ≤ q) (hi : i = (q + k).toNat) (hv : v = F k) : PD (fun m => D m ∨ m = k) r bb q F (zuI G r bb i v) := fun m hm => by
  rw [zuI_1]
  by_cases e : m = k
  · rw [if_pos ⟨rfl, rfl, by rw [hi, e]⟩, hv, e]
  · rw [if_neg (fun z => e (by have := z.2.2; omega))]
    exact h m (hm.resolve_right e)
theorem PD_mo {D E : Nat → Prop} {r bb : Nat} {q : Int} {F : Nat → Int} {G : zH} (h : PD D r bb q F G) (he : ∀ m : Nat, E m → D m) : PD E r bb q F G := fun m hm => h m (he m hm)
def pvR (Γ : zΓ) (w : Nat) (G : zH) (m : Nat) : Int := if m < 20 then G.1 2081 (Γ.2.1 w 51) m else if m < 40 then G.1 2082 (Γ.2.1 w 52) (m - 20) else if m < 45 then G.1 2083 (Γ.2.1 w 53) (m - 40) else if m < 50 then G.1 2084 (Γ.2.1 w 54) (m - 45) else if m < 55 then G.1 2085 (Γ.2.1 w 55) (m - 50) else if m < 60 then G.1 2086 (Γ.2.1 w 56) (m - 55) else if m < 120 then G.1 2094 (Γ.2.1 w 65) (m - 60) else if m = 120 then G.1 2087 (Γ.2.1 w 57) 0 else if m = 121 then G.1 2088 (Γ.2.1 w 58) 0 else if m = 122 then G.1 2089 (Γ.2.1 w 59) 0 else G.1 2090 (Γ.2.1 w 60) 0
theorem pvR_81 {Γ : zΓ} {w : Nat} {G : zH} {x : Int} (h : 0 ≤ x ∧ x < 20) : pvR Γ w G x.toNat = G.1 2081 (Γ.2.1 w 51) x.toNat := by
  unfold pvR; rw [if_pos (by omega)]
theorem pvR_82 {Γ : zΓ} {w : Nat} {G : zH} {x : Int} (h : 0 ≤ x ∧ x < 20) : pvR Γ w G (20 + x).toNat = G.1 2082 (Γ.2.1 w 52) x.toNat := by
  unfold pvR; rw [if_neg (by omega), if_pos (by omega), show (20 + x).toNat - 20 = x.toNat by omega]
theorem pvR_83 {Γ : zΓ} {w : Nat} {G : zH} {x : Int} (h : 0 ≤ x ∧ x < 5) : pvR Γ w G (40 + x).toNat = G.1 2083 (Γ.2.1 w 53) x.toNat := by
  unfold pvR; rw [if_neg (by omega), if_neg (by omega), if_pos (by omega), show (40 + x).toNat - 40 = x.toNat by omega]
theorem pvR_84 {Γ : zΓ} {w : Nat} {G : zH} {x : Int} (h : 0 ≤ x ∧ x < 5) : pvR Γ w G (45 + x).toNat = G.1 2084 (Γ.2.1 w 54) x.toNat := by
  unfold pvR; rw [if_neg (by omega), if_neg (by omega), if_neg (by omega), if_pos (by omega), show (45 + x).toNat - 45 = x.toNat by omega]
theorem pvR_85 {Γ : zΓ} {w : Nat} {G : zH} {x : Int} (h : 0 ≤ x ∧ x < 5) : pvR Γ w G (50 + x).toNat = G.1 2085 (Γ.2.1 w 55) x.toNat := by
  unfold pvR; rw [if_neg (by omega), if_neg (by omega), if_neg (by omega), if_neg (by omega), if_pos (by omega), show (50 + x).toNat - 50 = x.toNat by omega]
theorem pvR_86 {Γ : zΓ} {w : Nat} {G : zH} {x : Int} (h : 0 ≤ x ∧ x < 5) : pvR Γ w G (55 + x).toNat = G.1 2086 (Γ.2.1 w 56) x.toNat := by
  unfold pvR; rw [if_neg (by omega), if_neg (by omega), if_neg (by omega), if_neg (by omega), if_neg (by omega), if_pos (by omega), show (55 + x).toNat - 55 = x.toNat by omega]
theorem pvR_94 {Γ : zΓ} {w : Nat} {G : zH} {x : Int} (h : 0 ≤ x ∧ x < 60) : pvR Γ w G (60 + x).toNat = G.1 2094 (Γ.2.1 w 65) x.toNat := by
  unfold pvR; rw [if_neg (by omega), if_neg (by omega), if_neg (by omega), if_neg (by omega), if_neg (by omega), if_neg (by omega), if_pos (by omega), show (60 + x).toNat - 60 = x.toNat by omega]
/-- the row, as it lies -/
def tF (r bb : Nat) (q : Int) (G : zH) : Nat → Int := fun m => G.1 r bb (q + m).toNat
theorem tF_at {r bb : Nat} {q i x : Int} {G : zH} (h0 : 0 ≤ x) (hi : i = q + x) : G.1 r bb i.toNat = tF r bb q G x.toNat := by
  unfold tF
  rw [hi, show q + ((x.toNat : Nat) : Int) = q + x by omega]
/-- a row holds works -/
def rF (F : Nat → Int) (W : aS) : Prop := (∀ j : Nat, j < 20 → F j = W 11 j ∧ F (20 + j) = W 11 j - W 12 j) ∧ (∀ j : Nat, j < 5 → F (40 + j) = W 13 j ∧ F (45 + j) = W 14 j ∧ F (50 + j) = W 15 j ∧ F (55 + j) = (if W 16 j = -1 then -2 else W 16 j)) ∧ (∀ k : Nat, (k : Int) < W 0 0 → k < 60 → F (60 + k) = W 5 k) ∧ F 120 = W 0 0 ∧ F 121 = W 19 0 ∧ F 122 = W 20 0 ∧ F 123 = W 18 0
theorem rF_Q {F : Nat → Int} {X Y : aS} (h : wQ X Y) (hF : rF F X) : rF F Y := by
  obtain ⟨q0, q1, q2, q3, -⟩ := h
  obtain ⟨f1, f2, f3, f4, f5, f6, f7⟩ := hF
  refine ⟨fun j hj => ?_, fun j hj => ?_, fun k hk h60 => ?_, f4.trans q0, f5.trans (q3 19 (by decide) (by decide)), f6.trans (q3 20 (by decide) (by decide)), f7.trans (q3 18 (by decide) (by decide))⟩
  · rw [← q2 11 j (by decide) (by decide), ← q2 12 j (by decide) (by decide)]; exact f1 j hj
  · rw [← q2 13 j (by decide) (by decide), ← q2 14 j (by decide) (by decide), ← q2 15 j (by decide) (by decide), ← q2 16 j (by decide) (by decide)]; exact f2 j hj
  · rw [← q1 5 k (by decide) (by decide) (by omega)]; exact f3 k (by omega) h60
theorem rW_Q {Γ : zΓ} {w : Nat} {b : Int} {X Y : aS} {G : zH} (h : wQ X Y) (hR : rW Γ w b X G) : rW Γ w b Y G := by
  obtain ⟨q0, q1, q2, q3, -⟩ := h
  obtain ⟨f1, f2, ⟨f4, f5, f6, f7⟩, f3⟩ := hR
  refine ⟨fun j hj => ?_, fun j hj => ?_, ⟨f4.trans q0, f5.trans (q3 19 (by decide) (by decide)), f6.trans (q3 20 (by decide) (by decide)), f7.trans (q3 18 (by decide) (by decide))⟩, fun k hk => ?_⟩
  · rw [← q2 11 j (by decide) (by decide), ← q2 12 j (by decide) (by decide)]; exact f1 j hj
  · rw [← q2 13 j (by decide) (by decide), ← q2 14 j (by decide) (by decide), ← q2 15 j (by decide) (by decide), ← q2 16 j (by decide) (by decide)]; exact f2 j hj
  · rw [← q1 5 k (by decide) (by decide) (by omega), ← q1 3 k (by decide) (by decide) (by omega)]; exact f3 k (by omega)
theorem rF_put {Γ : zΓ} {w : Nat} {F : Nat → Int} {W : aS} {G : zH} (h : rW Γ w 0 W G) (hF : ∀ m : Nat, m < 124 → F m = pvR Γ w G m) : rF F W := by
  obtain ⟨f1, f2, ⟨f4, f5, f6, f7⟩, f3⟩ := h
  refine ⟨fun j hj => ?_, fun j hj => ?_, fun k hk h60 => ?_, ?_, ?_, ?_, ?_⟩
  · have q := f1 j hj
    rw [show (20 * (0 : Int) + j).toNat = j by omega] at q
    have e1 := pvR_81 (Γ := Γ) (w := w) (G := G) (x := j) (by omega)
    have e2 := pvR_82 (Γ := Γ) (w := w) (G := G) (x := j) (by omega)
    rw [show ((j : Int)).toNat = j by omega] at e1 e2
    rw [show (20 + (j : Int)).toNat = 20 + j by omega] at e2
    rw [hF j (by omega), hF (20 + j) (by omega), e1, e2]
    exact q
  · have q := f2 j hj
    rw [show (5 * (0 : Int) + j).toNat = j by omega] at q
    have e1 := pvR_83 (Γ := Γ) (w := w) (G := G) (x := j) (by omega)
    have e2 := pvR_84 (Γ := Γ) (w := w) (G := G) (x := j) (by omega)
    have e3 := pvR_85 (Γ := Γ) (w := w) (G := G) (x := j) (by omega)
    have e4 := pvR_86 (Γ := Γ) (w := w) (G := G) (x := j) (by omega)
    rw [show ((j : Int)).toNat = j by omega] at e1 e2 e3 e4
    rw [show (40 + (j : Int)).toNat = 40 + j by omega] at e1
    rw [show (45 + (j : Int)).toNat = 45 + j by omega] at e2
    rw [show (50 + (j : Int)).toNat = 50 + j by omega] at e3
    rw [show (55 + (j : Int)).toNat = 55 + j by omega] at e4
    rw [hF (40 + j) (by omega), hF (45 + j) (by omega), hF (50 + j) (by omega), hF (55 + j) (by omega), e1, e2, e3, e4]
    exact q
  · have q := (f3 k hk).2
    rw [show (60 * (0 : Int) + k).toNat = k by omega] at q
    have e1 := pvR_94 (Γ := Γ) (w := w) (G := G) (x := k) (by omega)
    rw [show ((k : Int)).toNat = k by omega, show (60 + (k : Int)).toNat = 60 + k by omega] at e1
    rw [hF (60 + k) (by omega), e1]
    exact q
  · rw [hF 120 (by omega)]; exact f4
  · rw [hF 121 (by omega)]; exact f5
  · rw [hF 122 (by omega)]; exact f6
  · rw [hF 123 (by omega)]; exact f7
/-! a row taken -/
def tkA (Γ : zΓ) (w : Nat) (F : Nat → Int) (n : Int) (G : zH) : Prop := ∀ j : Nat, (j : Int) < n → G.1 2081 (Γ.2.1 w 51) j = F j ∧ G.1 2082 (Γ.2.1 w 52) j = F (20 + j)
def tkB (Γ : zΓ) (w : Nat) (F : Nat → Int) (n : Int) (G : zH) : Prop := ∀ j : Nat, (j : Int) < n → G.1 2083 (Γ.2.1 w 53) j = F (40 + j) ∧ G.1 2084 (Γ.2.1 w 54) j = F (45 + j) ∧ G.1 2085 (Γ.2.1 w 55) j = F (50 + j) ∧ G.1 2086 (Γ.2.1 w 56) j = F (55 + j)
def tqK (Γ : zΓ) (w : Nat) (F : Nat → Int) (n : Int) (G : zH) : Prop := ∀ j : Nat, (j : Int) < n → G.1 2094 (Γ.2.1 w 65) j = F (60 + j)
def tkS (Γ : zΓ) (w : Nat) (F : Nat → Int) (G : zH) : Prop := G.1 2087 (Γ.2.1 w 57) 0 = F 120 ∧ G.1 2088 (Γ.2.1 w 58) 0 = F 121 ∧ G.1 2089 (Γ.2.1 w 59) 0 = F 122 ∧ G.1 2090 (Γ.2.1 w 60) 0 = F 123
theorem tkA_I {Γ : zΓ} {w : Nat} {n : Int} {F : Nat → Int} {G : zH} {r a i : Nat} {x : Int} (hr : 2081 ≠ r ∧ 2082 ≠ r) (h : tkA Γ w F n G) : tkA Γ w F n (zuI G r a i x) := fun j hn => by
  rw [zuI_1, if_neg (fun q => hr.1 q.1), zuI_1, if_neg (fun q => hr.2 q.1)]
  exact h j hn
theorem tkB_I {Γ : zΓ} {w : Nat} {n : Int} {F : Nat → Int} {G : zH} {r a i : Nat} {x : Int} (hr : 2083 ≠ r ∧ 2084 ≠ r ∧ 2085 ≠ r ∧ 2086 ≠ r) (h : tkB Γ w F n G) : tkB Γ w F n (zuI G r a i x) := fun j hn => by
  rw [zuI_1, if_neg (fun q => hr.1 q.1), zuI_1, if_neg (fun q => hr.2.1 q.1), zuI_1, if_neg (fun q => hr.2.2.1 q.1), zuI_1, if_neg (fun q => hr.2.2.2 q.1)]
  exact h j hn
theorem tqK_I {Γ : zΓ} {w : Nat} {n : Int} {F : Nat → Int} {G : zH} {r a i : Nat} {x : Int} (hr : 2094 ≠ r) (h : tqK Γ w F n G) : tqK Γ w F n (zuI G r a i x) := fun j hn => by
  rw [zuI_1, if_neg (fun q => hr q.1)]
  exact h j hn
theorem tkA_s {Γ : zΓ} {w : Nat} {n u v : Int} {F : Nat → Int} {G : zH} (hn : 0 ≤ n) (h : tkA Γ w F n G) (eu : u = F n.toNat) (ev : v = F (20 + n).toNat) : tkA Γ w F (n + 1) (zuI (zuI G 2081 (Γ.2.1 w 51) n.toNat u) 2082 (Γ.2.1 w 52) n.toNat v) := fun j hjn => by
  by_cases q : (j : Int) = n
  · have e : j = n.toNat := by omega
    have e2 : (20 + n).toNat = 20 + j := by omega
    exact ⟨ly_ne (Or.inl (by decide)) (ly_at (by rw [e, eu]) e), ly_at (by rw [← e2, ev]) e⟩
  · have z := h j (by omega)
    exact ⟨ly_ne (Or.inl (by decide)) (ly_ne (Or.inr (by omega)) z.1), ly_ne (Or.inr (by omega)) (ly_ne (Or.inl (by decide)) z.2)⟩
theorem tkB_s {Γ : zΓ} {w : Nat} {n u v x y : Int} {F : Nat → Int} {G : zH} (hn : 0 ≤ n) (h : tkB Γ w F n G) (eu : u = F (40 + n).toNat) (ev : v = F (45 + n).toNat) (ex : x = F (50 + n).toNat) (ey : y = F (55 + n).toNat) : tkB Γ w F (n + 1) (zuI (zuI (zuI (zuI G 2083 (Γ.2.1 w 53) n.toNat u) 2084 (Γ.2.1 w 54) n.toNat v) 2085 (Γ.2.1 w 55) n.toNat x) 2086 (Γ.2.1 w 56) n.toNat y) := fun j hjn => by
  by_cases q : (j : Int) = n
  · have e : j = n.toNat := by omega
    have e1 : (40 + n).toNat = 40 + j := by omega
    have e2 : (45 + n).toNat = 45 + j := by omega
    have e3 : (50 + n).toNat = 50 + j := by omega
    have e4 : (55 + n).toNat = 55 + j := by omega
    exact ⟨ly_ne (Or.inl (by decide)) (ly_ne (Or.inl (by decide)) (ly_ne (Or.inl (by decide)) (ly_at (by rw [← e1, eu]) e))), ly_ne (Or.inl (by decide)) (ly_ne (Or.inl (by decide)) (ly_at (by rw [← e2, ev]) e)), ly_ne (Or.inl (by decide)) (ly_at (by rw [← e3, ex]) e), ly_at (by rw [← e4, ey]) e⟩
  · obtain ⟨z1, z2, z3, z4⟩ := h j (by omega)
    have ni : j ≠ n.toNat := by omega
    exact ⟨ly_ne (Or.inr ni) (ly_ne (Or.inr ni) (ly_ne (Or.inr ni) (ly_ne (Or.inr ni) z1))), ly_ne (Or.inr ni) (ly_ne (Or.inr ni) (ly_ne (Or.inr ni) (ly_ne (Or.inr ni) z2))), ly_ne (Or.inr ni) (ly_ne (Or.inr ni) (ly_ne (Or.inr ni) (ly_ne (Or.inr ni) z3))), ly_ne (Or.inr ni) (ly_ne (Or.inr ni) (ly_ne (Or.inr ni) (ly_ne (Or.inr ni) z4)))⟩
theorem tqK_s {Γ : zΓ} {w : Nat} {n u : Int} {F : Nat → Int} {G : zH} (hn : 0 ≤ n) (h : tqK Γ w F n G) (eu : u = F (60 + n).toNat) : tqK Γ w F (n + 1) (zuI G 2094 (Γ.2.1 w 65) n.toNat u) := fun j hjn => by
  by_cases q : (j : Int) = n
  · have e : j = n.toNat := by omega
    have e1 : (60 + n).toNat = 60 + j := by omega
    exact ly_at (by rw [← e1, eu]) e
  · exact ly_ne (Or.inr (by omega)) (h j (by omega))
theorem rW_tk {Γ : zΓ} {w : Nat} {F : Nat → Int} {W : aS} {G : zH} (h60 : W 0 0 ≤ 60) (hF : rF F W) (h1 : tkA Γ w F 20 G) (h2 : tkB Γ w F 5 G) (h3 : tqK Γ w F 60 G) (h4 : tkS Γ w F G) (h5 : ∀ k : Nat, (k : Int) < W 0 0 → G.1 2093 (Γ.2.1 w 64) k = W 3 k) : rW Γ w 0 W G := by
  obtain ⟨f1, f2, f3, f4, f5, f6, f7⟩ := hF
  obtain ⟨s1, s2, s3, s4⟩ := h4
  refine ⟨fun j hj => ?_, fun j hj => ?_, ⟨s1.trans f4, s2.trans f5, s3.trans f6, s4.trans f7⟩, fun k hk => ?_⟩
  · rw [show (20 * (0 : Int) + j).toNat = j by omega, (h1 j (by omega)).1, (h1 j (by omega)).2]
    exact f1 j hj
  · obtain ⟨z1, z2, z3, z4⟩ := h2 j (by omega)
    rw [show (5 * (0 : Int) + j).toNat = j by omega, z1, z2, z3, z4]
    exact f2 j hj
  · rw [show (60 * (0 : Int) + k).toNat = k by omega, h5 k hk, h3 k (by omega)]
    exact ⟨rfl, f3 k hk (by omega)⟩
/-- the rows of what can be taken back: each what was before -/
def bR (Γ : zΓ) (w : Nat) (Ws : Nat → aS) (n : Int) (G : zH) : Prop := ∀ u : Nat, (u : Int) < n → rF (tF 2105 (Γ.2.1 w 85) (127 * u) G) (Ws u)
theorem tF_cg {r bb : Nat} {q q' : Int} {G G' : zH} {W : aS} (h : ∀ m : Nat, m < 124 → G'.1 r bb (q' + m).toNat = G.1 r bb (q + m).toNat) (hF : rF (tF r bb q G) W) : rF (tF r bb q' G') W := by
  have e : ∀ m : Nat, m < 124 → tF r bb q' G' m = tF r bb q G m := h
  obtain ⟨f1, f2, f3, f4, f5, f6, f7⟩ := hF
  refine ⟨fun j hj => by rw [e j (by omega), e (20 + j) (by omega)]; exact f1 j hj, fun j hj => by rw [e (40 + j) (by omega), e (45 + j) (by omega), e (50 + j) (by omega), e (55 + j) (by omega)]; exact f2 j hj, fun k hk h60 => by rw [e (60 + k) (by omega)]; exact f3 k hk h60, by rw [e 120 (by omega)]; exact f4, by rw [e 121 (by omega)]; exact f5, by rw [e 122 (by omega)]; exact f6, by rw [e 123 (by omega)]; exact f7⟩
theorem bR_z {Γ : zΓ} {w : Nat} {Ws : Nat → aS} {n : Int} {G G1 : zH} {rs : List Nat} (hs : zsm rs G G1) (hr : 2105 ∉ rs) (h : bR Γ w Ws n G) : bR Γ w Ws n G1 := fun u hu => tF_cg (fun m _ => by rw [hs.1 2105 hr]) (h u hu)
theorem bR_put {Γ : zΓ} {w : Nat} {Ws : Nat → aS} {v n m : Int} {W : aS} {G G' : zH} (hv : v = n) (hm : m = n + 1) (h0 : 0 ≤ n) (hB : bR Γ w Ws n G) (hW : wQ W (Ws n.toNat)) (hR : rW Γ w 0 W G) (h1 : PD (fun m => m < 124) 2105 (Γ.2.1 w 85) (127 * v) (pvR Γ w G) G') (h2 : ∀ j : Nat, ((j : Int) < 127 * v ∨ 127 * v + 127 ≤ (j : Int)) → G'.1 2105 (Γ.2.1 w 85) j = G.1 2105 (Γ.2.1 w 85) j) : bR Γ w Ws m G' := fun u hu => by
  subst hv
  subst hm
  by_cases q : (u : Int) = v
  · rw [show u = v.toNat by omega, show ((v.toNat : Nat) : Int) = v by omega]
    exact rF_Q hW (rF_put hR (fun m hm => h1 m hm))
  · exact tF_cg (fun m hm => h2 _ (Or.inl (by omega))) (hB u (by omega))
theorem bR_sh {Γ : zΓ} {w : Nat} {Ws : Nat → aS} {x : Int} {G G1 : zH} (h : ∀ j : Nat, (j : Int) < x → G1.1 2105 (Γ.2.1 w 85) j = G.1 2105 (Γ.2.1 w 85) (j + 127)) (hx : 2413 ≤ x) (hB : bR Γ w Ws 20 G) : bR Γ w (fun i => Ws (i + 1)) 19 G1 := fun u hu => by
  refine tF_cg (q := 127 * ((u + 1 : Nat) : Int)) (fun m hm => ?_) (hB (u + 1) (by omega))
  rw [h _ (by omega), show (127 * (u : Int) + m).toNat + 127 = (127 * ((u + 1 : Nat) : Int) + m).toNat by omega]
theorem rS_undo {Γ : zΓ} {w : Nat} {W V : aS} {G : zH} (h0 : V 0 0 ≤ W 0 0) (h22 : V 22 0 = W 22 0) (e : ∀ f k : Nat, 1 ≤ f → f ≤ 10 → f ≠ 5 → (k : Int) < V 0 0 → V f k = W f k) (h : rS Γ w W G) : rS Γ w V G := by
  obtain ⟨h1, h2⟩ := h
  refine ⟨fun k hk => ?_, by rw [h22]; exact h2⟩
  have q := h1 k (by omega)
  unfold wLie at *
  rw [e 1 k (by decide) (by decide) (by decide) hk, e 2 k (by decide) (by decide) (by decide) hk, e 6 k (by decide) (by decide) (by decide) hk, e 7 k (by decide) (by decide) (by decide) hk, e 8 k (by decide) (by decide) (by decide) hk, e 9 k (by decide) (by decide) (by decide) hk, e 10 k (by decide) (by decide) (by decide) hk]
  rw [show ((k : Int)).toNat = k by omega] at q ⊢
  rw [e 10 k (by decide) (by decide) (by decide) hk]
  exact q

set_option maxHeartbeats 4000000 in
set_option maxRecDepth 100000 in
theorem c_X9_putW5 {l : Launch} {Γ : zΓ} {G : zH} {w bb : Nat} {q : Int} (hX : zXs Γ) (hq : 0 ≤ q ∧ q ≤ 2413 ∧ q % 127 = 0) : zMet l Γ yX9_put cX9_put 4 none 0 [zr 10 w, zr 105 bb, zi q] G (zpv (fun G' => zsm [2105] G G' ∧ (PD (fun m => m < 124) 2105 bb q (pvR Γ w G) G' ∧ (∀ j : Nat, ((j : Int) < q ∨ q + 127 ≤ (j : Int)) → G'.1 2105 bb j = G.1 2105 bb j) ∧ G'.2.1 = G.2.1))) := by
  refine zMet_of RX9 hX (by decide) rfl (Nat.le_of_ble_eq_true rfl) ?_
  intro p e s m args below meth c C hr hlk
  show Z p l e (zrm 0) s m args below meth c Γ 4 0 0 (MQ below (zQc Γ (zpv (fun G' => zsm [2105] G G' ∧ (PD (fun m => m < 124) 2105 bb q (pvR Γ w G) G' ∧ (∀ j : Nat, ((j : Int) < q ∨ q + 127 ≤ (j : Int)) → G'.1 2105 bb j = G.1 2105 bb j) ∧ G'.2.1 = G.2.1)))) args s 0 0 (zA Γ)) 0 [some (zr 10 w), some (zr 105 bb), some (zi q), none] [] G
  refine zs_loc 2 rfl (fun ha2 hb2 => ?_)
  refine zs_iconst (pc := 0) C dX9_put_0 (by decide) ?_
  refine zs_istore_n (pc := 1) C dX9_put_1 (by decide) ?_
  dsimp only [zset, zclr, znone]
  have L2 : ∀ (nn : Nat) (x3 : Int) (G1 : zH), (0 ≤ x3 ∧ x3 ≤ 20) → (zsm [2105] G G1) → ((∀ j : Nat, ((j : Int) < q ∨ q + 127 ≤ (j : Int)) → G1.1 2105 bb j = G.1 2105 bb j)) → (PD (fun m => (m < 20 ∧ (m : Int) < x3) ∨ (20 ≤ m ∧ m < 40 ∧ (m : Int) - 20 < x3)) 2105 bb q (pvR Γ w G) G1) → (G1.2.1 = G.2.1) → (20 - x3).toNat < nn → Z p l e (zrm 0) s m args below meth c Γ 4 0 0 (MQ below (zQc Γ (zpv (fun G' => zsm [2105] G G' ∧ (PD (fun m => m < 124) 2105 bb q (pvR Γ w G) G' ∧ (∀ j : Nat, ((j : Int) < q ∨ q + 127 ≤ (j : Int)) → G'.1 2105 bb j = G.1 2105 bb j) ∧ G'.2.1 = G.2.1)))) args s 0 0 (zA Γ)) 2 [some (zr 10 w), some (zr 105 bb), some (zi q), some (zi x3)] [] G1 := by
    intro nn
    induction nn with
    | zero => intro x3 G1 h2_0 h2_1 h2_2 h2_3 h2_4 hm; exact absurd hm (Nat.not_lt_zero _)
    | succ nn ih2 =>
      intro x3 G1 h2_0 h2_1 h2_2 h2_3 h2_4 hm2
      refine zs_iload_n (pc := 2) C dX9_put_2 rfl ?_
      refine zs_bipush (pc := 3) C dX9_put_3 (by decide) (by decide) ?_
      refine zs_icmp_ge (tgt := 39) (pc := 5) C dX9_put_5 (by decide) (fun h5 => ?_) (fun h5 => ?_)
      · skip
        refine zs_iconst (pc := 39) C dX9_put_39 (by decide) ?_
        refine zs_istore_n (pc := 40) C dX9_put_40 (by decide) ?_
        dsimp only [zset, zclr, znone]
        have L41 : ∀ (nn : Nat) (x3 : Int) (G2 : zH), (0 ≤ x3 ∧ x3 ≤ 5) → (zsm [2105] G G2) → ((∀ j : Nat, ((j : Int) < q ∨ q + 127 ≤ (j : Int)) → G2.1 2105 bb j = G.1 2105 bb j)) → (PD (fun m => m < 40 ∨ (40 ≤ m ∧ m < 45 ∧ (m : Int) - 40 < x3) ∨ (45 ≤ m ∧ m < 50 ∧ (m : Int) - 45 < x3) ∨ (50 ≤ m ∧ m < 55 ∧ (m : Int) - 50 < x3) ∨ (55 ≤ m ∧ m < 60 ∧ (m : Int) - 55 < x3)) 2105 bb q (pvR Γ w G) G2) → (G2.2.1 = G.2.1) → (5 - x3).toNat < nn → Z p l e (zrm 0) s m args below meth c Γ 4 0 0 (MQ below (zQc Γ (zpv (fun G' => zsm [2105] G G' ∧ (PD (fun m => m < 124) 2105 bb q (pvR Γ w G) G' ∧ (∀ j : Nat, ((j : Int) < q ∨ q + 127 ≤ (j : Int)) → G'.1 2105 bb j = G.1 2105 bb j) ∧ G'.2.1 = G.2.1)))) args s 0 0 (zA Γ)) 41 [some (zr 10 w), some (zr 105 bb), some (zi q), some (zi x3)] [] G2 := by
          intro nn
          induction nn with
          | zero => intro x3 G2 h41_0 h41_1 h41_2 h41_3 h41_4 hm; exact absurd hm (Nat.not_lt_zero _)
          | succ nn ih41 =>
            intro x3 G2 h41_0 h41_1 h41_2 h41_3 h41_4 hm41
            refine zs_iload_n (pc := 41) C dX9_put_41 rfl ?_
            refine zs_iconst (pc := 42) C dX9_put_42 (by decide) ?_
            refine zs_icmp_ge (tgt := 108) (pc := 43) C dX9_put_43 (by decide) (fun h43 => ?_) (fun h43 => ?_)
            · skip
              refine zs_iconst (pc := 108) C dX9_put_108 (by decide) ?_
              refine zs_istore_n (pc := 109) C dX9_put_109 (by decide) ?_
              dsimp only [zset, zclr, znone]
              have L110 : ∀ (nn : Nat) (x3 : Int) (G3 : zH), (0 ≤ x3 ∧ x3 ≤ 60) → (zsm [2105] G G3) → ((∀ j : Nat, ((j : Int) < q ∨ q + 127 ≤ (j : Int)) → G3.1 2105 bb j = G.1 2105 bb j)) → (PD (fun m => m < 60 ∨ (60 ≤ m ∧ m < 120 ∧ (m : Int) - 60 < x3)) 2105 bb q (pvR Γ w G) G3) → (G3.2.1 = G.2.1) → (60 - x3).toNat < nn → Z p l e (zrm 0) s m args below meth c Γ 4 0 0 (MQ below (zQc Γ (zpv (fun G' => zsm [2105] G G' ∧ (PD (fun m => m < 124) 2105 bb q (pvR Γ w G) G' ∧ (∀ j : Nat, ((j : Int) < q ∨ q + 127 ≤ (j : Int)) → G'.1 2105 bb j = G.1 2105 bb j) ∧ G'.2.1 = G.2.1)))) args s 0 0 (zA Γ)) 110 [some (zr 10 w), some (zr 105 bb), some (zi q), some (zi x3)] [] G3 := by
                intro nn
                induction nn with
                | zero => intro x3 G3 h110_0 h110_1 h110_2 h110_3 h110_4 hm; exact absurd hm (Nat.not_lt_zero _)
                | succ nn ih110 =>
                  intro x3 G3 h110_0 h110_1 h110_2 h110_3 h110_4 hm110
                  refine zs_iload_n (pc := 110) C dX9_put_110 rfl ?_
                  refine zs_bipush (pc := 111) C dX9_put_111 (by decide) (by decide) ?_
                  refine zs_icmp_ge (tgt := 136) (pc := 113) C dX9_put_113 (by decide) (fun h113 => ?_) (fun h113 => ?_)
                  · skip
                    refine zs_aload_n (pc := 136) C dX9_put_136 rfl ?_
                    refine zs_iload_n (pc := 137) C dX9_put_137 rfl ?_
                    refine zs_bipush (pc := 138) C dX9_put_138 (by decide) (by decide) ?_
                    first | refine zs_iadd (pc := 140) C dX9_put_140 (by omega) ?_ | refine zs_iaddF (pc := 140) C dX9_put_140 (fun z140 hz1401 hz1402 => ?_)
                    refine zs_aload_n (pc := 141) C dX9_put_141 rfl ?_
                    refine zs_getf (pc := 142) C dX9_put_142 w_X9_106 f_10_57 (by decide) ?_
                    refine zs_iconst (pc := 145) C dX9_put_145 (by decide) ?_
                    refine zs_iald (r := 2087) (pc := 146) C dX9_put_146 a_87 (by decide) (by omega) rfl (r_2087 _) (fun v146 e146 l146 u146 => ?_)
                    have y146 : v146 = pvR Γ w G (120 : Int).toNat := e146.trans (by rw [h110_1.1 2087 (by decide)]; rfl)
                    refine zs_iast (r := 2105) (pc := 147) C dX9_put_147 a_105 (by decide) (by omega) rfl (rg5_n (by omega)) (by omega) ?_
                    refine zs_aload_n (pc := 148) C dX9_put_148 rfl ?_
                    refine zs_iload_n (pc := 149) C dX9_put_149 rfl ?_
                    refine zs_bipush (pc := 150) C dX9_put_150 (by decide) (by decide) ?_
                    first | refine zs_iadd (pc := 152) C dX9_put_152 (by omega) ?_ | refine zs_iaddF (pc := 152) C dX9_put_152 (fun z152 hz1521 hz1522 => ?_)
                    refine zs_aload_n (pc := 153) C dX9_put_153 rfl ?_
                    refine zs_getf (pc := 154) C dX9_put_154 w_X9_109 f_10_58 (by decide) ?_
                    refine zs_iconst (pc := 157) C dX9_put_157 (by decide) ?_
                    refine zs_iald (r := 2088) (pc := 158) C dX9_put_158 a_88 (by decide) (by omega) rfl (r_2088 _) (fun v158 e158 l158 u158 => ?_)
                    try simp only [zuI_1, zuI_2, zuJ_1, zuJ_2, zuJ_3, zuP_1, zuP_2, zuP_3, zuC_1, zuC_2, reduceIte, Nat.reduceEqDiff, false_and, and_false, true_and, and_true, and_self, or_true, true_or, or_false, false_or] at e158
                    have y158 : v158 = pvR Γ w G (121 : Int).toNat := e158.trans (by rw [h110_1.1 2088 (by decide)]; rfl)
                    refine zs_iast (r := 2105) (pc := 159) C dX9_put_159 a_105 (by decide) (by omega) rfl (rg5_o (by omega)) (by omega) ?_
                    refine zs_aload_n (pc := 160) C dX9_put_160 rfl ?_
                    refine zs_iload_n (pc := 161) C dX9_put_161 rfl ?_
                    refine zs_bipush (pc := 162) C dX9_put_162 (by decide) (by decide) ?_
                    first | refine zs_iadd (pc := 164) C dX9_put_164 (by omega) ?_ | refine zs_iaddF (pc := 164) C dX9_put_164 (fun z164 hz1641 hz1642 => ?_)
                    refine zs_aload_n (pc := 165) C dX9_put_165 rfl ?_
                    refine zs_getf (pc := 166) C dX9_put_166 w_X9_112 f_10_59 (by decide) ?_
                    refine zs_iconst (pc := 169) C dX9_put_169 (by decide) ?_
                    refine zs_iald (r := 2089) (pc := 170) C dX9_put_170 a_89 (by decide) (by omega) rfl (r_2089 _) (fun v170 e170 l170 u170 => ?_)
                    try simp only [zuI_1, zuI_2, zuJ_1, zuJ_2, zuJ_3, zuP_1, zuP_2, zuP_3, zuC_1, zuC_2, reduceIte, Nat.reduceEqDiff, false_and, and_false, true_and, and_true, and_self, or_true, true_or, or_false, false_or] at e170
                    have y170 : v170 = pvR Γ w G (122 : Int).toNat := e170.trans (by rw [h110_1.1 2089 (by decide)]; rfl)
                    refine zs_iast (r := 2105) (pc := 171) C dX9_put_171 a_105 (by decide) (by omega) rfl (rg5_o (by omega)) (by omega) ?_
                    refine zs_aload_n (pc := 172) C dX9_put_172 rfl ?_
                    refine zs_iload_n (pc := 173) C dX9_put_173 rfl ?_
                    refine zs_bipush (pc := 174) C dX9_put_174 (by decide) (by decide) ?_
                    first | refine zs_iadd (pc := 176) C dX9_put_176 (by omega) ?_ | refine zs_iaddF (pc := 176) C dX9_put_176 (fun z176 hz1761 hz1762 => ?_)
                    refine zs_aload_n (pc := 177) C dX9_put_177 rfl ?_
                    refine zs_getf (pc := 178) C dX9_put_178 w_X9_115 f_10_60 (by decide) ?_
                    refine zs_iconst (pc := 181) C dX9_put_181 (by decide) ?_
                    refine zs_iald (r := 2090) (pc := 182) C dX9_put_182 a_90 (by decide) (by omega) rfl (r_2090 _) (fun v182 e182 l182 u182 => ?_)
                    try simp only [zuI_1, zuI_2, zuJ_1, zuJ_2, zuJ_3, zuP_1, zuP_2, zuP_3, zuC_1, zuC_2, reduceIte, Nat.reduceEqDiff, false_and, and_false, true_and, and_true, and_self, or_true, true_or, or_false, false_or] at e182
                    have y182 : v182 = pvR Γ w G (123 : Int).toNat := e182.trans (by rw [h110_1.1 2090 (by decide)]; rfl)
                    refine zs_iast (r := 2105) (pc := 183) C dX9_put_183 a_105 (by decide) (by omega) rfl (rg5_o (by omega)) (by omega) ?_
                    exact zs_vret (pc := 184) C hr hlk dX9_put_184 ⟨by repeat (first | exact zsm_rf | assumption | refine zsm_C (by decide) ?_ | refine zsm_I (by decide) ?_ | refine zsm_J ?_ | refine zsm_c (by assumption) (by decide) ?_), ⟨(PD_mo (PD_w (123 : Int).toNat (PD_w (122 : Int).toNat (PD_w (121 : Int).toNat (PD_w (120 : Int).toNat h110_3 hq.1 (by omega) y146) hq.1 (by omega) y158) hq.1 (by omega) y170) hq.1 (by omega) y182) (fun m hm => by (try dsimp only at hm); (try dsimp only); omega)), (fun j hj => by have h9 := h110_2 j hj; simp only [zuI_1, true_and]; (repeat (rw [if_neg (by omega)])); exact h9), h110_4⟩⟩
                  · skip
                    refine zs_aload_n (pc := 116) C dX9_put_116 rfl ?_
                    refine zs_iload_n (pc := 117) C dX9_put_117 rfl ?_
                    refine zs_bipush (pc := 118) C dX9_put_118 (by decide) (by decide) ?_
                    first | refine zs_iadd (pc := 120) C dX9_put_120 (by omega) ?_ | refine zs_iaddF (pc := 120) C dX9_put_120 (fun z120 hz1201 hz1202 => ?_)
                    refine zs_iload_n (pc := 121) C dX9_put_121 rfl ?_
                    first | refine zs_iadd (pc := 122) C dX9_put_122 (by omega) ?_ | refine zs_iaddF (pc := 122) C dX9_put_122 (fun z122 hz1221 hz1222 => ?_)
                    refine zs_aload_n (pc := 123) C dX9_put_123 rfl ?_
                    refine zs_getf (pc := 124) C dX9_put_124 w_X9_127 f_10_65 (by decide) ?_
                    refine zs_iload_n (pc := 127) C dX9_put_127 rfl ?_
                    refine zs_iald (r := 2094) (pc := 128) C dX9_put_128 a_94 (by decide) (by omega) rfl (r_2094 _) (fun v128 e128 l128 u128 => ?_)
                    have y128 : v128 = pvR Γ w G (60 + x3).toNat := (e128.trans (by rw [h110_1.1 2094 (by decide)])).trans (pvR_94 (by omega)).symm
                    refine zs_iast (r := 2105) (pc := 129) C dX9_put_129 a_105 (by decide) (by omega) rfl (rg5_h (by omega)) (by omega) ?_
                    first | refine zs_iinc (pc := 130) C dX9_put_130 rfl (by decide) (by omega) ?_ | refine zs_iincF (pc := 130) C dX9_put_130 rfl (by decide) (fun z130 hz1301 hz1302 => ?_)
                    dsimp only [zset, zclr, znone]
                    refine zs_goto (tgt := 110) (pc := 133) C dX9_put_133 (by decide) ?_
                    exact zs_wk (ih110 _ _ (by omega) (by repeat (first | exact zsm_rf | assumption | refine zsm_C (by decide) ?_ | refine zsm_I (by decide) ?_ | refine zsm_J ?_ | refine zsm_c (by assumption) (by decide) ?_)) (fun j hj => by have h9 := h110_2 j hj; simp only [zuI_1, true_and]; (repeat (rw [if_neg (by omega)])); exact h9) (PD_mo (PD_w (60 + x3).toNat h110_3 hq.1 (by omega) y128) (fun m hm => by (try dsimp only at hm); (try dsimp only); omega)) h110_4 (by first | omega | (simp only [zuI_1, zuI_2, zuJ_1, zuJ_2, zuJ_3, zuP_1, zuP_2, zuP_3, zuC_1, zuC_2, reduceIte, Nat.reduceEqDiff, false_and, and_false, true_and, and_true, and_self, or_true, true_or, or_false, false_or]; omega))) (zwk_s rfl (zwk_s rfl (zwk_s rfl (zwk_s rfl zwk_0))))
              exact zs_wk (L110 _ _ _ (by omega) (by repeat (first | exact zsm_rf | assumption | refine zsm_C (by decide) ?_ | refine zsm_I (by decide) ?_ | refine zsm_J ?_ | refine zsm_c (by assumption) (by decide) ?_)) h41_2 (PD_mo h41_3 (fun m hm => by (try dsimp only at hm); (try dsimp only); omega)) h41_4 (Nat.lt_succ_self _)) (zwk_s rfl (zwk_s rfl (zwk_s rfl (zwk_s rfl zwk_0))))
            · skip
              refine zs_aload_n (pc := 46) C dX9_put_46 rfl ?_
              refine zs_iload_n (pc := 47) C dX9_put_47 rfl ?_
              refine zs_bipush (pc := 48) C dX9_put_48 (by decide) (by decide) ?_
              first | refine zs_iadd (pc := 50) C dX9_put_50 (by omega) ?_ | refine zs_iaddF (pc := 50) C dX9_put_50 (fun z50 hz501 hz502 => ?_)
              refine zs_iload_n (pc := 51) C dX9_put_51 rfl ?_
              first | refine zs_iadd (pc := 52) C dX9_put_52 (by omega) ?_ | refine zs_iaddF (pc := 52) C dX9_put_52 (fun z52 hz521 hz522 => ?_)
              refine zs_aload_n (pc := 53) C dX9_put_53 rfl ?_
              refine zs_getf (pc := 54) C dX9_put_54 w_X9_94 f_10_53 (by decide) ?_
              refine zs_iload_n (pc := 57) C dX9_put_57 rfl ?_
              refine zs_iald (r := 2083) (pc := 58) C dX9_put_58 a_83 (by decide) (by omega) rfl (r_2083 _) (fun v58 e58 l58 u58 => ?_)
              have y58 : v58 = pvR Γ w G (40 + x3).toNat := (e58.trans (by rw [h41_1.1 2083 (by decide)])).trans (pvR_83 (by omega)).symm
              refine zs_iast (r := 2105) (pc := 59) C dX9_put_59 a_105 (by decide) (by omega) rfl (rg5_o (by omega)) (by omega) ?_
              refine zs_aload_n (pc := 60) C dX9_put_60 rfl ?_
              refine zs_iload_n (pc := 61) C dX9_put_61 rfl ?_
              refine zs_bipush (pc := 62) C dX9_put_62 (by decide) (by decide) ?_
              first | refine zs_iadd (pc := 64) C dX9_put_64 (by omega) ?_ | refine zs_iaddF (pc := 64) C dX9_put_64 (fun z64 hz641 hz642 => ?_)
              refine zs_iload_n (pc := 65) C dX9_put_65 rfl ?_
              first | refine zs_iadd (pc := 66) C dX9_put_66 (by omega) ?_ | refine zs_iaddF (pc := 66) C dX9_put_66 (fun z66 hz661 hz662 => ?_)
              refine zs_aload_n (pc := 67) C dX9_put_67 rfl ?_
              refine zs_getf (pc := 68) C dX9_put_68 w_X9_97 f_10_54 (by decide) ?_
              refine zs_iload_n (pc := 71) C dX9_put_71 rfl ?_
              refine zs_iald (r := 2084) (pc := 72) C dX9_put_72 a_84 (by decide) (by omega) rfl (r_2084 _) (fun v72 e72 l72 u72 => ?_)
              try simp only [zuI_1, zuI_2, zuJ_1, zuJ_2, zuJ_3, zuP_1, zuP_2, zuP_3, zuC_1, zuC_2, reduceIte, Nat.reduceEqDiff, false_and, and_false, true_and, and_true, and_self, or_true, true_or, or_false, false_or] at e72
              have y72 : v72 = pvR Γ w G (45 + x3).toNat := (e72.trans (by rw [h41_1.1 2084 (by decide)])).trans (pvR_84 (by omega)).symm
              refine zs_iast (r := 2105) (pc := 73) C dX9_put_73 a_105 (by decide) (by omega) rfl (rg5_o (by omega)) (by omega) ?_
              refine zs_aload_n (pc := 74) C dX9_put_74 rfl ?_
              refine zs_iload_n (pc := 75) C dX9_put_75 rfl ?_
              refine zs_bipush (pc := 76) C dX9_put_76 (by decide) (by decide) ?_
              first | refine zs_iadd (pc := 78) C dX9_put_78 (by omega) ?_ | refine zs_iaddF (pc := 78) C dX9_put_78 (fun z78 hz781 hz782 => ?_)
              refine zs_iload_n (pc := 79) C dX9_put_79 rfl ?_
              first | refine zs_iadd (pc := 80) C dX9_put_80 (by omega) ?_ | refine zs_iaddF (pc := 80) C dX9_put_80 (fun z80 hz801 hz802 => ?_)
              refine zs_aload_n (pc := 81) C dX9_put_81 rfl ?_
              refine zs_getf (pc := 82) C dX9_put_82 w_X9_100 f_10_55 (by decide) ?_
              refine zs_iload_n (pc := 85) C dX9_put_85 rfl ?_
              refine zs_iald (r := 2085) (pc := 86) C dX9_put_86 a_85 (by decide) (by omega) rfl (r_2085 _) (fun v86 e86 l86 u86 => ?_)
              try simp only [zuI_1, zuI_2, zuJ_1, zuJ_2, zuJ_3, zuP_1, zuP_2, zuP_3, zuC_1, zuC_2, reduceIte, Nat.reduceEqDiff, false_and, and_false, true_and, and_true, and_self, or_true, true_or, or_false, false_or] at e86
              have y86 : v86 = pvR Γ w G (50 + x3).toNat := (e86.trans (by rw [h41_1.1 2085 (by decide)])).trans (pvR_85 (by omega)).symm
              refine zs_iast (r := 2105) (pc := 87) C dX9_put_87 a_105 (by decide) (by omega) rfl (rg5_o (by omega)) (by omega) ?_
              refine zs_aload_n (pc := 88) C dX9_put_88 rfl ?_
              refine zs_iload_n (pc := 89) C dX9_put_89 rfl ?_
              refine zs_bipush (pc := 90) C dX9_put_90 (by decide) (by decide) ?_
              first | refine zs_iadd (pc := 92) C dX9_put_92 (by omega) ?_ | refine zs_iaddF (pc := 92) C dX9_put_92 (fun z92 hz921 hz922 => ?_)
              refine zs_iload_n (pc := 93) C dX9_put_93 rfl ?_
              first | refine zs_iadd (pc := 94) C dX9_put_94 (by omega) ?_ | refine zs_iaddF (pc := 94) C dX9_put_94 (fun z94 hz941 hz942 => ?_)
              refine zs_aload_n (pc := 95) C dX9_put_95 rfl ?_
              refine zs_getf (pc := 96) C dX9_put_96 w_X9_103 f_10_56 (by decide) ?_
              refine zs_iload_n (pc := 99) C dX9_put_99 rfl ?_
              refine zs_iald (r := 2086) (pc := 100) C dX9_put_100 a_86 (by decide) (by omega) rfl (r_2086 _) (fun v100 e100 l100 u100 => ?_)
              try simp only [zuI_1, zuI_2, zuJ_1, zuJ_2, zuJ_3, zuP_1, zuP_2, zuP_3, zuC_1, zuC_2, reduceIte, Nat.reduceEqDiff, false_and, and_false, true_and, and_true, and_self, or_true, true_or, or_false, false_or] at e100
              have y100 : v100 = pvR Γ w G (55 + x3).toNat := (e100.trans (by rw [h41_1.1 2086 (by decide)])).trans (pvR_86 (by omega)).symm
              refine zs_iast (r := 2105) (pc := 101) C dX9_put_101 a_105 (by decide) (by omega) rfl (rg5_o (by omega)) (by omega) ?_
              first | refine zs_iinc (pc := 102) C dX9_put_102 rfl (by decide) (by omega) ?_ | refine zs_iincF (pc := 102) C dX9_put_102 rfl (by decide) (fun z102 hz1021 hz1022 => ?_)
              dsimp only [zset, zclr, znone]
              refine zs_goto (tgt := 41) (pc := 105) C dX9_put_105 (by decide) ?_
              exact zs_wk (ih41 _ _ (by omega) (by repeat (first | exact zsm_rf | assumption | refine zsm_C (by decide) ?_ | refine zsm_I (by decide) ?_ | refine zsm_J ?_ | refine zsm_c (by assumption) (by decide) ?_)) (fun j hj => by have h9 := h41_2 j hj; simp only [zuI_1, true_and]; (repeat (rw [if_neg (by omega)])); exact h9) (PD_mo (PD_w (55 + x3).toNat (PD_w (50 + x3).toNat (PD_w (45 + x3).toNat (PD_w (40 + x3).toNat h41_3 hq.1 (by omega) y58) hq.1 (by omega) y72) hq.1 (by omega) y86) hq.1 (by omega) y100) (fun m hm => by (try dsimp only at hm); (try dsimp only); omega)) h41_4 (by first | omega | (simp only [zuI_1, zuI_2, zuJ_1, zuJ_2, zuJ_3, zuP_1, zuP_2, zuP_3, zuC_1, zuC_2, reduceIte, Nat.reduceEqDiff, false_and, and_false, true_and, and_true, and_self, or_true, true_or, or_false, false_or]; omega))) (zwk_s rfl (zwk_s rfl (zwk_s rfl (zwk_s rfl zwk_0))))
        exact zs_wk (L41 _ _ _ (by omega) (by repeat (first | exact zsm_rf | assumption | refine zsm_C (by decide) ?_ | refine zsm_I (by decide) ?_ | refine zsm_J ?_ | refine zsm_c (by assumption) (by decide) ?_)) h2_2 (PD_mo h2_3 (fun m hm => by (try dsimp only at hm); (try dsimp only); omega)) h2_4 (Nat.lt_succ_self _)) (zwk_s rfl (zwk_s rfl (zwk_s rfl (zwk_s rfl zwk_0))))
      · skip
        refine zs_aload_n (pc := 8) C dX9_put_8 rfl ?_
        refine zs_iload_n (pc := 9) C dX9_put_9 rfl ?_
        refine zs_iload_n (pc := 10) C dX9_put_10 rfl ?_
        first | refine zs_iadd (pc := 11) C dX9_put_11 (by omega) ?_ | refine zs_iaddF (pc := 11) C dX9_put_11 (fun z11 hz111 hz112 => ?_)
        refine zs_aload_n (pc := 12) C dX9_put_12 rfl ?_
        refine zs_getf (pc := 13) C dX9_put_13 w_X9_88 f_10_51 (by decide) ?_
        refine zs_iload_n (pc := 16) C dX9_put_16 rfl ?_
        refine zs_iald (r := 2081) (pc := 17) C dX9_put_17 a_81 (by decide) (by omega) rfl (r_2081 _) (fun v17 e17 l17 u17 => ?_)
        have y17 : v17 = pvR Γ w G (x3).toNat := (e17.trans (by rw [h2_1.1 2081 (by decide)])).trans (pvR_81 (by omega)).symm
        refine zs_iast (r := 2105) (pc := 18) C dX9_put_18 a_105 (by decide) (by omega) rfl (rg5_o (by omega)) (by omega) ?_
        refine zs_aload_n (pc := 19) C dX9_put_19 rfl ?_
        refine zs_iload_n (pc := 20) C dX9_put_20 rfl ?_
        refine zs_bipush (pc := 21) C dX9_put_21 (by decide) (by decide) ?_
        first | refine zs_iadd (pc := 23) C dX9_put_23 (by omega) ?_ | refine zs_iaddF (pc := 23) C dX9_put_23 (fun z23 hz231 hz232 => ?_)
        refine zs_iload_n (pc := 24) C dX9_put_24 rfl ?_
        first | refine zs_iadd (pc := 25) C dX9_put_25 (by omega) ?_ | refine zs_iaddF (pc := 25) C dX9_put_25 (fun z25 hz251 hz252 => ?_)
        refine zs_aload_n (pc := 26) C dX9_put_26 rfl ?_
        refine zs_getf (pc := 27) C dX9_put_27 w_X9_91 f_10_52 (by decide) ?_
        refine zs_iload_n (pc := 30) C dX9_put_30 rfl ?_
        refine zs_iald (r := 2082) (pc := 31) C dX9_put_31 a_82 (by decide) (by omega) rfl (r_2082 _) (fun v31 e31 l31 u31 => ?_)
        try simp only [zuI_1, zuI_2, zuJ_1, zuJ_2, zuJ_3, zuP_1, zuP_2, zuP_3, zuC_1, zuC_2, reduceIte, Nat.reduceEqDiff, false_and, and_false, true_and, and_true, and_self, or_true, true_or, or_false, false_or] at e31
        have y31 : v31 = pvR Γ w G (20 + x3).toNat := (e31.trans (by rw [h2_1.1 2082 (by decide)])).trans (pvR_82 (by omega)).symm
        refine zs_iast (r := 2105) (pc := 32) C dX9_put_32 a_105 (by decide) (by omega) rfl (rg5_o (by omega)) (by omega) ?_
        first | refine zs_iinc (pc := 33) C dX9_put_33 rfl (by decide) (by omega) ?_ | refine zs_iincF (pc := 33) C dX9_put_33 rfl (by decide) (fun z33 hz331 hz332 => ?_)
        dsimp only [zset, zclr, znone]
        refine zs_goto (tgt := 2) (pc := 36) C dX9_put_36 (by decide) ?_
        exact zs_wk (ih2 _ _ (by omega) (by repeat (first | exact zsm_rf | assumption | refine zsm_C (by decide) ?_ | refine zsm_I (by decide) ?_ | refine zsm_J ?_ | refine zsm_c (by assumption) (by decide) ?_)) (fun j hj => by have h9 := h2_2 j hj; simp only [zuI_1, true_and]; (repeat (rw [if_neg (by omega)])); exact h9) (PD_mo (PD_w (20 + x3).toNat (PD_w (x3).toNat h2_3 hq.1 (by omega) y17) hq.1 (by omega) y31) (fun m hm => by (try dsimp only at hm); (try dsimp only); omega)) h2_4 (by first | omega | (simp only [zuI_1, zuI_2, zuJ_1, zuJ_2, zuJ_3, zuP_1, zuP_2, zuP_3, zuC_1, zuC_2, reduceIte, Nat.reduceEqDiff, false_and, and_false, true_and, and_true, and_self, or_true, true_or, or_false, false_or]; omega))) (zwk_s rfl (zwk_s rfl (zwk_s rfl (zwk_s rfl zwk_0))))
  exact zs_wk (L2 _ _ _ (by omega) (by repeat (first | exact zsm_rf | assumption | refine zsm_C (by decide) ?_ | refine zsm_I (by decide) ?_ | refine zsm_J ?_ | refine zsm_c (by assumption) (by decide) ?_)) (fun j hj => rfl) (fun m hm => by (try dsimp only at hm); omega) rfl (Nat.lt_succ_self _)) (zwk_s rfl (zwk_s rfl (zwk_s rfl (zwk_s rfl zwk_0))))

set_option maxHeartbeats 4000000 in
set_option maxRecDepth 100000 in
theorem c_X9_takeW5 {l : Launch} {Γ : zΓ} {G : zH} {w bb : Nat} {q : Int} (hX : zXs Γ) (hq : 0 ≤ q ∧ q ≤ 2413 ∧ q % 127 = 0) : zMet l Γ yX9_take cX9_take 4 none 0 [zr 10 w, zr 105 bb, zi q] G (zpv (fun G' => zsm [2081, 2082, 2083, 2084, 2085, 2086, 2087, 2088, 2089, 2090, 2094] G G' ∧ (tkA Γ w (tF 2105 bb q G) 20 G' ∧ tkB Γ w (tF 2105 bb q G) 5 G' ∧ tqK Γ w (tF 2105 bb q G) 60 G' ∧ tkS Γ w (tF 2105 bb q G) G' ∧ G'.2.1 = G.2.1))) := by
  refine zMet_of RX9 hX (by decide) rfl (Nat.le_of_ble_eq_true rfl) ?_
  intro p e s m args below meth c C hr hlk
  show Z p l e (zrm 0) s m args below meth c Γ 4 0 0 (MQ below (zQc Γ (zpv (fun G' => zsm [2081, 2082, 2083, 2084, 2085, 2086, 2087, 2088, 2089, 2090, 2094] G G' ∧ (tkA Γ w (tF 2105 bb q G) 20 G' ∧ tkB Γ w (tF 2105 bb q G) 5 G' ∧ tqK Γ w (tF 2105 bb q G) 60 G' ∧ tkS Γ w (tF 2105 bb q G) G' ∧ G'.2.1 = G.2.1)))) args s 0 0 (zA Γ)) 0 [some (zr 10 w), some (zr 105 bb), some (zi q), none] [] G
  refine zs_loc 2 rfl (fun ha2 hb2 => ?_)
  refine zs_iconst (pc := 0) C dX9_take_0 (by decide) ?_
  refine zs_istore_n (pc := 1) C dX9_take_1 (by decide) ?_
  dsimp only [zset, zclr, znone]
  have L2 : ∀ (nn : Nat) (x3 : Int) (G1 : zH), (0 ≤ x3 ∧ x3 ≤ 20) → (zsm [2081, 2082, 2083, 2084, 2085, 2086, 2087, 2088, 2089, 2090, 2094] G G1) → (tkA Γ w (tF 2105 bb q G) x3 G1) → (G1.2.1 = G.2.1) → (20 - x3).toNat < nn → Z p l e (zrm 0) s m args below meth c Γ 4 0 0 (MQ below (zQc Γ (zpv (fun G' => zsm [2081, 2082, 2083, 2084, 2085, 2086, 2087, 2088, 2089, 2090, 2094] G G' ∧ (tkA Γ w (tF 2105 bb q G) 20 G' ∧ tkB Γ w (tF 2105 bb q G) 5 G' ∧ tqK Γ w (tF 2105 bb q G) 60 G' ∧ tkS Γ w (tF 2105 bb q G) G' ∧ G'.2.1 = G.2.1)))) args s 0 0 (zA Γ)) 2 [some (zr 10 w), some (zr 105 bb), some (zi q), some (zi x3)] [] G1 := by
    intro nn
    induction nn with
    | zero => intro x3 G1 h2_0 h2_1 h2_2 h2_3 hm; exact absurd hm (Nat.not_lt_zero _)
    | succ nn ih2 =>
      intro x3 G1 h2_0 h2_1 h2_2 h2_3 hm2
      refine zs_iload_n (pc := 2) C dX9_take_2 rfl ?_
      refine zs_bipush (pc := 3) C dX9_take_3 (by decide) (by decide) ?_
      refine zs_icmp_ge (tgt := 39) (pc := 5) C dX9_take_5 (by decide) (fun h5 => ?_) (fun h5 => ?_)
      · skip
        refine zs_iconst (pc := 39) C dX9_take_39 (by decide) ?_
        refine zs_istore_n (pc := 40) C dX9_take_40 (by decide) ?_
        dsimp only [zset, zclr, znone]
        have L41 : ∀ (nn : Nat) (x3 : Int) (G2 : zH), (0 ≤ x3 ∧ x3 ≤ 5) → (zsm [2081, 2082, 2083, 2084, 2085, 2086, 2087, 2088, 2089, 2090, 2094] G G2) → (tkA Γ w (tF 2105 bb q G) 20 G2) → (tkB Γ w (tF 2105 bb q G) x3 G2) → (G2.2.1 = G.2.1) → (5 - x3).toNat < nn → Z p l e (zrm 0) s m args below meth c Γ 4 0 0 (MQ below (zQc Γ (zpv (fun G' => zsm [2081, 2082, 2083, 2084, 2085, 2086, 2087, 2088, 2089, 2090, 2094] G G' ∧ (tkA Γ w (tF 2105 bb q G) 20 G' ∧ tkB Γ w (tF 2105 bb q G) 5 G' ∧ tqK Γ w (tF 2105 bb q G) 60 G' ∧ tkS Γ w (tF 2105 bb q G) G' ∧ G'.2.1 = G.2.1)))) args s 0 0 (zA Γ)) 41 [some (zr 10 w), some (zr 105 bb), some (zi q), some (zi x3)] [] G2 := by
          intro nn
          induction nn with
          | zero => intro x3 G2 h41_0 h41_1 h41_2 h41_3 h41_4 hm; exact absurd hm (Nat.not_lt_zero _)
          | succ nn ih41 =>
            intro x3 G2 h41_0 h41_1 h41_2 h41_3 h41_4 hm41
            refine zs_iload_n (pc := 41) C dX9_take_41 rfl ?_
            refine zs_iconst (pc := 42) C dX9_take_42 (by decide) ?_
            refine zs_icmp_ge (tgt := 108) (pc := 43) C dX9_take_43 (by decide) (fun h43 => ?_) (fun h43 => ?_)
            · skip
              refine zs_iconst (pc := 108) C dX9_take_108 (by decide) ?_
              refine zs_istore_n (pc := 109) C dX9_take_109 (by decide) ?_
              dsimp only [zset, zclr, znone]
              have L110 : ∀ (nn : Nat) (x3 : Int) (G3 : zH), (0 ≤ x3 ∧ x3 ≤ 60) → (zsm [2081, 2082, 2083, 2084, 2085, 2086, 2087, 2088, 2089, 2090, 2094] G G3) → (tkA Γ w (tF 2105 bb q G) 20 G3) → (tkB Γ w (tF 2105 bb q G) 5 G3) → (tqK Γ w (tF 2105 bb q G) x3 G3) → (G3.2.1 = G.2.1) → (60 - x3).toNat < nn → Z p l e (zrm 0) s m args below meth c Γ 4 0 0 (MQ below (zQc Γ (zpv (fun G' => zsm [2081, 2082, 2083, 2084, 2085, 2086, 2087, 2088, 2089, 2090, 2094] G G' ∧ (tkA Γ w (tF 2105 bb q G) 20 G' ∧ tkB Γ w (tF 2105 bb q G) 5 G' ∧ tqK Γ w (tF 2105 bb q G) 60 G' ∧ tkS Γ w (tF 2105 bb q G) G' ∧ G'.2.1 = G.2.1)))) args s 0 0 (zA Γ)) 110 [some (zr 10 w), some (zr 105 bb), some (zi q), some (zi x3)] [] G3 := by
                intro nn
                induction nn with
                | zero => intro x3 G3 h110_0 h110_1 h110_2 h110_3 h110_4 h110_5 hm; exact absurd hm (Nat.not_lt_zero _)
                | succ nn ih110 =>
                  intro x3 G3 h110_0 h110_1 h110_2 h110_3 h110_4 h110_5 hm110
                  refine zs_iload_n (pc := 110) C dX9_take_110 rfl ?_
                  refine zs_bipush (pc := 111) C dX9_take_111 (by decide) (by decide) ?_
                  refine zs_icmp_ge (tgt := 136) (pc := 113) C dX9_take_113 (by decide) (fun h113 => ?_) (fun h113 => ?_)
                  · skip
                    refine zs_aload_n (pc := 136) C dX9_take_136 rfl ?_
                    refine zs_getf (pc := 137) C dX9_take_137 w_X9_106 f_10_57 (by decide) ?_
                    refine zs_iconst (pc := 140) C dX9_take_140 (by decide) ?_
                    refine zs_aload_n (pc := 141) C dX9_take_141 rfl ?_
                    refine zs_iload_n (pc := 142) C dX9_take_142 rfl ?_
                    refine zs_bipush (pc := 143) C dX9_take_143 (by decide) (by decide) ?_
                    first | refine zs_iadd (pc := 145) C dX9_take_145 (by omega) ?_ | refine zs_iaddF (pc := 145) C dX9_take_145 (fun z145 hz1451 hz1452 => ?_)
                    refine zs_iald (r := 2105) (pc := 146) C dX9_take_146 a_105 (by decide) (by omega) rfl (rg5_n (by omega)) (fun v146 e146 l146 u146 => ?_)
                    have y146 : v146 = (tF 2105 bb q G) 120 := (e146.trans (by rw [h110_1.1 2105 (by decide)])).trans (tF_at (x := 120) (by omega) (by omega))
                    refine zs_iast (r := 2087) (pc := 147) C dX9_take_147 a_87 (by decide) (by omega) rfl (r_2087 _) (by omega) ?_
                    refine zs_aload_n (pc := 148) C dX9_take_148 rfl ?_
                    refine zs_getf (pc := 149) C dX9_take_149 w_X9_109 f_10_58 (by decide) ?_
                    refine zs_iconst (pc := 152) C dX9_take_152 (by decide) ?_
                    refine zs_aload_n (pc := 153) C dX9_take_153 rfl ?_
                    refine zs_iload_n (pc := 154) C dX9_take_154 rfl ?_
                    refine zs_bipush (pc := 155) C dX9_take_155 (by decide) (by decide) ?_
                    first | refine zs_iadd (pc := 157) C dX9_take_157 (by omega) ?_ | refine zs_iaddF (pc := 157) C dX9_take_157 (fun z157 hz1571 hz1572 => ?_)
                    refine zs_iald (r := 2105) (pc := 158) C dX9_take_158 a_105 (by decide) (by omega) rfl (rg5_o (by omega)) (fun v158 e158 l158 u158 => ?_)
                    try simp only [zuI_1, zuI_2, zuJ_1, zuJ_2, zuJ_3, zuP_1, zuP_2, zuP_3, zuC_1, zuC_2, reduceIte, Nat.reduceEqDiff, false_and, and_false, true_and, and_true, and_self, or_true, true_or, or_false, false_or] at e158
                    have y158 : v158 = (tF 2105 bb q G) 121 := (e158.trans (by rw [h110_1.1 2105 (by decide)])).trans (tF_at (x := 121) (by omega) (by omega))
                    refine zs_iast (r := 2088) (pc := 159) C dX9_take_159 a_88 (by decide) (by omega) rfl (r_2088 _) (by omega) ?_
                    refine zs_aload_n (pc := 160) C dX9_take_160 rfl ?_
                    refine zs_getf (pc := 161) C dX9_take_161 w_X9_112 f_10_59 (by decide) ?_
                    refine zs_iconst (pc := 164) C dX9_take_164 (by decide) ?_
                    refine zs_aload_n (pc := 165) C dX9_take_165 rfl ?_
                    refine zs_iload_n (pc := 166) C dX9_take_166 rfl ?_
                    refine zs_bipush (pc := 167) C dX9_take_167 (by decide) (by decide) ?_
                    first | refine zs_iadd (pc := 169) C dX9_take_169 (by omega) ?_ | refine zs_iaddF (pc := 169) C dX9_take_169 (fun z169 hz1691 hz1692 => ?_)
                    refine zs_iald (r := 2105) (pc := 170) C dX9_take_170 a_105 (by decide) (by omega) rfl (rg5_o (by omega)) (fun v170 e170 l170 u170 => ?_)
                    try simp only [zuI_1, zuI_2, zuJ_1, zuJ_2, zuJ_3, zuP_1, zuP_2, zuP_3, zuC_1, zuC_2, reduceIte, Nat.reduceEqDiff, false_and, and_false, true_and, and_true, and_self, or_true, true_or, or_false, false_or] at e170
                    have y170 : v170 = (tF 2105 bb q G) 122 := (e170.trans (by rw [h110_1.1 2105 (by decide)])).trans (tF_at (x := 122) (by omega) (by omega))
                    refine zs_iast (r := 2089) (pc := 171) C dX9_take_171 a_89 (by decide) (by omega) rfl (r_2089 _) (by omega) ?_
                    refine zs_aload_n (pc := 172) C dX9_take_172 rfl ?_
                    refine zs_getf (pc := 173) C dX9_take_173 w_X9_115 f_10_60 (by decide) ?_
                    refine zs_iconst (pc := 176) C dX9_take_176 (by decide) ?_
                    refine zs_aload_n (pc := 177) C dX9_take_177 rfl ?_
                    refine zs_iload_n (pc := 178) C dX9_take_178 rfl ?_
                    refine zs_bipush (pc := 179) C dX9_take_179 (by decide) (by decide) ?_
                    first | refine zs_iadd (pc := 181) C dX9_take_181 (by omega) ?_ | refine zs_iaddF (pc := 181) C dX9_take_181 (fun z181 hz1811 hz1812 => ?_)
                    refine zs_iald (r := 2105) (pc := 182) C dX9_take_182 a_105 (by decide) (by omega) rfl (rg5_o (by omega)) (fun v182 e182 l182 u182 => ?_)
                    try simp only [zuI_1, zuI_2, zuJ_1, zuJ_2, zuJ_3, zuP_1, zuP_2, zuP_3, zuC_1, zuC_2, reduceIte, Nat.reduceEqDiff, false_and, and_false, true_and, and_true, and_self, or_true, true_or, or_false, false_or] at e182
                    have y182 : v182 = (tF 2105 bb q G) 123 := (e182.trans (by rw [h110_1.1 2105 (by decide)])).trans (tF_at (x := 123) (by omega) (by omega))
                    refine zs_iast (r := 2090) (pc := 183) C dX9_take_183 a_90 (by decide) (by omega) rfl (r_2090 _) (by omega) ?_
                    exact zs_vret (pc := 184) C hr hlk dX9_take_184 ⟨by repeat (first | exact zsm_rf | assumption | refine zsm_C (by decide) ?_ | refine zsm_I (by decide) ?_ | refine zsm_J ?_ | refine zsm_c (by assumption) (by decide) ?_), ⟨(by repeat (first | assumption | refine tkA_I (by decide) ?_ | refine tkB_I (by decide) ?_ | refine tqK_I (by decide) ?_)), (by repeat (first | assumption | refine tkA_I (by decide) ?_ | refine tkB_I (by decide) ?_ | refine tqK_I (by decide) ?_)), (by have e9 : x3 = 60 := (by omega); rw [e9] at h110_4; repeat (first | assumption | refine tkA_I (by decide) ?_ | refine tkB_I (by decide) ?_ | refine tqK_I (by decide) ?_)), ⟨(by simp only [zuI_1, zuI_2, zuJ_1, zuJ_2, zuJ_3, zuP_1, zuP_2, zuP_3, zuC_1, zuC_2, reduceIte, Nat.reduceEqDiff, false_and, and_false, true_and, and_true, and_self, or_true, true_or, or_false, false_or]; exact y146), (by simp only [zuI_1, zuI_2, zuJ_1, zuJ_2, zuJ_3, zuP_1, zuP_2, zuP_3, zuC_1, zuC_2, reduceIte, Nat.reduceEqDiff, false_and, and_false, true_and, and_true, and_self, or_true, true_or, or_false, false_or]; exact y158), (by simp only [zuI_1, zuI_2, zuJ_1, zuJ_2, zuJ_3, zuP_1, zuP_2, zuP_3, zuC_1, zuC_2, reduceIte, Nat.reduceEqDiff, false_and, and_false, true_and, and_true, and_self, or_true, true_or, or_false, false_or]; exact y170), (by simp only [zuI_1, zuI_2, zuJ_1, zuJ_2, zuJ_3, zuP_1, zuP_2, zuP_3, zuC_1, zuC_2, reduceIte, Nat.reduceEqDiff, false_and, and_false, true_and, and_true, and_self, or_true, true_or, or_false, false_or]; exact y182)⟩, h110_5⟩⟩
                  · skip
                    refine zs_aload_n (pc := 116) C dX9_take_116 rfl ?_
                    refine zs_getf (pc := 117) C dX9_take_117 w_X9_127 f_10_65 (by decide) ?_
                    refine zs_iload_n (pc := 120) C dX9_take_120 rfl ?_
                    refine zs_aload_n (pc := 121) C dX9_take_121 rfl ?_
                    refine zs_iload_n (pc := 122) C dX9_take_122 rfl ?_
                    refine zs_bipush (pc := 123) C dX9_take_123 (by decide) (by decide) ?_
                    first | refine zs_iadd (pc := 125) C dX9_take_125 (by omega) ?_ | refine zs_iaddF (pc := 125) C dX9_take_125 (fun z125 hz1251 hz1252 => ?_)
                    refine zs_iload_n (pc := 126) C dX9_take_126 rfl ?_
                    first | refine zs_iadd (pc := 127) C dX9_take_127 (by omega) ?_ | refine zs_iaddF (pc := 127) C dX9_take_127 (fun z127 hz1271 hz1272 => ?_)
                    refine zs_iald (r := 2105) (pc := 128) C dX9_take_128 a_105 (by decide) (by omega) rfl (rg5_h (by omega)) (fun v128 e128 l128 u128 => ?_)
                    have y128 : v128 = (tF 2105 bb q G) (60 + x3).toNat := (e128.trans (by rw [h110_1.1 2105 (by decide)])).trans (tF_at (by omega) (by omega))
                    refine zs_iast (r := 2094) (pc := 129) C dX9_take_129 a_94 (by decide) (by omega) rfl (r_2094 _) (by omega) ?_
                    first | refine zs_iinc (pc := 130) C dX9_take_130 rfl (by decide) (by omega) ?_ | refine zs_iincF (pc := 130) C dX9_take_130 rfl (by decide) (fun z130 hz1301 hz1302 => ?_)
                    dsimp only [zset, zclr, znone]
                    refine zs_goto (tgt := 110) (pc := 133) C dX9_take_133 (by decide) ?_
                    exact zs_wk (ih110 _ _ (by omega) (by repeat (first | exact zsm_rf | assumption | refine zsm_C (by decide) ?_ | refine zsm_I (by decide) ?_ | refine zsm_J ?_ | refine zsm_c (by assumption) (by decide) ?_)) (by repeat (first | assumption | refine tkA_I (by decide) ?_ | refine tkB_I (by decide) ?_ | refine tqK_I (by decide) ?_)) (by repeat (first | assumption | refine tkA_I (by decide) ?_ | refine tkB_I (by decide) ?_ | refine tqK_I (by decide) ?_)) (tqK_s (by omega) h110_4 y128) h110_5 (by first | omega | (simp only [zuI_1, zuI_2, zuJ_1, zuJ_2, zuJ_3, zuP_1, zuP_2, zuP_3, zuC_1, zuC_2, reduceIte, Nat.reduceEqDiff, false_and, and_false, true_and, and_true, and_self, or_true, true_or, or_false, false_or]; omega))) (zwk_s rfl (zwk_s rfl (zwk_s rfl (zwk_s rfl zwk_0))))
              exact zs_wk (L110 _ _ _ (by omega) (by repeat (first | exact zsm_rf | assumption | refine zsm_C (by decide) ?_ | refine zsm_I (by decide) ?_ | refine zsm_J ?_ | refine zsm_c (by assumption) (by decide) ?_)) h41_2 (by have e9 : x3 = 5 := (by omega); rw [← e9]; exact h41_3) (fun j hj => by omega) h41_4 (Nat.lt_succ_self _)) (zwk_s rfl (zwk_s rfl (zwk_s rfl (zwk_s rfl zwk_0))))
            · skip
              refine zs_aload_n (pc := 46) C dX9_take_46 rfl ?_
              refine zs_getf (pc := 47) C dX9_take_47 w_X9_94 f_10_53 (by decide) ?_
              refine zs_iload_n (pc := 50) C dX9_take_50 rfl ?_
              refine zs_aload_n (pc := 51) C dX9_take_51 rfl ?_
              refine zs_iload_n (pc := 52) C dX9_take_52 rfl ?_
              refine zs_bipush (pc := 53) C dX9_take_53 (by decide) (by decide) ?_
              first | refine zs_iadd (pc := 55) C dX9_take_55 (by omega) ?_ | refine zs_iaddF (pc := 55) C dX9_take_55 (fun z55 hz551 hz552 => ?_)
              refine zs_iload_n (pc := 56) C dX9_take_56 rfl ?_
              first | refine zs_iadd (pc := 57) C dX9_take_57 (by omega) ?_ | refine zs_iaddF (pc := 57) C dX9_take_57 (fun z57 hz571 hz572 => ?_)
              refine zs_iald (r := 2105) (pc := 58) C dX9_take_58 a_105 (by decide) (by omega) rfl (rg5_o (by omega)) (fun v58 e58 l58 u58 => ?_)
              have y58 : v58 = (tF 2105 bb q G) (40 + x3).toNat := (e58.trans (by rw [h41_1.1 2105 (by decide)])).trans (tF_at (by omega) (by omega))
              refine zs_iast (r := 2083) (pc := 59) C dX9_take_59 a_83 (by decide) (by omega) rfl (r_2083 _) (by omega) ?_
              refine zs_aload_n (pc := 60) C dX9_take_60 rfl ?_
              refine zs_getf (pc := 61) C dX9_take_61 w_X9_97 f_10_54 (by decide) ?_
              refine zs_iload_n (pc := 64) C dX9_take_64 rfl ?_
              refine zs_aload_n (pc := 65) C dX9_take_65 rfl ?_
              refine zs_iload_n (pc := 66) C dX9_take_66 rfl ?_
              refine zs_bipush (pc := 67) C dX9_take_67 (by decide) (by decide) ?_
              first | refine zs_iadd (pc := 69) C dX9_take_69 (by omega) ?_ | refine zs_iaddF (pc := 69) C dX9_take_69 (fun z69 hz691 hz692 => ?_)
              refine zs_iload_n (pc := 70) C dX9_take_70 rfl ?_
              first | refine zs_iadd (pc := 71) C dX9_take_71 (by omega) ?_ | refine zs_iaddF (pc := 71) C dX9_take_71 (fun z71 hz711 hz712 => ?_)
              refine zs_iald (r := 2105) (pc := 72) C dX9_take_72 a_105 (by decide) (by omega) rfl (rg5_o (by omega)) (fun v72 e72 l72 u72 => ?_)
              try simp only [zuI_1, zuI_2, zuJ_1, zuJ_2, zuJ_3, zuP_1, zuP_2, zuP_3, zuC_1, zuC_2, reduceIte, Nat.reduceEqDiff, false_and, and_false, true_and, and_true, and_self, or_true, true_or, or_false, false_or] at e72
              have y72 : v72 = (tF 2105 bb q G) (45 + x3).toNat := (e72.trans (by rw [h41_1.1 2105 (by decide)])).trans (tF_at (by omega) (by omega))
              refine zs_iast (r := 2084) (pc := 73) C dX9_take_73 a_84 (by decide) (by omega) rfl (r_2084 _) (by omega) ?_
              refine zs_aload_n (pc := 74) C dX9_take_74 rfl ?_
              refine zs_getf (pc := 75) C dX9_take_75 w_X9_100 f_10_55 (by decide) ?_
              refine zs_iload_n (pc := 78) C dX9_take_78 rfl ?_
              refine zs_aload_n (pc := 79) C dX9_take_79 rfl ?_
              refine zs_iload_n (pc := 80) C dX9_take_80 rfl ?_
              refine zs_bipush (pc := 81) C dX9_take_81 (by decide) (by decide) ?_
              first | refine zs_iadd (pc := 83) C dX9_take_83 (by omega) ?_ | refine zs_iaddF (pc := 83) C dX9_take_83 (fun z83 hz831 hz832 => ?_)
              refine zs_iload_n (pc := 84) C dX9_take_84 rfl ?_
              first | refine zs_iadd (pc := 85) C dX9_take_85 (by omega) ?_ | refine zs_iaddF (pc := 85) C dX9_take_85 (fun z85 hz851 hz852 => ?_)
              refine zs_iald (r := 2105) (pc := 86) C dX9_take_86 a_105 (by decide) (by omega) rfl (rg5_o (by omega)) (fun v86 e86 l86 u86 => ?_)
              try simp only [zuI_1, zuI_2, zuJ_1, zuJ_2, zuJ_3, zuP_1, zuP_2, zuP_3, zuC_1, zuC_2, reduceIte, Nat.reduceEqDiff, false_and, and_false, true_and, and_true, and_self, or_true, true_or, or_false, false_or] at e86
              have y86 : v86 = (tF 2105 bb q G) (50 + x3).toNat := (e86.trans (by rw [h41_1.1 2105 (by decide)])).trans (tF_at (by omega) (by omega))
              refine zs_iast (r := 2085) (pc := 87) C dX9_take_87 a_85 (by decide) (by omega) rfl (r_2085 _) (by omega) ?_
              refine zs_aload_n (pc := 88) C dX9_take_88 rfl ?_
              refine zs_getf (pc := 89) C dX9_take_89 w_X9_103 f_10_56 (by decide) ?_
              refine zs_iload_n (pc := 92) C dX9_take_92 rfl ?_
              refine zs_aload_n (pc := 93) C dX9_take_93 rfl ?_
              refine zs_iload_n (pc := 94) C dX9_take_94 rfl ?_
              refine zs_bipush (pc := 95) C dX9_take_95 (by decide) (by decide) ?_
              first | refine zs_iadd (pc := 97) C dX9_take_97 (by omega) ?_ | refine zs_iaddF (pc := 97) C dX9_take_97 (fun z97 hz971 hz972 => ?_)
              refine zs_iload_n (pc := 98) C dX9_take_98 rfl ?_
              first | refine zs_iadd (pc := 99) C dX9_take_99 (by omega) ?_ | refine zs_iaddF (pc := 99) C dX9_take_99 (fun z99 hz991 hz992 => ?_)
              refine zs_iald (r := 2105) (pc := 100) C dX9_take_100 a_105 (by decide) (by omega) rfl (rg5_o (by omega)) (fun v100 e100 l100 u100 => ?_)
              try simp only [zuI_1, zuI_2, zuJ_1, zuJ_2, zuJ_3, zuP_1, zuP_2, zuP_3, zuC_1, zuC_2, reduceIte, Nat.reduceEqDiff, false_and, and_false, true_and, and_true, and_self, or_true, true_or, or_false, false_or] at e100
              have y100 : v100 = (tF 2105 bb q G) (55 + x3).toNat := (e100.trans (by rw [h41_1.1 2105 (by decide)])).trans (tF_at (by omega) (by omega))
              refine zs_iast (r := 2086) (pc := 101) C dX9_take_101 a_86 (by decide) (by omega) rfl (r_2086 _) (by omega) ?_
              first | refine zs_iinc (pc := 102) C dX9_take_102 rfl (by decide) (by omega) ?_ | refine zs_iincF (pc := 102) C dX9_take_102 rfl (by decide) (fun z102 hz1021 hz1022 => ?_)
              dsimp only [zset, zclr, znone]
              refine zs_goto (tgt := 41) (pc := 105) C dX9_take_105 (by decide) ?_
              exact zs_wk (ih41 _ _ (by omega) (by repeat (first | exact zsm_rf | assumption | refine zsm_C (by decide) ?_ | refine zsm_I (by decide) ?_ | refine zsm_J ?_ | refine zsm_c (by assumption) (by decide) ?_)) (by repeat (first | assumption | refine tkA_I (by decide) ?_ | refine tkB_I (by decide) ?_ | refine tqK_I (by decide) ?_)) (tkB_s (by omega) h41_3 y58 y72 y86 y100) h41_4 (by first | omega | (simp only [zuI_1, zuI_2, zuJ_1, zuJ_2, zuJ_3, zuP_1, zuP_2, zuP_3, zuC_1, zuC_2, reduceIte, Nat.reduceEqDiff, false_and, and_false, true_and, and_true, and_self, or_true, true_or, or_false, false_or]; omega))) (zwk_s rfl (zwk_s rfl (zwk_s rfl (zwk_s rfl zwk_0))))
        exact zs_wk (L41 _ _ _ (by omega) (by repeat (first | exact zsm_rf | assumption | refine zsm_C (by decide) ?_ | refine zsm_I (by decide) ?_ | refine zsm_J ?_ | refine zsm_c (by assumption) (by decide) ?_)) (by have e9 : x3 = 20 := (by omega); rw [← e9]; exact h2_2) (fun j hj => by omega) h2_3 (Nat.lt_succ_self _)) (zwk_s rfl (zwk_s rfl (zwk_s rfl (zwk_s rfl zwk_0))))
      · skip
        refine zs_aload_n (pc := 8) C dX9_take_8 rfl ?_
        refine zs_getf (pc := 9) C dX9_take_9 w_X9_88 f_10_51 (by decide) ?_
        refine zs_iload_n (pc := 12) C dX9_take_12 rfl ?_
        refine zs_aload_n (pc := 13) C dX9_take_13 rfl ?_
        refine zs_iload_n (pc := 14) C dX9_take_14 rfl ?_
        refine zs_iload_n (pc := 15) C dX9_take_15 rfl ?_
        first | refine zs_iadd (pc := 16) C dX9_take_16 (by omega) ?_ | refine zs_iaddF (pc := 16) C dX9_take_16 (fun z16 hz161 hz162 => ?_)
        refine zs_iald (r := 2105) (pc := 17) C dX9_take_17 a_105 (by decide) (by omega) rfl (rg5_o (by omega)) (fun v17 e17 l17 u17 => ?_)
        have y17 : v17 = (tF 2105 bb q G) (x3).toNat := (e17.trans (by rw [h2_1.1 2105 (by decide)])).trans (tF_at (by omega) (by omega))
        refine zs_iast (r := 2081) (pc := 18) C dX9_take_18 a_81 (by decide) (by omega) rfl (r_2081 _) (by omega) ?_
        refine zs_aload_n (pc := 19) C dX9_take_19 rfl ?_
        refine zs_getf (pc := 20) C dX9_take_20 w_X9_91 f_10_52 (by decide) ?_
        refine zs_iload_n (pc := 23) C dX9_take_23 rfl ?_
        refine zs_aload_n (pc := 24) C dX9_take_24 rfl ?_
        refine zs_iload_n (pc := 25) C dX9_take_25 rfl ?_
        refine zs_bipush (pc := 26) C dX9_take_26 (by decide) (by decide) ?_
        first | refine zs_iadd (pc := 28) C dX9_take_28 (by omega) ?_ | refine zs_iaddF (pc := 28) C dX9_take_28 (fun z28 hz281 hz282 => ?_)
        refine zs_iload_n (pc := 29) C dX9_take_29 rfl ?_
        first | refine zs_iadd (pc := 30) C dX9_take_30 (by omega) ?_ | refine zs_iaddF (pc := 30) C dX9_take_30 (fun z30 hz301 hz302 => ?_)
        refine zs_iald (r := 2105) (pc := 31) C dX9_take_31 a_105 (by decide) (by omega) rfl (rg5_o (by omega)) (fun v31 e31 l31 u31 => ?_)
        try simp only [zuI_1, zuI_2, zuJ_1, zuJ_2, zuJ_3, zuP_1, zuP_2, zuP_3, zuC_1, zuC_2, reduceIte, Nat.reduceEqDiff, false_and, and_false, true_and, and_true, and_self, or_true, true_or, or_false, false_or] at e31
        have y31 : v31 = (tF 2105 bb q G) (20 + x3).toNat := (e31.trans (by rw [h2_1.1 2105 (by decide)])).trans (tF_at (by omega) (by omega))
        refine zs_iast (r := 2082) (pc := 32) C dX9_take_32 a_82 (by decide) (by omega) rfl (r_2082 _) (by omega) ?_
        first | refine zs_iinc (pc := 33) C dX9_take_33 rfl (by decide) (by omega) ?_ | refine zs_iincF (pc := 33) C dX9_take_33 rfl (by decide) (fun z33 hz331 hz332 => ?_)
        dsimp only [zset, zclr, znone]
        refine zs_goto (tgt := 2) (pc := 36) C dX9_take_36 (by decide) ?_
        exact zs_wk (ih2 _ _ (by omega) (by repeat (first | exact zsm_rf | assumption | refine zsm_C (by decide) ?_ | refine zsm_I (by decide) ?_ | refine zsm_J ?_ | refine zsm_c (by assumption) (by decide) ?_)) (tkA_s (by omega) h2_2 y17 y31) h2_3 (by first | omega | (simp only [zuI_1, zuI_2, zuJ_1, zuJ_2, zuJ_3, zuP_1, zuP_2, zuP_3, zuC_1, zuC_2, reduceIte, Nat.reduceEqDiff, false_and, and_false, true_and, and_true, and_self, or_true, true_or, or_false, false_or]; omega))) (zwk_s rfl (zwk_s rfl (zwk_s rfl (zwk_s rfl zwk_0))))
  exact zs_wk (L2 _ _ _ (by omega) (by repeat (first | exact zsm_rf | assumption | refine zsm_C (by decide) ?_ | refine zsm_I (by decide) ?_ | refine zsm_J ?_ | refine zsm_c (by assumption) (by decide) ?_)) (fun j hj => by omega) rfl (Nat.lt_succ_self _)) (zwk_s rfl (zwk_s rfl (zwk_s rfl (zwk_s rfl zwk_0))))

set_option maxHeartbeats 4000000 in
set_option maxRecDepth 100000 in
theorem c_X9_putW6 {l : Launch} {Γ : zΓ} {G : zH} {w bb : Nat} {q : Int} (hX : zXs Γ) (hq : 0 ≤ q ∧ q ≤ 0 ∧ q % 127 = 0) : zMet l Γ yX9_put cX9_put 4 none 0 [zr 10 w, zr 106 bb, zi q] G (zpv (fun G' => zsm [2106] G G' ∧ (PD (fun m => m < 124) 2106 bb q (pvR Γ w G) G' ∧ (∀ j : Nat, ((j : Int) < q ∨ q + 127 ≤ (j : Int)) → G'.1 2106 bb j = G.1 2106 bb j) ∧ G'.2.1 = G.2.1))) := by
  refine zMet_of RX9 hX (by decide) rfl (Nat.le_of_ble_eq_true rfl) ?_
  intro p e s m args below meth c C hr hlk
  show Z p l e (zrm 0) s m args below meth c Γ 4 0 0 (MQ below (zQc Γ (zpv (fun G' => zsm [2106] G G' ∧ (PD (fun m => m < 124) 2106 bb q (pvR Γ w G) G' ∧ (∀ j : Nat, ((j : Int) < q ∨ q + 127 ≤ (j : Int)) → G'.1 2106 bb j = G.1 2106 bb j) ∧ G'.2.1 = G.2.1)))) args s 0 0 (zA Γ)) 0 [some (zr 10 w), some (zr 106 bb), some (zi q), none] [] G
  refine zs_loc 2 rfl (fun ha2 hb2 => ?_)
  refine zs_iconst (pc := 0) C dX9_put_0 (by decide) ?_
  refine zs_istore_n (pc := 1) C dX9_put_1 (by decide) ?_
  dsimp only [zset, zclr, znone]
  have L2 : ∀ (nn : Nat) (x3 : Int) (G1 : zH), (0 ≤ x3 ∧ x3 ≤ 20) → (zsm [2106] G G1) → ((∀ j : Nat, ((j : Int) < q ∨ q + 127 ≤ (j : Int)) → G1.1 2106 bb j = G.1 2106 bb j)) → (PD (fun m => (m < 20 ∧ (m : Int) < x3) ∨ (20 ≤ m ∧ m < 40 ∧ (m : Int) - 20 < x3)) 2106 bb q (pvR Γ w G) G1) → (G1.2.1 = G.2.1) → (20 - x3).toNat < nn → Z p l e (zrm 0) s m args below meth c Γ 4 0 0 (MQ below (zQc Γ (zpv (fun G' => zsm [2106] G G' ∧ (PD (fun m => m < 124) 2106 bb q (pvR Γ w G) G' ∧ (∀ j : Nat, ((j : Int) < q ∨ q + 127 ≤ (j : Int)) → G'.1 2106 bb j = G.1 2106 bb j) ∧ G'.2.1 = G.2.1)))) args s 0 0 (zA Γ)) 2 [some (zr 10 w), some (zr 106 bb), some (zi q), some (zi x3)] [] G1 := by
    intro nn
    induction nn with
    | zero => intro x3 G1 h2_0 h2_1 h2_2 h2_3 h2_4 hm; exact absurd hm (Nat.not_lt_zero _)
    | succ nn ih2 =>
      intro x3 G1 h2_0 h2_1 h2_2 h2_3 h2_4 hm2
      refine zs_iload_n (pc := 2) C dX9_put_2 rfl ?_
      refine zs_bipush (pc := 3) C dX9_put_3 (by decide) (by decide) ?_
      refine zs_icmp_ge (tgt := 39) (pc := 5) C dX9_put_5 (by decide) (fun h5 => ?_) (fun h5 => ?_)
      · skip
        refine zs_iconst (pc := 39) C dX9_put_39 (by decide) ?_
        refine zs_istore_n (pc := 40) C dX9_put_40 (by decide) ?_
        dsimp only [zset, zclr, znone]
        have L41 : ∀ (nn : Nat) (x3 : Int) (G2 : zH), (0 ≤ x3 ∧ x3 ≤ 5) → (zsm [2106] G G2) → ((∀ j : Nat, ((j : Int) < q ∨ q + 127 ≤ (j : Int)) → G2.1 2106 bb j = G.1 2106 bb j)) → (PD (fun m => m < 40 ∨ (40 ≤ m ∧ m < 45 ∧ (m : Int) - 40 < x3) ∨ (45 ≤ m ∧ m < 50 ∧ (m : Int) - 45 < x3) ∨ (50 ≤ m ∧ m < 55 ∧ (m : Int) - 50 < x3) ∨ (55 ≤ m ∧ m < 60 ∧ (m : Int) - 55 < x3)) 2106 bb q (pvR Γ w G) G2) → (G2.2.1 = G.2.1) → (5 - x3).toNat < nn → Z p l e (zrm 0) s m args below meth c Γ 4 0 0 (MQ below (zQc Γ (zpv (fun G' => zsm [2106] G G' ∧ (PD (fun m => m < 124) 2106 bb q (pvR Γ w G) G' ∧ (∀ j : Nat, ((j : Int) < q ∨ q + 127 ≤ (j : Int)) → G'.1 2106 bb j = G.1 2106 bb j) ∧ G'.2.1 = G.2.1)))) args s 0 0 (zA Γ)) 41 [some (zr 10 w), some (zr 106 bb), some (zi q), some (zi x3)] [] G2 := by
          intro nn
          induction nn with
          | zero => intro x3 G2 h41_0 h41_1 h41_2 h41_3 h41_4 hm; exact absurd hm (Nat.not_lt_zero _)
          | succ nn ih41 =>
            intro x3 G2 h41_0 h41_1 h41_2 h41_3 h41_4 hm41
            refine zs_iload_n (pc := 41) C dX9_put_41 rfl ?_
            refine zs_iconst (pc := 42) C dX9_put_42 (by decide) ?_
            refine zs_icmp_ge (tgt := 108) (pc := 43) C dX9_put_43 (by decide) (fun h43 => ?_) (fun h43 => ?_)
            · skip
              refine zs_iconst (pc := 108) C dX9_put_108 (by decide) ?_
              refine zs_istore_n (pc := 109) C dX9_put_109 (by decide) ?_
              dsimp only [zset, zclr, znone]
              have L110 : ∀ (nn : Nat) (x3 : Int) (G3 : zH), (0 ≤ x3 ∧ x3 ≤ 60) → (zsm [2106] G G3) → ((∀ j : Nat, ((j : Int) < q ∨ q + 127 ≤ (j : Int)) → G3.1 2106 bb j = G.1 2106 bb j)) → (PD (fun m => m < 60 ∨ (60 ≤ m ∧ m < 120 ∧ (m : Int) - 60 < x3)) 2106 bb q (pvR Γ w G) G3) → (G3.2.1 = G.2.1) → (60 - x3).toNat < nn → Z p l e (zrm 0) s m args below meth c Γ 4 0 0 (MQ below (zQc Γ (zpv (fun G' => zsm [2106] G G' ∧ (PD (fun m => m < 124) 2106 bb q (pvR Γ w G) G' ∧ (∀ j : Nat, ((j : Int) < q ∨ q + 127 ≤ (j : Int)) → G'.1 2106 bb j = G.1 2106 bb j) ∧ G'.2.1 = G.2.1)))) args s 0 0 (zA Γ)) 110 [some (zr 10 w), some (zr 106 bb), some (zi q), some (zi x3)] [] G3 := by
                intro nn
                induction nn with
                | zero => intro x3 G3 h110_0 h110_1 h110_2 h110_3 h110_4 hm; exact absurd hm (Nat.not_lt_zero _)
                | succ nn ih110 =>
                  intro x3 G3 h110_0 h110_1 h110_2 h110_3 h110_4 hm110
                  refine zs_iload_n (pc := 110) C dX9_put_110 rfl ?_
                  refine zs_bipush (pc := 111) C dX9_put_111 (by decide) (by decide) ?_
                  refine zs_icmp_ge (tgt := 136) (pc := 113) C dX9_put_113 (by decide) (fun h113 => ?_) (fun h113 => ?_)
                  · skip
                    refine zs_aload_n (pc := 136) C dX9_put_136 rfl ?_
                    refine zs_iload_n (pc := 137) C dX9_put_137 rfl ?_
                    refine zs_bipush (pc := 138) C dX9_put_138 (by decide) (by decide) ?_
                    first | refine zs_iadd (pc := 140) C dX9_put_140 (by omega) ?_ | refine zs_iaddF (pc := 140) C dX9_put_140 (fun z140 hz1401 hz1402 => ?_)
                    refine zs_aload_n (pc := 141) C dX9_put_141 rfl ?_
                    refine zs_getf (pc := 142) C dX9_put_142 w_X9_106 f_10_57 (by decide) ?_
                    refine zs_iconst (pc := 145) C dX9_put_145 (by decide) ?_
                    refine zs_iald (r := 2087) (pc := 146) C dX9_put_146 a_87 (by decide) (by omega) rfl (r_2087 _) (fun v146 e146 l146 u146 => ?_)
                    have y146 : v146 = pvR Γ w G (120 : Int).toNat := e146.trans (by rw [h110_1.1 2087 (by decide)]; rfl)
                    refine zs_iast (r := 2106) (pc := 147) C dX9_put_147 a_106 (by decide) (by omega) rfl (rg6_n (by omega)) (by omega) ?_
                    refine zs_aload_n (pc := 148) C dX9_put_148 rfl ?_
                    refine zs_iload_n (pc := 149) C dX9_put_149 rfl ?_
                    refine zs_bipush (pc := 150) C dX9_put_150 (by decide) (by decide) ?_
                    first | refine zs_iadd (pc := 152) C dX9_put_152 (by omega) ?_ | refine zs_iaddF (pc := 152) C dX9_put_152 (fun z152 hz1521 hz1522 => ?_)
                    refine zs_aload_n (pc := 153) C dX9_put_153 rfl ?_
                    refine zs_getf (pc := 154) C dX9_put_154 w_X9_109 f_10_58 (by decide) ?_
                    refine zs_iconst (pc := 157) C dX9_put_157 (by decide) ?_
                    refine zs_iald (r := 2088) (pc := 158) C dX9_put_158 a_88 (by decide) (by omega) rfl (r_2088 _) (fun v158 e158 l158 u158 => ?_)
                    try simp only [zuI_1, zuI_2, zuJ_1, zuJ_2, zuJ_3, zuP_1, zuP_2, zuP_3, zuC_1, zuC_2, reduceIte, Nat.reduceEqDiff, false_and, and_false, true_and, and_true, and_self, or_true, true_or, or_false, false_or] at e158
                    have y158 : v158 = pvR Γ w G (121 : Int).toNat := e158.trans (by rw [h110_1.1 2088 (by decide)]; rfl)
                    refine zs_iast (r := 2106) (pc := 159) C dX9_put_159 a_106 (by decide) (by omega) rfl (rg6_o (by omega)) (by omega) ?_
                    refine zs_aload_n (pc := 160) C dX9_put_160 rfl ?_
                    refine zs_iload_n (pc := 161) C dX9_put_161 rfl ?_
                    refine zs_bipush (pc := 162) C dX9_put_162 (by decide) (by decide) ?_
                    first | refine zs_iadd (pc := 164) C dX9_put_164 (by omega) ?_ | refine zs_iaddF (pc := 164) C dX9_put_164 (fun z164 hz1641 hz1642 => ?_)
                    refine zs_aload_n (pc := 165) C dX9_put_165 rfl ?_
                    refine zs_getf (pc := 166) C dX9_put_166 w_X9_112 f_10_59 (by decide) ?_
                    refine zs_iconst (pc := 169) C dX9_put_169 (by decide) ?_
                    refine zs_iald (r := 2089) (pc := 170) C dX9_put_170 a_89 (by decide) (by omega) rfl (r_2089 _) (fun v170 e170 l170 u170 => ?_)
                    try simp only [zuI_1, zuI_2, zuJ_1, zuJ_2, zuJ_3, zuP_1, zuP_2, zuP_3, zuC_1, zuC_2, reduceIte, Nat.reduceEqDiff, false_and, and_false, true_and, and_true, and_self, or_true, true_or, or_false, false_or] at e170
                    have y170 : v170 = pvR Γ w G (122 : Int).toNat := e170.trans (by rw [h110_1.1 2089 (by decide)]; rfl)
                    refine zs_iast (r := 2106) (pc := 171) C dX9_put_171 a_106 (by decide) (by omega) rfl (rg6_o (by omega)) (by omega) ?_
                    refine zs_aload_n (pc := 172) C dX9_put_172 rfl ?_
                    refine zs_iload_n (pc := 173) C dX9_put_173 rfl ?_
                    refine zs_bipush (pc := 174) C dX9_put_174 (by decide) (by decide) ?_
                    first | refine zs_iadd (pc := 176) C dX9_put_176 (by omega) ?_ | refine zs_iaddF (pc := 176) C dX9_put_176 (fun z176 hz1761 hz1762 => ?_)
                    refine zs_aload_n (pc := 177) C dX9_put_177 rfl ?_
                    refine zs_getf (pc := 178) C dX9_put_178 w_X9_115 f_10_60 (by decide) ?_
                    refine zs_iconst (pc := 181) C dX9_put_181 (by decide) ?_
                    refine zs_iald (r := 2090) (pc := 182) C dX9_put_182 a_90 (by decide) (by omega) rfl (r_2090 _) (fun v182 e182 l182 u182 => ?_)
                    try simp only [zuI_1, zuI_2, zuJ_1, zuJ_2, zuJ_3, zuP_1, zuP_2, zuP_3, zuC_1, zuC_2, reduceIte, Nat.reduceEqDiff, false_and, and_false, true_and, and_true, and_self, or_true, true_or, or_false, false_or] at e182
                    have y182 : v182 = pvR Γ w G (123 : Int).toNat := e182.trans (by rw [h110_1.1 2090 (by decide)]; rfl)
                    refine zs_iast (r := 2106) (pc := 183) C dX9_put_183 a_106 (by decide) (by omega) rfl (rg6_o (by omega)) (by omega) ?_
                    exact zs_vret (pc := 184) C hr hlk dX9_put_184 ⟨by repeat (first | exact zsm_rf | assumption | refine zsm_C (by decide) ?_ | refine zsm_I (by decide) ?_ | refine zsm_J ?_ | refine zsm_c (by assumption) (by decide) ?_), ⟨(PD_mo (PD_w (123 : Int).toNat (PD_w (122 : Int).toNat (PD_w (121 : Int).toNat (PD_w (120 : Int).toNat h110_3 hq.1 (by omega) y146) hq.1 (by omega) y158) hq.1 (by omega) y170) hq.1 (by omega) y182) (fun m hm => by (try dsimp only at hm); (try dsimp only); omega)), (fun j hj => by have h9 := h110_2 j hj; simp only [zuI_1, true_and]; (repeat (rw [if_neg (by omega)])); exact h9), h110_4⟩⟩
                  · skip
                    refine zs_aload_n (pc := 116) C dX9_put_116 rfl ?_
                    refine zs_iload_n (pc := 117) C dX9_put_117 rfl ?_
                    refine zs_bipush (pc := 118) C dX9_put_118 (by decide) (by decide) ?_
                    first | refine zs_iadd (pc := 120) C dX9_put_120 (by omega) ?_ | refine zs_iaddF (pc := 120) C dX9_put_120 (fun z120 hz1201 hz1202 => ?_)
                    refine zs_iload_n (pc := 121) C dX9_put_121 rfl ?_
                    first | refine zs_iadd (pc := 122) C dX9_put_122 (by omega) ?_ | refine zs_iaddF (pc := 122) C dX9_put_122 (fun z122 hz1221 hz1222 => ?_)
                    refine zs_aload_n (pc := 123) C dX9_put_123 rfl ?_
                    refine zs_getf (pc := 124) C dX9_put_124 w_X9_127 f_10_65 (by decide) ?_
                    refine zs_iload_n (pc := 127) C dX9_put_127 rfl ?_
                    refine zs_iald (r := 2094) (pc := 128) C dX9_put_128 a_94 (by decide) (by omega) rfl (r_2094 _) (fun v128 e128 l128 u128 => ?_)
                    have y128 : v128 = pvR Γ w G (60 + x3).toNat := (e128.trans (by rw [h110_1.1 2094 (by decide)])).trans (pvR_94 (by omega)).symm
                    refine zs_iast (r := 2106) (pc := 129) C dX9_put_129 a_106 (by decide) (by omega) rfl (rg6_h (by omega)) (by omega) ?_
                    first | refine zs_iinc (pc := 130) C dX9_put_130 rfl (by decide) (by omega) ?_ | refine zs_iincF (pc := 130) C dX9_put_130 rfl (by decide) (fun z130 hz1301 hz1302 => ?_)
                    dsimp only [zset, zclr, znone]
                    refine zs_goto (tgt := 110) (pc := 133) C dX9_put_133 (by decide) ?_
                    exact zs_wk (ih110 _ _ (by omega) (by repeat (first | exact zsm_rf | assumption | refine zsm_C (by decide) ?_ | refine zsm_I (by decide) ?_ | refine zsm_J ?_ | refine zsm_c (by assumption) (by decide) ?_)) (fun j hj => by have h9 := h110_2 j hj; simp only [zuI_1, true_and]; (repeat (rw [if_neg (by omega)])); exact h9) (PD_mo (PD_w (60 + x3).toNat h110_3 hq.1 (by omega) y128) (fun m hm => by (try dsimp only at hm); (try dsimp only); omega)) h110_4 (by first | omega | (simp only [zuI_1, zuI_2, zuJ_1, zuJ_2, zuJ_3, zuP_1, zuP_2, zuP_3, zuC_1, zuC_2, reduceIte, Nat.reduceEqDiff, false_and, and_false, true_and, and_true, and_self, or_true, true_or, or_false, false_or]; omega))) (zwk_s rfl (zwk_s rfl (zwk_s rfl (zwk_s rfl zwk_0))))
              exact zs_wk (L110 _ _ _ (by omega) (by repeat (first | exact zsm_rf | assumption | refine zsm_C (by decide) ?_ | refine zsm_I (by decide) ?_ | refine zsm_J ?_ | refine zsm_c (by assumption) (by decide) ?_)) h41_2 (PD_mo h41_3 (fun m hm => by (try dsimp only at hm); (try dsimp only); omega)) h41_4 (Nat.lt_succ_self _)) (zwk_s rfl (zwk_s rfl (zwk_s rfl (zwk_s rfl zwk_0))))
            · skip
              refine zs_aload_n (pc := 46) C dX9_put_46 rfl ?_
              refine zs_iload_n (pc := 47) C dX9_put_47 rfl ?_
              refine zs_bipush (pc := 48) C dX9_put_48 (by decide) (by decide) ?_
              first | refine zs_iadd (pc := 50) C dX9_put_50 (by omega) ?_ | refine zs_iaddF (pc := 50) C dX9_put_50 (fun z50 hz501 hz502 => ?_)
              refine zs_iload_n (pc := 51) C dX9_put_51 rfl ?_
              first | refine zs_iadd (pc := 52) C dX9_put_52 (by omega) ?_ | refine zs_iaddF (pc := 52) C dX9_put_52 (fun z52 hz521 hz522 => ?_)
              refine zs_aload_n (pc := 53) C dX9_put_53 rfl ?_
              refine zs_getf (pc := 54) C dX9_put_54 w_X9_94 f_10_53 (by decide) ?_
              refine zs_iload_n (pc := 57) C dX9_put_57 rfl ?_
              refine zs_iald (r := 2083) (pc := 58) C dX9_put_58 a_83 (by decide) (by omega) rfl (r_2083 _) (fun v58 e58 l58 u58 => ?_)
              have y58 : v58 = pvR Γ w G (40 + x3).toNat := (e58.trans (by rw [h41_1.1 2083 (by decide)])).trans (pvR_83 (by omega)).symm
              refine zs_iast (r := 2106) (pc := 59) C dX9_put_59 a_106 (by decide) (by omega) rfl (rg6_o (by omega)) (by omega) ?_
              refine zs_aload_n (pc := 60) C dX9_put_60 rfl ?_
              refine zs_iload_n (pc := 61) C dX9_put_61 rfl ?_
              refine zs_bipush (pc := 62) C dX9_put_62 (by decide) (by decide) ?_
              first | refine zs_iadd (pc := 64) C dX9_put_64 (by omega) ?_ | refine zs_iaddF (pc := 64) C dX9_put_64 (fun z64 hz641 hz642 => ?_)
              refine zs_iload_n (pc := 65) C dX9_put_65 rfl ?_
              first | refine zs_iadd (pc := 66) C dX9_put_66 (by omega) ?_ | refine zs_iaddF (pc := 66) C dX9_put_66 (fun z66 hz661 hz662 => ?_)
              refine zs_aload_n (pc := 67) C dX9_put_67 rfl ?_
              refine zs_getf (pc := 68) C dX9_put_68 w_X9_97 f_10_54 (by decide) ?_
              refine zs_iload_n (pc := 71) C dX9_put_71 rfl ?_
              refine zs_iald (r := 2084) (pc := 72) C dX9_put_72 a_84 (by decide) (by omega) rfl (r_2084 _) (fun v72 e72 l72 u72 => ?_)
              try simp only [zuI_1, zuI_2, zuJ_1, zuJ_2, zuJ_3, zuP_1, zuP_2, zuP_3, zuC_1, zuC_2, reduceIte, Nat.reduceEqDiff, false_and, and_false, true_and, and_true, and_self, or_true, true_or, or_false, false_or] at e72
              have y72 : v72 = pvR Γ w G (45 + x3).toNat := (e72.trans (by rw [h41_1.1 2084 (by decide)])).trans (pvR_84 (by omega)).symm
              refine zs_iast (r := 2106) (pc := 73) C dX9_put_73 a_106 (by decide) (by omega) rfl (rg6_o (by omega)) (by omega) ?_
              refine zs_aload_n (pc := 74) C dX9_put_74 rfl ?_
              refine zs_iload_n (pc := 75) C dX9_put_75 rfl ?_
              refine zs_bipush (pc := 76) C dX9_put_76 (by decide) (by decide) ?_
              first | refine zs_iadd (pc := 78) C dX9_put_78 (by omega) ?_ | refine zs_iaddF (pc := 78) C dX9_put_78 (fun z78 hz781 hz782 => ?_)
              refine zs_iload_n (pc := 79) C dX9_put_79 rfl ?_
              first | refine zs_iadd (pc := 80) C dX9_put_80 (by omega) ?_ | refine zs_iaddF (pc := 80) C dX9_put_80 (fun z80 hz801 hz802 => ?_)
              refine zs_aload_n (pc := 81) C dX9_put_81 rfl ?_
              refine zs_getf (pc := 82) C dX9_put_82 w_X9_100 f_10_55 (by decide) ?_
              refine zs_iload_n (pc := 85) C dX9_put_85 rfl ?_
              refine zs_iald (r := 2085) (pc := 86) C dX9_put_86 a_85 (by decide) (by omega) rfl (r_2085 _) (fun v86 e86 l86 u86 => ?_)
              try simp only [zuI_1, zuI_2, zuJ_1, zuJ_2, zuJ_3, zuP_1, zuP_2, zuP_3, zuC_1, zuC_2, reduceIte, Nat.reduceEqDiff, false_and, and_false, true_and, and_true, and_self, or_true, true_or, or_false, false_or] at e86
              have y86 : v86 = pvR Γ w G (50 + x3).toNat := (e86.trans (by rw [h41_1.1 2085 (by decide)])).trans (pvR_85 (by omega)).symm
              refine zs_iast (r := 2106) (pc := 87) C dX9_put_87 a_106 (by decide) (by omega) rfl (rg6_o (by omega)) (by omega) ?_
              refine zs_aload_n (pc := 88) C dX9_put_88 rfl ?_
              refine zs_iload_n (pc := 89) C dX9_put_89 rfl ?_
              refine zs_bipush (pc := 90) C dX9_put_90 (by decide) (by decide) ?_
              first | refine zs_iadd (pc := 92) C dX9_put_92 (by omega) ?_ | refine zs_iaddF (pc := 92) C dX9_put_92 (fun z92 hz921 hz922 => ?_)
              refine zs_iload_n (pc := 93) C dX9_put_93 rfl ?_
              first | refine zs_iadd (pc := 94) C dX9_put_94 (by omega) ?_ | refine zs_iaddF (pc := 94) C dX9_put_94 (fun z94 hz941 hz942 => ?_)
              refine zs_aload_n (pc := 95) C dX9_put_95 rfl ?_
              refine zs_getf (pc := 96) C dX9_put_96 w_X9_103 f_10_56 (by decide) ?_
              refine zs_iload_n (pc := 99) C dX9_put_99 rfl ?_
              refine zs_iald (r := 2086) (pc := 100) C dX9_put_100 a_86 (by decide) (by omega) rfl (r_2086 _) (fun v100 e100 l100 u100 => ?_)
              try simp only [zuI_1, zuI_2, zuJ_1, zuJ_2, zuJ_3, zuP_1, zuP_2, zuP_3, zuC_1, zuC_2, reduceIte, Nat.reduceEqDiff, false_and, and_false, true_and, and_true, and_self, or_true, true_or, or_false, false_or] at e100
              have y100 : v100 = pvR Γ w G (55 + x3).toNat := (e100.trans (by rw [h41_1.1 2086 (by decide)])).trans (pvR_86 (by omega)).symm
              refine zs_iast (r := 2106) (pc := 101) C dX9_put_101 a_106 (by decide) (by omega) rfl (rg6_o (by omega)) (by omega) ?_
              first | refine zs_iinc (pc := 102) C dX9_put_102 rfl (by decide) (by omega) ?_ | refine zs_iincF (pc := 102) C dX9_put_102 rfl (by decide) (fun z102 hz1021 hz1022 => ?_)
              dsimp only [zset, zclr, znone]
              refine zs_goto (tgt := 41) (pc := 105) C dX9_put_105 (by decide) ?_
              exact zs_wk (ih41 _ _ (by omega) (by repeat (first | exact zsm_rf | assumption | refine zsm_C (by decide) ?_ | refine zsm_I (by decide) ?_ | refine zsm_J ?_ | refine zsm_c (by assumption) (by decide) ?_)) (fun j hj => by have h9 := h41_2 j hj; simp only [zuI_1, true_and]; (repeat (rw [if_neg (by omega)])); exact h9) (PD_mo (PD_w (55 + x3).toNat (PD_w (50 + x3).toNat (PD_w (45 + x3).toNat (PD_w (40 + x3).toNat h41_3 hq.1 (by omega) y58) hq.1 (by omega) y72) hq.1 (by omega) y86) hq.1 (by omega) y100) (fun m hm => by (try dsimp only at hm); (try dsimp only); omega)) h41_4 (by first | omega | (simp only [zuI_1, zuI_2, zuJ_1, zuJ_2, zuJ_3, zuP_1, zuP_2, zuP_3, zuC_1, zuC_2, reduceIte, Nat.reduceEqDiff, false_and, and_false, true_and, and_true, and_self, or_true, true_or, or_false, false_or]; omega))) (zwk_s rfl (zwk_s rfl (zwk_s rfl (zwk_s rfl zwk_0))))
        exact zs_wk (L41 _ _ _ (by omega) (by repeat (first | exact zsm_rf | assumption | refine zsm_C (by decide) ?_ | refine zsm_I (by decide) ?_ | refine zsm_J ?_ | refine zsm_c (by assumption) (by decide) ?_)) h2_2 (PD_mo h2_3 (fun m hm => by (try dsimp only at hm); (try dsimp only); omega)) h2_4 (Nat.lt_succ_self _)) (zwk_s rfl (zwk_s rfl (zwk_s rfl (zwk_s rfl zwk_0))))
      · skip
        refine zs_aload_n (pc := 8) C dX9_put_8 rfl ?_
        refine zs_iload_n (pc := 9) C dX9_put_9 rfl ?_
        refine zs_iload_n (pc := 10) C dX9_put_10 rfl ?_
        first | refine zs_iadd (pc := 11) C dX9_put_11 (by omega) ?_ | refine zs_iaddF (pc := 11) C dX9_put_11 (fun z11 hz111 hz112 => ?_)
        refine zs_aload_n (pc := 12) C dX9_put_12 rfl ?_
        refine zs_getf (pc := 13) C dX9_put_13 w_X9_88 f_10_51 (by decide) ?_
        refine zs_iload_n (pc := 16) C dX9_put_16 rfl ?_
        refine zs_iald (r := 2081) (pc := 17) C dX9_put_17 a_81 (by decide) (by omega) rfl (r_2081 _) (fun v17 e17 l17 u17 => ?_)
        have y17 : v17 = pvR Γ w G (x3).toNat := (e17.trans (by rw [h2_1.1 2081 (by decide)])).trans (pvR_81 (by omega)).symm
        refine zs_iast (r := 2106) (pc := 18) C dX9_put_18 a_106 (by decide) (by omega) rfl (rg6_o (by omega)) (by omega) ?_
        refine zs_aload_n (pc := 19) C dX9_put_19 rfl ?_
        refine zs_iload_n (pc := 20) C dX9_put_20 rfl ?_
        refine zs_bipush (pc := 21) C dX9_put_21 (by decide) (by decide) ?_
        first | refine zs_iadd (pc := 23) C dX9_put_23 (by omega) ?_ | refine zs_iaddF (pc := 23) C dX9_put_23 (fun z23 hz231 hz232 => ?_)
        refine zs_iload_n (pc := 24) C dX9_put_24 rfl ?_
        first | refine zs_iadd (pc := 25) C dX9_put_25 (by omega) ?_ | refine zs_iaddF (pc := 25) C dX9_put_25 (fun z25 hz251 hz252 => ?_)
        refine zs_aload_n (pc := 26) C dX9_put_26 rfl ?_
        refine zs_getf (pc := 27) C dX9_put_27 w_X9_91 f_10_52 (by decide) ?_
        refine zs_iload_n (pc := 30) C dX9_put_30 rfl ?_
        refine zs_iald (r := 2082) (pc := 31) C dX9_put_31 a_82 (by decide) (by omega) rfl (r_2082 _) (fun v31 e31 l31 u31 => ?_)
        try simp only [zuI_1, zuI_2, zuJ_1, zuJ_2, zuJ_3, zuP_1, zuP_2, zuP_3, zuC_1, zuC_2, reduceIte, Nat.reduceEqDiff, false_and, and_false, true_and, and_true, and_self, or_true, true_or, or_false, false_or] at e31
        have y31 : v31 = pvR Γ w G (20 + x3).toNat := (e31.trans (by rw [h2_1.1 2082 (by decide)])).trans (pvR_82 (by omega)).symm
        refine zs_iast (r := 2106) (pc := 32) C dX9_put_32 a_106 (by decide) (by omega) rfl (rg6_o (by omega)) (by omega) ?_
        first | refine zs_iinc (pc := 33) C dX9_put_33 rfl (by decide) (by omega) ?_ | refine zs_iincF (pc := 33) C dX9_put_33 rfl (by decide) (fun z33 hz331 hz332 => ?_)
        dsimp only [zset, zclr, znone]
        refine zs_goto (tgt := 2) (pc := 36) C dX9_put_36 (by decide) ?_
        exact zs_wk (ih2 _ _ (by omega) (by repeat (first | exact zsm_rf | assumption | refine zsm_C (by decide) ?_ | refine zsm_I (by decide) ?_ | refine zsm_J ?_ | refine zsm_c (by assumption) (by decide) ?_)) (fun j hj => by have h9 := h2_2 j hj; simp only [zuI_1, true_and]; (repeat (rw [if_neg (by omega)])); exact h9) (PD_mo (PD_w (20 + x3).toNat (PD_w (x3).toNat h2_3 hq.1 (by omega) y17) hq.1 (by omega) y31) (fun m hm => by (try dsimp only at hm); (try dsimp only); omega)) h2_4 (by first | omega | (simp only [zuI_1, zuI_2, zuJ_1, zuJ_2, zuJ_3, zuP_1, zuP_2, zuP_3, zuC_1, zuC_2, reduceIte, Nat.reduceEqDiff, false_and, and_false, true_and, and_true, and_self, or_true, true_or, or_false, false_or]; omega))) (zwk_s rfl (zwk_s rfl (zwk_s rfl (zwk_s rfl zwk_0))))
  exact zs_wk (L2 _ _ _ (by omega) (by repeat (first | exact zsm_rf | assumption | refine zsm_C (by decide) ?_ | refine zsm_I (by decide) ?_ | refine zsm_J ?_ | refine zsm_c (by assumption) (by decide) ?_)) (fun j hj => rfl) (fun m hm => by (try dsimp only at hm); omega) rfl (Nat.lt_succ_self _)) (zwk_s rfl (zwk_s rfl (zwk_s rfl (zwk_s rfl zwk_0))))

set_option maxHeartbeats 4000000 in
set_option maxRecDepth 100000 in
theorem c_X9_takeW6 {l : Launch} {Γ : zΓ} {G : zH} {w bb : Nat} {q : Int} (hX : zXs Γ) (hq : 0 ≤ q ∧ q ≤ 0 ∧ q % 127 = 0) : zMet l Γ yX9_take cX9_take 4 none 0 [zr 10 w, zr 106 bb, zi q] G (zpv (fun G' => zsm [2081, 2082, 2083, 2084, 2085, 2086, 2087, 2088, 2089, 2090, 2094] G G' ∧ (tkA Γ w (tF 2106 bb q G) 20 G' ∧ tkB Γ w (tF 2106 bb q G) 5 G' ∧ tqK Γ w (tF 2106 bb q G) 60 G' ∧ tkS Γ w (tF 2106 bb q G) G' ∧ G'.2.1 = G.2.1))) := by
  refine zMet_of RX9 hX (by decide) rfl (Nat.le_of_ble_eq_true rfl) ?_
  intro p e s m args below meth c C hr hlk
  show Z p l e (zrm 0) s m args below meth c Γ 4 0 0 (MQ below (zQc Γ (zpv (fun G' => zsm [2081, 2082, 2083, 2084, 2085, 2086, 2087, 2088, 2089, 2090, 2094] G G' ∧ (tkA Γ w (tF 2106 bb q G) 20 G' ∧ tkB Γ w (tF 2106 bb q G) 5 G' ∧ tqK Γ w (tF 2106 bb q G) 60 G' ∧ tkS Γ w (tF 2106 bb q G) G' ∧ G'.2.1 = G.2.1)))) args s 0 0 (zA Γ)) 0 [some (zr 10 w), some (zr 106 bb), some (zi q), none] [] G
  refine zs_loc 2 rfl (fun ha2 hb2 => ?_)
  refine zs_iconst (pc := 0) C dX9_take_0 (by decide) ?_
  refine zs_istore_n (pc := 1) C dX9_take_1 (by decide) ?_
  dsimp only [zset, zclr, znone]
  have L2 : ∀ (nn : Nat) (x3 : Int) (G1 : zH), (0 ≤ x3 ∧ x3 ≤ 20) → (zsm [2081, 2082, 2083, 2084, 2085, 2086, 2087, 2088, 2089, 2090, 2094] G G1) → (tkA Γ w (tF 2106 bb q G) x3 G1) → (G1.2.1 = G.2.1) → (20 - x3).toNat < nn → Z p l e (zrm 0) s m args below meth c Γ 4 0 0 (MQ below (zQc Γ (zpv (fun G' => zsm [2081, 2082, 2083, 2084, 2085, 2086, 2087, 2088, 2089, 2090, 2094] G G' ∧ (tkA Γ w (tF 2106 bb q G) 20 G' ∧ tkB Γ w (tF 2106 bb q G) 5 G' ∧ tqK Γ w (tF 2106 bb q G) 60 G' ∧ tkS Γ w (tF 2106 bb q G) G' ∧ G'.2.1 = G.2.1)))) args s 0 0 (zA Γ)) 2 [some (zr 10 w), some (zr 106 bb), some (zi q), some (zi x3)] [] G1 := by
    intro nn
    induction nn with
    | zero => intro x3 G1 h2_0 h2_1 h2_2 h2_3 hm; exact absurd hm (Nat.not_lt_zero _)
    | succ nn ih2 =>
      intro x3 G1 h2_0 h2_1 h2_2 h2_3 hm2
      refine zs_iload_n (pc := 2) C dX9_take_2 rfl ?_
      refine zs_bipush (pc := 3) C dX9_take_3 (by decide) (by decide) ?_
      refine zs_icmp_ge (tgt := 39) (pc := 5) C dX9_take_5 (by decide) (fun h5 => ?_) (fun h5 => ?_)
      · skip
        refine zs_iconst (pc := 39) C dX9_take_39 (by decide) ?_
        refine zs_istore_n (pc := 40) C dX9_take_40 (by decide) ?_
        dsimp only [zset, zclr, znone]
        have L41 : ∀ (nn : Nat) (x3 : Int) (G2 : zH), (0 ≤ x3 ∧ x3 ≤ 5) → (zsm [2081, 2082, 2083, 2084, 2085, 2086, 2087, 2088, 2089, 2090, 2094] G G2) → (tkA Γ w (tF 2106 bb q G) 20 G2) → (tkB Γ w (tF 2106 bb q G) x3 G2) → (G2.2.1 = G.2.1) → (5 - x3).toNat < nn → Z p l e (zrm 0) s m args below meth c Γ 4 0 0 (MQ below (zQc Γ (zpv (fun G' => zsm [2081, 2082, 2083, 2084, 2085, 2086, 2087, 2088, 2089, 2090, 2094] G G' ∧ (tkA Γ w (tF 2106 bb q G) 20 G' ∧ tkB Γ w (tF 2106 bb q G) 5 G' ∧ tqK Γ w (tF 2106 bb q G) 60 G' ∧ tkS Γ w (tF 2106 bb q G) G' ∧ G'.2.1 = G.2.1)))) args s 0 0 (zA Γ)) 41 [some (zr 10 w), some (zr 106 bb), some (zi q), some (zi x3)] [] G2 := by
          intro nn
          induction nn with
          | zero => intro x3 G2 h41_0 h41_1 h41_2 h41_3 h41_4 hm; exact absurd hm (Nat.not_lt_zero _)
          | succ nn ih41 =>
            intro x3 G2 h41_0 h41_1 h41_2 h41_3 h41_4 hm41
            refine zs_iload_n (pc := 41) C dX9_take_41 rfl ?_
            refine zs_iconst (pc := 42) C dX9_take_42 (by decide) ?_
            refine zs_icmp_ge (tgt := 108) (pc := 43) C dX9_take_43 (by decide) (fun h43 => ?_) (fun h43 => ?_)
            · skip
              refine zs_iconst (pc := 108) C dX9_take_108 (by decide) ?_
              refine zs_istore_n (pc := 109) C dX9_take_109 (by decide) ?_
              dsimp only [zset, zclr, znone]
              have L110 : ∀ (nn : Nat) (x3 : Int) (G3 : zH), (0 ≤ x3 ∧ x3 ≤ 60) → (zsm [2081, 2082, 2083, 2084, 2085, 2086, 2087, 2088, 2089, 2090, 2094] G G3) → (tkA Γ w (tF 2106 bb q G) 20 G3) → (tkB Γ w (tF 2106 bb q G) 5 G3) → (tqK Γ w (tF 2106 bb q G) x3 G3) → (G3.2.1 = G.2.1) → (60 - x3).toNat < nn → Z p l e (zrm 0) s m args below meth c Γ 4 0 0 (MQ below (zQc Γ (zpv (fun G' => zsm [2081, 2082, 2083, 2084, 2085, 2086, 2087, 2088, 2089, 2090, 2094] G G' ∧ (tkA Γ w (tF 2106 bb q G) 20 G' ∧ tkB Γ w (tF 2106 bb q G) 5 G' ∧ tqK Γ w (tF 2106 bb q G) 60 G' ∧ tkS Γ w (tF 2106 bb q G) G' ∧ G'.2.1 = G.2.1)))) args s 0 0 (zA Γ)) 110 [some (zr 10 w), some (zr 106 bb), some (zi q), some (zi x3)] [] G3 := by
                intro nn
                induction nn with
                | zero => intro x3 G3 h110_0 h110_1 h110_2 h110_3 h110_4 h110_5 hm; exact absurd hm (Nat.not_lt_zero _)
                | succ nn ih110 =>
                  intro x3 G3 h110_0 h110_1 h110_2 h110_3 h110_4 h110_5 hm110
                  refine zs_iload_n (pc := 110) C dX9_take_110 rfl ?_
                  refine zs_bipush (pc := 111) C dX9_take_111 (by decide) (by decide) ?_
                  refine zs_icmp_ge (tgt := 136) (pc := 113) C dX9_take_113 (by decide) (fun h113 => ?_) (fun h113 => ?_)
                  · skip
                    refine zs_aload_n (pc := 136) C dX9_take_136 rfl ?_
                    refine zs_getf (pc := 137) C dX9_take_137 w_X9_106 f_10_57 (by decide) ?_
                    refine zs_iconst (pc := 140) C dX9_take_140 (by decide) ?_
                    refine zs_aload_n (pc := 141) C dX9_take_141 rfl ?_
                    refine zs_iload_n (pc := 142) C dX9_take_142 rfl ?_
                    refine zs_bipush (pc := 143) C dX9_take_143 (by decide) (by decide) ?_
                    first | refine zs_iadd (pc := 145) C dX9_take_145 (by omega) ?_ | refine zs_iaddF (pc := 145) C dX9_take_145 (fun z145 hz1451 hz1452 => ?_)
                    refine zs_iald (r := 2106) (pc := 146) C dX9_take_146 a_106 (by decide) (by omega) rfl (rg6_n (by omega)) (fun v146 e146 l146 u146 => ?_)
                    have y146 : v146 = (tF 2106 bb q G) 120 := (e146.trans (by rw [h110_1.1 2106 (by decide)])).trans (tF_at (x := 120) (by omega) (by omega))
                    refine zs_iast (r := 2087) (pc := 147) C dX9_take_147 a_87 (by decide) (by omega) rfl (r_2087 _) (by omega) ?_
                    refine zs_aload_n (pc := 148) C dX9_take_148 rfl ?_
                    refine zs_getf (pc := 149) C dX9_take_149 w_X9_109 f_10_58 (by decide) ?_
                    refine zs_iconst (pc := 152) C dX9_take_152 (by decide) ?_
                    refine zs_aload_n (pc := 153) C dX9_take_153 rfl ?_
                    refine zs_iload_n (pc := 154) C dX9_take_154 rfl ?_
                    refine zs_bipush (pc := 155) C dX9_take_155 (by decide) (by decide) ?_
                    first | refine zs_iadd (pc := 157) C dX9_take_157 (by omega) ?_ | refine zs_iaddF (pc := 157) C dX9_take_157 (fun z157 hz1571 hz1572 => ?_)
                    refine zs_iald (r := 2106) (pc := 158) C dX9_take_158 a_106 (by decide) (by omega) rfl (rg6_o (by omega)) (fun v158 e158 l158 u158 => ?_)
                    try simp only [zuI_1, zuI_2, zuJ_1, zuJ_2, zuJ_3, zuP_1, zuP_2, zuP_3, zuC_1, zuC_2, reduceIte, Nat.reduceEqDiff, false_and, and_false, true_and, and_true, and_self, or_true, true_or, or_false, false_or] at e158
                    have y158 : v158 = (tF 2106 bb q G) 121 := (e158.trans (by rw [h110_1.1 2106 (by decide)])).trans (tF_at (x := 121) (by omega) (by omega))
                    refine zs_iast (r := 2088) (pc := 159) C dX9_take_159 a_88 (by decide) (by omega) rfl (r_2088 _) (by omega) ?_
                    refine zs_aload_n (pc := 160) C dX9_take_160 rfl ?_
                    refine zs_getf (pc := 161) C dX9_take_161 w_X9_112 f_10_59 (by decide) ?_
                    refine zs_iconst (pc := 164) C dX9_take_164 (by decide) ?_
                    refine zs_aload_n (pc := 165) C dX9_take_165 rfl ?_
                    refine zs_iload_n (pc := 166) C dX9_take_166 rfl ?_
                    refine zs_bipush (pc := 167) C dX9_take_167 (by decide) (by decide) ?_
                    first | refine zs_iadd (pc := 169) C dX9_take_169 (by omega) ?_ | refine zs_iaddF (pc := 169) C dX9_take_169 (fun z169 hz1691 hz1692 => ?_)
                    refine zs_iald (r := 2106) (pc := 170) C dX9_take_170 a_106 (by decide) (by omega) rfl (rg6_o (by omega)) (fun v170 e170 l170 u170 => ?_)
                    try simp only [zuI_1, zuI_2, zuJ_1, zuJ_2, zuJ_3, zuP_1, zuP_2, zuP_3, zuC_1, zuC_2, reduceIte, Nat.reduceEqDiff, false_and, and_false, true_and, and_true, and_self, or_true, true_or, or_false, false_or] at e170
                    have y170 : v170 = (tF 2106 bb q G) 122 := (e170.trans (by rw [h110_1.1 2106 (by decide)])).trans (tF_at (x := 122) (by omega) (by omega))
                    refine zs_iast (r := 2089) (pc := 171) C dX9_take_171 a_89 (by decide) (by omega) rfl (r_2089 _) (by omega) ?_
                    refine zs_aload_n (pc := 172) C dX9_take_172 rfl ?_
                    refine zs_getf (pc := 173) C dX9_take_173 w_X9_115 f_10_60 (by decide) ?_
                    refine zs_iconst (pc := 176) C dX9_take_176 (by decide) ?_
                    refine zs_aload_n (pc := 177) C dX9_take_177 rfl ?_
                    refine zs_iload_n (pc := 178) C dX9_take_178 rfl ?_
                    refine zs_bipush (pc := 179) C dX9_take_179 (by decide) (by decide) ?_
                    first | refine zs_iadd (pc := 181) C dX9_take_181 (by omega) ?_ | refine zs_iaddF (pc := 181) C dX9_take_181 (fun z181 hz1811 hz1812 => ?_)
                    refine zs_iald (r := 2106) (pc := 182) C dX9_take_182 a_106 (by decide) (by omega) rfl (rg6_o (by omega)) (fun v182 e182 l182 u182 => ?_)
                    try simp only [zuI_1, zuI_2, zuJ_1, zuJ_2, zuJ_3, zuP_1, zuP_2, zuP_3, zuC_1, zuC_2, reduceIte, Nat.reduceEqDiff, false_and, and_false, true_and, and_true, and_self, or_true, true_or, or_false, false_or] at e182
                    have y182 : v182 = (tF 2106 bb q G) 123 := (e182.trans (by rw [h110_1.1 2106 (by decide)])).trans (tF_at (x := 123) (by omega) (by omega))
                    refine zs_iast (r := 2090) (pc := 183) C dX9_take_183 a_90 (by decide) (by omega) rfl (r_2090 _) (by omega) ?_
                    exact zs_vret (pc := 184) C hr hlk dX9_take_184 ⟨by repeat (first | exact zsm_rf | assumption | refine zsm_C (by decide) ?_ | refine zsm_I (by decide) ?_ | refine zsm_J ?_ | refine zsm_c (by assumption) (by decide) ?_), ⟨(by repeat (first | assumption | refine tkA_I (by decide) ?_ | refine tkB_I (by decide) ?_ | refine tqK_I (by decide) ?_)), (by repeat (first | assumption | refine tkA_I (by decide) ?_ | refine tkB_I (by decide) ?_ | refine tqK_I (by decide) ?_)), (by have e9 : x3 = 60 := (by omega); rw [e9] at h110_4; repeat (first | assumption | refine tkA_I (by decide) ?_ | refine tkB_I (by decide) ?_ | refine tqK_I (by decide) ?_)), ⟨(by simp only [zuI_1, zuI_2, zuJ_1, zuJ_2, zuJ_3, zuP_1, zuP_2, zuP_3, zuC_1, zuC_2, reduceIte, Nat.reduceEqDiff, false_and, and_false, true_and, and_true, and_self, or_true, true_or, or_false, false_or]; exact y146), (by simp only [zuI_1, zuI_2, zuJ_1, zuJ_2, zuJ_3, zuP_1, zuP_2, zuP_3, zuC_1, zuC_2, reduceIte, Nat.reduceEqDiff, false_and, and_false, true_and, and_true, and_self, or_true, true_or, or_false, false_or]; exact y158), (by simp only [zuI_1, zuI_2, zuJ_1, zuJ_2, zuJ_3, zuP_1, zuP_2, zuP_3, zuC_1, zuC_2, reduceIte, Nat.reduceEqDiff, false_and, and_false, true_and, and_true, and_self, or_true, true_or, or_false, false_or]; exact y170), (by simp only [zuI_1, zuI_2, zuJ_1, zuJ_2, zuJ_3, zuP_1, zuP_2, zuP_3, zuC_1, zuC_2, reduceIte, Nat.reduceEqDiff, false_and, and_false, true_and, and_true, and_self, or_true, true_or, or_false, false_or]; exact y182)⟩, h110_5⟩⟩
                  · skip
                    refine zs_aload_n (pc := 116) C dX9_take_116 rfl ?_
                    refine zs_getf (pc := 117) C dX9_take_117 w_X9_127 f_10_65 (by decide) ?_
                    refine zs_iload_n (pc := 120) C dX9_take_120 rfl ?_
                    refine zs_aload_n (pc := 121) C dX9_take_121 rfl ?_
                    refine zs_iload_n (pc := 122) C dX9_take_122 rfl ?_
                    refine zs_bipush (pc := 123) C dX9_take_123 (by decide) (by decide) ?_
                    first | refine zs_iadd (pc := 125) C dX9_take_125 (by omega) ?_ | refine zs_iaddF (pc := 125) C dX9_take_125 (fun z125 hz1251 hz1252 => ?_)
                    refine zs_iload_n (pc := 126) C dX9_take_126 rfl ?_
                    first | refine zs_iadd (pc := 127) C dX9_take_127 (by omega) ?_ | refine zs_iaddF (pc := 127) C dX9_take_127 (fun z127 hz1271 hz1272 => ?_)
                    refine zs_iald (r := 2106) (pc := 128) C dX9_take_128 a_106 (by decide) (by omega) rfl (rg6_h (by omega)) (fun v128 e128 l128 u128 => ?_)
                    have y128 : v128 = (tF 2106 bb q G) (60 + x3).toNat := (e128.trans (by rw [h110_1.1 2106 (by decide)])).trans (tF_at (by omega) (by omega))
                    refine zs_iast (r := 2094) (pc := 129) C dX9_take_129 a_94 (by decide) (by omega) rfl (r_2094 _) (by omega) ?_
                    first | refine zs_iinc (pc := 130) C dX9_take_130 rfl (by decide) (by omega) ?_ | refine zs_iincF (pc := 130) C dX9_take_130 rfl (by decide) (fun z130 hz1301 hz1302 => ?_)
                    dsimp only [zset, zclr, znone]
                    refine zs_goto (tgt := 110) (pc := 133) C dX9_take_133 (by decide) ?_
                    exact zs_wk (ih110 _ _ (by omega) (by repeat (first | exact zsm_rf | assumption | refine zsm_C (by decide) ?_ | refine zsm_I (by decide) ?_ | refine zsm_J ?_ | refine zsm_c (by assumption) (by decide) ?_)) (by repeat (first | assumption | refine tkA_I (by decide) ?_ | refine tkB_I (by decide) ?_ | refine tqK_I (by decide) ?_)) (by repeat (first | assumption | refine tkA_I (by decide) ?_ | refine tkB_I (by decide) ?_ | refine tqK_I (by decide) ?_)) (tqK_s (by omega) h110_4 y128) h110_5 (by first | omega | (simp only [zuI_1, zuI_2, zuJ_1, zuJ_2, zuJ_3, zuP_1, zuP_2, zuP_3, zuC_1, zuC_2, reduceIte, Nat.reduceEqDiff, false_and, and_false, true_and, and_true, and_self, or_true, true_or, or_false, false_or]; omega))) (zwk_s rfl (zwk_s rfl (zwk_s rfl (zwk_s rfl zwk_0))))
              exact zs_wk (L110 _ _ _ (by omega) (by repeat (first | exact zsm_rf | assumption | refine zsm_C (by decide) ?_ | refine zsm_I (by decide) ?_ | refine zsm_J ?_ | refine zsm_c (by assumption) (by decide) ?_)) h41_2 (by have e9 : x3 = 5 := (by omega); rw [← e9]; exact h41_3) (fun j hj => by omega) h41_4 (Nat.lt_succ_self _)) (zwk_s rfl (zwk_s rfl (zwk_s rfl (zwk_s rfl zwk_0))))
            · skip
              refine zs_aload_n (pc := 46) C dX9_take_46 rfl ?_
              refine zs_getf (pc := 47) C dX9_take_47 w_X9_94 f_10_53 (by decide) ?_
              refine zs_iload_n (pc := 50) C dX9_take_50 rfl ?_
              refine zs_aload_n (pc := 51) C dX9_take_51 rfl ?_
              refine zs_iload_n (pc := 52) C dX9_take_52 rfl ?_
              refine zs_bipush (pc := 53) C dX9_take_53 (by decide) (by decide) ?_
              first | refine zs_iadd (pc := 55) C dX9_take_55 (by omega) ?_ | refine zs_iaddF (pc := 55) C dX9_take_55 (fun z55 hz551 hz552 => ?_)
              refine zs_iload_n (pc := 56) C dX9_take_56 rfl ?_
              first | refine zs_iadd (pc := 57) C dX9_take_57 (by omega) ?_ | refine zs_iaddF (pc := 57) C dX9_take_57 (fun z57 hz571 hz572 => ?_)
              refine zs_iald (r := 2106) (pc := 58) C dX9_take_58 a_106 (by decide) (by omega) rfl (rg6_o (by omega)) (fun v58 e58 l58 u58 => ?_)
              have y58 : v58 = (tF 2106 bb q G) (40 + x3).toNat := (e58.trans (by rw [h41_1.1 2106 (by decide)])).trans (tF_at (by omega) (by omega))
              refine zs_iast (r := 2083) (pc := 59) C dX9_take_59 a_83 (by decide) (by omega) rfl (r_2083 _) (by omega) ?_
              refine zs_aload_n (pc := 60) C dX9_take_60 rfl ?_
              refine zs_getf (pc := 61) C dX9_take_61 w_X9_97 f_10_54 (by decide) ?_
              refine zs_iload_n (pc := 64) C dX9_take_64 rfl ?_
              refine zs_aload_n (pc := 65) C dX9_take_65 rfl ?_
              refine zs_iload_n (pc := 66) C dX9_take_66 rfl ?_
              refine zs_bipush (pc := 67) C dX9_take_67 (by decide) (by decide) ?_
              first | refine zs_iadd (pc := 69) C dX9_take_69 (by omega) ?_ | refine zs_iaddF (pc := 69) C dX9_take_69 (fun z69 hz691 hz692 => ?_)
              refine zs_iload_n (pc := 70) C dX9_take_70 rfl ?_
              first | refine zs_iadd (pc := 71) C dX9_take_71 (by omega) ?_ | refine zs_iaddF (pc := 71) C dX9_take_71 (fun z71 hz711 hz712 => ?_)
              refine zs_iald (r := 2106) (pc := 72) C dX9_take_72 a_106 (by decide) (by omega) rfl (rg6_o (by omega)) (fun v72 e72 l72 u72 => ?_)
              try simp only [zuI_1, zuI_2, zuJ_1, zuJ_2, zuJ_3, zuP_1, zuP_2, zuP_3, zuC_1, zuC_2, reduceIte, Nat.reduceEqDiff, false_and, and_false, true_and, and_true, and_self, or_true, true_or, or_false, false_or] at e72
              have y72 : v72 = (tF 2106 bb q G) (45 + x3).toNat := (e72.trans (by rw [h41_1.1 2106 (by decide)])).trans (tF_at (by omega) (by omega))
              refine zs_iast (r := 2084) (pc := 73) C dX9_take_73 a_84 (by decide) (by omega) rfl (r_2084 _) (by omega) ?_
              refine zs_aload_n (pc := 74) C dX9_take_74 rfl ?_
              refine zs_getf (pc := 75) C dX9_take_75 w_X9_100 f_10_55 (by decide) ?_
              refine zs_iload_n (pc := 78) C dX9_take_78 rfl ?_
              refine zs_aload_n (pc := 79) C dX9_take_79 rfl ?_
              refine zs_iload_n (pc := 80) C dX9_take_80 rfl ?_
              refine zs_bipush (pc := 81) C dX9_take_81 (by decide) (by decide) ?_
              first | refine zs_iadd (pc := 83) C dX9_take_83 (by omega) ?_ | refine zs_iaddF (pc := 83) C dX9_take_83 (fun z83 hz831 hz832 => ?_)
              refine zs_iload_n (pc := 84) C dX9_take_84 rfl ?_
              first | refine zs_iadd (pc := 85) C dX9_take_85 (by omega) ?_ | refine zs_iaddF (pc := 85) C dX9_take_85 (fun z85 hz851 hz852 => ?_)
              refine zs_iald (r := 2106) (pc := 86) C dX9_take_86 a_106 (by decide) (by omega) rfl (rg6_o (by omega)) (fun v86 e86 l86 u86 => ?_)
              try simp only [zuI_1, zuI_2, zuJ_1, zuJ_2, zuJ_3, zuP_1, zuP_2, zuP_3, zuC_1, zuC_2, reduceIte, Nat.reduceEqDiff, false_and, and_false, true_and, and_true, and_self, or_true, true_or, or_false, false_or] at e86
              have y86 : v86 = (tF 2106 bb q G) (50 + x3).toNat := (e86.trans (by rw [h41_1.1 2106 (by decide)])).trans (tF_at (by omega) (by omega))
              refine zs_iast (r := 2085) (pc := 87) C dX9_take_87 a_85 (by decide) (by omega) rfl (r_2085 _) (by omega) ?_
              refine zs_aload_n (pc := 88) C dX9_take_88 rfl ?_
              refine zs_getf (pc := 89) C dX9_take_89 w_X9_103 f_10_56 (by decide) ?_
              refine zs_iload_n (pc := 92) C dX9_take_92 rfl ?_
              refine zs_aload_n (pc := 93) C dX9_take_93 rfl ?_
              refine zs_iload_n (pc := 94) C dX9_take_94 rfl ?_
              refine zs_bipush (pc := 95) C dX9_take_95 (by decide) (by decide) ?_
              first | refine zs_iadd (pc := 97) C dX9_take_97 (by omega) ?_ | refine zs_iaddF (pc := 97) C dX9_take_97 (fun z97 hz971 hz972 => ?_)
              refine zs_iload_n (pc := 98) C dX9_take_98 rfl ?_
              first | refine zs_iadd (pc := 99) C dX9_take_99 (by omega) ?_ | refine zs_iaddF (pc := 99) C dX9_take_99 (fun z99 hz991 hz992 => ?_)
              refine zs_iald (r := 2106) (pc := 100) C dX9_take_100 a_106 (by decide) (by omega) rfl (rg6_o (by omega)) (fun v100 e100 l100 u100 => ?_)
              try simp only [zuI_1, zuI_2, zuJ_1, zuJ_2, zuJ_3, zuP_1, zuP_2, zuP_3, zuC_1, zuC_2, reduceIte, Nat.reduceEqDiff, false_and, and_false, true_and, and_true, and_self, or_true, true_or, or_false, false_or] at e100
              have y100 : v100 = (tF 2106 bb q G) (55 + x3).toNat := (e100.trans (by rw [h41_1.1 2106 (by decide)])).trans (tF_at (by omega) (by omega))
              refine zs_iast (r := 2086) (pc := 101) C dX9_take_101 a_86 (by decide) (by omega) rfl (r_2086 _) (by omega) ?_
              first | refine zs_iinc (pc := 102) C dX9_take_102 rfl (by decide) (by omega) ?_ | refine zs_iincF (pc := 102) C dX9_take_102 rfl (by decide) (fun z102 hz1021 hz1022 => ?_)
              dsimp only [zset, zclr, znone]
              refine zs_goto (tgt := 41) (pc := 105) C dX9_take_105 (by decide) ?_
              exact zs_wk (ih41 _ _ (by omega) (by repeat (first | exact zsm_rf | assumption | refine zsm_C (by decide) ?_ | refine zsm_I (by decide) ?_ | refine zsm_J ?_ | refine zsm_c (by assumption) (by decide) ?_)) (by repeat (first | assumption | refine tkA_I (by decide) ?_ | refine tkB_I (by decide) ?_ | refine tqK_I (by decide) ?_)) (tkB_s (by omega) h41_3 y58 y72 y86 y100) h41_4 (by first | omega | (simp only [zuI_1, zuI_2, zuJ_1, zuJ_2, zuJ_3, zuP_1, zuP_2, zuP_3, zuC_1, zuC_2, reduceIte, Nat.reduceEqDiff, false_and, and_false, true_and, and_true, and_self, or_true, true_or, or_false, false_or]; omega))) (zwk_s rfl (zwk_s rfl (zwk_s rfl (zwk_s rfl zwk_0))))
        exact zs_wk (L41 _ _ _ (by omega) (by repeat (first | exact zsm_rf | assumption | refine zsm_C (by decide) ?_ | refine zsm_I (by decide) ?_ | refine zsm_J ?_ | refine zsm_c (by assumption) (by decide) ?_)) (by have e9 : x3 = 20 := (by omega); rw [← e9]; exact h2_2) (fun j hj => by omega) h2_3 (Nat.lt_succ_self _)) (zwk_s rfl (zwk_s rfl (zwk_s rfl (zwk_s rfl zwk_0))))
      · skip
        refine zs_aload_n (pc := 8) C dX9_take_8 rfl ?_
        refine zs_getf (pc := 9) C dX9_take_9 w_X9_88 f_10_51 (by decide) ?_
        refine zs_iload_n (pc := 12) C dX9_take_12 rfl ?_
        refine zs_aload_n (pc := 13) C dX9_take_13 rfl ?_
        refine zs_iload_n (pc := 14) C dX9_take_14 rfl ?_
        refine zs_iload_n (pc := 15) C dX9_take_15 rfl ?_
        first | refine zs_iadd (pc := 16) C dX9_take_16 (by omega) ?_ | refine zs_iaddF (pc := 16) C dX9_take_16 (fun z16 hz161 hz162 => ?_)
        refine zs_iald (r := 2106) (pc := 17) C dX9_take_17 a_106 (by decide) (by omega) rfl (rg6_o (by omega)) (fun v17 e17 l17 u17 => ?_)
        have y17 : v17 = (tF 2106 bb q G) (x3).toNat := (e17.trans (by rw [h2_1.1 2106 (by decide)])).trans (tF_at (by omega) (by omega))
        refine zs_iast (r := 2081) (pc := 18) C dX9_take_18 a_81 (by decide) (by omega) rfl (r_2081 _) (by omega) ?_
        refine zs_aload_n (pc := 19) C dX9_take_19 rfl ?_
        refine zs_getf (pc := 20) C dX9_take_20 w_X9_91 f_10_52 (by decide) ?_
        refine zs_iload_n (pc := 23) C dX9_take_23 rfl ?_
        refine zs_aload_n (pc := 24) C dX9_take_24 rfl ?_
        refine zs_iload_n (pc := 25) C dX9_take_25 rfl ?_
        refine zs_bipush (pc := 26) C dX9_take_26 (by decide) (by decide) ?_
        first | refine zs_iadd (pc := 28) C dX9_take_28 (by omega) ?_ | refine zs_iaddF (pc := 28) C dX9_take_28 (fun z28 hz281 hz282 => ?_)
        refine zs_iload_n (pc := 29) C dX9_take_29 rfl ?_
        first | refine zs_iadd (pc := 30) C dX9_take_30 (by omega) ?_ | refine zs_iaddF (pc := 30) C dX9_take_30 (fun z30 hz301 hz302 => ?_)
        refine zs_iald (r := 2106) (pc := 31) C dX9_take_31 a_106 (by decide) (by omega) rfl (rg6_o (by omega)) (fun v31 e31 l31 u31 => ?_)
        try simp only [zuI_1, zuI_2, zuJ_1, zuJ_2, zuJ_3, zuP_1, zuP_2, zuP_3, zuC_1, zuC_2, reduceIte, Nat.reduceEqDiff, false_and, and_false, true_and, and_true, and_self, or_true, true_or, or_false, false_or] at e31
        have y31 : v31 = (tF 2106 bb q G) (20 + x3).toNat := (e31.trans (by rw [h2_1.1 2106 (by decide)])).trans (tF_at (by omega) (by omega))
        refine zs_iast (r := 2082) (pc := 32) C dX9_take_32 a_82 (by decide) (by omega) rfl (r_2082 _) (by omega) ?_
        first | refine zs_iinc (pc := 33) C dX9_take_33 rfl (by decide) (by omega) ?_ | refine zs_iincF (pc := 33) C dX9_take_33 rfl (by decide) (fun z33 hz331 hz332 => ?_)
        dsimp only [zset, zclr, znone]
        refine zs_goto (tgt := 2) (pc := 36) C dX9_take_36 (by decide) ?_
        exact zs_wk (ih2 _ _ (by omega) (by repeat (first | exact zsm_rf | assumption | refine zsm_C (by decide) ?_ | refine zsm_I (by decide) ?_ | refine zsm_J ?_ | refine zsm_c (by assumption) (by decide) ?_)) (tkA_s (by omega) h2_2 y17 y31) h2_3 (by first | omega | (simp only [zuI_1, zuI_2, zuJ_1, zuJ_2, zuJ_3, zuP_1, zuP_2, zuP_3, zuC_1, zuC_2, reduceIte, Nat.reduceEqDiff, false_and, and_false, true_and, and_true, and_self, or_true, true_or, or_false, false_or]; omega))) (zwk_s rfl (zwk_s rfl (zwk_s rfl (zwk_s rfl zwk_0))))
  exact zs_wk (L2 _ _ _ (by omega) (by repeat (first | exact zsm_rf | assumption | refine zsm_C (by decide) ?_ | refine zsm_I (by decide) ?_ | refine zsm_J ?_ | refine zsm_c (by assumption) (by decide) ?_)) (fun j hj => by omega) rfl (Nat.lt_succ_self _)) (zwk_s rfl (zwk_s rfl (zwk_s rfl (zwk_s rfl zwk_0))))
