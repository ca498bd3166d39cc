section
/-! a day, the best first -/
theorem wBest_ps {A W : aS} {t i p s : Int} (hp : 0 ≤ p) (hs : 0 ≤ s ∧ s ≤ 3) : wBest A W t i (p * 4 + (s + 1)).toNat = if (wBest A W t i (p * 4 + s).toNat).2 < (if 0 < W 12 (p * 4 + s).toNat then wUrge A W p s t i else 0) then (p * 4 + s, (if 0 < W 12 (p * 4 + s).toNat then wUrge A W p s t i else 0)) else wBest A W t i (p * 4 + s).toNat := by
  rw [show p * 4 + (s + 1) = (p * 4 + s) + 1 by omega, wBest_s (by omega), show (p * 4 + s) / 4 = p by omega, show (p * 4 + s) % 4 = s by omega]
theorem wBest_n {A W : aS} {t i p s x2 x3 : Int} (hp : 0 ≤ p) (hs : 0 ≤ s ∧ s ≤ 3) (h1 : x2 = (wBest A W t i (p * 4 + s).toNat).1) (h2 : x3 = (wBest A W t i (p * 4 + s).toNat).2) : (¬ x3 < (if 0 < W 12 (p * 4 + s).toNat then wUrge A W p s t i else 0) → x2 = (wBest A W t i (p * 4 + (s + 1)).toNat).1 ∧ x3 = (wBest A W t i (p * 4 + (s + 1)).toNat).2) ∧ (x3 < (if 0 < W 12 (p * 4 + s).toNat then wUrge A W p s t i else 0) → 4 * p + s = (wBest A W t i (p * 4 + (s + 1)).toNat).1 ∧ (if 0 < W 12 (p * 4 + s).toNat then wUrge A W p s t i else 0) = (wBest A W t i (p * 4 + (s + 1)).toNat).2) := by
  rw [wBest_ps hp hs, ← h2]
  generalize (if 0 < W 12 (p * 4 + s).toNat then wUrge A W p s t i else 0) = u at *
  refine ⟨fun h => ?_, fun h => ?_⟩
  · rw [if_neg h]; exact ⟨h1, h2⟩
  · rw [if_pos h]; exact ⟨by show 4 * p + s = p * 4 + s; omega, rfl⟩
theorem wBest_2 {A W : aS} {t i : Int} (m : Nat) : 0 ≤ (wBest A W t i m).2 := by
  rcases wBest_in (A := A) (W := W) (t := t) (i := i) m with h | h <;> omega
theorem wBest_z {A W : aS} {t i p n : Int} (hp : 0 ≤ p) (hn : 0 ≤ n) (h : ∀ s : Int, n ≤ s → s < 4 → ¬ 0 < W 12 (p * 4 + s).toNat) : ∀ m : Nat, n + m ≤ 4 → wBest A W t i (p * 4 + (n + m)).toNat = wBest A W t i (p * 4 + n).toNat
  | 0, _ => by rw [show n + ((0 : Nat) : Int) = n by omega]
  | m + 1, hm => by
    have q := wBest_2 (A := A) (W := W) (t := t) (i := i) (p * 4 + (n + m)).toNat
    rw [show n + ((m + 1 : Nat) : Int) = (n + m) + 1 by omega, wBest_ps hp (by omega), if_neg (h (n + m) (by omega) (by omega)), if_neg (by omega)]
    exact wBest_z hp hn h m (by omega)
theorem wBest_p {A W : aS} {t i p : Int} (hT : TA A) (hW : WI A W) (hp : 0 ≤ p ∧ p ≤ 4) : wBest A W t i ((p + 1) * 4).toNat = wBest A W t i (p * 4 + A 4 0).toNat := by
  have h0 := hT.1
  have q := wBest_z (A := A) (W := W) (t := t) (i := i) (p := p) (n := A 4 0) hp.1 h0.1 (fun s h1 h2 => by
    have q := hW.2.2.2.1 p.toNat s.toNat (by omega) (by omega)
    have q2 := hW.2.2.1 (p.toNat * 4 + s.toNat) (by omega)
    rw [show (p * 4 + s).toNat = p.toNat * 4 + s.toNat by omega]
    rcases q with q | q <;> omega) (4 - (A 4 0).toNat) (by omega)
  rw [show (p + 1) * 4 = p * 4 + (A 4 0 + ((4 - (A 4 0).toNat : Nat) : Int)) by omega]
  exact q
theorem wUrge_0 {A W : aS} {p s t i : Int} (h : (t = 1 ∧ p = i) ∨ (t = 2 ∧ s = i)) : wUrge A W p s t i = 0 := by
  unfold wUrge
  rw [if_pos h]
theorem wr_if {t : Int} : t = 0 ↔ (if t = 0 then (0 : Int) else 1) = 0 := by
  by_cases q : t = 0
  · rw [if_pos q]; exact ⟨fun _ => rfl, fun _ => q⟩
  · rw [if_neg q]; exact ⟨fun z => absurd z q, fun z => absurd z (by decide)⟩
/-- a day on a copy, with its cakes -/
def wGo (A : aS) (t i : Int) (W : aS) : aS := up (wBd A (A 4 2).toNat (wCod A W t i)) 18 0 (W 18 0 + 1)
theorem wGo_day {A W : aS} : wGo A (-1) 0 W = wDay A W := rfl
theorem wBake_f {A W : aS} {c : Int} {f j : Nat} (h5 : f ≠ 5) (h16 : f ≠ 16) (h17 : f ≠ 17) : (wBake A W c) f j = W f j := by
  unfold wBake
  split
  · rw [up_f h16, wTk_f h5 h17]
    exact wTk0_f h17 60
  · rfl
theorem wBake_no {A W : aS} {c : Int} (h : ¬ wCanB A W c) : wBake A W c = W := by
  unfold wBake
  rw [if_neg h]
theorem wBd_f {A W : aS} {f j : Nat} (h5 : f ≠ 5) (h16 : f ≠ 16) (h17 : f ≠ 17) : ∀ m : Nat, (wBd A m W) f j = W f j
  | 0 => rfl
  | m + 1 => by
    rw [wBd]
    split
    · rw [wBake_f h5 h16 h17]; exact wBd_f h5 h16 h17 m
    · exact wBd_f h5 h16 h17 m
theorem rS_W {Γ : zΓ} {w : Nat} {V W : aS} {G : zH} (e : ∀ f j : Nat, (f < 3 ∨ (6 ≤ f ∧ f ≤ 10) ∨ f = 22) → V f j = W f j) (h : rS Γ w W G) : rS Γ w V G := by
  obtain ⟨h1, h2⟩ := h
  refine ⟨?_, by rw [e 22 0 (by omega)]; exact h2⟩
  rw [e 0 0 (by omega)]
  intro k hk
  have q := h1 k hk
  unfold wLie at *
  rw [e 1 k (by omega), e 2 k (by omega), e 6 k (by omega), e 7 k (by omega), e 8 k (by omega), e 9 k (by omega), e 10 k (by omega), e 10 _ (by omega)]
  exact q
theorem rW_d {Γ : zΓ} {w : Nat} {b v : Int} {W : aS} {G : zH} (hb : b = 0 ∨ b = 1) (h : rW Γ w b W G) : rW Γ w b (up W 18 0 v) (zuI G 2090 (Γ.2.1 w 60) b.toNat v) := by
  obtain ⟨h1, h2, ⟨h3, h4, h5, h6⟩, h7⟩ := h
  have e : ∀ f j, f ≠ 18 → (up W 18 0 v) f j = W f j := fun f j hf => up_f hf
  have g : ∀ r a j, r ≠ 2090 → (zuI G 2090 (Γ.2.1 w 60) b.toNat v).1 r a j = G.1 r a j := fun r a j hr => by rw [zuI_1, if_neg (fun q => hr q.1)]
  refine ⟨fun j hj => ?_, fun j hj => ?_, ⟨?_, ?_, ?_, ?_⟩, ?_⟩
  · rw [g 2081 _ _ (by decide), g 2082 _ _ (by decide), e 11 j (by decide), e 12 j (by decide)]; exact h1 j hj
  · rw [g 2083 _ _ (by decide), g 2084 _ _ (by decide), g 2085 _ _ (by decide), g 2086 _ _ (by decide), e 13 j (by decide), e 14 j (by decide), e 15 j (by decide), e 16 j (by decide)]; exact h2 j hj
  · rw [g 2087 _ _ (by decide), e 0 0 (by decide)]; exact h3
  · rw [g 2088 _ _ (by decide), e 19 0 (by decide)]; exact h4
  · rw [g 2089 _ _ (by decide), e 20 0 (by decide)]; exact h5
  · rw [zuI_1, if_pos ⟨rfl, rfl, rfl⟩, up_eq]
  · rw [e 0 0 (by decide)]
    intro k hk
    rw [g 2093 _ _ (by decide), g 2094 _ _ (by decide), e 3 k (by decide), e 5 k (by decide)]
    exact h7 k hk
theorem wFlour_d {W : aS} {a v : Int} : wFlour (up W 18 0 v) a = wFlour W a := by
  unfold wFlour
  rw [up_f (by decide), up_fn (by decide), up_fn (by decide)]
/-! a run's flour: what a copy bakes is counted, the class bakes none -/
def wGos (A : aS) (t i : Int) : Nat → aS → aS
  | 0, W => W
  | m + 1, W => wGo A t i (wGos A t i m W)
theorem wGos_s {A W : aS} {t i k : Int} (h : 0 ≤ k) : wGos A t i (k + 1).toNat W = wGo A t i (wGos A t i k.toNat W) := by
  rw [show (k + 1).toNat = k.toNat + 1 by omega, wGos]
def wTal (A : aS) (t i a : Int) : Nat → aS → Int
  | 0, _ => 0
  | m + 1, W => wTal A t i a m W + (wFlour (wCod A (wGos A t i m W) t i) a - wFlour (wGo A t i (wGos A t i m W)) a)
theorem wTal_s {A W : aS} {t i a k : Int} (h : 0 ≤ k) : wTal A t i a (k + 1).toNat W = wTal A t i a k.toNat W + (wFlour (wCod A (wGos A t i k.toNat W) t i) a - wFlour (wGo A t i (wGos A t i k.toNat W)) a) := by
  rw [show (k + 1).toNat = k.toNat + 1 by omega, wTal]
/-- alike in all that a day's confession asks for -/
def wSm (V U : aS) : Prop := V 0 0 = U 0 0 ∧ (∀ j : Nat, j < 20 → V 12 j = U 12 j) ∧ (∀ j : Nat, j < 5 → V 13 j = U 13 j) ∧ V 18 0 = U 18 0 ∧ V 19 0 = U 19 0 ∧ V 20 0 = U 20 0
theorem sM_cg {f g : Nat → Int} {b : Nat} : ∀ m : Nat, (∀ j : Nat, j < m → f (b + j) = g (b + j)) → sM f b m = sM g b m
  | 0, _ => rfl
  | m + 1, h => by rw [sM, sM, sM_cg m (fun j hj => h j (by omega)), h m (by omega)]
theorem wNm_sm {A V U : aS} {p s : Int} (h : wSm V U) (hp : 0 ≤ p ∧ p ≤ 4) (hs : 0 ≤ s ∧ s ≤ 3) : wNm A V p s = wNm A U p s := by
  obtain ⟨h0, h12, h13, h18, h19, h20⟩ := h
  have e1 : wPr V p = wPr U p := sM_cg 4 (fun j hj => h12 _ (by omega))
  have e2 : wL V p s = wL U p s := h12 _ (by omega)
  funext j
  unfold wNm
  rw [h13 _ (by omega), h20, e1, e2, h18]
theorem wUrge_sm {A V U : aS} {p s t i : Int} (h : wSm V U) (hp : 0 ≤ p ∧ p ≤ 4) (hs : 0 ≤ s ∧ s ≤ 3) : wUrge A V p s t i = wUrge A U p s t i := by
  unfold wUrge wLaw
  rw [wNm_sm h hp hs]
theorem wBest_sm {A V U : aS} {t i : Int} (h : wSm V U) : ∀ m : Nat, m ≤ 20 → wBest A V t i m = wBest A U t i m
  | 0, _ => rfl
  | m + 1, hm => by
    rw [wBest, wBest, wBest_sm h m (by omega), h.2.1 m (by omega), wUrge_sm h (by omega) (by omega)]
theorem wFl_cg {F F' H H' : Nat → Int} {a : Int} : ∀ n : Nat, (∀ k : Nat, k < n → F k = F' k ∧ H k = H' k) → wFl F H a n = wFl F' H' a n
  | 0, _ => rfl
  | n + 1, h => by rw [wFl, wFl, wFl_cg n (fun k hk => h k (by omega)), (h n (by omega)).1, (h n (by omega)).2]
theorem wFlour_g {A W : aS} {p s wr a : Int} (hc : wCan W) (h0 : 0 ≤ W 0 0) : wFlour (wGrind A W p s wr) a = wFlour W a + (if a ≤ wFine A W p s then wPort A W else 0) := by
  obtain ⟨⟨e0, e1, e2, e3, e4, e5, -⟩, -⟩ := wGr_ev (A := A) (p := p) (s := s) (wr := wr) hc
  unfold wFlour
  rw [e0, show (W 0 0 + 1).toNat = (W 0 0).toNat + 1 by omega, wFl, e3, e5, if_pos rfl, if_pos rfl, wFl_cg (F' := W 3) (H' := W 5) (W 0 0).toNat (fun k hk => by rw [e3, e5, if_neg (by omega), if_neg (by omega)]; exact ⟨rfl, rfl⟩)]
theorem wCod_sm {A V U : aS} {t i a : Int} (hT : TA A) (hV : WI A V) (h : wSm V U) : wSm (wCod A V t i) (wCod A U t i) ∧ wFlour (wCod A V t i) a - wFlour V a = wFlour (wCod A U t i) a - wFlour U a := by
  have hA := hT.1
  have hb := wBest_sm (A := A) (t := t) (i := i) h (A 4 1 * 4).toNat (by omega)
  have hcan : wCan V ↔ wCan U := by unfold wCan; rw [h.1, h.2.2.2.2.1]
  unfold wCod
  rw [hb]
  by_cases q : wCan U ∧ (wBest A U t i (A 4 1 * 4).toNat).1 ≠ -1
  · rw [if_pos q, if_pos ⟨hcan.mpr q.1, q.2⟩]
    have hi := (wBest_in (A := A) (W := U) (t := t) (i := i) (A 4 1 * 4).toNat).resolve_left (fun z => q.2 z.1)
    generalize (wBest A U t i (A 4 1 * 4).toNat).1 = m at *
    have hp : 0 ≤ m / 4 ∧ m / 4 ≤ 4 := by omega
    have hs : 0 ≤ m % 4 ∧ m % 4 ≤ 3 := by omega
    have hn := wNm_sm (A := A) h hp hs
    have hf : wFine A V (m / 4) (m % 4) = wFine A U (m / 4) (m % 4) := by unfold wFine wLaw; rw [hn]
    have hw : wWear A V (m / 4) (m % 4) = wWear A U (m / 4) (m % 4) := by unfold wWear wLaw; rw [hn]
    have hp9 : wPort A V = wPort A U := by unfold wPort; rw [h.2.2.2.2.1]
    have hl : wL V (m / 4) (m % 4) = wL U (m / 4) (m % 4) := h.2.1 _ (by omega)
    refine ⟨?_, ?_⟩
    · obtain ⟨⟨e0, -⟩, e12, e13, -, e19, e20, ef⟩ := wGr_ev (A := A) (p := m / 4) (s := m % 4) (wr := if t = 0 then 0 else 1) (hcan.mpr q.1)
      obtain ⟨⟨g0, -⟩, g12, g13, -, g19, g20, gf⟩ := wGr_ev (A := A) (p := m / 4) (s := m % 4) (wr := if t = 0 then 0 else 1) q.1
      obtain ⟨h0, h12, h13, h18, h19, h20⟩ := h
      refine ⟨by rw [e0, g0, h0], fun j hj => by rw [e12, g12, hl, h12 j hj], fun j hj => by rw [e13, g13, h13 j hj], ?_, by rw [e19, g19, h19, hp9], by rw [e20, g20, h20, hw]⟩
      rw [ef 18 0 (by omega), gf 18 0 (by omega), h18]
    · rw [wFlour_g (hcan.mpr q.1) hV.1.1, wFlour_g q.1 (by rw [← h.1]; exact hV.1.1), hf, hp9]
      omega
  · rw [if_neg q, if_neg (fun z => q ⟨hcan.mp z.1, z.2⟩)]
    exact ⟨h, by omega⟩
theorem wSm_d {V U : aS} {v : Int} (h : wSm V U) : wSm (up V 18 0 v) (up U 18 0 v) := by
  obtain ⟨h0, h12, h13, h18, h19, h20⟩ := h
  have e : ∀ (X : aS) (f j : Nat), f ≠ 18 → (up X 18 0 v) f j = X f j := fun X f j hf => up_f hf
  refine ⟨by rw [e V 0 0 (by decide), e U 0 0 (by decide)]; exact h0, fun j hj => by rw [e V 12 j (by decide), e U 12 j (by decide)]; exact h12 j hj, fun j hj => by rw [e V 13 j (by decide), e U 13 j (by decide)]; exact h13 j hj, by rw [up_eq, up_eq], by rw [e V 19 0 (by decide), e U 19 0 (by decide)]; exact h19, by rw [e V 20 0 (by decide), e U 20 0 (by decide)]; exact h20⟩
theorem wSm_b {V U X : aS} (h : wSm V U) (e : ∀ f j : Nat, f ≠ 5 → f ≠ 16 → f ≠ 17 → X f j = V f j) : wSm X U := by
  obtain ⟨h0, h12, h13, h18, h19, h20⟩ := h
  exact ⟨(e 0 0 (by decide) (by decide) (by decide)).trans h0, fun j hj => (e 12 j (by decide) (by decide) (by decide)).trans (h12 j hj), fun j hj => (e 13 j (by decide) (by decide) (by decide)).trans (h13 j hj), (e 18 0 (by decide) (by decide) (by decide)).trans h18, (e 19 0 (by decide) (by decide) (by decide)).trans h19, (e 20 0 (by decide) (by decide) (by decide)).trans h20⟩
theorem WI_go {A W : aS} {t i : Int} (hT : TA A) (h : WI A W) (hd : W 18 0 < 100) : WI A (wGo A t i W) ∧ (wGo A t i W) 18 0 = W 18 0 + 1 := by
  have h0 := hT.1
  have h1 := WI_cod (t := t) (i := i) hT h
  have h2 := WI_bd hT h1.1 (A 4 2).toNat (by omega)
  have h5 := h.2.2.2.2.2.1
  unfold wGo
  exact ⟨WI_d h2.1 (by omega), up_eq⟩
theorem WI_gos {A W : aS} {t i : Int} (hT : TA A) (h : WI A W) : ∀ m : Nat, W 18 0 + m ≤ 100 → WI A (wGos A t i m W) ∧ (wGos A t i m W) 18 0 = W 18 0 + m
  | 0, _ => ⟨h, by show W 18 0 = W 18 0 + ((0 : Nat) : Int); omega⟩
  | m + 1, hm => by
    have q := WI_gos (t := t) (i := i) hT h m (by omega)
    have q2 := WI_go (t := t) (i := i) hT q.1 (by omega)
    rw [wGos]
    exact ⟨q2.1, by omega⟩
theorem wGos_try {A W U : aS} {t i a : Int} (hT : TA A) (hW : WI A W) (h : wSm W U) (hf : wFlour W a = wFlour U a) : ∀ m : Nat, W 18 0 + m ≤ 100 → wSm (wGos A t i m W) (wTry A t i m U) ∧ wFlour (wGos A t i m W) a + wTal A t i a m W = wFlour (wTry A t i m U) a
  | 0, _ => ⟨h, by show wFlour W a + 0 = wFlour U a; omega⟩
  | m + 1, hm => by
    obtain ⟨i1, i2⟩ := wGos_try (t := t) (i := i) hT hW h hf m (by omega)
    have q := WI_gos (t := t) (i := i) hT hW m (by omega)
    obtain ⟨c1, c2⟩ := wCod_sm (t := t) (i := i) (a := a) hT q.1 i1
    rw [wGos, wTal, wTry]
    refine ⟨?_, ?_⟩
    · unfold wGo
      rw [i1.2.2.2.1]
      exact wSm_d (wSm_b c1 (fun f j h5 h16 h17 => wBd_f h5 h16 h17 _))
    · rw [wFlour_d]; omega
theorem wFlour_in {A W : aS} (h : WI A W) (a : Int) : 0 ≤ wFlour W a ∧ wFlour W a ≤ 5940 := by
  have q : ∀ n : Nat, (n : Int) ≤ W 0 0 → 0 ≤ wFl (W 3) (W 5) a n ∧ wFl (W 3) (W 5) a n ≤ 99 * n := fun n => by
    induction n with
    | zero => intro _; exact ⟨Int.le_refl 0, Int.le_refl 0⟩
    | succ n ih =>
      intro hn
      have i := ih (by omega)
      have k := h.2.1 n (by omega)
      rw [wFl]
      split <;> omega
  have h0 := h.1
  have := q (W 0 0).toNat (by omega)
  unfold wFlour
  omega
theorem wSm_cp {U V : aS} (h : wCp U V) : wSm U V := ⟨h.1, fun j hj => (h.2.2.1 j hj).2, fun j hj => h.2.2.2.1 13 j (by decide) (by decide) hj, h.2.2.2.2 18 (by decide) (by decide), h.2.2.2.2 19 (by decide) (by decide), h.2.2.2.2 20 (by decide) (by decide)⟩
theorem wFlour_cp {U V : aS} (h : wCp U V) (h60 : V 0 0 ≤ 60) (a : Int) : wFlour U a = wFlour V a := by
  unfold wFlour
  rw [h.1]
  exact wFl_cg _ (fun k hk => ⟨h.2.1 3 k (by decide) (by decide) (by omega), h.2.1 5 k (by decide) (by decide) (by omega)⟩)
/-- works at the upper half, laid from the lower one -/
def rLy (Γ : zΓ) (w : Nat) (G G' : zH) : Prop := (∀ j : Nat, j < 20 → G'.1 2081 (Γ.2.1 w 51) (20 + j) = G.1 2081 (Γ.2.1 w 51) j ∧ G'.1 2082 (Γ.2.1 w 52) (20 + j) = G.1 2082 (Γ.2.1 w 52) j) ∧ (∀ j : Nat, j < 5 → G'.1 2083 (Γ.2.1 w 53) (5 + j) = G.1 2083 (Γ.2.1 w 53) j ∧ G'.1 2084 (Γ.2.1 w 54) (5 + j) = G.1 2084 (Γ.2.1 w 54) j ∧ G'.1 2085 (Γ.2.1 w 55) (5 + j) = G.1 2085 (Γ.2.1 w 55) j ∧ G'.1 2086 (Γ.2.1 w 56) (5 + j) = G.1 2086 (Γ.2.1 w 56) j) ∧ (G'.1 2087 (Γ.2.1 w 57) 1 = G.1 2087 (Γ.2.1 w 57) 0 ∧ G'.1 2088 (Γ.2.1 w 58) 1 = G.1 2088 (Γ.2.1 w 58) 0 ∧ G'.1 2089 (Γ.2.1 w 59) 1 = G.1 2089 (Γ.2.1 w 59) 0 ∧ G'.1 2090 (Γ.2.1 w 60) 1 = G.1 2090 (Γ.2.1 w 60) 0) ∧ ∀ k : Nat, (k : Int) < G.1 2087 (Γ.2.1 w 57) 0 → G'.1 2093 (Γ.2.1 w 64) (60 + k) = G.1 2093 (Γ.2.1 w 64) k ∧ G'.1 2094 (Γ.2.1 w 65) (60 + k) = G.1 2094 (Γ.2.1 w 65) k
theorem rW_ly {Γ : zΓ} {w : Nat} {W : aS} {G G' : zH} (hl : rLy Γ w G G') (h : rW Γ w 0 W G) : rW Γ w 1 W G' := by
  obtain ⟨l1, l2, ⟨l3, l4, l5, l6⟩, l7⟩ := hl
  obtain ⟨h1, h2, ⟨h3, h4, h5, h6⟩, h7⟩ := h
  refine ⟨fun j hj => ?_, fun j hj => ?_, ⟨l3.trans h3, l4.trans h4, l5.trans h5, l6.trans h6⟩, fun k hk => ?_⟩
  · have q := h1 j hj
    rw [show (20 * (1 : Int) + j).toNat = 20 + j by omega, (l1 j hj).1, (l1 j hj).2]
    rw [show (20 * (0 : Int) + j).toNat = j by omega] at q
    exact q
  · have q := h2 j hj
    obtain ⟨z1, z2, z3, z4⟩ := l2 j hj
    rw [show (5 * (1 : Int) + j).toNat = 5 + j by omega, z1, z2, z3, z4]
    rw [show (5 * (0 : Int) + j).toNat = j by omega] at q
    exact q
  · have q := h7 k hk
    have z := l7 k (by have e : G.1 2087 (Γ.2.1 w 57) 0 = W 0 0 := h3; rw [e]; exact hk)
    rw [show (60 * (1 : Int) + k).toNat = 60 + k by omega, z.1, z.2]
    rw [show (60 * (0 : Int) + k).toNat = k by omega] at q
    exact q

set_option maxHeartbeats 4000000 in
set_option maxRecDepth 100000 in
theorem c_X9_wantOfW0 {l : Launch} {Γ : zΓ} {G : zH} {w : Nat} {p s t i : Int} {A W : aS}  (hX : zXs Γ) (hp : 0 ≤ p ∧ p ≤ 4) (hs : 0 ≤ s ∧ s ≤ 3) (hR : rW Γ w 0 W G) (hK : kR Γ w A G) (hW : WI A W) (hT : TA A) (hs2 : s < A 4 0) (hp2 : p < A 4 1) (hway : G.1 1074 w 0 = t) (hnt : ¬ ((t = 1 ∧ p = i) ∨ (t = 2 ∧ s = i)))  : zMet l Γ yX9_wantOf cX9_wantOf 4 (some .long) 3 [zr 10 w, zi 0, zi p, zi s] G (zpj (fun x G' => zsm [1050] G G' ∧ (x = wUrge A W p s t i ∧ zsj [2079, 2080] G G'))) := by
  refine zMet_of RX9 hX (by decide) rfl (Nat.le_of_ble_eq_true rfl) ?_
  intro px9 e sx9 m args below meth c C hr hlk
  show Z px9 l e (zrm 3) sx9 m args below meth c Γ 4 0 0 (MQ below (zQc Γ (zpj (fun x G' => zsm [1050] G G' ∧ (x = wUrge A W p s t i ∧ zsj [2079, 2080] G G')))) args sx9 0 0 (zA Γ)) 0 [some (zr 10 w), some (zi 0), some (zi p), some (zi s)] [] G
  refine zs_loc 2 rfl (fun ha2 hb2 => ?_)
  refine zs_loc 3 rfl (fun ha3 hb3 => ?_)
  have kS := (hK.2.2.1 s.toNat (by omega)).2
  have hkl := kR_L hK (k := 2) (by omega)
  have h162 : A 16 (2 : Int).toNat = A 16 2 := rfl
  have h172 : A 17 (2 : Int).toNat = A 17 2 := rfl
  have hv6 := hT.2.1 s.toNat (by omega)
  have hur : wUrge A W p s t i = if t = 3 then 100 - A 6 s.toNat else if t = 4 ∨ ¬ A 16 2 < A 17 2 then A 6 s.toNat else if wLaw A W 2 p s = -9223372036854775808 then 0 else wLaw A W 2 p s := by unfold wUrge; rw [if_neg hnt]
  refine zs_aload_n (pc := 0) C dX9_wantOf_0 rfl ?_
  refine zs_geti (r := 1074) (pc := 1) C dX9_wantOf_1 w_X9_148 f_10_74 rfl (r_1074 0) (fun v1 e1 l1 u1 => ?_)
  refine zs_iconst (pc := 4) C dX9_wantOf_4 (by decide) ?_
  refine zs_icmp_ne (tgt := 20) (pc := 5) C dX9_wantOf_5 (by decide) (fun h5 => ?_) (fun h5 => ?_)
  · skip
    refine zs_aload_n (pc := 20) C dX9_wantOf_20 rfl ?_
    refine zs_geti (r := 1074) (pc := 21) C dX9_wantOf_21 w_X9_148 f_10_74 rfl (r_1074 0) (fun v21 e21 l21 u21 => ?_)
    refine zs_iconst (pc := 24) C dX9_wantOf_24 (by decide) ?_
    refine zs_icmp_eq (tgt := 37) (pc := 25) C dX9_wantOf_25 (by decide) (fun h25 => ?_) (fun h25 => ?_)
    · skip
      refine zs_aload_n (pc := 37) C dX9_wantOf_37 rfl ?_
      refine zs_getf (pc := 38) C dX9_wantOf_38 w_X9_30 f_10_25 (by decide) ?_
      refine zs_iload_n (pc := 41) C dX9_wantOf_41 rfl ?_
      refine zs_iald (r := 2062) (pc := 42) C dX9_wantOf_42 a_62 (by decide) (by omega) rfl (r_2062 _) (fun v42 e42 l42 u42 => ?_)
      have y42 : v42 = A 6 s.toNat := e42.trans kS
      refine zs_i2l (pc := 43) C dX9_wantOf_43 ?_
      exact zs_lret (pc := 44) C hr hlk dX9_wantOf_44 ⟨by repeat (first | exact zsm_rf | assumption | refine zsm_C (by decide) ?_ | refine zsm_I (by decide) ?_ | refine zsm_J ?_ | refine zsm_c (by assumption) (by decide) ?_), ⟨by rw [hur, if_neg (by omega), if_pos (by first | exact Or.inl (by omega) | exact Or.inr (fun z => by have := (hkl.1 z).1; omega))]; omega, zsj_rf⟩⟩
    · skip
      refine zs_aload_n (pc := 28) C dX9_wantOf_28 rfl ?_
      refine zs_getf (pc := 29) C dX9_wantOf_29 w_X9_57 f_10_34 (by decide) ?_
      refine zs_iconst (pc := 32) C dX9_wantOf_32 (by decide) ?_
      refine zs_zald (r := 2071) (pc := 33) C dX9_wantOf_33 a_71 (by decide) (by omega) rfl (r_2071 _) (fun v33 e33 l33 u33 => ?_)
      refine zs_if_ne (tgt := 45) (pc := 34) C dX9_wantOf_34 (by decide) (fun h34 => ?_) (fun h34 => ?_)
      · skip
        have hl2 : A 16 (2 : Int).toNat < A 17 (2 : Int).toNat := Decidable.byContradiction (fun z => by have := hkl.2 z; omega)
        refine zs_aload_n (pc := 45) C dX9_wantOf_45 rfl ?_
        refine zs_iload_n (pc := 46) C dX9_wantOf_46 rfl ?_
        refine zs_iload_n (pc := 47) C dX9_wantOf_47 rfl ?_
        refine zs_iload_n (pc := 48) C dX9_wantOf_48 rfl ?_
        refine zVv3 (pc := 49) C dX9_wantOf_49 v_X9_421 (c_X9_layOfW hX (Or.inl rfl) hp hs hR hK hW hT hs2 hp2) (by decide) (by decide) ⟨Nat.zero_le _, Nat.zero_le _⟩ (Nat.le_of_ble_eq_true rfl) (fun G49 hp49 => ?_)
        obtain ⟨hz49, hq49⟩ := hp49
        refine zs_aload_n (pc := 52) C dX9_wantOf_52 rfl ?_
        refine zs_iconst (pc := 53) C dX9_wantOf_53 (by decide) ?_
        refine zVj1 (pc := 54) C dX9_wantOf_54 v_X9_418 (c_X9_lawOfW (nm := wNm A W p s) hX (kR_sm hz49 (by decide) hK) hT.2.2.2.2.2.2 (by omega) hl2 hq49.1 (wNm_in hT hW hp hs ⟨hp2, hs2⟩)) (by decide) (by decide) ⟨Nat.zero_le _, Nat.zero_le _⟩ (Nat.le_of_ble_eq_true rfl) (fun x54 G54 l54 u54 hp54 => ?_)
        obtain ⟨hz54, hq54⟩ := hp54
        exact zs_lret (pc := 57) C hr hlk dX9_wantOf_57 ⟨by repeat (first | exact zsm_rf | assumption | refine zsm_C (by decide) ?_ | refine zsm_I (by decide) ?_ | refine zsm_J ?_ | refine zsm_c (by assumption) (by decide) ?_), ⟨by rw [hur, if_neg (by omega), if_neg (by rintro (q | q); omega; exact q hl2)]; exact hq54.2.1, zsj_c hq54.2.2 (by decide) (zsj_c hq49.2 (by decide) zsj_rf)⟩⟩
      · skip
        refine zs_aload_n (pc := 37) C dX9_wantOf_37 rfl ?_
        refine zs_getf (pc := 38) C dX9_wantOf_38 w_X9_30 f_10_25 (by decide) ?_
        refine zs_iload_n (pc := 41) C dX9_wantOf_41 rfl ?_
        refine zs_iald (r := 2062) (pc := 42) C dX9_wantOf_42 a_62 (by decide) (by omega) rfl (r_2062 _) (fun v42 e42 l42 u42 => ?_)
        have y42 : v42 = A 6 s.toNat := e42.trans kS
        refine zs_i2l (pc := 43) C dX9_wantOf_43 ?_
        exact zs_lret (pc := 44) C hr hlk dX9_wantOf_44 ⟨by repeat (first | exact zsm_rf | assumption | refine zsm_C (by decide) ?_ | refine zsm_I (by decide) ?_ | refine zsm_J ?_ | refine zsm_c (by assumption) (by decide) ?_), ⟨by rw [hur, if_neg (by omega), if_pos (by first | exact Or.inl (by omega) | exact Or.inr (fun z => by have := (hkl.1 z).1; omega))]; omega, zsj_rf⟩⟩
  · skip
    refine zs_ldc2 (n := 100) (pc := 8) C dX9_wantOf_8 q_X9_480 (by decide) (by decide) ?_
    refine zs_aload_n (pc := 11) C dX9_wantOf_11 rfl ?_
    refine zs_getf (pc := 12) C dX9_wantOf_12 w_X9_30 f_10_25 (by decide) ?_
    refine zs_iload_n (pc := 15) C dX9_wantOf_15 rfl ?_
    refine zs_iald (r := 2062) (pc := 16) C dX9_wantOf_16 a_62 (by decide) (by omega) rfl (r_2062 _) (fun v16 e16 l16 u16 => ?_)
    have y16 : v16 = A 6 s.toNat := e16.trans kS
    refine zs_i2l (pc := 17) C dX9_wantOf_17 ?_
    refine zs_lsubE (pc := 18) C dX9_wantOf_18 (by omega) ?_
    exact zs_lret (pc := 19) C hr hlk dX9_wantOf_19 ⟨by repeat (first | exact zsm_rf | assumption | refine zsm_C (by decide) ?_ | refine zsm_I (by decide) ?_ | refine zsm_J ?_ | refine zsm_c (by assumption) (by decide) ?_), ⟨by rw [hur, if_pos (by omega)]; omega, zsj_rf⟩⟩

set_option maxHeartbeats 4000000 in
set_option maxRecDepth 100000 in
theorem c_X9_wantOfW1 {l : Launch} {Γ : zΓ} {G : zH} {w : Nat} {p s t i : Int} {A W : aS}  (hX : zXs Γ) (hp : 0 ≤ p ∧ p ≤ 4) (hs : 0 ≤ s ∧ s ≤ 3) (hR : rW Γ w 1 W G) (hK : kR Γ w A G) (hW : WI A W) (hT : TA A) (hs2 : s < A 4 0) (hp2 : p < A 4 1) (hway : G.1 1074 w 0 = t) (hnt : ¬ ((t = 1 ∧ p = i) ∨ (t = 2 ∧ s = i)))  : zMet l Γ yX9_wantOf cX9_wantOf 4 (some .long) 3 [zr 10 w, zi 1, zi p, zi s] G (zpj (fun x G' => zsm [1050] G G' ∧ (x = wUrge A W p s t i ∧ zsj [2079, 2080] G G'))) := by
  refine zMet_of RX9 hX (by decide) rfl (Nat.le_of_ble_eq_true rfl) ?_
  intro px9 e sx9 m args below meth c C hr hlk
  show Z px9 l e (zrm 3) sx9 m args below meth c Γ 4 0 0 (MQ below (zQc Γ (zpj (fun x G' => zsm [1050] G G' ∧ (x = wUrge A W p s t i ∧ zsj [2079, 2080] G G')))) args sx9 0 0 (zA Γ)) 0 [some (zr 10 w), some (zi 1), some (zi p), some (zi s)] [] G
  refine zs_loc 2 rfl (fun ha2 hb2 => ?_)
  refine zs_loc 3 rfl (fun ha3 hb3 => ?_)
  have kS := (hK.2.2.1 s.toNat (by omega)).2
  have hkl := kR_L hK (k := 2) (by omega)
  have h162 : A 16 (2 : Int).toNat = A 16 2 := rfl
  have h172 : A 17 (2 : Int).toNat = A 17 2 := rfl
  have hv6 := hT.2.1 s.toNat (by omega)
  have hur : wUrge A W p s t i = if t = 3 then 100 - A 6 s.toNat else if t = 4 ∨ ¬ A 16 2 < A 17 2 then A 6 s.toNat else if wLaw A W 2 p s = -9223372036854775808 then 0 else wLaw A W 2 p s := by unfold wUrge; rw [if_neg hnt]
  refine zs_aload_n (pc := 0) C dX9_wantOf_0 rfl ?_
  refine zs_geti (r := 1074) (pc := 1) C dX9_wantOf_1 w_X9_148 f_10_74 rfl (r_1074 0) (fun v1 e1 l1 u1 => ?_)
  refine zs_iconst (pc := 4) C dX9_wantOf_4 (by decide) ?_
  refine zs_icmp_ne (tgt := 20) (pc := 5) C dX9_wantOf_5 (by decide) (fun h5 => ?_) (fun h5 => ?_)
  · skip
    refine zs_aload_n (pc := 20) C dX9_wantOf_20 rfl ?_
    refine zs_geti (r := 1074) (pc := 21) C dX9_wantOf_21 w_X9_148 f_10_74 rfl (r_1074 0) (fun v21 e21 l21 u21 => ?_)
    refine zs_iconst (pc := 24) C dX9_wantOf_24 (by decide) ?_
    refine zs_icmp_eq (tgt := 37) (pc := 25) C dX9_wantOf_25 (by decide) (fun h25 => ?_) (fun h25 => ?_)
    · skip
      refine zs_aload_n (pc := 37) C dX9_wantOf_37 rfl ?_
      refine zs_getf (pc := 38) C dX9_wantOf_38 w_X9_30 f_10_25 (by decide) ?_
      refine zs_iload_n (pc := 41) C dX9_wantOf_41 rfl ?_
      refine zs_iald (r := 2062) (pc := 42) C dX9_wantOf_42 a_62 (by decide) (by omega) rfl (r_2062 _) (fun v42 e42 l42 u42 => ?_)
      have y42 : v42 = A 6 s.toNat := e42.trans kS
      refine zs_i2l (pc := 43) C dX9_wantOf_43 ?_
      exact zs_lret (pc := 44) C hr hlk dX9_wantOf_44 ⟨by repeat (first | exact zsm_rf | assumption | refine zsm_C (by decide) ?_ | refine zsm_I (by decide) ?_ | refine zsm_J ?_ | refine zsm_c (by assumption) (by decide) ?_), ⟨by rw [hur, if_neg (by omega), if_pos (by first | exact Or.inl (by omega) | exact Or.inr (fun z => by have := (hkl.1 z).1; omega))]; omega, zsj_rf⟩⟩
    · skip
      refine zs_aload_n (pc := 28) C dX9_wantOf_28 rfl ?_
      refine zs_getf (pc := 29) C dX9_wantOf_29 w_X9_57 f_10_34 (by decide) ?_
      refine zs_iconst (pc := 32) C dX9_wantOf_32 (by decide) ?_
      refine zs_zald (r := 2071) (pc := 33) C dX9_wantOf_33 a_71 (by decide) (by omega) rfl (r_2071 _) (fun v33 e33 l33 u33 => ?_)
      refine zs_if_ne (tgt := 45) (pc := 34) C dX9_wantOf_34 (by decide) (fun h34 => ?_) (fun h34 => ?_)
      · skip
        have hl2 : A 16 (2 : Int).toNat < A 17 (2 : Int).toNat := Decidable.byContradiction (fun z => by have := hkl.2 z; omega)
        refine zs_aload_n (pc := 45) C dX9_wantOf_45 rfl ?_
        refine zs_iload_n (pc := 46) C dX9_wantOf_46 rfl ?_
        refine zs_iload_n (pc := 47) C dX9_wantOf_47 rfl ?_
        refine zs_iload_n (pc := 48) C dX9_wantOf_48 rfl ?_
        refine zVv3 (pc := 49) C dX9_wantOf_49 v_X9_421 (c_X9_layOfW hX (Or.inr rfl) hp hs hR hK hW hT hs2 hp2) (by decide) (by decide) ⟨Nat.zero_le _, Nat.zero_le _⟩ (Nat.le_of_ble_eq_true rfl) (fun G49 hp49 => ?_)
        obtain ⟨hz49, hq49⟩ := hp49
        refine zs_aload_n (pc := 52) C dX9_wantOf_52 rfl ?_
        refine zs_iconst (pc := 53) C dX9_wantOf_53 (by decide) ?_
        refine zVj1 (pc := 54) C dX9_wantOf_54 v_X9_418 (c_X9_lawOfW (nm := wNm A W p s) hX (kR_sm hz49 (by decide) hK) hT.2.2.2.2.2.2 (by omega) hl2 hq49.1 (wNm_in hT hW hp hs ⟨hp2, hs2⟩)) (by decide) (by decide) ⟨Nat.zero_le _, Nat.zero_le _⟩ (Nat.le_of_ble_eq_true rfl) (fun x54 G54 l54 u54 hp54 => ?_)
        obtain ⟨hz54, hq54⟩ := hp54
        exact zs_lret (pc := 57) C hr hlk dX9_wantOf_57 ⟨by repeat (first | exact zsm_rf | assumption | refine zsm_C (by decide) ?_ | refine zsm_I (by decide) ?_ | refine zsm_J ?_ | refine zsm_c (by assumption) (by decide) ?_), ⟨by rw [hur, if_neg (by omega), if_neg (by rintro (q | q); omega; exact q hl2)]; exact hq54.2.1, zsj_c hq54.2.2 (by decide) (zsj_c hq49.2 (by decide) zsj_rf)⟩⟩
      · skip
        refine zs_aload_n (pc := 37) C dX9_wantOf_37 rfl ?_
        refine zs_getf (pc := 38) C dX9_wantOf_38 w_X9_30 f_10_25 (by decide) ?_
        refine zs_iload_n (pc := 41) C dX9_wantOf_41 rfl ?_
        refine zs_iald (r := 2062) (pc := 42) C dX9_wantOf_42 a_62 (by decide) (by omega) rfl (r_2062 _) (fun v42 e42 l42 u42 => ?_)
        have y42 : v42 = A 6 s.toNat := e42.trans kS
        refine zs_i2l (pc := 43) C dX9_wantOf_43 ?_
        exact zs_lret (pc := 44) C hr hlk dX9_wantOf_44 ⟨by repeat (first | exact zsm_rf | assumption | refine zsm_C (by decide) ?_ | refine zsm_I (by decide) ?_ | refine zsm_J ?_ | refine zsm_c (by assumption) (by decide) ?_), ⟨by rw [hur, if_neg (by omega), if_pos (by first | exact Or.inl (by omega) | exact Or.inr (fun z => by have := (hkl.1 z).1; omega))]; omega, zsj_rf⟩⟩
  · skip
    refine zs_ldc2 (n := 100) (pc := 8) C dX9_wantOf_8 q_X9_480 (by decide) (by decide) ?_
    refine zs_aload_n (pc := 11) C dX9_wantOf_11 rfl ?_
    refine zs_getf (pc := 12) C dX9_wantOf_12 w_X9_30 f_10_25 (by decide) ?_
    refine zs_iload_n (pc := 15) C dX9_wantOf_15 rfl ?_
    refine zs_iald (r := 2062) (pc := 16) C dX9_wantOf_16 a_62 (by decide) (by omega) rfl (r_2062 _) (fun v16 e16 l16 u16 => ?_)
    have y16 : v16 = A 6 s.toNat := e16.trans kS
    refine zs_i2l (pc := 17) C dX9_wantOf_17 ?_
    refine zs_lsubE (pc := 18) C dX9_wantOf_18 (by omega) ?_
    exact zs_lret (pc := 19) C hr hlk dX9_wantOf_19 ⟨by repeat (first | exact zsm_rf | assumption | refine zsm_C (by decide) ?_ | refine zsm_I (by decide) ?_ | refine zsm_J ?_ | refine zsm_c (by assumption) (by decide) ?_), ⟨by rw [hur, if_pos (by omega)]; omega, zsj_rf⟩⟩
end
section
set_option maxHeartbeats 4000000 in
set_option maxRecDepth 100000 in
theorem c_X9_goesByW0 {l : Launch} {Γ : zΓ} {G : zH} {w : Nat} {A W : aS}  (hX : zXs Γ) (hR : rW Γ w 0 W G) (hK : kR Γ w A G) (hW : WI A W) (hT : TA A) (hS : rS Γ w W G) (hway : G.1 1074 w 0 = -1) (h100 : W 18 0 < 100)  : zMet l Γ yX9_goesBy cX9_goesBy 9 none 6 [zr 10 w, zi 0] G (zpv (fun G' => zsm [1050, 2091, 2092, 2093, 2094, 2095, 2096, 2097, 2098, 2099, 2100, 2088, 2087, 2082, 2084, 2083, 2089, 2086, 1073, 2090] G G' ∧ (rW Γ w 0 (wGo A (-1) 0 W) G' ∧ rS Γ w (wGo A (-1) 0 W) G' ∧ zsj [2079, 2080] G G'))) := by
  refine zMet_of RX9 hX (by decide) rfl (Nat.le_of_ble_eq_true rfl) ?_
  intro p e s m args below meth c C hr hlk
  show Z p l e (zrm 6) s m args below meth c Γ 9 0 0 (MQ below (zQc Γ (zpv (fun G' => zsm [1050, 2091, 2092, 2093, 2094, 2095, 2096, 2097, 2098, 2099, 2100, 2088, 2087, 2082, 2084, 2083, 2089, 2086, 1073, 2090] G G' ∧ (rW Γ w 0 (wGo A (-1) 0 W) G' ∧ rS Γ w (wGo A (-1) 0 W) G' ∧ zsj [2079, 2080] G G')))) args s 0 0 (zA Γ)) 0 [some (zr 10 w), some (zi 0), none, none, none, none, none, none, none] [] G
  have hT0 := hT.1
  have hL0 := hR.1
  obtain ⟨⟨k12, k13, k14, k15, k16⟩, kb, kS, kP, -, -, kC, kM, kO, kL, kN⟩ := id hK
  refine zs_iconst (pc := 0) C dX9_goesBy_0 (by decide) ?_
  refine zs_istore_n (pc := 1) C dX9_goesBy_1 (by decide) ?_
  dsimp only [zset, zclr, znone]
  refine zs_lconst (n := 0) (pc := 2) C dX9_goesBy_2 rfl (by decide) ?_
  refine zs_lstore_n (pc := 3) C dX9_goesBy_3 (by decide) ?_
  dsimp only [zset, zclr, znone]
  refine zs_iconst (pc := 4) C dX9_goesBy_4 (by decide) ?_
  refine zs_istore (pc := 5) C dX9_goesBy_5 (by decide) ?_
  dsimp only [zset, zclr, znone]
  have L7 : ∀ (nn : Nat) (x2 x3 x5 : Int) (G1 : zH), (0 ≤ x5 ∧ x5 ≤ A 4 1) → (x2 = (wBest A W (-1) 0 (x5 * 4).toNat).1) → (x3 = (wBest A W (-1) 0 (x5 * 4).toNat).2) → (zsm [1050] G G1) → (zsj [2079, 2080] G G1) → (5 - x5).toNat < nn → Z p l e (zrm 6) s m args below meth c Γ 9 0 0 (MQ below (zQc Γ (zpv (fun G' => zsm [1050, 2091, 2092, 2093, 2094, 2095, 2096, 2097, 2098, 2099, 2100, 2088, 2087, 2082, 2084, 2083, 2089, 2086, 1073, 2090] G G' ∧ (rW Γ w 0 (wGo A (-1) 0 W) G' ∧ rS Γ w (wGo A (-1) 0 W) G' ∧ zsj [2079, 2080] G G')))) args s 0 0 (zA Γ)) 7 [some (zr 10 w), some (zi 0), some (zi x2), some (zj x3), none, some (zi x5), none, none, none] [] G1 := by
    intro nn
    induction nn with
    | zero => intro x2 x3 x5 G1 h7_0 h7_1 h7_2 h7_3 h7_4 hm; exact absurd hm (Nat.not_lt_zero _)
    | succ nn ih7 =>
      intro x2 x3 x5 G1 h7_0 h7_1 h7_2 h7_3 h7_4 hm7
      refine zs_iload (pc := 7) C dX9_goesBy_7 rfl ?_
      refine zs_aload_n (pc := 9) C dX9_goesBy_9 rfl ?_
      refine zs_geti (r := 1013) (pc := 10) C dX9_goesBy_10 w_X9_261 f_10_13 rfl (r_1013 0) (fun v10 e10 l10 u10 => ?_)
      have y10 : v10 = A 4 1 := e10.trans (by rw [h7_3.1 1013 (by decide)]; exact k13)
      refine zs_icmp_ge (tgt := 121) (pc := 13) C dX9_goesBy_13 (by decide) (fun h13 => ?_) (fun h13 => ?_)
      · skip
        have J145 : ∀ (G5 : zH), (zsm [1050, 2091, 2092, 2093, 2094, 2095, 2096, 2097, 2098, 2099, 2100, 2088, 2087, 2082, 2084, 2083, 2089] G G5) → (rW Γ w 0 (wCod A W (-1) 0) G5) → (zsj [2079, 2080] G G5) → (rS Γ w (wCod A W (-1) 0) G5) → Z p l e (zrm 6) s m args below meth c Γ 9 0 0 (MQ below (zQc Γ (zpv (fun G' => zsm [1050, 2091, 2092, 2093, 2094, 2095, 2096, 2097, 2098, 2099, 2100, 2088, 2087, 2082, 2084, 2083, 2089, 2086, 1073, 2090] G G' ∧ (rW Γ w 0 (wGo A (-1) 0 W) G' ∧ rS Γ w (wGo A (-1) 0 W) G' ∧ zsj [2079, 2080] G G')))) args s 0 0 (zA Γ)) 145 [some (zr 10 w), some (zi 0), none, none, none, none, none, none, none] [] G5 := by
          intro G5 h145_0 h145_1 h145_2 h145_3
          have hWC := WI_cod (t := (-1)) (i := 0) hT hW
          refine zs_iconst (pc := 145) C dX9_goesBy_145 (by decide) ?_
          refine zs_istore (pc := 146) C dX9_goesBy_146 (by decide) ?_
          dsimp only [zset, zclr, znone]
          have L148 : ∀ (nn : Nat) (x5 : Int) (G6 : zH), (0 ≤ x5 ∧ x5 ≤ A 4 2) → (zsm [1050, 2091, 2092, 2093, 2094, 2095, 2096, 2097, 2098, 2099, 2100, 2088, 2087, 2082, 2084, 2083, 2089, 2086, 1073] G G6) → (rW Γ w 0 (wBd A x5.toNat (wCod A W (-1) 0)) G6) → (zsj [2079, 2080] G G6) → (rS Γ w (wCod A W (-1) 0) G6) → (5 - x5).toNat < nn → Z p l e (zrm 6) s m args below meth c Γ 9 0 0 (MQ below (zQc Γ (zpv (fun G' => zsm [1050, 2091, 2092, 2093, 2094, 2095, 2096, 2097, 2098, 2099, 2100, 2088, 2087, 2082, 2084, 2083, 2089, 2086, 1073, 2090] G G' ∧ (rW Γ w 0 (wGo A (-1) 0 W) G' ∧ rS Γ w (wGo A (-1) 0 W) G' ∧ zsj [2079, 2080] G G')))) args s 0 0 (zA Γ)) 148 [some (zr 10 w), some (zi 0), none, none, none, some (zi x5), none, none, none] [] G6 := by
            intro nn
            induction nn with
            | zero => intro x5 G6 h148_0 h148_1 h148_2 h148_3 h148_4 hm; exact absurd hm (Nat.not_lt_zero _)
            | succ nn ih148 =>
              intro x5 G6 h148_0 h148_1 h148_2 h148_3 h148_4 hm148
              refine zs_iload (pc := 148) C dX9_goesBy_148 rfl ?_
              refine zs_aload_n (pc := 150) C dX9_goesBy_150 rfl ?_
              refine zs_geti (r := 1014) (pc := 151) C dX9_goesBy_151 w_X9_264 f_10_14 rfl (r_1014 0) (fun v151 e151 l151 u151 => ?_)
              have y151 : v151 = A 4 2 := e151.trans (by rw [h148_1.1 1014 (by decide)]; exact k14)
              refine zs_icmp_ge (tgt := 196) (pc := 154) C dX9_goesBy_154 (by decide) (fun h154 => ?_) (fun h154 => ?_)
              · skip
                have hx5 : x5 = A 4 2 := by omega
                rw [hx5] at h148_2
                have hbe := WI_bd hT hWC.1 (A 4 2).toNat (by omega)
                obtain ⟨-, -, ⟨-, -, -, q6⟩, -⟩ := id h148_2
                have hd18 := hW.2.2.2.2.2.1
                refine zs_aload_n (pc := 196) C dX9_goesBy_196 rfl ?_
                refine zs_getf (pc := 197) C dX9_goesBy_197 w_X9_115 f_10_60 (by decide) ?_
                refine zs_iload_n (pc := 200) C dX9_goesBy_200 rfl ?_
                refine zs_dup2 (pc := 201) C dX9_goesBy_201 ?_
                refine zs_iald (r := 2090) (pc := 202) C dX9_goesBy_202 a_90 (by decide) (by omega) rfl (r_2090 _) (fun v202 e202 l202 u202 => ?_)
                have y202 : v202 = W 18 0 := (e202.trans q6).trans (hbe.2.trans hWC.2)
                refine zs_iconst (pc := 203) C dX9_goesBy_203 (by decide) ?_
                first | refine zs_iadd (pc := 204) C dX9_goesBy_204 (by omega) ?_ | refine zs_iaddF (pc := 204) C dX9_goesBy_204 (fun z204 hz2041 hz2042 => ?_)
                refine zs_iast (r := 2090) (pc := 205) C dX9_goesBy_205 a_90 (by decide) (by omega) rfl (r_2090 _) (by omega) ?_
                exact zs_vret (pc := 206) C hr hlk dX9_goesBy_206 ⟨by repeat (first | exact zsm_rf | assumption | refine zsm_C (by decide) ?_ | refine zsm_I (by decide) ?_ | refine zsm_J ?_ | refine zsm_c (by assumption) (by decide) ?_), ⟨(by have q := rW_d (v := v202 + 1) (by decide) h148_2; rw [y202] at q ⊢; exact q), (rS_sm (rs := [2090]) (zsm_I (by simp) zsm_rf) (by decide) (rS_W (fun f j hf => (up_f (by omega)).trans (wBd_f (by omega) (by omega) (by omega) _)) h148_4)), (by repeat (first | exact zsj_rf | assumption | refine zsj_I ?_ | refine zsj_J (by decide) ?_ | refine zsj_e (by assumption) ?_ | refine zsj_c (by assumption) (by decide) ?_))⟩⟩
              · skip
                have hbd := WI_bd hT hWC.1 x5.toNat (by omega)
                have hbs := wBd_s (A := A) (W := (wCod A W (-1) 0)) (k := x5) (by omega)
                have hK6 : kR Γ w A G6 := kR_sm h148_1 (by decide) hK
                obtain ⟨-, -, ⟨-, -, -, q6⟩, -⟩ := id h148_2
                have k6 := (hK6.2.2.2.2.2.2.1 x5.toNat (by omega)).2.2.2
                refine zs_aload_n (pc := 157) C dX9_goesBy_157 rfl ?_
                refine zs_getf (pc := 158) C dX9_goesBy_158 w_X9_51 f_10_32 (by decide) ?_
                refine zs_iload (pc := 161) C dX9_goesBy_161 rfl ?_
                refine zs_iald (r := 2069) (pc := 163) C dX9_goesBy_163 a_69 (by decide) (by omega) rfl (r_2069 _) (fun v163 e163 l163 u163 => ?_)
                refine zs_aload_n (pc := 164) C dX9_goesBy_164 rfl ?_
                refine zs_getf (pc := 165) C dX9_goesBy_165 w_X9_115 f_10_60 (by decide) ?_
                refine zs_iload_n (pc := 168) C dX9_goesBy_168 rfl ?_
                refine zs_iald (r := 2090) (pc := 169) C dX9_goesBy_169 a_90 (by decide) (by omega) rfl (r_2090 _) (fun v169 e169 l169 u169 => ?_)
                have y163 : v163 = A 11 x5.toNat := e163.trans k6
                have y169 : v169 = (wBd A x5.toNat (wCod A W (-1) 0)) 18 0 := e169.trans q6
                refine zs_icmp_ne (tgt := 190) (pc := 170) C dX9_goesBy_170 (by decide) (fun h170 => ?_) (fun h170 => ?_)
                · skip
                  rw [if_neg (by omega)] at hbs
                  have hRn : rW Γ w 0 (wBd A (x5 + 1).toNat (wCod A W (-1) 0)) G6 := by rw [hbs]; exact h148_2
                  first | refine zs_iinc (pc := 190) C dX9_goesBy_190 rfl (by decide) (by omega) ?_ | refine zs_iincF (pc := 190) C dX9_goesBy_190 rfl (by decide) (fun z190 hz1901 hz1902 => ?_)
                  dsimp only [zset, zclr, znone]
                  refine zs_goto (tgt := 148) (pc := 193) C dX9_goesBy_193 (by decide) ?_
                  exact zs_wk (ih148 _ _ (by omega) (by repeat (first | exact zsm_rf | assumption | refine zsm_C (by decide) ?_ | refine zsm_I (by decide) ?_ | refine zsm_J ?_ | refine zsm_c (by assumption) (by decide) ?_)) hRn (by repeat (first | exact zsj_rf | assumption | refine zsj_I ?_ | refine zsj_J (by decide) ?_ | refine zsj_e (by assumption) ?_ | refine zsj_c (by assumption) (by decide) ?_)) (by first | exact rS_sm hz187 (by decide) h148_4 | exact h148_4) (by first | omega | (simp only [zuI_1, zuI_2, zuJ_1, zuJ_2, zuJ_3, zuP_1, zuP_2, zuP_3, zuC_1, zuC_2, reduceIte, Nat.reduceEqDiff, false_and, and_false, true_and, and_true, and_self, or_true, true_or, or_false, false_or]; omega))) (zwk_s rfl (zwk_s rfl (zwk_n (zwk_n (zwk_n (zwk_s rfl (zwk_n (zwk_n (zwk_n zwk_0)))))))))
                · skip
                  refine zs_aload_n (pc := 173) C dX9_goesBy_173 rfl ?_
                  refine zs_iload_n (pc := 174) C dX9_goesBy_174 rfl ?_
                  refine zs_iload (pc := 175) C dX9_goesBy_175 rfl ?_
                  refine zVip2 (pc := 177) C dX9_goesBy_177 v_X9_474 (c_X9_canBakeW0 hX (by omega) h148_2 hK6 hbd.1 hT) (by decide) (by decide) ⟨Nat.zero_le _, Nat.zero_le _⟩ (Nat.le_of_ble_eq_true rfl) (fun x177 l177 u177 hp177 => ?_)
                  have hq177 := hp177
                  refine zs_if_eq (tgt := 190) (pc := 180) C dX9_goesBy_180 (by decide) (fun h180 => ?_) (fun h180 => ?_)
                  · skip
                    have hnb : ¬ wCanB A (wBd A x5.toNat (wCod A W (-1) 0)) x5 := fun q => by have := hq177.2.mpr ⟨by omega, q⟩; omega
                    rw [if_pos (by omega), wBake_no hnb] at hbs
                    have hRn : rW Γ w 0 (wBd A (x5 + 1).toNat (wCod A W (-1) 0)) G6 := by rw [hbs]; exact h148_2
                    first | refine zs_iinc (pc := 190) C dX9_goesBy_190 rfl (by decide) (by omega) ?_ | refine zs_iincF (pc := 190) C dX9_goesBy_190 rfl (by decide) (fun z190 hz1901 hz1902 => ?_)
                    dsimp only [zset, zclr, znone]
                    refine zs_goto (tgt := 148) (pc := 193) C dX9_goesBy_193 (by decide) ?_
                    exact zs_wk (ih148 _ _ (by omega) (by repeat (first | exact zsm_rf | assumption | refine zsm_C (by decide) ?_ | refine zsm_I (by decide) ?_ | refine zsm_J ?_ | refine zsm_c (by assumption) (by decide) ?_)) hRn (by repeat (first | exact zsj_rf | assumption | refine zsj_I ?_ | refine zsj_J (by decide) ?_ | refine zsj_e (by assumption) ?_ | refine zsj_c (by assumption) (by decide) ?_)) (by first | exact rS_sm hz187 (by decide) h148_4 | exact h148_4) (by first | omega | (simp only [zuI_1, zuI_2, zuJ_1, zuJ_2, zuJ_3, zuP_1, zuP_2, zuP_3, zuC_1, zuC_2, reduceIte, Nat.reduceEqDiff, false_and, and_false, true_and, and_true, and_self, or_true, true_or, or_false, false_or]; omega))) (zwk_s rfl (zwk_s rfl (zwk_n (zwk_n (zwk_n (zwk_s rfl (zwk_n (zwk_n (zwk_n zwk_0)))))))))
                  · skip
                    have hcb : wCanB A (wBd A x5.toNat (wCod A W (-1) 0)) x5 := (hq177.2.mp (by omega)).2
                    refine zs_aload_n (pc := 183) C dX9_goesBy_183 rfl ?_
                    refine zs_iload_n (pc := 184) C dX9_goesBy_184 rfl ?_
                    refine zs_iload (pc := 185) C dX9_goesBy_185 rfl ?_
                    refine zVv2 (pc := 187) C dX9_goesBy_187 v_X9_477 (c_X9_bakesW0 hX (by omega) h148_2 hK6 hbd.1 hT hcb) (by decide) (by decide) ⟨Nat.zero_le _, Nat.zero_le _⟩ (Nat.le_of_ble_eq_true rfl) (fun G187 hp187 => ?_)
                    obtain ⟨hz187, hq187⟩ := hp187
                    rw [if_pos (by omega)] at hbs
                    have hRn : rW Γ w 0 (wBd A (x5 + 1).toNat (wCod A W (-1) 0)) G187 := by rw [hbs]; exact hq187.1
                    have hj187 := hq187.2.2
                    first | refine zs_iinc (pc := 190) C dX9_goesBy_190 rfl (by decide) (by omega) ?_ | refine zs_iincF (pc := 190) C dX9_goesBy_190 rfl (by decide) (fun z190 hz1901 hz1902 => ?_)
                    dsimp only [zset, zclr, znone]
                    refine zs_goto (tgt := 148) (pc := 193) C dX9_goesBy_193 (by decide) ?_
                    exact zs_wk (ih148 _ _ (by omega) (by repeat (first | exact zsm_rf | assumption | refine zsm_C (by decide) ?_ | refine zsm_I (by decide) ?_ | refine zsm_J ?_ | refine zsm_c (by assumption) (by decide) ?_)) hRn (by repeat (first | exact zsj_rf | assumption | refine zsj_I ?_ | refine zsj_J (by decide) ?_ | refine zsj_e (by assumption) ?_ | refine zsj_c (by assumption) (by decide) ?_)) (by first | exact rS_sm hz187 (by decide) h148_4 | exact h148_4) (by first | omega | (simp only [zuI_1, zuI_2, zuJ_1, zuJ_2, zuJ_3, zuP_1, zuP_2, zuP_3, zuC_1, zuC_2, reduceIte, Nat.reduceEqDiff, false_and, and_false, true_and, and_true, and_self, or_true, true_or, or_false, false_or]; omega))) (zwk_s rfl (zwk_s rfl (zwk_n (zwk_n (zwk_n (zwk_s rfl (zwk_n (zwk_n (zwk_n zwk_0)))))))))
          exact zs_wk (L148 _ _ _ (by omega) (by repeat (first | exact zsm_rf | assumption | refine zsm_C (by decide) ?_ | refine zsm_I (by decide) ?_ | refine zsm_J ?_ | refine zsm_c (by assumption) (by decide) ?_)) (by exact h145_1) (by repeat (first | exact zsj_rf | assumption | refine zsj_I ?_ | refine zsj_J (by decide) ?_ | refine zsj_e (by assumption) ?_ | refine zsj_c (by assumption) (by decide) ?_)) h145_3 (Nat.lt_succ_self _)) (zwk_s rfl (zwk_s rfl (zwk_n (zwk_n (zwk_n (zwk_s rfl (zwk_n (zwk_n (zwk_n zwk_0)))))))))
        have hx5 : x5 = A 4 1 := by omega
        rw [hx5] at h7_1 h7_2
        have hbi := wBest_in (A := A) (W := W) (t := (-1)) (i := 0) (A 4 1 * 4).toNat
        rw [← h7_1, ← h7_2] at hbi
        have hWC := WI_cod (t := (-1)) (i := 0) hT hW
        have hR1 : rW Γ w 0 W G1 := rW_sm h7_3 (by decide) hR
        have hK1 : kR Γ w A G1 := kR_sm h7_3 (by decide) hK
        have hS1 : rS Γ w W G1 := rS_sm h7_3 (by decide) hS
        refine zs_iload_n (pc := 121) C dX9_goesBy_121 rfl ?_
        refine zs_if_lt (tgt := 145) (pc := 122) C dX9_goesBy_122 (by decide) (fun h122 => ?_) (fun h122 => ?_)
        · skip
          have hcd : (wCod A W (-1) 0) = W := by unfold wCod; rw [if_neg (fun q => q.2 (by rw [← h7_1]; omega))]
          have hRn : rW Γ w 0 (wCod A W (-1) 0) G1 := by rw [hcd]; exact hR1
          have hSn : rS Γ w (wCod A W (-1) 0) G1 := by rw [hcd]; exact hS1
          exact zs_wk (J145 _ (by repeat (first | exact zsm_rf | assumption | refine zsm_C (by decide) ?_ | refine zsm_I (by decide) ?_ | refine zsm_J ?_ | refine zsm_c (by assumption) (by decide) ?_)) hRn (by repeat (first | exact zsj_rf | assumption | refine zsj_I ?_ | refine zsj_J (by decide) ?_ | refine zsj_e (by assumption) ?_ | refine zsj_c (by assumption) (by decide) ?_)) hSn) (zwk_s rfl (zwk_s rfl (zwk_n (zwk_n (zwk_n (zwk_n (zwk_n (zwk_n (zwk_n zwk_0)))))))))
        · skip
          refine zs_aload_n (pc := 125) C dX9_goesBy_125 rfl ?_
          refine zs_iload_n (pc := 126) C dX9_goesBy_126 rfl ?_
          refine zVip1 (pc := 127) C dX9_goesBy_127 v_X9_439 (c_X9_canGrindW hX (Or.inl rfl) hR1) (by decide) (by decide) ⟨Nat.zero_le _, Nat.zero_le _⟩ (Nat.le_of_ble_eq_true rfl) (fun x127 l127 u127 hp127 => ?_)
          have hq127 := hp127
          refine zs_if_eq (tgt := 145) (pc := 130) C dX9_goesBy_130 (by decide) (fun h130 => ?_) (fun h130 => ?_)
          · skip
            have hcd : (wCod A W (-1) 0) = W := by unfold wCod; rw [if_neg (fun q => by have := hq127.2.mpr q.1; omega)]
            have hRn : rW Γ w 0 (wCod A W (-1) 0) G1 := by rw [hcd]; exact hR1
            have hSn : rS Γ w (wCod A W (-1) 0) G1 := by rw [hcd]; exact hS1
            exact zs_wk (J145 _ (by repeat (first | exact zsm_rf | assumption | refine zsm_C (by decide) ?_ | refine zsm_I (by decide) ?_ | refine zsm_J ?_ | refine zsm_c (by assumption) (by decide) ?_)) hRn (by repeat (first | exact zsj_rf | assumption | refine zsj_I ?_ | refine zsj_J (by decide) ?_ | refine zsj_e (by assumption) ?_ | refine zsj_c (by assumption) (by decide) ?_)) hSn) (zwk_s rfl (zwk_s rfl (zwk_n (zwk_n (zwk_n (zwk_n (zwk_n (zwk_n (zwk_n zwk_0)))))))))
          · skip
            have hcan : wCan W := hq127.2.mp (by omega)
            have hps := WI_ps hW (m := x2) (by omega) (by omega)
            have hcd : (wCod A W (-1) 0) = wGrind A W (x2 / 4) (x2 % 4) (if (-1) = 0 then 0 else 1) := by unfold wCod; rw [← h7_1, if_pos ⟨hcan, by omega⟩]
            refine zs_aload_n (pc := 133) C dX9_goesBy_133 rfl ?_
            refine zs_iload_n (pc := 134) C dX9_goesBy_134 rfl ?_
            refine zs_iload_n (pc := 135) C dX9_goesBy_135 rfl ?_
            refine zs_iconst (pc := 136) C dX9_goesBy_136 (by decide) ?_
            first | refine zs_idiv (pc := 137) C dX9_goesBy_137 (by omega) (by omega) (fun hz1371 hz1372 => ?_) | refine zs_idivF (pc := 137) C dX9_goesBy_137 (by omega) (fun z137 hz1371 hz1372 => ?_)
            refine zs_iload_n (pc := 138) C dX9_goesBy_138 rfl ?_
            refine zs_iconst (pc := 139) C dX9_goesBy_139 (by decide) ?_
            first | refine zs_irem (pc := 140) C dX9_goesBy_140 (by omega) (by omega) (fun hz1401 hz1402 => ?_) | refine zs_iremF (pc := 140) C dX9_goesBy_140 (by omega) (fun z140 hz1401 hz1402 => ?_)
            refine zVi3 (pc := 141) C dX9_goesBy_141 v_X9_445 (c_X9_grindsW0 (wr := if (-1) = 0 then 0 else 1) hX (by omega) (by omega) hR1 hK1 hW hT (by omega) (by omega) hcan hS1 (by decide)) (by decide) (by decide) ⟨Nat.zero_le _, Nat.zero_le _⟩ (Nat.le_of_ble_eq_true rfl) (fun x141 G141 l141 u141 hp141 => ?_)
            obtain ⟨hz141, hq141⟩ := hp141
            have hRn : rW Γ w 0 (wCod A W (-1) 0) G141 := by rw [hcd]; exact hq141.2.1
            have hj141 := hq141.2.2.1
            have hSn : rS Γ w (wCod A W (-1) 0) G141 := by rw [hcd]; exact hq141.2.2.2
            refine zs_popi (pc := 144) C dX9_goesBy_144 ?_
            exact zs_wk (J145 _ (by repeat (first | exact zsm_rf | assumption | refine zsm_C (by decide) ?_ | refine zsm_I (by decide) ?_ | refine zsm_J ?_ | refine zsm_c (by assumption) (by decide) ?_)) hRn (by repeat (first | exact zsj_rf | assumption | refine zsj_I ?_ | refine zsj_J (by decide) ?_ | refine zsj_e (by assumption) ?_ | refine zsj_c (by assumption) (by decide) ?_)) hSn) (zwk_s rfl (zwk_s rfl (zwk_n (zwk_n (zwk_n (zwk_n (zwk_n (zwk_n (zwk_n zwk_0)))))))))
      · skip
        refine zs_iconst (pc := 16) C dX9_goesBy_16 (by decide) ?_
        refine zs_istore (pc := 17) C dX9_goesBy_17 (by decide) ?_
        dsimp only [zset, zclr, znone]
        have L19 : ∀ (nn : Nat) (x2 x3 x6 : Int) (G2 : zH), (0 ≤ x6 ∧ x6 ≤ A 4 0) → (x2 = (wBest A W (-1) 0 (x5 * 4 + x6).toNat).1) → (x3 = (wBest A W (-1) 0 (x5 * 4 + x6).toNat).2) → (zsm [1050] G G2) → (zsj [2079, 2080] G G2) → (4 - x6).toNat < nn → Z p l e (zrm 6) s m args below meth c Γ 9 0 0 (MQ below (zQc Γ (zpv (fun G' => zsm [1050, 2091, 2092, 2093, 2094, 2095, 2096, 2097, 2098, 2099, 2100, 2088, 2087, 2082, 2084, 2083, 2089, 2086, 1073, 2090] G G' ∧ (rW Γ w 0 (wGo A (-1) 0 W) G' ∧ rS Γ w (wGo A (-1) 0 W) G' ∧ zsj [2079, 2080] G G')))) args s 0 0 (zA Γ)) 19 [some (zr 10 w), some (zi 0), some (zi x2), some (zj x3), none, some (zi x5), some (zi x6), none, none] [] G2 := by
          intro nn
          induction nn with
          | zero => intro x2 x3 x6 G2 h19_0 h19_1 h19_2 h19_3 h19_4 hm; exact absurd hm (Nat.not_lt_zero _)
          | succ nn ih19 =>
            intro x2 x3 x6 G2 h19_0 h19_1 h19_2 h19_3 h19_4 hm19
            refine zs_iload (pc := 19) C dX9_goesBy_19 rfl ?_
            refine zs_aload_n (pc := 21) C dX9_goesBy_21 rfl ?_
            refine zs_geti (r := 1012) (pc := 22) C dX9_goesBy_22 w_X9_258 f_10_12 rfl (r_1012 0) (fun v22 e22 l22 u22 => ?_)
            have y22 : v22 = A 4 0 := e22.trans (by rw [h19_3.1 1012 (by decide)]; exact k12)
            refine zs_icmp_ge (tgt := 115) (pc := 25) C dX9_goesBy_25 (by decide) (fun h25 => ?_) (fun h25 => ?_)
            · skip
              have hx6 : x6 = A 4 0 := by omega
              rw [hx6, ← wBest_p hT hW (by omega)] at h19_1 h19_2
              first | refine zs_iinc (pc := 115) C dX9_goesBy_115 rfl (by decide) (by omega) ?_ | refine zs_iincF (pc := 115) C dX9_goesBy_115 rfl (by decide) (fun z115 hz1151 hz1152 => ?_)
              dsimp only [zset, zclr, znone]
              refine zs_goto (tgt := 7) (pc := 118) C dX9_goesBy_118 (by decide) ?_
              exact zs_wk (ih7 _ _ _ _ (by omega) h19_1 h19_2 (by repeat (first | exact zsm_rf | assumption | refine zsm_C (by decide) ?_ | refine zsm_I (by decide) ?_ | refine zsm_J ?_ | refine zsm_c (by assumption) (by decide) ?_)) (by repeat (first | exact zsj_rf | assumption | refine zsj_I ?_ | refine zsj_J (by decide) ?_ | refine zsj_e (by assumption) ?_ | refine zsj_c (by assumption) (by decide) ?_)) (by first | omega | (simp only [zuI_1, zuI_2, zuJ_1, zuJ_2, zuJ_3, zuP_1, zuP_2, zuP_3, zuC_1, zuC_2, reduceIte, Nat.reduceEqDiff, false_and, and_false, true_and, and_true, and_self, or_true, true_or, or_false, false_or]; omega))) (zwk_s rfl (zwk_s rfl (zwk_s rfl (zwk_s rfl (zwk_n (zwk_s rfl (zwk_n (zwk_n (zwk_n zwk_0)))))))))
            · skip
              have J109 : ∀ (y2 y3 : Int) (G3 : zH), (y2 = (wBest A W (-1) 0 (x5 * 4 + (x6 + 1)).toNat).1) → (y3 = (wBest A W (-1) 0 (x5 * 4 + (x6 + 1)).toNat).2) → (zsm [1050] G G3) → (zsj [2079, 2080] G G3) → Z p l e (zrm 6) s m args below meth c Γ 9 0 0 (MQ below (zQc Γ (zpv (fun G' => zsm [1050, 2091, 2092, 2093, 2094, 2095, 2096, 2097, 2098, 2099, 2100, 2088, 2087, 2082, 2084, 2083, 2089, 2086, 1073, 2090] G G' ∧ (rW Γ w 0 (wGo A (-1) 0 W) G' ∧ rS Γ w (wGo A (-1) 0 W) G' ∧ zsj [2079, 2080] G G')))) args s 0 0 (zA Γ)) 109 [some (zr 10 w), some (zi 0), some (zi y2), some (zj y3), none, some (zi x5), some (zi x6), none, none] [] G3 := by
                intro y2 y3 G3 h109_0 h109_1 h109_2 h109_3
                first | refine zs_iinc (pc := 109) C dX9_goesBy_109 rfl (by decide) (by omega) ?_ | refine zs_iincF (pc := 109) C dX9_goesBy_109 rfl (by decide) (fun z109 hz1091 hz1092 => ?_)
                dsimp only [zset, zclr, znone]
                refine zs_goto (tgt := 19) (pc := 112) C dX9_goesBy_112 (by decide) ?_
                exact zs_wk (ih19 _ _ _ _ (by omega) h109_0 h109_1 h109_2 h109_3 (by first | omega | (simp only [zuI_1, zuI_2, zuJ_1, zuJ_2, zuJ_3, zuP_1, zuP_2, zuP_3, zuC_1, zuC_2, reduceIte, Nat.reduceEqDiff, false_and, and_false, true_and, and_true, and_self, or_true, true_or, or_false, false_or]; omega))) (zwk_s rfl (zwk_s rfl (zwk_s rfl (zwk_s rfl (zwk_n (zwk_s rfl (zwk_s rfl (zwk_n (zwk_n zwk_0)))))))))
              have hbi := wBest_in (A := A) (W := W) (t := (-1)) (i := 0) (x5 * 4 + x6).toNat
              rw [← h19_1, ← h19_2] at hbi
              have hbn := wBest_n (A := A) (W := W) (t := (-1)) (i := 0) (p := x5) (s := x6) (by omega) (by omega) h19_1 h19_2
              have hll := WI_WL hW (x5 * 4 + x6).toNat (by omega)
              refine zs_aload_n (pc := 28) C dX9_goesBy_28 rfl ?_
              refine zs_iload_n (pc := 29) C dX9_goesBy_29 rfl ?_
              refine zs_iload (pc := 30) C dX9_goesBy_30 rfl ?_
              refine zs_iload (pc := 32) C dX9_goesBy_32 rfl ?_
              refine zVip3 (pc := 34) C dX9_goesBy_34 v_X9_394 (c_X9_leftOfW hX (Or.inl rfl) (by omega) (by omega) (rL_sm h19_3 (by decide) hL0) (WI_WL hW)) (by decide) (by decide) ⟨Nat.zero_le _, Nat.zero_le _⟩ (Nat.le_of_ble_eq_true rfl) (fun x34 l34 u34 hp34 => ?_)
              have hq34 := hp34
              have hq34b : x34 = W 12 (x5 * 4 + x6).toNat := hq34
              refine zs_if_eq (tgt := 109) (pc := 37) C dX9_goesBy_37 (by decide) (fun h37 => ?_) (fun h37 => ?_)
              · skip
                have hst := hbn.1 (by rw [if_neg (by omega)]; omega)
                exact zs_wk (J109 _ _ _ hst.1 hst.2 (by repeat (first | exact zsm_rf | assumption | refine zsm_C (by decide) ?_ | refine zsm_I (by decide) ?_ | refine zsm_J ?_ | refine zsm_c (by assumption) (by decide) ?_)) (by repeat (first | exact zsj_rf | assumption | refine zsj_I ?_ | refine zsj_J (by decide) ?_ | refine zsj_e (by assumption) ?_ | refine zsj_c (by assumption) (by decide) ?_))) (zwk_s rfl (zwk_s rfl (zwk_s rfl (zwk_s rfl (zwk_n (zwk_s rfl (zwk_s rfl (zwk_n (zwk_n zwk_0)))))))))
              · skip
                refine zs_aload_n (pc := 40) C dX9_goesBy_40 rfl ?_
                refine zs_geti (r := 1074) (pc := 41) C dX9_goesBy_41 w_X9_148 f_10_74 rfl (r_1074 0) (fun v41 e41 l41 u41 => ?_)
                have y41 : v41 = (-1) := e41.trans (by rw [h19_3.1 1074 (by decide)]; exact hway)
                refine zs_iconst (pc := 44) C dX9_goesBy_44 (by decide) ?_
                refine zs_icmp_ne (tgt := 57) (pc := 45) C dX9_goesBy_45 (by decide) (fun h45 => ?_) (fun h45 => ?_)
                · skip
                  refine zs_aload_n (pc := 57) C dX9_goesBy_57 rfl ?_
                  refine zs_geti (r := 1074) (pc := 58) C dX9_goesBy_58 w_X9_148 f_10_74 rfl (r_1074 0) (fun v58 e58 l58 u58 => ?_)
                  have y58 : v58 = (-1) := e58.trans (by rw [h19_3.1 1074 (by decide)]; exact hway)
                  refine zs_iconst (pc := 61) C dX9_goesBy_61 (by decide) ?_
                  refine zs_icmp_ne (tgt := 77) (pc := 62) C dX9_goesBy_62 (by decide) (fun h62 => ?_) (fun h62 => ?_)
                  · skip
                    refine zs_aload_n (pc := 77) C dX9_goesBy_77 rfl ?_
                    refine zs_iload_n (pc := 78) C dX9_goesBy_78 rfl ?_
                    refine zs_iload (pc := 79) C dX9_goesBy_79 rfl ?_
                    refine zs_iload (pc := 81) C dX9_goesBy_81 rfl ?_
                    refine zVj3 (pc := 83) C dX9_goesBy_83 v_X9_485 (c_X9_wantOfW0 (t := (-1)) (i := 0) hX (by omega) (by omega) (rW_sm h19_3 (by decide) hR) (kR_sm h19_3 (by decide) hK) hW hT (by omega) (by omega) (by rw [h19_3.1 1074 (by decide)]; exact hway) (by omega)) (by decide) (by decide) ⟨Nat.zero_le _, Nat.zero_le _⟩ (Nat.le_of_ble_eq_true rfl) (fun x83 G83 l83 u83 hp83 => ?_)
                    obtain ⟨hz83, hq83⟩ := hp83
                    have hj83 := hq83.2
                    have hur := wUrge_in (A := A) (W := W) (p := x5) (s := x6) (t := (-1)) (i := 0) hT (by omega) (by omega)
                    refine zs_lstore (pc := 86) C dX9_goesBy_86 (by decide) ?_
                    dsimp only [zset, zclr, znone]
                    refine zs_lload (pc := 88) C dX9_goesBy_88 rfl ?_
                    refine zs_lload_n (pc := 90) C dX9_goesBy_90 rfl ?_
                    refine zs_lcmp (pc := 91) C dX9_goesBy_91 (fun z91 hz91 => ?_)
                    refine zs_if_gt (tgt := 98) (pc := 92) C dX9_goesBy_92 (by decide) (fun h92 => ?_) (fun h92 => ?_)
                    · skip
                      have hst : 4 * x5 + x6 = (wBest A W (-1) 0 (x5 * 4 + (x6 + 1)).toNat).1 ∧ x83 = (wBest A W (-1) 0 (x5 * 4 + (x6 + 1)).toNat).2 := by
                        have q := hbn.2 (by rw [if_pos (by omega), ← hq83.1]; omega)
                        rw [if_pos (by omega), ← hq83.1] at q
                        exact q
                      refine zs_iconst (pc := 98) C dX9_goesBy_98 (by decide) ?_
                      refine zs_iload (pc := 99) C dX9_goesBy_99 rfl ?_
                      first | refine zs_imul (pc := 101) C dX9_goesBy_101 (by omega) ?_ | refine zs_imulF (pc := 101) C dX9_goesBy_101 (fun z101 hz1011 hz1012 => ?_)
                      refine zs_iload (pc := 102) C dX9_goesBy_102 rfl ?_
                      first | refine zs_iadd (pc := 104) C dX9_goesBy_104 (by omega) ?_ | refine zs_iaddF (pc := 104) C dX9_goesBy_104 (fun z104 hz1041 hz1042 => ?_)
                      refine zs_istore_n (pc := 105) C dX9_goesBy_105 (by decide) ?_
                      dsimp only [zset, zclr, znone]
                      refine zs_lload (pc := 106) C dX9_goesBy_106 rfl ?_
                      refine zs_lstore_n (pc := 108) C dX9_goesBy_108 (by decide) ?_
                      dsimp only [zset, zclr, znone]
                      exact zs_wk (J109 _ _ _ hst.1 hst.2 (by repeat (first | exact zsm_rf | assumption | refine zsm_C (by decide) ?_ | refine zsm_I (by decide) ?_ | refine zsm_J ?_ | refine zsm_c (by assumption) (by decide) ?_)) (by repeat (first | exact zsj_rf | assumption | refine zsj_I ?_ | refine zsj_J (by decide) ?_ | refine zsj_e (by assumption) ?_ | refine zsj_c (by assumption) (by decide) ?_))) (zwk_s rfl (zwk_s rfl (zwk_s rfl (zwk_s rfl (zwk_n (zwk_s rfl (zwk_s rfl (zwk_n (zwk_n zwk_0)))))))))
                    · skip
                      have hst := hbn.1 (by rw [if_pos (by omega), ← hq83.1]; omega)
                      refine zs_goto (tgt := 109) (pc := 95) C dX9_goesBy_95 (by decide) ?_
                      exact zs_wk (J109 _ _ _ hst.1 hst.2 (by repeat (first | exact zsm_rf | assumption | refine zsm_C (by decide) ?_ | refine zsm_I (by decide) ?_ | refine zsm_J ?_ | refine zsm_c (by assumption) (by decide) ?_)) (by repeat (first | exact zsj_rf | assumption | refine zsj_I ?_ | refine zsj_J (by decide) ?_ | refine zsj_e (by assumption) ?_ | refine zsj_c (by assumption) (by decide) ?_))) (zwk_s rfl (zwk_s rfl (zwk_s rfl (zwk_s rfl (zwk_n (zwk_s rfl (zwk_s rfl (zwk_n (zwk_n zwk_0)))))))))
                  · skip
                    exfalso; omega
                · skip
                  exfalso; omega
        exact zs_wk (L19 _ _ _ _ _ (by omega) (by rw [show x5 * 4 + 0 = x5 * 4 by omega]; exact h7_1) (by rw [show x5 * 4 + 0 = x5 * 4 by omega]; exact h7_2) h7_3 h7_4 (Nat.lt_succ_self _)) (zwk_s rfl (zwk_s rfl (zwk_s rfl (zwk_s rfl (zwk_n (zwk_s rfl (zwk_s rfl (zwk_n (zwk_n zwk_0)))))))))
  exact zs_wk (L7 _ _ _ _ _ (by omega) rfl rfl zsm_rf zsj_rf (Nat.lt_succ_self _)) (zwk_s rfl (zwk_s rfl (zwk_s rfl (zwk_s rfl (zwk_n (zwk_s rfl (zwk_n (zwk_n (zwk_n zwk_0)))))))))
end
