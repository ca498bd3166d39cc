/-! what a confession leaves -/
theorem wGr_ev {A W : aS} {p s wr : Int} (hc : wCan W) : ((wGrind A W p s wr) 0 0 = W 0 0 + 1 ∧ (∀ k : Nat, (wGrind A W p s wr) 1 k = if k = (W 0 0).toNat then p else W 1 k) ∧ (∀ k : Nat, (wGrind A W p s wr) 2 k = if k = (W 0 0).toNat then s else W 2 k) ∧ (∀ k : Nat, (wGrind A W p s wr) 3 k = if k = (W 0 0).toNat then wFine A W p s else W 3 k) ∧ (∀ k : Nat, (wGrind A W p s wr) 4 k = if k = (W 0 0).toNat then wPort A W else W 4 k) ∧ (∀ k : Nat, (wGrind A W p s wr) 5 k = if k = (W 0 0).toNat then wPort A W else W 5 k)
  ∧ (∀ k : Nat, (wGrind A W p s wr) 6 k = if k = (W 0 0).toNat then W 13 p.toNat else W 6 k) ∧ (∀ k : Nat, (wGrind A W p s wr) 7 k = if k = (W 0 0).toNat then W 20 0 else W 7 k) ∧ (∀ k : Nat, (wGrind A W p s wr) 8 k = if k = (W 0 0).toNat then wPr W p else W 8 k) ∧ (∀ k : Nat, (wGrind A W p s wr) 9 k = if k = (W 0 0).toNat then W 18 0 else W 9 k) ∧ (∀ k : Nat, (wGrind A W p s wr) 10 k = if k = (W 0 0).toNat then wBits W p else W 10 k))
  ∧ (∀ j : Nat, (wGrind A W p s wr) 12 j = if 0 < wL W p s ∧ j = (p * 4 + s).toNat then W 12 j - 1 else W 12 j) ∧ (∀ j : Nat, (wGrind A W p s wr) 13 j = if j = p.toNat then W 13 j + 1 else W 13 j) ∧ (∀ j : Nat, (wGrind A W p s wr) 14 j = if ¬ 0 < wL W p s ∧ j = p.toNat then W 14 j + 1 else W 14 j)
  ∧ (wGrind A W p s wr) 19 0 = W 19 0 - wPort A W ∧ (wGrind A W p s wr) 20 0 = (if wr ≠ 0 then min 99999 (W 20 0 + wWear A W p s) else W 20 0)
  ∧ ∀ f j : Nat, (f = 11 ∨ f = 15 ∨ f = 16 ∨ f = 17 ∨ f = 18 ∨ 21 ≤ f) → (wGrind A W p s wr) f j = W f j := by
  unfold wGrind wGr1 wSack
  rw [if_pos hc]
  by_cases hl : 0 < wL W p s
  · rw [if_pos hl]
    refine ⟨⟨?_, fun k => ?_, fun k => ?_, fun k => ?_, fun k => ?_, fun k => ?_, fun k => ?_, fun k => ?_, fun k => ?_, fun k => ?_, fun k => ?_⟩, fun j => ?_, fun j => ?_, fun j => ?_, ?_, ?_, fun f j hf => ?_⟩
    all_goals (try (simp (disch := decide) only [up_f, up_at, up_eq, eq_self, if_true]; done))
    · simp (disch := decide) only [up_f, up_at, up_eq]
      by_cases q : j = (p * 4 + s).toNat
      · rw [if_pos q, if_pos ⟨hl, q⟩, q]; rfl
      · rw [if_neg q, if_neg (fun z => q z.2)]
    · simp (disch := decide) only [up_f, up_at, up_eq]
      by_cases q : j = p.toNat
      · rw [if_pos q, if_pos q, q]
      · rw [if_neg q, if_neg q]
    · simp (disch := decide) only [up_f, up_at, up_eq]
      rw [if_neg (fun z => z.1 hl)]
    · simp (disch := omega) only [up_f]
  · rw [if_neg hl]
    refine ⟨⟨?_, fun k => ?_, fun k => ?_, fun k => ?_, fun k => ?_, fun k => ?_, fun k => ?_, fun k => ?_, fun k => ?_, fun k => ?_, fun k => ?_⟩, fun j => ?_, fun j => ?_, fun j => ?_, ?_, ?_, fun f j hf => ?_⟩
    all_goals (try (simp (disch := decide) only [up_f, up_at, up_eq, eq_self, if_true]; done))
    · simp (disch := decide) only [up_f, up_at, up_eq]
      rw [if_neg (fun z => hl z.1)]
    · simp (disch := decide) only [up_f, up_at, up_eq]
      by_cases q : j = p.toNat
      · rw [if_pos q, if_pos q, q]
      · rw [if_neg q, if_neg q]
    · simp (disch := decide) only [up_f, up_at, up_eq]
      by_cases q : j = p.toNat
      · rw [if_pos q, if_pos ⟨hl, q⟩, q]
      · rw [if_neg q, if_neg (fun z => q z.2)]
    · simp (disch := omega) only [up_f]
theorem WI_grind {A W : aS} {p s wr : Int} (hT : TA A) (h : WI A W) (hp : 0 ≤ p ∧ p < A 4 1) (hs : 0 ≤ s ∧ s < A 4 0) : WI A (wGrind A W p s wr) := by
  have hT0 := hT.1
  have hT5 := hT.2.2.2.2.2.1
  have h6 := hT.2.1 s.toNat (by omega)
  by_cases hc : wCan W
  · obtain ⟨⟨e0, e1, e2, e3, e4, e5, e6, e7, e8, e9, e10⟩, e12, e13, e14, e19, e20, ef⟩ := wGr_ev (A := A) (p := p) (s := s) (wr := wr) hc
    have hl := WI_L h (p := p) (s := s) (by omega) (by omega)
    have hf : 0 ≤ wFine A W p s ∧ wFine A W p s ≤ 999 := bV_in (by omega) (by omega)
    have hwe : 0 ≤ wWear A W p s ∧ wWear A W p s ≤ 99 := bV_in (by omega) (by omega)
    have hpr := sM_in4 h (p := p) (by omega)
    have hb := wBits_in W p
    have hpo : wPort A W = min (A 13 0) (W 19 0) := rfl
    have hlw : wL W p s = W 12 (p * 4 + s).toNat := rfl
    generalize wGrind A W p s wr = V at *
    generalize wFine A W p s = xf at *
    generalize wWear A W p s = xw at *
    generalize wPr W p = xp at *
    generalize wBits W p = xb at *
    generalize wPort A W = xo at *
    obtain ⟨a0, a1, a2, a3, a4, a5, a6, a7, a8, a9⟩ := h
    have h13 := a4 p.toNat (by omega)
    obtain ⟨c1, c2⟩ := hc
    refine ⟨?_, fun k hk => ?_, fun j hj => ?_, fun i r hi hr => ?_, fun j hj => ?_, ?_, ?_, ?_, ?_, ?_⟩
    · omega
    · rw [e0] at hk
      rw [e1, e2, e3, e4, e5, e6, e7, e8, e9, e10]
      by_cases q : k = (W 0 0).toNat
      · rw [if_pos q, if_pos q, if_pos q, if_pos q, if_pos q, if_pos q, if_pos q, if_pos q, if_pos q, if_pos q]
        exact ⟨by omega, by omega, by omega, by omega, by omega, by omega, by omega, by omega, by omega, by omega⟩
      · rw [if_neg q, if_neg q, if_neg q, if_neg q, if_neg q, if_neg q, if_neg q, if_neg q, if_neg q, if_neg q]
        exact a1 k (by omega)
    · rw [e12, ef 11 j (by omega)]
      have q := a2 j hj
      split
      · rename_i z
        rw [z.2] at q ⊢
        omega
      · exact q
    · rw [ef 11 _ (by omega)]; exact a3 i r hi hr
    · rw [e14, e13, e0, ef 15 j (by omega), ef 16 j (by omega), ef 11 (j * 4) (by omega), ef 11 (j * 4 + 1) (by omega), ef 11 (j * 4 + 2) (by omega), ef 11 (j * 4 + 3) (by omega)]
      have q := a4 j hj
      (repeat' split) <;> omega
    · rw [ef 18 0 (by omega)]; exact a5
    · omega
    · rw [e20]; split <;> omega
    · rw [ef 21 0 (by omega)]; exact a8
    · rw [ef 22 0 (by omega)]; exact a9
  · unfold wGrind
    rw [if_neg hc]
    exact h
theorem WI_fall {A W : aS} {p s : Int} (hT : TA A) (h : WI A W) (hp : 0 ≤ p ∧ p < A 4 1) (hs : 0 ≤ s ∧ s < A 4 0) (h99 : W 11 (p * 4 + s).toNat < 99) : WI A (wFall W p s) := by
  have hT0 := hT.1
  have hl := WI_L h (p := p) (s := s) (by omega) (by omega)
  have f11 : ∀ j, (wFall W p s) 11 j = if j = (p * 4 + s).toNat then W 11 (p * 4 + s).toNat + 1 else W 11 j := fun j => by unfold wFall; simp (disch := decide) only [up_f, up_at]
  have f12 : ∀ j, (wFall W p s) 12 j = if j = (p * 4 + s).toNat then W 12 (p * 4 + s).toNat + 1 else W 12 j := fun j => by unfold wFall; simp (disch := decide) only [up_f, up_at]
  have f15 : ∀ j, (wFall W p s) 15 j = if j = p.toNat then W 15 p.toNat + 1 else W 15 j := fun j => by unfold wFall; simp (disch := decide) only [up_f, up_at]
  have ff : ∀ f j, f ≠ 11 → f ≠ 12 → f ≠ 15 → (wFall W p s) f j = W f j := fun f j h1 h2 h3 => by unfold wFall; rw [up_f h3, up_f h2, up_f h1]
  generalize wFall W p s = V at *
  obtain ⟨a0, a1, a2, a3, a4, a5, a6, a7, a8, a9⟩ := h
  refine ⟨?_, fun k hk => ?_, fun j hj => ?_, fun i r hi hr => ?_, fun j hj => ?_, ?_, ?_, ?_, ?_, ?_⟩
  · rw [ff 0 0 (by decide) (by decide) (by decide)]; exact a0
  · rw [ff 0 0 (by decide) (by decide) (by decide)] at hk
    rw [ff 1 k (by decide) (by decide) (by decide), ff 2 k (by decide) (by decide) (by decide), ff 3 k (by decide) (by decide) (by decide), ff 4 k (by decide) (by decide) (by decide), ff 5 k (by decide) (by decide) (by decide), ff 6 k (by decide) (by decide) (by decide), ff 7 k (by decide) (by decide) (by decide), ff 8 k (by decide) (by decide) (by decide), ff 9 k (by decide) (by decide) (by decide), ff 10 k (by decide) (by decide) (by decide)]
    exact a1 k hk
  · rw [f12, f11]
    have q := a2 j hj
    split <;> omega
  · rw [f11]
    by_cases z : i * 4 + r = (p * 4 + s).toNat
    · exact Or.inl ⟨by omega, by omega⟩
    · rw [if_neg z]; exact a3 i r hi hr
  · rw [ff 14 j (by decide) (by decide) (by decide), ff 13 j (by decide) (by decide) (by decide), ff 0 0 (by decide) (by decide) (by decide), f15, ff 16 j (by decide) (by decide) (by decide), f11, f11, f11, f11]
    have q := a4 j hj
    have q4 := a4 p.toNat (by omega)
    by_cases z : j = p.toNat
    · rw [if_pos z]
      subst z
      refine ⟨q.1, q.2.1, q.2.2.1, by omega, ?_, q.2.2.2.2.2⟩
      rcases (show s = 0 ∨ s = 1 ∨ s = 2 ∨ s = 3 by omega) with rfl | rfl | rfl | rfl
      · rw [if_pos (by omega), if_neg (by omega), if_neg (by omega), if_neg (by omega), show (p * 4 + 0).toNat = p.toNat * 4 by omega]; omega
      · rw [if_neg (by omega), if_pos (by omega), if_neg (by omega), if_neg (by omega), show (p * 4 + 1).toNat = p.toNat * 4 + 1 by omega]; omega
      · rw [if_neg (by omega), if_neg (by omega), if_pos (by omega), if_neg (by omega), show (p * 4 + 2).toNat = p.toNat * 4 + 2 by omega]; omega
      · rw [if_neg (by omega), if_neg (by omega), if_neg (by omega), if_pos (by omega), show (p * 4 + 3).toNat = p.toNat * 4 + 3 by omega]; omega
    · rw [if_neg z, if_neg (by omega), if_neg (by omega), if_neg (by omega), if_neg (by omega)]
      exact q
  · rw [ff 18 0 (by decide) (by decide) (by decide)]; exact a5
  · rw [ff 19 0 (by decide) (by decide) (by decide)]; exact a6
  · rw [ff 20 0 (by decide) (by decide) (by decide)]; exact a7
  · rw [ff 21 0 (by decide) (by decide) (by decide)]; exact a8
  · rw [ff 22 0 (by decide) (by decide) (by decide)]; exact a9
theorem WI_d {A W : aS} {d : Int} (h : WI A W) (hd : 0 ≤ d ∧ d ≤ 100) : WI A (up W 18 0 d) := by
  obtain ⟨a0, a1, a2, a3, a4, a5, a6, a7, a8, a9⟩ := h
  have e : ∀ f j, f ≠ 18 → (up W 18 0 d) f j = W f j := fun f j hf => up_f hf
  refine ⟨?_, fun k hk => ?_, fun j hj => ?_, fun i r hi hr => ?_, fun j hj => ?_, ?_, ?_, ?_, ?_, ?_⟩
  · rw [e 0 0 (by decide)]; exact a0
  · rw [e 0 0 (by decide)] at hk
    rw [e 1 k (by decide), e 2 k (by decide), e 3 k (by decide), e 4 k (by decide), e 5 k (by decide), e 6 k (by decide), e 7 k (by decide), e 8 k (by decide), e 9 k (by decide), e 10 k (by decide)]; exact a1 k hk
  · rw [e 12 j (by decide), e 11 j (by decide)]; exact a2 j hj
  · rw [e 11 _ (by decide)]; exact a3 i r hi hr
  · rw [e 14 j (by decide), e 13 j (by decide), e 0 0 (by decide), e 15 j (by decide), e 11 _ (by decide), e 11 _ (by decide), e 11 _ (by decide), e 11 _ (by decide), e 16 j (by decide)]; exact a4 j hj
  · rw [up_eq]; exact hd
  · rw [e 19 0 (by decide)]; exact a6
  · rw [e 20 0 (by decide)]; exact a7
  · rw [e 21 0 (by decide)]; exact a8
  · rw [e 22 0 (by decide)]; exact a9
theorem WI_dr {A W : aS} {f : Nat} {d : Int} (hf : f = 21 ∨ f = 22) (h : WI A W) (hd : (f = 21 → 0 ≤ d ∧ d ≤ 2147483647) ∧ (f = 22 → -1 ≤ d ∧ d ≤ 60)) : WI A (up W f 0 d) := by
  obtain ⟨a0, a1, a2, a3, a4, a5, a6, a7, a8, a9⟩ := h
  have e : ∀ g j, g < 21 → (up W f 0 d) g j = W g j := fun g j hg => up_f (by omega)
  refine ⟨?_, fun k hk => ?_, fun j hj => ?_, fun i r hi hr => ?_, fun j hj => ?_, ?_, ?_, ?_, ?_, ?_⟩
  · rw [e 0 0 (by decide)]; exact a0
  · rw [e 0 0 (by decide)] at hk
    rw [e 1 k (by decide), e 2 k (by decide), e 3 k (by decide), e 4 k (by decide), e 5 k (by decide), e 6 k (by decide), e 7 k (by decide), e 8 k (by decide), e 9 k (by decide), e 10 k (by decide)]; exact a1 k hk
  · rw [e 12 j (by decide), e 11 j (by decide)]; exact a2 j hj
  · rw [e 11 _ (by decide)]; exact a3 i r hi hr
  · rw [e 14 j (by decide), e 13 j (by decide), e 0 0 (by decide), e 15 j (by decide), e 11 _ (by decide), e 11 _ (by decide), e 11 _ (by decide), e 11 _ (by decide), e 16 j (by decide)]; exact a4 j hj
  · rw [e 18 0 (by decide)]; exact a5
  · rw [e 19 0 (by decide)]; exact a6
  · rw [e 20 0 (by decide)]; exact a7
  · rcases hf with rfl | rfl
    · rw [up_eq]; exact hd.1 rfl
    · rw [up_f (by decide)]; exact a8
  · rcases hf with rfl | rfl
    · rw [up_f (by decide)]; exact a9
    · rw [up_eq]; exact hd.2 rfl
theorem wNext_in (d : Int) : 0 ≤ wNext d ∧ wNext d ≤ 2147483647 := by unfold wNext; omega
theorem WI_ask {A W : aS} {p : Int} (h : WI A W) : WI A (wAsk A W p) := by
  unfold wAsk
  split
  · exact WI_dr (Or.inl rfl) h ⟨fun _ => wNext_in _, fun q => absurd q (by decide)⟩
  · split
    · exact WI_dr (Or.inl rfl) h ⟨fun _ => wNext_in _, fun q => absurd q (by decide)⟩
    · exact WI_dr (Or.inl rfl) h ⟨fun _ => wNext_in _, fun q => absurd q (by decide)⟩
theorem WI_cod {A W : aS} {t i : Int} (hT : TA A) (h : WI A W) : WI A (wCod A W t i) ∧ (wCod A W t i) 18 0 = W 18 0 := by
  have h0 := hT.1
  unfold wCod
  split
  · rename_i q
    obtain ⟨q1, q2⟩ := q
    have hb := (wBest_in (A := A) (W := W) (t := t) (i := i) (A 4 1 * 4).toNat).resolve_left (fun z => q2 z.1)
    have hp := WI_ps h (m := (wBest A W t i (A 4 1 * 4).toNat).1) (by omega) hb.2.2.1
    exact ⟨WI_grind hT h (by omega) (by omega), (wGr_ev q1).2.2.2.2.2.2 18 0 (by omega)⟩
  · exact ⟨h, rfl⟩
theorem WI_day {A W : aS} (hT : TA A) (h : WI A W) (hd : W 18 0 < 100) : WI A (wDay A W) ∧ (wDay A W) 18 0 = W 18 0 + 1 := by
  have h0 := hT.1
  have h1 := WI_cod (t := -1) (i := 0) hT h
  have h2 := WI_bd hT h1.1 (A 4 2).toNat (by omega)
  have h5 := h.2.2.2.2.2.1
  unfold wDay
  exact ⟨WI_d h2.1 (by omega), up_eq⟩
theorem WI_days {A W : aS} (hT : TA A) (h : WI A W) : ∀ m : Nat, W 18 0 + m ≤ 100 → WI A (wDays A m W) ∧ (wDays A m W) 18 0 = W 18 0 + m
  | 0, _ => ⟨h, by show W 18 0 = W 18 0 + ((0 : Nat) : Int); omega⟩
  | m + 1, hm => by
    have q := WI_days hT h m (by omega)
    have q2 := WI_day hT q.1 (by omega)
    rw [wDays]
    exact ⟨q2.1, by omega⟩
theorem WI_try {A W : aS} {t i : Int} (hT : TA A) (h : WI A W) : ∀ m : Nat, W 18 0 + m ≤ 100 → WI A (wTry A t i m W) ∧ (wTry A t i m W) 18 0 = W 18 0 + m
  | 0, _ => ⟨h, by show W 18 0 = W 18 0 + ((0 : Nat) : Int); omega⟩
  | m + 1, hm => by
    have q := WI_try (t := t) (i := i) hT h m (by omega)
    have q2 := WI_cod (t := t) (i := i) hT q.1
    have h5 := h.2.2.2.2.2.1
    rw [wTry]
    exact ⟨WI_d q2.1 (by omega), by rw [up_eq]; omega⟩
/-! what lies elsewhere stays -/
def wGh (V W : aS) : Prop := ∀ f j : Nat, 23 ≤ f → V f j = W f j
theorem wGh_rf {W : aS} : wGh W W := fun _ _ _ => rfl
theorem wGh_t {U V W : aS} (h1 : wGh U V) (h2 : wGh V W) : wGh U W := fun f j h => (h1 f j h).trans (h2 f j h)
theorem wGh_u {V W : aS} {f j : Nat} {v : Int} (hf : f < 23) (h : wGh V W) : wGh (up V f j v) W := fun f' j' h' => by rw [up_f (by omega)]; exact h f' j' h'
theorem wGh_grind {A W : aS} {p s wr : Int} : wGh (wGrind A W p s wr) W := by
  by_cases hc : wCan W
  · exact fun f j hf => (wGr_ev hc).2.2.2.2.2.2 f j (by omega)
  · unfold wGrind
    rw [if_neg hc]
    exact wGh_rf
theorem wGh_bake {A W : aS} {c : Int} : wGh (wBake A W c) W := fun f j hf => by
  unfold wBake
  split
  · rw [up_f (by omega), wTk_f (by omega) (by omega)]
    exact wTk0_f (by omega) 60
  · rfl
theorem wGh_ask {A W : aS} {p : Int} : wGh (wAsk A W p) W := by
  unfold wAsk
  (repeat' split) <;> exact wGh_u (by decide) wGh_rf
theorem wGh_cod {A W : aS} {t i : Int} : wGh (wCod A W t i) W := by
  unfold wCod
  split
  · exact wGh_grind
  · exact wGh_rf
theorem wGh_bd {A W : aS} : ∀ m : Nat, wGh (wBd A m W) W
  | 0 => wGh_rf
  | m + 1 => by
    rw [wBd]
    split
    · exact wGh_t wGh_bake (wGh_bd m)
    · exact wGh_bd m
theorem wGh_days {A W : aS} : ∀ m : Nat, wGh (wDays A m W) W
  | 0 => wGh_rf
  | m + 1 => by
    rw [wDays]
    unfold wDay
    exact wGh_u (by decide) (wGh_t (wGh_bd _) (wGh_t wGh_cod (wGh_days m)))
theorem wGh_try {A W : aS} {t i : Int} : ∀ m : Nat, wGh (wTry A t i m W) W
  | 0 => wGh_rf
  | m + 1 => by
    rw [wTry]
    exact wGh_u (by decide) (wGh_t wGh_cod (wGh_try m))
/-! what is undone -/
/-- alike in what is of use -/
def wQ (X Y : aS) : Prop := X 0 0 = Y 0 0 ∧ (∀ f k : Nat, 1 ≤ f → f ≤ 10 → (k : Int) < X 0 0 → X f k = Y f k) ∧ (∀ f j : Nat, 11 ≤ f → f ≤ 16 → X f j = Y f j) ∧ (∀ f : Nat, 18 ≤ f → f ≤ 20 → X f 0 = Y f 0) ∧ ∀ c k : Nat, c < 5 → k < 60 → X 16 c ≠ -1 → X 17 (c * 60 + k) = Y 17 (c * 60 + k)
theorem wQ_rf {X : aS} : wQ X X := ⟨rfl, fun _ _ _ _ _ => rfl, fun _ _ _ _ => rfl, fun _ _ _ => rfl, fun _ _ _ _ _ => rfl⟩
theorem wQ_t {X Y Z : aS} (h1 : wQ X Y) (h2 : wQ Y Z) : wQ X Z := ⟨h1.1.trans h2.1, fun f k a b c => (h1.2.1 f k a b c).trans (h2.2.1 f k a b (by rw [← h1.1]; exact c)), fun f j a b => (h1.2.2.1 f j a b).trans (h2.2.2.1 f j a b), fun f a b => (h1.2.2.2.1 f a b).trans (h2.2.2.2.1 f a b), fun c k a b e => (h1.2.2.2.2 c k a b e).trans (h2.2.2.2.2 c k a b (by rw [← h1.2.2.1 16 c (by decide) (by decide)]; exact e))⟩
theorem wQ_s {X Y : aS} (h : wQ X Y) : wQ Y X := ⟨h.1.symm, fun f k a b c => (h.2.1 f k a b (by rw [h.1]; exact c)).symm, fun f j a b => (h.2.2.1 f j a b).symm, fun f a b => (h.2.2.2.1 f a b).symm, fun c k a b e => (h.2.2.2.2 c k a b (by rw [h.2.2.1 16 c (by decide) (by decide)]; exact e)).symm⟩
/-- drawn numbers and what is known are of no use -/
theorem wQ_u {X Y : aS} {f : Nat} {v : Int} (hf : f = 21 ∨ f = 22) (h : wQ X Y) : wQ (up X f 0 v) Y := by
  have e : ∀ g j, g < 21 → (up X f 0 v) g j = X g j := fun g j hg => up_f (by omega)
  refine ⟨by rw [e 0 0 (by decide)]; exact h.1, fun g k a b c => ?_, fun g j a b => ?_, fun g a b => ?_, fun c k a b z => ?_⟩
  · rw [e 0 0 (by decide)] at c
    rw [e g k (by omega)]; exact h.2.1 g k a b c
  · rw [e g j (by omega)]; exact h.2.2.1 g j a b
  · rw [e g 0 (by omega)]; exact h.2.2.2.1 g a b
  · rw [e 16 c (by decide)] at z
    rw [e 17 _ (by decide)]; exact h.2.2.2.2 c k a b z
theorem wQ_ask {A X Y : aS} {p : Int} (h : wQ X Y) : wQ (wAsk A X p) Y := by
  unfold wAsk
  (repeat' split) <;> exact wQ_u (Or.inl rfl) h
/-- what may be undone -/
def wOK (X : aS) (x : Int) : Prop := (x = 0 ∧ 1 ≤ X 0 0 ∧ (0 ≤ X 1 (X 0 0 - 1).toNat ∧ X 1 (X 0 0 - 1).toNat ≤ 4) ∧ 0 ≤ X 2 (X 0 0 - 1).toNat ∧ X 2 (X 0 0 - 1).toNat ≤ 3) ∨ (1 ≤ x ∧ x ≤ 20) ∨ (21 ≤ x ∧ x ≤ 25 ∧ X 16 (x - 21).toNat ≠ -1)
theorem wOK_Q {X Y : aS} {x : Int} (h : wQ X Y) (ho : wOK Y x) : wOK X x := by
  rcases ho with ⟨a, b, c⟩ | a | ⟨a, b, c⟩
  · have e1 := h.2.1 1 (X 0 0 - 1).toNat (by decide) (by decide) (by rw [h.1]; omega)
    have e2 := h.2.1 2 (X 0 0 - 1).toNat (by decide) (by decide) (by rw [h.1]; omega)
    refine Or.inl ⟨a, by rw [h.1]; exact b, ?_⟩
    rw [e1, e2, h.1]
    exact c
  · exact Or.inr (Or.inl a)
  · exact Or.inr (Or.inr ⟨a, b, by rw [h.2.2.1 16 _ (by decide) (by decide)]; exact c⟩)
theorem wUg_ev (W : aS) (h : 0 < W 0 0) : (wUngrind W) 0 0 = W 0 0 - 1 ∧ (∀ f k : Nat, 1 ≤ f → f ≤ 11 → (wUngrind W) f k = W f k) ∧ (∀ f k : Nat, 15 ≤ f → f ≤ 18 → (wUngrind W) f k = W f k) ∧ (∀ f k : Nat, 21 ≤ f → (wUngrind W) f k = W f k) ∧ (wUngrind W) 19 0 = W 19 0 + W 4 (W 0 0 - 1).toNat ∧ (wUngrind W) 20 0 = W 7 (W 0 0 - 1).toNat
    ∧ (∀ j : Nat, (wUngrind W) 13 j = if j = (W 1 (W 0 0 - 1).toNat).toNat then W 6 (W 0 0 - 1).toNat else W 13 j)
    ∧ (∀ j : Nat, (wUngrind W) 12 j = if wLie W (W 0 0 - 1) (W 2 (W 0 0 - 1).toNat) = 0 ∧ j = (W 1 (W 0 0 - 1).toNat * 4 + W 2 (W 0 0 - 1).toNat).toNat then W 12 j + 1 else W 12 j)
    ∧ (∀ j : Nat, (wUngrind W) 14 j = if ¬ wLie W (W 0 0 - 1) (W 2 (W 0 0 - 1).toNat) = 0 ∧ j = (W 1 (W 0 0 - 1).toNat).toNat then W 14 j - 1 else W 14 j) := by
  unfold wUngrind wUg1
  rw [if_neg (by omega)]
  by_cases hl : wLie W (W 0 0 - 1) (W 2 (W 0 0 - 1).toNat) = 0
  · rw [if_pos hl]
    refine ⟨?_, fun f k a b => ?_, fun f k a b => ?_, fun f k a => ?_, ?_, ?_, fun j => ?_, fun j => ?_, fun j => ?_⟩
    · simp (disch := decide) only [up_f, up_eq]
    · simp (disch := omega) only [up_f]
    · simp (disch := omega) only [up_f]
    · simp (disch := omega) only [up_f]
    · simp (disch := decide) only [up_f, up_eq]
    · simp (disch := decide) only [up_f, up_eq]
    · simp (disch := decide) only [up_f, up_at]
    · simp (disch := decide) only [up_f, up_at]
      by_cases q : j = (W 1 (W 0 0 - 1).toNat * 4 + W 2 (W 0 0 - 1).toNat).toNat
      · rw [if_pos q, if_pos ⟨hl, q⟩, q]
      · rw [if_neg q, if_neg (fun z => q z.2)]
    · simp (disch := decide) only [up_f, up_at]
      rw [if_neg (fun z => z.1 hl)]
  · rw [if_neg hl]
    refine ⟨?_, fun f k a b => ?_, fun f k a b => ?_, fun f k a => ?_, ?_, ?_, fun j => ?_, fun j => ?_, fun j => ?_⟩
    · simp (disch := decide) only [up_f, up_eq]
    · simp (disch := omega) only [up_f]
    · simp (disch := omega) only [up_f]
    · simp (disch := omega) only [up_f]
    · simp (disch := decide) only [up_f, up_eq]
    · simp (disch := decide) only [up_f, up_eq]
    · simp (disch := decide) only [up_f, up_at]
    · simp (disch := decide) only [up_f, up_at]
      rw [if_neg (fun z => hl z.1)]
    · simp (disch := decide) only [up_f, up_at]
      by_cases q : j = (W 1 (W 0 0 - 1).toNat).toNat
      · rw [if_pos q, if_pos ⟨hl, q⟩, q]
      · rw [if_neg q, if_neg (fun z => q z.2)]
theorem wQ_ug {A W : aS} {p s wr : Int} (hT : TA A) (hW : WI A W) (hc : wCan W) (hp : 0 ≤ p ∧ p < A 4 1) (hs : 0 ≤ s ∧ s < A 4 0) : wQ (wUngrind (wGrind A W p s wr)) W ∧ wOK (wGrind A W p s wr) 0 := by
  have h0 := hT.1
  have a0 := hW.1
  obtain ⟨⟨e0, e1, e2, e3, e4, e5, e6, e7, e8, e9, e10⟩, e12, e13, e14, e19, e20, ef⟩ := wGr_ev (A := A) (p := p) (s := s) (wr := wr) hc
  generalize wGrind A W p s wr = V at *
  have hn : (V 0 0 - 1).toNat = (W 0 0).toNat := by omega
  have n1 : V 1 (V 0 0 - 1).toNat = p := by rw [hn, e1, if_pos rfl]
  have n2 : V 2 (V 0 0 - 1).toNat = s := by rw [hn, e2, if_pos rfl]
  have n4 : V 4 (V 0 0 - 1).toNat = wPort A W := by rw [hn, e4, if_pos rfl]
  have n6 : V 6 (V 0 0 - 1).toNat = W 13 p.toNat := by rw [hn, e6, if_pos rfl]
  have n7 : V 7 (V 0 0 - 1).toNat = W 20 0 := by rw [hn, e7, if_pos rfl]
  have n10 : V 10 (V 0 0 - 1).toNat = wBits W p := by rw [hn, e10, if_pos rfl]
  have hl := (wLie_b (W := W) (V := V) (k := V 0 0 - 1) (p := p) (s := s) n10 (by omega) (by omega)).1
  obtain ⟨u0, u1, u15, u21, u19, u20, u13, u12, u14⟩ := wUg_ev V (by omega)
  rw [n1, n2] at u12 u14
  rw [n1, n6] at u13
  rw [n4] at u19
  rw [n7] at u20
  generalize wUngrind V = U at *
  generalize wLie V (V 0 0 - 1) s = y at *
  refine ⟨⟨by omega, fun f k a b c => ?_, fun f j a b => ?_, fun f a b => ?_, fun c k a b z => ?_⟩, Or.inl ⟨rfl, by omega, by rw [n1]; omega, by rw [n2]; omega⟩⟩
  · rw [u1 f k (by omega) (by omega)]
    have ne : ¬ k = (W 0 0).toNat := by omega
    rcases (show f = 1 ∨ f = 2 ∨ f = 3 ∨ f = 4 ∨ f = 5 ∨ f = 6 ∨ f = 7 ∨ f = 8 ∨ f = 9 ∨ f = 10 by omega) with rfl | rfl | rfl | rfl | rfl | rfl | rfl | rfl | rfl | rfl
    · rw [e1, if_neg ne]
    · rw [e2, if_neg ne]
    · rw [e3, if_neg ne]
    · rw [e4, if_neg ne]
    · rw [e5, if_neg ne]
    · rw [e6, if_neg ne]
    · rw [e7, if_neg ne]
    · rw [e8, if_neg ne]
    · rw [e9, if_neg ne]
    · rw [e10, if_neg ne]
  · rcases (show f = 11 ∨ f = 12 ∨ f = 13 ∨ f = 14 ∨ f = 15 ∨ f = 16 by omega) with rfl | rfl | rfl | rfl | rfl | rfl
    · rw [u1 11 j (by decide) (by decide), ef 11 j (by omega)]
    · rw [u12, e12]
      (repeat' split) <;> omega
    · rw [u13, e13]
      by_cases q : j = p.toNat
      · rw [if_pos q, q]
      · rw [if_neg q, if_neg q]
    · rw [u14, e14]
      (repeat' split) <;> omega
    · rw [u15 15 j (by decide) (by decide), ef 15 j (by omega)]
    · rw [u15 16 j (by decide) (by decide), ef 16 j (by omega)]
  · rcases (show f = 18 ∨ f = 19 ∨ f = 20 by omega) with rfl | rfl | rfl
    · rw [u15 18 0 (by decide) (by decide), ef 18 0 (by omega)]
    · omega
    · exact u20
  · rw [u15 17 _ (by decide) (by decide), ef 17 _ (by omega)]
theorem wUf_ev (W : aS) (p s : Int) : (∀ j : Nat, (wUnfall W p s) 11 j = if j = (p * 4 + s).toNat then W 11 j - 1 else W 11 j) ∧ (∀ j : Nat, (wUnfall W p s) 12 j = if j = (p * 4 + s).toNat then W 12 j - 1 else W 12 j) ∧ (∀ j : Nat, (wUnfall W p s) 15 j = if j = p.toNat then W 15 j - 1 else W 15 j) ∧ ∀ f j : Nat, f ≠ 11 → f ≠ 12 → f ≠ 15 → (wUnfall W p s) f j = W f j := by
  unfold wUnfall
  refine ⟨fun j => ?_, fun j => ?_, fun j => ?_, fun f j h1 h2 h3 => by rw [up_f h3, up_f h2, up_f h1]⟩
  · simp (disch := decide) only [up_f, up_at]
    by_cases q : j = (p * 4 + s).toNat
    · rw [if_pos q, if_pos q, q]
    · rw [if_neg q, if_neg q]
  · simp (disch := decide) only [up_f, up_at]
    by_cases q : j = (p * 4 + s).toNat
    · rw [if_pos q, if_pos q, q]
    · rw [if_neg q, if_neg q]
  · simp (disch := decide) only [up_f, up_at]
    by_cases q : j = p.toNat
    · rw [if_pos q, if_pos q, q]
    · rw [if_neg q, if_neg q]
theorem wFa_ev (W : aS) (p s : Int) : (∀ j : Nat, (wFall W p s) 11 j = if j = (p * 4 + s).toNat then W 11 j + 1 else W 11 j) ∧ (∀ j : Nat, (wFall W p s) 12 j = if j = (p * 4 + s).toNat then W 12 j + 1 else W 12 j) ∧ (∀ j : Nat, (wFall W p s) 15 j = if j = p.toNat then W 15 j + 1 else W 15 j) ∧ ∀ f j : Nat, f ≠ 11 → f ≠ 12 → f ≠ 15 → (wFall W p s) f j = W f j := by
  unfold wFall
  refine ⟨fun j => ?_, fun j => ?_, fun j => ?_, fun f j h1 h2 h3 => by rw [up_f h3, up_f h2, up_f h1]⟩
  · simp (disch := decide) only [up_f, up_at]
    by_cases q : j = (p * 4 + s).toNat
    · rw [if_pos q, if_pos q, q]
    · rw [if_neg q, if_neg q]
  · simp (disch := decide) only [up_f, up_at]
    by_cases q : j = (p * 4 + s).toNat
    · rw [if_pos q, if_pos q, q]
    · rw [if_neg q, if_neg q]
  · simp (disch := decide) only [up_f, up_at]
    by_cases q : j = p.toNat
    · rw [if_pos q, if_pos q, q]
    · rw [if_neg q, if_neg q]
theorem wQ_uf {W : aS} {p s : Int} : wQ (wUnfall (wFall W p s) p s) W := by
  obtain ⟨a1, a2, a3, a4⟩ := wFa_ev W p s
  obtain ⟨b1, b2, b3, b4⟩ := wUf_ev (wFall W p s) p s
  generalize wUnfall (wFall W p s) p s = U at *
  generalize wFall W p s = V at *
  have e : ∀ f j : Nat, f ≠ 11 → f ≠ 12 → f ≠ 15 → U f j = W f j := fun f j h1 h2 h3 => (b4 f j h1 h2 h3).trans (a4 f j h1 h2 h3)
  refine ⟨e 0 0 (by decide) (by decide) (by decide), fun f k a b c => e f k (by omega) (by omega) (by omega), fun f j a b => ?_, fun f a b => e f 0 (by omega) (by omega) (by omega), fun c k a b z => e 17 _ (by decide) (by decide) (by decide)⟩
  rcases (show f = 11 ∨ f = 12 ∨ f = 15 ∨ (f ≠ 11 ∧ f ≠ 12 ∧ f ≠ 15) by omega) with rfl | rfl | rfl | ⟨h1, h2, h3⟩
  · rw [b1, a1]; split <;> omega
  · rw [b2, a2]; split <;> omega
  · rw [b3, a3]; split <;> omega
  · exact e f j h1 h2 h3
/-! a cake's flour given back -/
theorem wTk0_17 {W : aS} {c : Int} {k : Nat} : ∀ m : Nat, k < m → (wTk0 W c m) 17 ((c * 60).toNat + k) = 0
  | 0, h => absurd h (by omega)
  | m + 1, h => by
    rw [wTk0]
    by_cases q : k = m
    · rw [q, up_eq]
    · rw [up_j (by omega)]
      exact wTk0_17 m (by omega)
theorem wTk0_o {W : aS} {c : Int} {j : Nat} : ∀ m : Nat, (j < (c * 60).toNat ∨ (c * 60).toNat + m ≤ j) → (wTk0 W c m) 17 j = W 17 j
  | 0, _ => rfl
  | m + 1, h => by
    rw [wTk0, up_j (by omega)]
    exact wTk0_o m (by omega)
theorem wTs_ev (a c : Int) (x : Int × aS) (hc : 0 ≤ c) (h0 : 0 ≤ wCo (x.2 3) (x.2 5) a (x.2 0 0).toNat) : (∀ j : Nat, (wTs a c x).2 5 j = if j = (wCo (x.2 3) (x.2 5) a (x.2 0 0).toNat).toNat then x.2 5 j - min x.1 (x.2 5 j) else x.2 5 j) ∧ (∀ j : Nat, (wTs a c x).2 17 j = if j = (c * 60).toNat + (wCo (x.2 3) (x.2 5) a (x.2 0 0).toNat).toNat then min x.1 (x.2 5 (wCo (x.2 3) (x.2 5) a (x.2 0 0).toNat).toNat) else x.2 17 j) ∧ (wTs a c x).1 = x.1 - min x.1 (x.2 5 (wCo (x.2 3) (x.2 5) a (x.2 0 0).toNat).toNat) ∧ ∀ f j : Nat, f ≠ 5 → f ≠ 17 → (wTs a c x).2 f j = x.2 f j := by
  refine ⟨fun j => ?_, fun j => ?_, rfl, fun f j h5 h17 => ?_⟩
  · unfold wTs
    dsimp only
    rw [up_f (by decide), up_at]
    by_cases q : j = (wCo (x.2 3) (x.2 5) a (x.2 0 0).toNat).toNat
    · rw [if_pos q, if_pos q, ← q]
    · rw [if_neg q, if_neg q]
  · show (up (up _ _ _ _) _ _ _) 17 j = _
    rw [up_at, show (c * 60 + wCo (x.2 3) (x.2 5) a (x.2 0 0).toNat).toNat = (c * 60).toNat + (wCo (x.2 3) (x.2 5) a (x.2 0 0).toNat).toNat by omega, up_f (by decide)]
  · show (up (up _ _ _ _) _ _ _) f j = _
    rw [up_f h17, up_f h5]
/-- what is taken and what is left of it make what there was -/
def wTP (H : Nat → Int) (c : Int) (x : Int × aS) : Prop := ∀ k : Nat, (k : Int) < x.2 0 0 → (x.2 17 ((c * 60).toNat + k) = 0 ∧ x.2 5 k = H k) ∨ ((x.1 ≤ 0 ∨ x.2 5 k = 0) ∧ x.2 5 k + x.2 17 ((c * 60).toNat + k) = H k)
theorem wTP_s {H : Nat → Int} {a c : Int} {x : Int × aS} (hc : 0 ≤ c) (hx : 0 < x.1) (hn : wCo (x.2 3) (x.2 5) a (x.2 0 0).toNat ≠ -1) (h : wTP H c x) : wTP H c (wTs a c x) := by
  have hco := (wCo_in (F := x.2 3) (H := x.2 5) (a := a) (x.2 0 0).toNat).resolve_left hn
  obtain ⟨t1, t2, t3, t4⟩ := wTs_ev a c x hc hco.1
  intro k hk
  rw [t4 0 0 (by decide) (by decide)] at hk
  have hk9 := h k hk
  generalize wCo (x.2 3) (x.2 5) a (x.2 0 0).toNat = co at *
  rw [t1, t2, t3]
  by_cases q : k = co.toNat
  · rw [if_pos q, if_pos (by omega)]
    subst q
    refine Or.inr ⟨by omega, by omega⟩
  · rw [if_neg q, if_neg (by omega)]
    rcases hk9 with y | y
    · exact Or.inl y
    · exact Or.inr ⟨by omega, y.2⟩
theorem wTP_k {H : Nat → Int} {a c : Int} (hc : 0 ≤ c) : ∀ (m : Nat) (x : Int × aS), wTP H c x → wTP H c (wTk a c m x)
  | 0, _, h => h
  | m + 1, x, h => by
    rw [wTk]
    split
    · rename_i q
      exact wTP_k hc m (wTs a c x) (wTP_s hc q.1 q.2 h)
    · exact h
/-- other cakes' rows stay; all that is taken is within bounds -/
theorem wTk_17 {a c : Int} (hc : 0 ≤ c) : ∀ (m : Nat) (x : Int × aS), x.2 0 0 ≤ 60 → ∀ j : Nat, (j < (c * 60).toNat ∨ (c * 60).toNat + 60 ≤ j) → (wTk a c m x).2 17 j = x.2 17 j
  | 0, _, _, _, _ => rfl
  | m + 1, x, h, j, hj => by
    rw [wTk]
    split
    · rename_i q
      have hco := (wCo_in (F := x.2 3) (H := x.2 5) (a := a) (x.2 0 0).toNat).resolve_left q.2
      obtain ⟨t1, t2, t3, t4⟩ := wTs_ev a c x hc hco.1
      have r := wTk_17 (a := a) hc m (wTs a c x) (by rw [t4 0 0 (by decide) (by decide)]; exact h) j hj
      refine r.trans ?_
      rw [t2, if_neg (by omega)]
    · rfl
theorem wTk_in {a c : Int} (hc : 0 ≤ c) : ∀ (m : Nat) (x : Int × aS), x.1 ≤ 99 → (∀ j : Nat, j < 300 → 0 ≤ x.2 17 j ∧ x.2 17 j ≤ 99) → ∀ j : Nat, j < 300 → 0 ≤ (wTk a c m x).2 17 j ∧ (wTk a c m x).2 17 j ≤ 99
  | 0, _, _, h, j, hj => h j hj
  | m + 1, x, h9, h, j, hj => by
    rw [wTk]
    split
    · rename_i q
      have hco := (wCo_in (F := x.2 3) (H := x.2 5) (a := a) (x.2 0 0).toNat).resolve_left q.2
      obtain ⟨t1, t2, t3, t4⟩ := wTs_ev a c x hc hco.1
      refine wTk_in (a := a) hc m (wTs a c x) (by rw [t3]; omega) (fun i hi => ?_) j hj
      rw [t2]
      have := h i hi
      split <;> omega
    · exact h j hj
def W7 (W : aS) : Prop := ∀ j : Nat, j < 300 → 0 ≤ W 17 j ∧ W 17 j ≤ 99
theorem W7_bake {A W : aS} {c : Int} (hT : TA A) (hc : 0 ≤ c ∧ c < A 4 2) (h : W7 W) : W7 (wBake A W c) := by
  unfold wBake
  split
  · have h0 := hT.1
    have hk := hT.2.2.2.2.1 c.toNat (by omega)
    intro j hj
    rw [up_f (by decide)]
    refine wTk_in hc.1 60 _ (by show A 10 c.toNat ≤ 99; omega) (fun i hi => ?_) j hj
    show 0 ≤ (wTk0 W c 60) 17 i ∧ (wTk0 W c 60) 17 i ≤ 99
    by_cases q : i < (c * 60).toNat ∨ (c * 60).toNat + 60 ≤ i
    · rw [wTk0_o 60 q]; exact h i hi
    · have e := wTk0_17 (W := W) (c := c) (k := i - (c * 60).toNat) 60 (by omega)
      rw [show (c * 60).toNat + (i - (c * 60).toNat) = i by omega] at e
      rw [e]; decide
  · exact h
theorem W7_of {V W : aS} (e : ∀ j, V 17 j = W 17 j) (h : W7 W) : W7 V := fun j hj => by rw [e]; exact h j hj
theorem W7_bd {A W : aS} (hT : TA A) (h : W7 W) : ∀ m : Nat, (m : Int) ≤ A 4 2 → W7 (wBd A m W)
  | 0, _ => h
  | m + 1, hm => by
    rw [wBd]
    split
    · exact W7_bake hT (by omega) (W7_bd hT h m (by omega))
    · exact W7_bd hT h m (by omega)
theorem W17_grind {A W : aS} {p s wr : Int} (j : Nat) : (wGrind A W p s wr) 17 j = W 17 j := by
  by_cases hc : wCan W
  · exact (wGr_ev hc).2.2.2.2.2.2 17 j (by omega)
  · unfold wGrind
    rw [if_neg hc]
theorem W7_cod {A W : aS} {t i : Int} (h : W7 W) : W7 (wCod A W t i) := by
  unfold wCod
  split
  · exact W7_of (fun j => W17_grind j) h
  · exact h
theorem W7_days {A W : aS} (hT : TA A) (h : W7 W) : ∀ m : Nat, W7 (wDays A m W)
  | 0 => h
  | m + 1 => by
    have h0 := hT.1
    rw [wDays]
    unfold wDay
    exact W7_of (fun j => up_f (by decide)) (W7_bd hT (W7_cod (W7_days hT h m)) _ (by omega))
theorem wUb_5 {W : aS} {c : Int} {k : Nat} : ∀ m : Nat, k < m → (wUb W c m) 5 k = W 5 k + W 17 ((c * 60).toNat + k)
  | 0, h => absurd h (by omega)
  | m + 1, h => by
    rw [wUb]
    by_cases q : k = m
    · rw [q, up_eq]
    · rw [up_j q]
      exact wUb_5 m (by omega)
theorem wUk_ev (W : aS) (c : Int) : (∀ k : Nat, (k : Int) < W 0 0 → (wUnbake W c) 5 k = W 5 k + W 17 ((c * 60).toNat + k)) ∧ (∀ j : Nat, (wUnbake W c) 16 j = if j = c.toNat then -1 else W 16 j) ∧ ∀ f j : Nat, f ≠ 5 → f ≠ 16 → (wUnbake W c) f j = W f j := by
  unfold wUnbake
  refine ⟨fun k hk => ?_, fun j => ?_, fun f j h5 h16 => ?_⟩
  · rw [up_f (by decide)]; exact wUb_5 _ (by omega)
  · rw [up_at]
    split
    · rfl
    · exact wUb_f _ (Or.inl (by decide))
  · rw [up_f h16]; exact wUb_f _ (Or.inl h5)
set_option maxRecDepth 100000 in
theorem wQ_ub {A W : aS} {c : Int} (hT : TA A) (hW : WI A W) (hc : 0 ≤ c ∧ c < A 4 2) (hb : wCanB A W c) : wQ (wUnbake (wBake A W c) c) W ∧ wOK (wBake A W c) (21 + c) := by
  have h0 := hT.1
  have a0 := hW.1
  have b0 := hW.2.2.2.2.2.1
  have hV : wBake A W c = up (wTk (A 9 c.toNat) c 60 (A 10 c.toNat, wTk0 W c 60)).2 16 c.toNat (W 18 0) := by unfold wBake; rw [if_pos hb]
  obtain ⟨u5, u16, uf⟩ := wUk_ev (wBake A W c) c
  have v16 : ∀ j : Nat, (wBake A W c) 16 j = if j = c.toNat then W 18 0 else W 16 j := fun j => by
    rw [hV, up_at]
    split
    · rfl
    · rw [wTk_f (f := 16) (by decide) (by decide)]
      show (wTk0 W c 60) 16 j = W 16 j
      exact wTk0_f (by decide) 60
  have vf : ∀ f j : Nat, f ≠ 5 → f ≠ 16 → f ≠ 17 → (wBake A W c) f j = W f j := fun f j h5 h16 h17 => by
    rw [hV, up_f h16, wTk_f h5 h17]; exact wTk0_f h17 60
  have v17 : ∀ j : Nat, (j < (c * 60).toNat ∨ (c * 60).toNat + 60 ≤ j) → (wBake A W c) 17 j = W 17 j := fun j hj => by
    rw [hV, up_f (by decide), wTk_17 hc.1 60 _ (by show (wTk0 W c 60) 0 0 ≤ 60; rw [wTk0_f (by decide)]; exact a0.2) j hj]
    exact wTk0_o 60 hj
  have vP : ∀ k : Nat, (k : Int) < W 0 0 → (wBake A W c) 5 k + (wBake A W c) 17 ((c * 60).toNat + k) = W 5 k := fun k hk => by
    have hP : wTP (W 5) c (A 10 c.toNat, wTk0 W c 60) := fun i hi => by
      have hi2 : (i : Int) < (wTk0 W c 60) 0 0 := hi
      rw [wTk0_f (by decide)] at hi2
      have e5 : (wTk0 W c 60) 5 i = W 5 i := wTk0_f (by decide) 60
      have e17 : (wTk0 W c 60) 17 ((c * 60).toNat + i) = 0 := wTk0_17 60 (by omega)
      exact Or.inl ⟨e17, e5⟩
    have q := wTP_k (a := A 9 c.toNat) hc.1 60 _ hP k (by rw [wTk_f (by decide) (by decide)]; show (k : Int) < (wTk0 W c 60) 0 0; rw [wTk0_f (by decide)]; exact hk)
    rw [hV, up_f (by decide), up_f (by decide)]
    omega
  have v0 : (wBake A W c) 0 0 = W 0 0 := vf 0 0 (by decide) (by decide) (by decide)
  generalize wUnbake (wBake A W c) c = U at *
  generalize wBake A W c = V at *
  clear hV
  refine ⟨⟨(uf 0 0 (by decide) (by decide)).trans v0, fun f k a b z => ?_, fun f j a b => ?_, fun f a b => (uf f 0 (by omega) (by omega)).trans (vf f 0 (by omega) (by omega) (by omega)), fun d k a b z => ?_⟩, Or.inr (Or.inr ⟨by omega, by omega, ?_⟩)⟩
  · rw [uf 0 0 (by decide) (by decide), v0] at z
    by_cases q : f = 5
    · subst q
      rw [u5 k (by omega)]; exact vP k z
    · rw [uf f k q (by omega)]; exact vf f k q (by omega) (by omega)
  · by_cases q : f = 16
    · subst q
      rw [u16, v16]
      by_cases y : j = c.toNat
      · rw [if_pos y, y]; exact hb.1.symm
      · rw [if_neg y, if_neg y]
    · rw [uf f j (by omega) q]; exact vf f j (by omega) q (by omega)
  · rw [u16] at z
    by_cases y : d = c.toNat
    · rw [if_pos y] at z; exact absurd rfl z
    · rw [uf 17 _ (by decide) (by decide)]; exact v17 _ (by omega)
  · rw [show (21 + c - 21).toNat = c.toNat by omega, v16, if_pos rfl]
    omega
theorem wQ_undo {X Y : aS} {x : Int} (hsz : X 0 0 ≤ 60) (h : wQ X Y) (ho : wOK Y x) : wQ (wUndo X x) (wUndo Y x) := by
  obtain ⟨q0, q1, q2, q3, q4⟩ := h
  unfold wUndo
  rcases ho with ⟨a, b, c⟩ | a | ⟨a, b, c⟩
  · rw [if_neg (by omega), if_neg (by omega), if_neg (by omega), if_neg (by omega)]
    obtain ⟨u0, u1, u15, u21, u19, u20, u13, u12, u14⟩ := wUg_ev X (by omega)
    obtain ⟨v0, v1, v15, v21, v19, v20, v13, v12, v14⟩ := wUg_ev Y (by omega)
    have k9 : ∀ f : Nat, 1 ≤ f → f ≤ 10 → X f (X 0 0 - 1).toNat = Y f (Y 0 0 - 1).toNat := fun f h1 h2 => by rw [q1 f _ h1 h2 (by omega), q0]
    have hl : wLie X (X 0 0 - 1) (X 2 (X 0 0 - 1).toNat) = wLie Y (Y 0 0 - 1) (Y 2 (Y 0 0 - 1).toNat) := by
      unfold wLie
      rw [k9 10 (by decide) (by decide), k9 2 (by decide) (by decide)]
    rw [hl, k9 1 (by decide) (by decide), k9 2 (by decide) (by decide)] at u12
    rw [hl, k9 1 (by decide) (by decide)] at u14
    rw [k9 1 (by decide) (by decide), k9 6 (by decide) (by decide)] at u13
    rw [k9 4 (by decide) (by decide)] at u19
    rw [k9 7 (by decide) (by decide)] at u20
    refine ⟨by omega, fun f k h1 h2 h3 => ?_, fun f j h1 h2 => ?_, fun f h1 h2 => ?_, fun d k h1 h2 h3 => ?_⟩
    · rw [u1 f k h1 (by omega), v1 f k h1 (by omega)]; exact q1 f k h1 h2 (by omega)
    · rcases (show f = 11 ∨ f = 12 ∨ f = 13 ∨ f = 14 ∨ f = 15 ∨ f = 16 by omega) with rfl | rfl | rfl | rfl | rfl | rfl
      · rw [u1 11 j (by decide) (by decide), v1 11 j (by decide) (by decide)]; exact q2 11 j (by decide) (by decide)
      · rw [u12, v12, q2 12 j (by decide) (by decide)]
      · rw [u13, v13, q2 13 j (by decide) (by decide)]
      · rw [u14, v14, q2 14 j (by decide) (by decide)]
      · rw [u15 15 j (by decide) (by decide), v15 15 j (by decide) (by decide)]; exact q2 15 j (by decide) (by decide)
      · rw [u15 16 j (by decide) (by decide), v15 16 j (by decide) (by decide)]; exact q2 16 j (by decide) (by decide)
    · rcases (show f = 18 ∨ f = 19 ∨ f = 20 by omega) with rfl | rfl | rfl
      · rw [u15 18 0 (by decide) (by decide), v15 18 0 (by decide) (by decide)]; exact q3 18 (by decide) (by decide)
      · rw [u19, v19, q3 19 (by decide) (by decide)]
      · rw [u20, v20]
    · rw [u15 16 d (by decide) (by decide)] at h3
      rw [u15 17 _ (by decide) (by decide), v15 17 _ (by decide) (by decide)]; exact q4 d k h1 h2 h3
  · rw [if_neg (by omega), if_pos (by omega), if_neg (by omega), if_pos (by omega)]
    obtain ⟨u11, u12, u15, uf⟩ := wUf_ev X ((x - 1) / 4) ((x - 1) % 4)
    obtain ⟨v11, v12, v15, vf⟩ := wUf_ev Y ((x - 1) / 4) ((x - 1) % 4)
    refine ⟨?_, fun f k h1 h2 h3 => ?_, fun f j h1 h2 => ?_, fun f h1 h2 => ?_, fun d k h1 h2 h3 => ?_⟩
    · rw [uf 0 0 (by decide) (by decide) (by decide), vf 0 0 (by decide) (by decide) (by decide)]; exact q0
    · rw [uf 0 0 (by decide) (by decide) (by decide)] at h3
      rw [uf f k (by omega) (by omega) (by omega), vf f k (by omega) (by omega) (by omega)]; exact q1 f k h1 h2 h3
    · rcases (show f = 11 ∨ f = 12 ∨ f = 15 ∨ (f ≠ 11 ∧ f ≠ 12 ∧ f ≠ 15) by omega) with rfl | rfl | rfl | ⟨y1, y2, y3⟩
      · rw [u11, v11, q2 11 j (by decide) (by decide)]
      · rw [u12, v12, q2 12 j (by decide) (by decide)]
      · rw [u15, v15, q2 15 j (by decide) (by decide)]
      · rw [uf f j y1 y2 y3, vf f j y1 y2 y3]; exact q2 f j h1 h2
    · rw [uf f 0 (by omega) (by omega) (by omega), vf f 0 (by omega) (by omega) (by omega)]; exact q3 f h1 h2
    · rw [uf 16 d (by decide) (by decide) (by decide)] at h3
      rw [uf 17 _ (by decide) (by decide) (by decide), vf 17 _ (by decide) (by decide) (by decide)]; exact q4 d k h1 h2 h3
  · rw [if_pos (by omega), if_pos (by omega)]
    obtain ⟨u5, u16, uf⟩ := wUk_ev X (x - 21)
    obtain ⟨v5, v16, vf⟩ := wUk_ev Y (x - 21)
    have c9 : X 16 (x - 21).toNat ≠ -1 := by rw [q2 16 _ (by decide) (by decide)]; exact c
    refine ⟨?_, fun f k h1 h2 h3 => ?_, fun f j h1 h2 => ?_, fun f h1 h2 => ?_, fun d k h1 h2 h3 => ?_⟩
    · rw [uf 0 0 (by decide) (by decide), vf 0 0 (by decide) (by decide)]; exact q0
    · rw [uf 0 0 (by decide) (by decide)] at h3
      by_cases y : f = 5
      · subst y
        have hk60 : k < 60 ∨ 60 ≤ k := by omega
        rw [u5 k h3, v5 k (by omega), q1 5 k (by decide) (by decide) h3]
        rcases hk60 with g | g
        · have e := q4 (x - 21).toNat k (by omega) g c9
          rw [show (x - 21).toNat * 60 + k = ((x - 21) * 60).toNat + k by omega] at e
          rw [e]
        · exact absurd h3 (by have := hsz; omega)
      · rw [uf f k y (by omega), vf f k y (by omega)]; exact q1 f k h1 h2 h3
    · by_cases y : f = 16
      · subst y
        rw [u16, v16, q2 16 j (by decide) (by decide)]
      · rw [uf f j (by omega) y, vf f j (by omega) y]; exact q2 f j h1 h2
    · rw [uf f 0 (by omega) (by omega), vf f 0 (by omega) (by omega)]; exact q3 f h1 h2
    · rw [u16] at h3
      by_cases y : d = (x - 21).toNat
      · rw [if_pos y] at h3; exact absurd rfl h3
      · rw [if_neg y] at h3
        rw [uf 17 _ (by decide) (by decide), vf 17 _ (by decide) (by decide)]; exact q4 d k h1 h2 h3
theorem WI_Q {A X Y : aS} (h : wQ X Y) (hY : WI A Y) (h21 : 0 ≤ X 21 0 ∧ X 21 0 ≤ 2147483647) (h22 : -1 ≤ X 22 0 ∧ X 22 0 ≤ 60) : WI A X := by
  obtain ⟨q0, q1, q2, q3, -⟩ := h
  obtain ⟨a0, a1, a2, a3, a4, a5, a6, a7, -, -⟩ := hY
  refine ⟨by rw [q0]; exact a0, fun k hk => ?_, fun j hj => ?_, fun i r hi hr => ?_, fun j hj => ?_, ?_, ?_, ?_, h21, h22⟩
  · rw [q1 1 k (by decide) (by decide) hk, q1 2 k (by decide) (by decide) hk, q1 3 k (by decide) (by decide) hk, q1 4 k (by decide) (by decide) hk, q1 5 k (by decide) (by decide) hk, q1 6 k (by decide) (by decide) hk, q1 7 k (by decide) (by decide) hk, q1 8 k (by decide) (by decide) hk, q1 9 k (by decide) (by decide) hk, q1 10 k (by decide) (by decide) hk]
    exact a1 k (by rw [← q0]; exact hk)
  · rw [q2 12 j (by decide) (by decide), q2 11 j (by decide) (by decide)]; exact a2 j hj
  · rw [q2 11 _ (by decide) (by decide)]; exact a3 i r hi hr
  · rw [q2 14 j (by decide) (by decide), q2 13 j (by decide) (by decide), q0, q2 15 j (by decide) (by decide), q2 11 _ (by decide) (by decide), q2 11 _ (by decide) (by decide), q2 11 _ (by decide) (by decide), q2 11 _ (by decide) (by decide), q2 16 j (by decide) (by decide)]; exact a4 j hj
  · rw [q3 18 (by decide) (by decide)]; exact a5
  · rw [q3 19 (by decide) (by decide)]; exact a6
  · rw [q3 20 (by decide) (by decide)]; exact a7
/-! the row of what can be undone: each state, what leads from it to the next -/
def wUI (A : aS) (Ws : Nat → aS) (us : Nat → Int) (n : Int) (W : aS) : Prop := (0 ≤ n ∧ n ≤ 20) ∧ wQ W (Ws n.toNat) ∧ (∀ i : Nat, (i : Int) < n → wOK (Ws (i + 1)) (us i) ∧ wQ (wUndo (Ws (i + 1)) (us i)) (Ws i)) ∧ ∀ i : Nat, (i : Int) ≤ n → WI A (Ws i)
theorem wUI_0 {A W : aS} {us : Nat → Int} (h : WI A W) : wUI A (fun _ => W) us 0 W := ⟨by decide, wQ_rf, fun i hi => absurd hi (by omega), fun _ _ => h⟩
theorem wUI_us {A W : aS} {Ws : Nat → aS} {us vs : Nat → Int} {n : Int} (h : wUI A Ws us n W) (e : ∀ i : Nat, (i : Int) < n → vs i = us i) : wUI A Ws vs n W := ⟨h.1, h.2.1, fun i hi => by rw [e i hi]; exact h.2.2.1 i hi, h.2.2.2⟩
theorem wUI_W {A V W : aS} {Ws : Nat → aS} {us : Nat → Int} {n : Int} (hq : wQ V W) (h : wUI A Ws us n W) : wUI A Ws us n V := ⟨h.1, wQ_t hq h.2.1, h.2.2⟩
theorem wUI_push {A V W : aS} {Ws : Nat → aS} {us : Nat → Int} {n x : Int} (h : wUI A Ws us n W) (hn : n < 20) (ho : wOK V x) (hq : wQ (wUndo V x) W) (hV : WI A V) : wUI A (fun i => if i ≤ n.toNat then Ws i else V) (fun i => if i = n.toNat then x else us i) (n + 1) V := by
  obtain ⟨h0, h1, h2, h3⟩ := h
  refine ⟨by omega, ?_, fun i hi => ?_, fun i hi => ?_⟩
  · show wQ V (if (n + 1).toNat ≤ n.toNat then _ else V)
    rw [if_neg (by omega)]; exact wQ_rf
  · show wOK (if i + 1 ≤ n.toNat then Ws (i + 1) else V) (if i = n.toNat then x else us i) ∧ wQ (wUndo (if i + 1 ≤ n.toNat then Ws (i + 1) else V) (if i = n.toNat then x else us i)) (if i ≤ n.toNat then Ws i else V)
    by_cases z : i = n.toNat
    · rw [if_neg (by omega), if_pos z, if_pos (by omega), z]
      exact ⟨ho, wQ_t hq h1⟩
    · rw [if_pos (by omega), if_neg z, if_pos (by omega)]
      exact h2 i (by omega)
  · show WI A (if i ≤ n.toNat then Ws i else V)
    split
    · exact h3 i (by omega)
    · exact hV
theorem wUI_full {A V W : aS} {Ws : Nat → aS} {us : Nat → Int} {x : Int} (h : wUI A Ws us 20 W) (ho : wOK V x) (hq : wQ (wUndo V x) W) (hV : WI A V) : wUI A (fun i => if i ≤ 19 then Ws (i + 1) else V) (fun i => if i = 19 then x else us (i + 1)) 20 V := by
  obtain ⟨h0, h1, h2, h3⟩ := h
  refine ⟨by decide, wQ_rf, fun i hi => ?_, fun i hi => ?_⟩
  · show wOK (if i + 1 ≤ 19 then Ws (i + 1 + 1) else V) (if i = 19 then x else us (i + 1)) ∧ wQ (wUndo (if i + 1 ≤ 19 then Ws (i + 1 + 1) else V) (if i = 19 then x else us (i + 1))) (if i ≤ 19 then Ws (i + 1) else V)
    by_cases z : i = 19
    · rw [if_neg (by omega), if_pos z, if_pos (by omega), z]
      exact ⟨ho, wQ_t hq h1⟩
    · rw [if_pos (by omega), if_neg z, if_pos (by omega)]
      exact h2 (i + 1) (by omega)
  · show WI A (if i ≤ 19 then Ws (i + 1) else V)
    split
    · exact h3 (i + 1) (by omega)
    · exact hV
theorem wUI_pop {A W : aS} {Ws : Nat → aS} {us : Nat → Int} {n : Int} (h : wUI A Ws us n W) (hn : 0 < n) : wUI A Ws us (n - 1) (wUndo W (us (n - 1).toNat)) ∧ wOK W (us (n - 1).toNat) := by
  obtain ⟨h0, h1, h2, h3⟩ := h
  have k := h2 (n - 1).toNat (by omega)
  rw [show (n - 1).toNat + 1 = n.toNat by omega] at k
  exact ⟨⟨by omega, wQ_t (wQ_undo (by rw [h1.1]; exact (h3 n.toNat (by omega)).1.2) h1 k.1) k.2, fun i hi => h2 i (by omega), fun i hi => h3 i (by omega)⟩, wOK_Q h1 k.1⟩
