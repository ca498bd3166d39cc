/-! what a copy answers -/
theorem wSm_s {V U : aS} (h : wSm V U) : wSm U V := ⟨h.1.symm, fun j hj => (h.2.1 j hj).symm, fun j hj => (h.2.2.1 j hj).symm, h.2.2.2.1.symm, h.2.2.2.2.1.symm, h.2.2.2.2.2.symm⟩
theorem wTry_fc {A U W : aS} {t i a : Int} {m : Nat} (hT : TA A) (hW : WI A W) (hc : wCp U W) (hm : W 18 0 + m ≤ 100) : wFlour (wTry A t i m U) a = wFlour (wTry A t i m W) a := by
  have h60 := hW.1
  have q1 := (wGos_try (t := t) (i := i) (a := a) hT hW (wSm_s (wSm_cp hc)) (wFlour_cp hc h60.2 a).symm m hm).2
  have q2 := (wGos_try (t := t) (i := i) (a := a) hT hW (U := W) ⟨rfl, fun _ _ => rfl, fun _ _ => rfl, rfl, rfl, rfl⟩ rfl m hm).2
  exact q1.symm.trans q2
theorem wWorst_cg {A : aS} {L M : Nat → Int} {p : Int} : ∀ m : Nat, (∀ j : Nat, j < m → L ((p * 4).toNat + j) = M ((p * 4).toNat + j)) → wWorst A L p m = wWorst A M p m
  | 0, _ => rfl
  | m + 1, h => by rw [wWorst, wWorst, wWorst_cg m (fun j hj => h j (by omega)), h m (by omega)]
theorem wFree_cg {L M : Nat → Int} {p : Int} : ∀ m : Nat, (∀ j : Nat, j < m → L ((p * 4).toNat + j) = M ((p * 4).toNat + j)) → wFree L p m = wFree M p m
  | 0, _ => rfl
  | m + 1, h => by rw [wFree, wFree, wFree_cg m (fun j hj => h j (by omega)), h m (by omega)]
theorem wFind_cg {L M : Nat → Int} {p a : Int} : ∀ m : Nat, (∀ j : Nat, j < m → L ((p * 4).toNat + j) = M ((p * 4).toNat + j)) → wFind L p a m = wFind M p a m
  | 0, _ => rfl
  | m + 1, h => by rw [wFind, wFind, wFind_cg m (fun j hj => h j (by omega)), wFree_cg m (fun j hj => h j (by omega)), h m (by omega)]
theorem wAsk_21 {A Z : aS} {p : Int} : (wAsk A Z p) 21 0 = if wHon A Z p then wD1 Z else if 0 < wFree (Z 12) p (A 4 0).toNat then wNext (wD1 Z) else wD1 Z := by
  unfold wAsk
  by_cases q : wHon A Z p
  · rw [if_pos q, if_pos q]; exact up_eq
  · rw [if_neg q, if_neg q]
    by_cases r : 0 < wFree (Z 12) p (A 4 0).toNat
    · rw [if_pos r, if_pos r]; exact up_eq
    · rw [if_neg r, if_neg r]; exact up_eq
theorem wAsk_cg {A X Y : aS} {p : Int} (h0 : 0 ≤ A 4 0 ∧ A 4 0 ≤ 4) (hp : 0 ≤ p ∧ p ≤ 4) (h12 : ∀ j : Nat, j < 20 → X 12 j = Y 12 j) (h21 : X 21 0 = Y 21 0) : wAskV A X p = wAskV A Y p ∧ (wAsk A X p) 21 0 = (wAsk A Y p) 21 0 := by
  have hh : ∀ j : Nat, j < (A 4 0).toNat → X 12 ((p * 4).toNat + j) = Y 12 ((p * 4).toNat + j) := fun j hj => h12 _ (by omega)
  have e1 : wWorst A (X 12) p (A 4 0).toNat = wWorst A (Y 12) p (A 4 0).toNat := wWorst_cg _ hh
  have e2 : wFree (X 12) p (A 4 0).toNat = wFree (Y 12) p (A 4 0).toNat := wFree_cg _ hh
  have e3 : ∀ a, wFind (X 12) p a (A 4 0).toNat = wFind (Y 12) p a (A 4 0).toNat := fun a => wFind_cg _ hh
  have ed : wD1 X = wD1 Y := by unfold wD1; rw [h21]
  refine ⟨?_, ?_⟩
  · simp only [wAskV, wHon, ed, e1, e2, e3]
  · rw [wAsk_21, wAsk_21]
    simp only [wHon, ed, e1, e2]
theorem wLies_cg {A X Y : aS} {p : Int} (h0 : 0 ≤ A 4 0 ∧ A 4 0 ≤ 4) (hp : 0 ≤ p ∧ p ≤ 4) (h12 : ∀ j : Nat, j < 20 → X 12 j = Y 12 j) (h21 : X 21 0 = Y 21 0) : ∀ m : Nat, (wLies A p m X).1 = (wLies A p m Y).1 ∧ (∀ j : Nat, j < 20 → (wLies A p m X).2 12 j = (wLies A p m Y).2 12 j) ∧ (wLies A p m X).2 21 0 = (wLies A p m Y).2 21 0
  | 0 => ⟨rfl, h12, h21⟩
  | m + 1 => by
    obtain ⟨i1, i2, i3⟩ := wLies_cg h0 hp h12 h21 m
    obtain ⟨a1, a2⟩ := wAsk_cg (p := p) h0 hp i2 i3
    have hv := wAskV_in (A := A) (W := (wLies A p m Y).2) (p := p) h0.1
    rw [wLies, wLies]
    refine ⟨?_, fun j hj => ?_, a2⟩
    · show (wLies A p m X).1 + (if wAskV A (wLies A p m X).2 p ≠ -1 ∧ wL (wLies A p m X).2 p (wAskV A (wLies A p m X).2 p) = 0 then (1 : Int) else 0) = (wLies A p m Y).1 + (if wAskV A (wLies A p m Y).2 p ≠ -1 ∧ wL (wLies A p m Y).2 p (wAskV A (wLies A p m Y).2 p) = 0 then (1 : Int) else 0)
      rw [i1, a1]
      rcases hv with q | q
      · rw [if_neg (fun z => z.1 q), if_neg (fun z => z.1 q)]
      · have e : wL (wLies A p m X).2 p (wAskV A (wLies A p m Y).2 p) = wL (wLies A p m Y).2 p (wAskV A (wLies A p m Y).2 p) := i2 _ (by omega)
        rw [e]
    · show (wAsk A (wLies A p m X).2 p) 12 j = (wAsk A (wLies A p m Y).2 p) 12 j
      rw [wAsk_0 (by decide), wAsk_0 (by decide)]
      exact i2 j hj
theorem wLies_cp {A U W : aS} {p a : Int} (hT : TA A) (hp : 0 ≤ p ∧ p ≤ 4) (hc : wCp U W) (m : Nat) : (wLies A p m (up U 21 0 a)).1 = (wLies A p m (up W 21 0 a)).1 := by
  have h0 := hT.1
  exact (wLies_cg ⟨h0.1, h0.2.1⟩ hp (fun j hj => by rw [up_f (by decide), up_f (by decide)]; exact (hc.2.2.1 j hj).2) (by rw [up_eq, up_eq]) m).1
/-! what the calls make of p -/
def pfW (p : pS) (W : aS) : pS := (pA p, W, pV p, pZ p, pU p, pN p, pK p, pT p, pB p)
def fP (p : pS) (W : aS) (y : Int) : pS := if pN p < 20 then (pA p, W, pV p, fun i => if i ≤ (pN p).toNat then pZ p i else W, fun i => if i = (pN p).toNat then y else pU p i, pN p + 1, pK p, pT p, pB p) else (pA p, W, pV p, fun i => if i ≤ 19 then pZ p (i + 1) else W, fun i => if i = 19 then y else pU p (i + 1), 20, pK p, pT p, pB p)
/-- nothing to undo -/
def f0 (p : pS) (W : aS) : pS := (pA p, W, pV p, fun _ => W, pU p, 0, pK p, pT p, pB p)
def fF (p : pS) (a1 a2 a3 a4 a5 : Int) : pS := if pT p + 20 ≤ 700 then (pA p, pW p, pV p, pZ p, pU p, pN p, pK p, pT p + 20, fun i => if pT p ≤ (i : Int) ∧ (i : Int) < pT p + 20 then ff a1 a2 a3 a4 a5 ((i : Int) - pT p) else pB p i) else p
def fT (p : pS) : pS := (pA p, pW p, pV p, pZ p, pU p, pN p, pK p, 0, pB p)
theorem SP_p {p : pS} {W W1 : aS} {y : Int} (h : SP p) (ho : wOK W y) (hq : wQ (wUndo W y) W1) (h1 : wQ W1 (pW p)) (hW : WI (pA p) W) (h7 : W7 W) : SP (fP p W y) := by
  obtain ⟨g1, g2, g3, g4, g5⟩ := h
  have g4b := wUI_W h1 g4
  have gn := g4.1
  unfold fP
  by_cases q : pN p < 20
  · rw [if_pos q]
    exact ⟨g1, hW, h7, wUI_push g4b q ho hq hW, g5⟩
  · rw [if_neg q]
    have e : pN p = 20 := by omega
    rw [e] at g4b
    exact ⟨g1, hW, h7, wUI_full g4b ho hq hW, g5⟩
theorem SP_w {p : pS} {W : aS} (h : SP p) (h1 : wQ W (pW p)) (hW : WI (pA p) W) (h7 : W7 W) : SP (pfW p W) := ⟨h.1, hW, h7, wUI_W h1 h.2.2.2.1, h.2.2.2.2⟩
theorem SP_0 {p : pS} {W : aS} (h : SP p) (hW : WI (pA p) W) (h7 : W7 W) : SP (f0 p W) := ⟨h.1, hW, h7, wUI_us (wUI_0 hW) (us := fun _ => 0) (fun i hi => absurd (show (i : Int) < 0 from hi) (by omega)), h.2.2.2.2⟩
/-! the class's side -/
theorem QV_ow {Γ : zΓ} {v w t : Nat} {A W : aS} {G G' : zH} {rs : List Nat} (ha : AW Γ v w) (hs : zsn rs G G') (hr : ∀ f : Nat, f < 22 → 4 ≤ f → creg f ∉ rs) (ho : OW Γ v G G') (h8 : G'.2.2 800 w = G.2.2 800 w) (h : QV Γ w t A W G) : QV Γ w t A W G' := ⟨fun f j hf => (ho f _ j hf (fun q => ha.2 f hf q.symm)).trans (h.1 f j hf), TV_n hs hr h.2.1, h8.trans h.2.2⟩
theorem SC_now {Γ : zΓ} {x : Nat} {p : pS} {G G' : zH} {rs : List Nat} {W : aS} {Ws : Nat → aS} {us : Nat → Int} {n : Int} (hg : SG Γ x) (h : SC Γ x p G) (hz : zsm rs G G') (hr : (∀ r ∈ [901, 2055, 2044, 911], r ∉ rs) ∧ ∀ f : Nat, f < 22 → 4 ≤ f → creg f ∉ rs) (hq : QQ Γ (mNow Γ x) (G.2.2 903 x) (pA p) (pW p) G) (hq' : QQ Γ (mNow Γ x) (G.2.2 903 x) (pA p) W G') (hw : wGh W (pW p)) (hn : G'.1 910 x 0 = n) (hu : ∀ j : Nat, (j : Int) < n → G'.1 2056 (Γ.2.1 x 9) j = us j) : SC Γ x (pA p, W, pV p, Ws, us, n, pK p, pT p, pB p) G' := by
  obtain ⟨h1, h4, h5, h6, h8, h9⟩ := h
  have e : ∀ r a, G'.2.2 r a = G.2.2 r a := fun r a => by rw [hz.2]
  unfold SC
  rw [e 903 x, e 401 (Γ.2.1 x 2), hz.1 901 (hr.1 901 (by decide)), hz.1 2055 (hr.1 2055 (by decide)), hz.1 2044 (hr.1 2044 (by decide)), hz.1 911 (hr.1 911 (by decide))]
  exact ⟨h1, h4, QV_Q hq', ⟨hn, hu⟩, h8, fun z => QV_ow hg.1 hz.1 hr.2 (OW_gh hq.1 hq'.1 hw) (e 800 _) (h9 z)⟩
theorem SC_push {Γ : zΓ} {x : Nat} {p : pS} {G G' : zH} {rs : List Nat} {W : aS} {y : Int} (hg : SG Γ x) (hp : SP p) (h : SC Γ x p G) (hz : zsm rs G G') (hr : (∀ r ∈ [901, 2055, 2044, 911], r ∉ rs) ∧ ∀ f : Nat, f < 22 → 4 ≤ f → creg f ∉ rs) (hq : QQ Γ (mNow Γ x) (G.2.2 903 x) (pA p) (pW p) G) (hq' : QQ Γ (mNow Γ x) (G.2.2 903 x) (pA p) W G') (hw : wGh W (pW p)) (hm : rmG x (G.1 2056 (Γ.2.1 x 9)) (G'.1 2056 (Γ.2.1 x 9)) y G G') : SC Γ x (fP p W y) G' := by
  have hn := h.2.2.2.1
  have hn9 := hp.2.2.2.1.1
  obtain ⟨m1, m2⟩ := hm
  rw [hn.1] at m1 m2
  unfold fP
  by_cases q : pN p < 20
  · obtain ⟨k1, k2, k3⟩ := m1 q
    rw [if_pos q]
    refine SC_now hg h hz hr hq hq' hw k1 (fun j hj => ?_)
    show _ = (if j = (pN p).toNat then y else pU p j)
    by_cases z : j = (pN p).toNat
    · rw [if_pos z, z]; exact k3
    · rw [if_neg z, k2 j (by omega)]; exact hn.2 j (by omega)
  · obtain ⟨k1, k2, k3⟩ := m2 q
    rw [if_neg q]
    refine SC_now hg h hz hr hq hq' hw k1 (fun j hj => ?_)
    show _ = (if j = 19 then y else pU p (j + 1))
    by_cases z : j = 19
    · rw [if_pos z, z]; exact k3
    · rw [if_neg z, k2 j (by omega)]; exact hn.2 (j + 1) (by omega)
theorem SC_w {Γ : zΓ} {x : Nat} {p : pS} {G G' : zH} {rs : List Nat} {W : aS} (hg : SG Γ x) (h : SC Γ x p G) (hz : zsm rs G G') (hr : (∀ r ∈ [901, 2055, 2044, 911], r ∉ rs) ∧ ∀ f : Nat, f < 22 → 4 ≤ f → creg f ∉ rs) (hq : QQ Γ (mNow Γ x) (G.2.2 903 x) (pA p) (pW p) G) (hq' : QQ Γ (mNow Γ x) (G.2.2 903 x) (pA p) W G') (hw : wGh W (pW p)) (hm : rmN x (G.1 2056 (Γ.2.1 x 9)) (G'.1 2056 (Γ.2.1 x 9)) G G') : SC Γ x (pfW p W) G' :=
  SC_now hg h hz hr hq hq' hw (hm.1.trans h.2.2.2.1.1) (fun j hj => by rw [hm.2]; exact h.2.2.2.1.2 j hj)
/-- nothing of it changes -/
theorem SC_z {Γ : zΓ} {x : Nat} {p : pS} {G G' : zH} {rs : List Nat} (h : SC Γ x p G) (hz : zsm rs G G') (hr : (∀ r ∈ [901, 2055, 2044, 911, 910, 2056], r ∉ rs) ∧ (∀ r ∈ wLs, r ∉ rs) ∧ ∀ f : Nat, f < 22 → 4 ≤ f → creg f ∉ rs) : SC Γ x p G' := by
  obtain ⟨h1, h4, h5, h6, h8, h9⟩ := h
  have e : ∀ r a, G'.2.2 r a = G.2.2 r a := fun r a => by rw [hz.2]
  unfold SC
  rw [e 903 x, e 401 (Γ.2.1 x 2), hz.1 901 (hr.1 901 (by decide)), hz.1 2055 (hr.1 2055 (by decide)), hz.1 2044 (hr.1 2044 (by decide)), hz.1 911 (hr.1 911 (by decide)), hz.1 910 (hr.1 910 (by decide)), hz.1 2056 (hr.1 2056 (by decide))]
  exact ⟨h1, h4, QV_n hz.1 hr.2 (e 800 _) h5, h6, h8, fun z => QV_n hz.1 hr.2 (e 800 _) (h9 z)⟩
/-- works that are tried alone change -/
theorem SC_try {Γ : zΓ} {x : Nat} {p : pS} {G G' : zH} {rs : List Nat} (hg : SG Γ x) (h : SC Γ x p G) (hz : zsn rs G G') (hr : (∀ r ∈ [901, 2055, 2044, 911, 910, 2056], r ∉ rs) ∧ ∀ f : Nat, f < 22 → 4 ≤ f → creg f ∉ rs) (ho : OW Γ (mTry Γ x) G G') (h2 : ∀ r a9 : Nat, (r = 800 ∧ a9 = mTry Γ x) ∨ G'.2.2 r a9 = G.2.2 r a9) : SC Γ x p G' := by
  obtain ⟨h1, h4, h5, h6, h8, h9⟩ := h
  have e : ∀ r a, r ≠ 800 → G'.2.2 r a = G.2.2 r a := fun r a hr9 => (h2 r a).resolve_left (fun q => hr9 q.1)
  have e4 : G'.2.2 800 (mNow Γ x) = G.2.2 800 (mNow Γ x) := (h2 800 _).resolve_left (fun q => hg.2.1.1 q.2)
  have e5 : G'.2.2 800 (mImg Γ x) = G.2.2 800 (mImg Γ x) := (h2 800 _).resolve_left (fun q => hg.2.2.1.1 q.2)
  unfold SC
  rw [e 903 x (by decide), e 401 (Γ.2.1 x 2) (by decide), hz 901 (hr.1 901 (by decide)), hz 2055 (hr.1 2055 (by decide)), hz 2044 (hr.1 2044 (by decide)), hz 911 (hr.1 911 (by decide)), hz 910 (hr.1 910 (by decide)), hz 2056 (hr.1 2056 (by decide))]
  exact ⟨h1, h4, QV_ow (AW_s hg.2.1) hz hr.2 ho e4 h5, h6, h8, fun z => QV_ow (AW_s hg.2.2.1) hz hr.2 ho e5 (h9 z)⟩
theorem wGh_undo {W : aS} {y : Int} (ho : wOK W y) : wGh (wUndo W y) W := fun f j hf => by
  unfold wUndo
  rcases ho with ⟨a, b, c⟩ | a | ⟨a, b, c⟩
  · rw [if_neg (by omega), if_neg (by omega)]
    exact (wUg_ev W (by omega)).2.2.2.1 f j (by omega)
  · rw [if_neg (by omega), if_pos (by omega)]
    exact (wUf_ev W _ _).2.2.2 f j (by omega) (by omega) (by omega)
  · rw [if_pos (by omega)]
    exact (wUk_ev W _).2.2 f j (by omega) (by omega)
theorem W17_undo {W : aS} {y : Int} (ho : wOK W y) (j : Nat) : (wUndo W y) 17 j = W 17 j := by
  unfold wUndo
  rcases ho with ⟨a, b, c⟩ | a | ⟨a, b, c⟩
  · rw [if_neg (by omega), if_neg (by omega)]
    exact (wUg_ev W (by omega)).2.2.1 17 j (by decide) (by decide)
  · rw [if_neg (by omega), if_pos (by omega)]
    exact (wUf_ev W _ _).2.2.2 17 j (by decide) (by decide) (by decide)
  · rw [if_pos (by omega)]
    exact (wUk_ev W _).2.2 17 j (by decide) (by decide)
/-! the reference's side -/
theorem SR_now {Γ : zΓ} {w : Nat} {p : pS} {G G' : zH} {rs : List Nat} {W : aS} {Ws : Nat → aS} {us : Nat → Int} {n : Int} (h : SR Γ w p G) (hz : zsm rs G G') (hr : ∀ r ∈ [2071, 2073, 2074, 2075, 2076, 1001, 2057, 2059, 2061, 2062, 2063, 2064, 2065, 2066, 2067, 2068, 2069, 2070, 2072, 1012, 1013, 1014, 1015, 1016, 1086, 2106, 2107, 1087], r ∉ rs) (hj : G'.2.1 1088 w 0 = G.2.1 1088 w 0) (hW : rW Γ w 0 W G' ∧ rS Γ w W G' ∧ rD w W G') (hb : bR Γ w Ws n G' ∧ G'.1 1084 w 0 = n) : SR Γ w (pA p, W, pV p, Ws, us, n, pK p, pT p, pB p) G' := by
  obtain ⟨h1, h2, h4, h5, h8, h10, h11⟩ := h
  unfold SR
  rw [hz.1 1001 (hr 1001 (by decide)), hz.1 2057 (hr 2057 (by decide)), hz.1 1086 (hr 1086 (by decide))]
  exact ⟨MI_sm hz ⟨hr 2071 (by decide), hr 2073 (by decide), hr 2074 (by decide), hr 2075 (by decide), hr 2076 (by decide)⟩ h1, h2, kR_sm hz (fun r h9 => hr r ((show ∀ r ∈ [2059, 2061, 2062, 2063, 2064, 2065, 2066, 2067, 2068, 2069, 2070, 2071, 2072, 2073, 2074, 2075, 2076, 1012, 1013, 1014, 1015, 1016], r ∈ [2071, 2073, 2074, 2075, 2076, 1001, 2057, 2059, 2061, 2062, 2063, 2064, 2065, 2066, 2067, 2068, 2069, 2070, 2072, 1012, 1013, 1014, 1015, 1016, 1086, 2106, 2107, 1087] by decide) r h9)) h4, hW, hb, h10, fun z => iR_sm hz ⟨hr 2106 (by decide), hr 2107 (by decide), hr 1087 (by decide)⟩ hj (h11 z)⟩
theorem SR_push {Γ : zΓ} {w : Nat} {p : pS} {G G' : zH} {rs : List Nat} {W : aS} {y : Int} (hp : SP p) (h : SR Γ w p G) (hz : zsm rs G G') (hr : ∀ r ∈ [2071, 2073, 2074, 2075, 2076, 1001, 2057, 2059, 2061, 2062, 2063, 2064, 2065, 2066, 2067, 2068, 2069, 2070, 2072, 1012, 1013, 1014, 1015, 1016, 1086, 2106, 2107, 1087], r ∉ rs) (hj : G'.2.1 1088 w 0 = G.2.1 1088 w 0) (hW : rW Γ w 0 W G' ∧ rS Γ w W G' ∧ rD w W G') (hb : rU Γ w (pZ p) (pN p) G') : SR Γ w (fP p W y) G' := by
  have hn9 := hp.2.2.2.1.1
  unfold fP
  by_cases q : pN p < 20
  · obtain ⟨k1, k2⟩ := hb.1 q
    rw [if_pos q]
    exact SR_now h hz hr hj hW ⟨fun u hu => by
      show rF _ (if u ≤ (pN p).toNat then pZ p u else W)
      rw [if_pos (by omega)]
      exact k1 u hu, k2⟩
  · obtain ⟨k1, k2⟩ := hb.2 q
    rw [if_neg q]
    exact SR_now h hz hr hj hW ⟨fun u hu => by
      show rF _ (if u ≤ 19 then pZ p (u + 1) else W)
      rw [if_pos (by omega)]
      exact k1 u hu, k2⟩
theorem SR_w {Γ : zΓ} {w : Nat} {p : pS} {G G' : zH} {rs : List Nat} {W : aS} (h : SR Γ w p G) (hz : zsm rs G G') (hr : ∀ r ∈ [2071, 2073, 2074, 2075, 2076, 1001, 2057, 2059, 2061, 2062, 2063, 2064, 2065, 2066, 2067, 2068, 2069, 2070, 2072, 1012, 1013, 1014, 1015, 1016, 1086, 2106, 2107, 1087], r ∉ rs) (hj : G'.2.1 1088 w 0 = G.2.1 1088 w 0) (hW : rW Γ w 0 W G' ∧ rS Γ w W G' ∧ rD w W G') (hb : rN Γ w (pZ p) (pN p) G') : SR Γ w (pfW p W) G' := SR_now h hz hr hj hW hb
theorem SR_o {Γ : zΓ} {w : Nat} {p : pS} {G G' : zH} {rs : List Nat} (hp : SP p) (h : SR Γ w p G) (hz : zsm rs G G') (hr : ∀ r ∈ [2071, 2073, 2074, 2075, 2076, 1001, 2057, 2059, 2061, 2062, 2063, 2064, 2065, 2066, 2067, 2068, 2069, 2070, 2072, 1012, 1013, 1014, 1015, 1016, 2096, 2097, 2098, 2099, 2100, 1083, 2105, 1084, 1086, 2106, 2107, 1087], r ∉ rs) (ho : RO G G') : SR Γ w p G' := by
  have h0 := hp.2.1.1
  obtain ⟨h5, h6, h7⟩ := h.2.2.2.1
  exact SR_now (us := pU p) h hz (fun r h9 => hr r ((show ∀ r ∈ [2071, 2073, 2074, 2075, 2076, 1001, 2057, 2059, 2061, 2062, 2063, 2064, 2065, 2066, 2067, 2068, 2069, 2070, 2072, 1012, 1013, 1014, 1015, 1016, 1086, 2106, 2107, 1087], r ∈ [2071, 2073, 2074, 2075, 2076, 1001, 2057, 2059, 2061, 2062, 2063, 2064, 2065, 2066, 2067, 2068, 2069, 2070, 2072, 1012, 1013, 1014, 1015, 1016, 2096, 2097, 2098, 2099, 2100, 1083, 2105, 1084, 1086, 2106, 2107, 1087] by decide) r h9)) (by rw [ho.2 1088 (by decide)]) ⟨rW_lo h0.2 ho.1 h5, rS_lo h0.2 hz (fun r h9 => hr r ((show ∀ r ∈ [2096, 2097, 2098, 2099, 2100, 1083], r ∈ [2071, 2073, 2074, 2075, 2076, 1001, 2057, 2059, 2061, 2062, 2063, 2064, 2065, 2066, 2067, 2068, 2069, 2070, 2072, 1012, 1013, 1014, 1015, 1016, 2096, 2097, 2098, 2099, 2100, 1083, 2105, 1084, 1086, 2106, 2107, 1087] by decide) r h9)) ho.1 h6, rD_j ho.2 (by decide) h7 rfl⟩ ⟨bR_z hz (hr 2105 (by decide)) h.2.2.2.2.1.1, by rw [hz.1 1084 (hr 1084 (by decide))]; exact h.2.2.2.2.1.2⟩
theorem SR_j {Γ : zΓ} {w : Nat} {p : pS} {G G' : zH} {rs js : List Nat} (h : SR Γ w p G) (hz : zsm rs G G') (hr : ∀ r ∈ [2071, 2073, 2074, 2075, 2076, 1001, 2057, 2059, 2061, 2062, 2063, 2064, 2065, 2066, 2067, 2068, 2069, 2070, 2072, 1012, 1013, 1014, 1015, 1016, 2096, 2097, 2098, 2099, 2100, 1083, 2105, 1084, 1086, 2106, 2107, 1087, 2081, 2082, 2083, 2084, 2085, 2086, 2087, 2088, 2089, 2090, 2093, 2094, 2091, 2092, 2095], r ∉ rs) (hj : zsj js G G') (hj2 : 1061 ∉ js ∧ 1088 ∉ js) : SR Γ w p G' := by
  obtain ⟨h5, h6, h7⟩ := h.2.2.2.1
  exact SR_now (us := pU p) h hz (fun r h9 => hr r ((show ∀ r ∈ [2071, 2073, 2074, 2075, 2076, 1001, 2057, 2059, 2061, 2062, 2063, 2064, 2065, 2066, 2067, 2068, 2069, 2070, 2072, 1012, 1013, 1014, 1015, 1016, 1086, 2106, 2107, 1087], r ∈ [2071, 2073, 2074, 2075, 2076, 1001, 2057, 2059, 2061, 2062, 2063, 2064, 2065, 2066, 2067, 2068, 2069, 2070, 2072, 1012, 1013, 1014, 1015, 1016, 2096, 2097, 2098, 2099, 2100, 1083, 2105, 1084, 1086, 2106, 2107, 1087, 2081, 2082, 2083, 2084, 2085, 2086, 2087, 2088, 2089, 2090, 2093, 2094, 2091, 2092, 2095] by decide) r h9)) (by rw [hj 1088 hj2.2]) ⟨rW_sm hz (fun r h9 => hr r ((show ∀ r ∈ [2081, 2082, 2083, 2084, 2085, 2086, 2087, 2088, 2089, 2090, 2093, 2094], r ∈ [2071, 2073, 2074, 2075, 2076, 1001, 2057, 2059, 2061, 2062, 2063, 2064, 2065, 2066, 2067, 2068, 2069, 2070, 2072, 1012, 1013, 1014, 1015, 1016, 2096, 2097, 2098, 2099, 2100, 1083, 2105, 1084, 1086, 2106, 2107, 1087, 2081, 2082, 2083, 2084, 2085, 2086, 2087, 2088, 2089, 2090, 2093, 2094, 2091, 2092, 2095] by decide) r h9)) h5, rS_sm hz (fun r h9 => hr r ((show ∀ r ∈ [2091, 2092, 2095, 2096, 2097, 2098, 2099, 2100, 1083], r ∈ [2071, 2073, 2074, 2075, 2076, 1001, 2057, 2059, 2061, 2062, 2063, 2064, 2065, 2066, 2067, 2068, 2069, 2070, 2072, 1012, 1013, 1014, 1015, 1016, 2096, 2097, 2098, 2099, 2100, 1083, 2105, 1084, 1086, 2106, 2107, 1087, 2081, 2082, 2083, 2084, 2085, 2086, 2087, 2088, 2089, 2090, 2093, 2094, 2091, 2092, 2095] by decide) r h9)) h6, rD_j hj hj2.1 h7 rfl⟩ ⟨bR_z hz (hr 2105 (by decide)) h.2.2.2.2.1.1, by rw [hz.1 1084 (hr 1084 (by decide))]; exact h.2.2.2.2.1.2⟩
/-! copies -/
theorem rW_cp {Γ : zΓ} {w : Nat} {U V : aS} {G : zH} (h0 : V 0 0 ≤ 60) (h : wCp U V) (hR : rW Γ w 0 V G) : rW Γ w 0 U G := by
  obtain ⟨c0, c1, c2, c3, c4⟩ := h
  obtain ⟨f1, f2, ⟨f4, f5, f6, f7⟩, f3⟩ := hR
  refine ⟨fun j hj => ?_, fun j hj => ?_, ⟨f4.trans c0.symm, f5.trans (c4 19 (by decide) (by decide)).symm, f6.trans (c4 20 (by decide) (by decide)).symm, f7.trans (c4 18 (by decide) (by decide)).symm⟩, fun k hk => ?_⟩
  · rw [(c2 j hj).1, (c2 j hj).2]; exact f1 j hj
  · rw [c3 13 j (by decide) (by decide) hj, c3 14 j (by decide) (by decide) hj, c3 15 j (by decide) (by decide) hj, c3 16 j (by decide) (by decide) hj]; exact f2 j hj
  · rw [c1 3 k (by decide) (by decide) (by omega), c1 5 k (by decide) (by decide) (by omega)]; exact f3 k (by omega)
theorem rS_cp {Γ : zΓ} {w : Nat} {U V : aS} {G : zH} (h0 : V 0 0 ≤ 60) (h : wCp U V) (hR : rS Γ w V G) : rS Γ w U G := by
  obtain ⟨c0, c1, c2, c3, c4⟩ := h
  refine ⟨fun k hk => ?_, hR.2.trans (c4 22 (by decide) (by decide)).symm⟩
  have q := hR.1 k (by omega)
  have k6 : k < 60 := by omega
  unfold wLie at q ⊢
  rw [c1 1 k (by decide) (by decide) k6, c1 2 k (by decide) (by decide) k6, c1 6 k (by decide) (by decide) k6, c1 7 k (by decide) (by decide) k6, c1 8 k (by decide) (by decide) k6, c1 9 k (by decide) (by decide) k6, c1 10 k (by decide) (by decide) k6, c1 10 _ (by decide) (by decide) (by omega)]
  exact q
theorem iR_cp {Γ : zΓ} {w : Nat} {U V : aS} {G : zH} (h0 : V 0 0 ≤ 60) (h : wCp U V) (hI : iR Γ w V G) : iR Γ w U G := by
  obtain ⟨c0, c1, c2, c3, c4⟩ := h
  obtain ⟨⟨f1, f2, f3, f4, f5, f6, f7⟩, h2, h3, h4⟩ := hI
  refine ⟨⟨fun j hj => ?_, fun j hj => ?_, fun k hk h60 => ?_, f4.trans c0.symm, f5.trans (c4 19 (by decide) (by decide)).symm, f6.trans (c4 20 (by decide) (by decide)).symm, f7.trans (c4 18 (by decide) (by decide)).symm⟩, fun k hk k6 => ?_, h3.trans (c4 22 (by decide) (by decide)).symm, h4.trans (c4 21 (by decide) (by decide)).symm⟩
  · rw [(c2 j hj).1, (c2 j hj).2]; exact f1 j hj
  · rw [c3 13 j (by decide) (by decide) hj, c3 14 j (by decide) (by decide) hj, c3 15 j (by decide) (by decide) hj, c3 16 j (by decide) (by decide) hj]; exact f2 j hj
  · rw [c1 5 k (by decide) (by decide) h60]; exact f3 k (by omega) h60
  · have q := h2 k (by omega) k6
    unfold wLie at q ⊢
    rw [c1 1 k (by decide) (by decide) k6, c1 2 k (by decide) (by decide) k6, c1 3 k (by decide) (by decide) k6, c1 6 k (by decide) (by decide) k6, c1 7 k (by decide) (by decide) k6, c1 8 k (by decide) (by decide) k6, c1 9 k (by decide) (by decide) k6, c1 10 k (by decide) (by decide) k6, c1 10 _ (by decide) (by decide) (by omega)]
    exact q

theorem rS_I910 : True := trivial

theorem cC_did {l : Launch} {Γ : zΓ} {G : zH} {x : Nat} {T : pS} {a b k : Int}  (hX : zXs Γ) (hg : SG Γ x) (h : SC Γ x T G) (hp : SP T) (hq : QQ Γ (mNow Γ x) (G.2.2 903 x) (pA T) (pW T) G) (hv : pK T ≠ 0 → QQ Γ (mImg Γ x) (G.2.2 903 x) (pA T) (pV T) G) : zMet l Γ yX8_did cX8_did 4 (some .int) 2 [zr 9 x, zi a, zi b, zi k] G (zpi (fun u G' => SC Γ x T G' ∧ u = (if ((0 ≤ a ∧ a < (pA T) 4 1) ∧ (0 ≤ b ∧ b < (pA T) 4 0)) then (if k = 0 then (pW T) 11 (a * 4 + b).toNat else if k = 1 then wL (pW T) a b else -1) else -1))) :=
  zMet_mo (c_X8_didK hX hq rfl hp.1) (fun r G' q => by
    obtain ⟨u, e, q⟩ := q
    refine ⟨u, e, ?_⟩
    obtain ⟨rfl, q⟩ := q
    exact ⟨h, q⟩)

theorem cC_fault {l : Launch} {Γ : zΓ} {G : zH} {x : Nat} {T : pS} {a : Int}  (hX : zXs Γ) (hg : SG Γ x) (h : SC Γ x T G) (hp : SP T) (hq : QQ Γ (mNow Γ x) (G.2.2 903 x) (pA T) (pW T) G) (hv : pK T ≠ 0 → QQ Γ (mImg Γ x) (G.2.2 903 x) (pA T) (pV T) G) : zMet l Γ yX8_fault cX8_fault 2 (some .int) 0 [zr 9 x, zi a] G (zpi (fun u G' => SC Γ x T G')) :=
  zMet_mo (c_X8_faultF hX) (fun r G' q => by
    obtain ⟨u, e, q⟩ := q
    refine ⟨u, e, ?_⟩
    obtain ⟨rfl, q⟩ := q
    exact h)

theorem cC_named {l : Launch} {Γ : zΓ} {G : zH} {x : Nat} {T : pS} {a b : Int}  (hX : zXs Γ) (hg : SG Γ x) (h : SC Γ x T G) (hp : SP T) (hq : QQ Γ (mNow Γ x) (G.2.2 903 x) (pA T) (pW T) G) (hv : pK T ≠ 0 → QQ Γ (mImg Γ x) (G.2.2 903 x) (pA T) (pV T) G) : zMet l Γ yX8_named cX8_named 3 (some .int) 1 [zr 9 x, zi a, zi b] G (zpi (fun u G' => SC Γ x T G')) :=
  zMet_mo (c_X8_namedK hX) (fun r G' q => by
    obtain ⟨u, e, q⟩ := q
    refine ⟨u, e, ?_⟩
    obtain ⟨rfl, q⟩ := q
    exact h)

theorem cC_count {l : Launch} {Γ : zΓ} {G : zH} {x : Nat} {T : pS} {a : Int}  (hX : zXs Γ) (hg : SG Γ x) (h : SC Γ x T G) (hp : SP T) (hq : QQ Γ (mNow Γ x) (G.2.2 903 x) (pA T) (pW T) G) (hv : pK T ≠ 0 → QQ Γ (mImg Γ x) (G.2.2 903 x) (pA T) (pV T) G) : zMet l Γ yX8_count cX8_count 2 (some .int) 1 [zr 9 x, zi a] G (zpi (fun u G' => SC Γ x T G')) :=
  zMet_mo (c_X8_count hX) (fun r G' q => by
    obtain ⟨u, e, q⟩ := q
    refine ⟨u, e, ?_⟩
    obtain ⟨rfl, q⟩ := q
    exact h)

theorem cC_mills {l : Launch} {Γ : zΓ} {G : zH} {x : Nat} {T : pS} {a b k : Int}  (hX : zXs Γ) (hg : SG Γ x) (h : SC Γ x T G) (hp : SP T) (hq : QQ Γ (mNow Γ x) (G.2.2 903 x) (pA T) (pW T) G) (hv : pK T ≠ 0 → QQ Γ (mImg Γ x) (G.2.2 903 x) (pA T) (pV T) G) : zMet l Γ yX8_mills cX8_mills 8 (some .int) 2 [zr 9 x, zi a, zi b, zi k] G (zpi (fun u G' => SC Γ x T G')) :=
  zMet_mo (c_X8_mills hX) (fun r G' q => by
    obtain ⟨u, e, q⟩ := q
    refine ⟨u, e, ?_⟩
    obtain ⟨rfl, q⟩ := q
    exact h)

theorem cC_sack {l : Launch} {Γ : zΓ} {G : zH} {x : Nat} {T : pS} {a k : Int}  (hX : zXs Γ) (hg : SG Γ x) (h : SC Γ x T G) (hp : SP T) (hq : QQ Γ (mNow Γ x) (G.2.2 903 x) (pA T) (pW T) G) (hv : pK T ≠ 0 → QQ Γ (mImg Γ x) (G.2.2 903 x) (pA T) (pV T) G) : zMet l Γ yX8_sack cX8_sack 3 (some .int) 1 [zr 9 x, zi a, zi k] G (zpi (fun u G' => SC Γ x T G' ∧ u = (if 0 ≤ a ∧ a < (pW T) 0 0 then (if k = 0 then (pW T) 1 a.toNat else if k = 1 then (pW T) 2 a.toNat else if k = 2 then (pW T) 3 a.toNat else if k = 3 then (pW T) 5 a.toNat else if k = 4 then wLie (pW T) a ((pW T) 2 a.toNat) else -1) else -1))) :=
  zMet_mo (c_X8_sackK hX hq rfl hp.2.1) (fun r G' q => by
    obtain ⟨u, e, q⟩ := q
    refine ⟨u, e, ?_⟩
    obtain ⟨rfl, q⟩ := q
    exact ⟨h, q⟩)

theorem cC_flour {l : Launch} {Γ : zΓ} {G : zH} {x : Nat} {T : pS} {a : Int}  (hX : zXs Γ) (hg : SG Γ x) (h : SC Γ x T G) (hp : SP T) (hq : QQ Γ (mNow Γ x) (G.2.2 903 x) (pA T) (pW T) G) (hv : pK T ≠ 0 → QQ Γ (mImg Γ x) (G.2.2 903 x) (pA T) (pV T) G) : zMet l Γ yX8_flour cX8_flour 2 (some .int) 1 [zr 9 x, zi a] G (zpi (fun u G' => SC Γ x T G' ∧ u = (if 0 ≤ a ∧ a ≤ 999 then wFlour (pW T) a else -1))) :=
  zMet_mo (c_X8_flourK hX hq rfl hp.2.1) (fun r G' q => by
    obtain ⟨u, e, q⟩ := q
    refine ⟨u, e, ?_⟩
    obtain ⟨rfl, q⟩ := q
    exact ⟨h, q⟩)

theorem cC_baked {l : Launch} {Γ : zΓ} {G : zH} {x : Nat} {T : pS} {a : Int}  (hX : zXs Γ) (hg : SG Γ x) (h : SC Γ x T G) (hp : SP T) (hq : QQ Γ (mNow Γ x) (G.2.2 903 x) (pA T) (pW T) G) (hv : pK T ≠ 0 → QQ Γ (mImg Γ x) (G.2.2 903 x) (pA T) (pV T) G) : zMet l Γ yX8_baked cX8_baked 2 (some .int) 1 [zr 9 x, zi a] G (zpi (fun u G' => SC Γ x T G' ∧ u = (if 0 ≤ a ∧ a < (pA T) 4 2 then (if (pW T) 16 a.toNat ≠ -1 then (pW T) 16 a.toNat else -2) else -1))) :=
  zMet_mo (c_X8_bakedK hX hq rfl hp.1) (fun r G' q => by
    obtain ⟨u, e, q⟩ := q
    refine ⟨u, e, ?_⟩
    obtain ⟨rfl, q⟩ := q
    exact ⟨h, q⟩)

theorem cC_fine {l : Launch} {Γ : zΓ} {G : zH} {x : Nat} {T : pS} {a b : Int}  (hX : zXs Γ) (hg : SG Γ x) (h : SC Γ x T G) (hp : SP T) (hq : QQ Γ (mNow Γ x) (G.2.2 903 x) (pA T) (pW T) G) (hv : pK T ≠ 0 → QQ Γ (mImg Γ x) (G.2.2 903 x) (pA T) (pV T) G) : zMet l Γ yX8_fine cX8_fine 3 (some .int) 4 [zr 9 x, zi a, zi b] G (zpi (fun u G' => SC Γ x T G' ∧ u = (if ((0 ≤ a ∧ a < (pA T) 4 1) ∧ (0 ≤ b ∧ b < (pA T) 4 0)) then wFine (pA T) (pW T) a b else -1))) :=
  zMet_mo (c_X8_fineK hX hq rfl hp.2.1 hp.1) (fun r G' q => by
    obtain ⟨u, e, q⟩ := q
    refine ⟨u, e, ?_⟩
    exact ⟨SC_z h q.1 ⟨by decide, by decide, by decide +kernel⟩, q.2⟩)

theorem cC_law {l : Launch} {Γ : zΓ} {G : zH} {x : Nat} {T : pS} {k a b : Int}  (hX : zXs Γ) (hg : SG Γ x) (h : SC Γ x T G) (hp : SP T) (hq : QQ Γ (mNow Γ x) (G.2.2 903 x) (pA T) (pW T) G) (hv : pK T ≠ 0 → QQ Γ (mImg Γ x) (G.2.2 903 x) (pA T) (pV T) G) : zMet l Γ yX8_law cX8_law 4 (some .long) 3 [zr 9 x, zi k, zi a, zi b] G (zpj (fun u G' => SC Γ x T G' ∧ u = (if k = 0 ∨ k = 1 then (if ((0 ≤ a ∧ a < (pA T) 4 1) ∧ (0 ≤ b ∧ b < (pA T) 4 0)) then wLaw (pA T) (pW T) k a b else -9223372036854775808) else if k = 2 then (if ((0 ≤ a ∧ a < (pA T) 4 1) ∧ (0 ≤ b ∧ b < (pA T) 4 0)) ∧ 0 < wL (pW T) a b then wLaw (pA T) (pW T) k a b else -9223372036854775808) else if k = 3 then (if (0 ≤ a ∧ a < (pA T) 4 1) ∧ (0 ≤ b ∧ b < (pA T) 4 1) ∧ a < b then wPair (pA T) (pW T) a b else -9223372036854775808) else -9223372036854775808))) :=
  zMet_mo (c_X8_lawK hX hq rfl hp.2.1 hp.1) (fun r G' q => by
    obtain ⟨u, e, q⟩ := q
    refine ⟨u, e, ?_⟩
    exact ⟨SC_z h q.1 ⟨by decide, by decide, by decide +kernel⟩, q.2⟩)

theorem cC_fits {l : Launch} {Γ : zΓ} {G : zH} {x : Nat} {T : pS}  (hX : zXs Γ) (hg : SG Γ x) (h : SC Γ x T G) (hp : SP T) (hq : QQ Γ (mNow Γ x) (G.2.2 903 x) (pA T) (pW T) G) (hv : pK T ≠ 0 → QQ Γ (mImg Γ x) (G.2.2 903 x) (pA T) (pV T) G) : zMet l Γ yX8_fits cX8_fits 4 (some .int) 5 [zr 9 x] G (zpi (fun u G' => SC Γ x T G' ∧ u = wFB (pA T) (pW T))) :=
  zMet_mo (c_X8_fitsK hX hq rfl hp.2.1 hp.1) (fun r G' q => by
    obtain ⟨u, e, q⟩ := q
    refine ⟨u, e, ?_⟩
    exact ⟨SC_z h q.1 ⟨by decide, by decide, by decide +kernel⟩, q.2⟩)

theorem cC_crumb {l : Launch} {Γ : zΓ} {G : zH} {x : Nat} {T : pS} {a k : Int}  (hX : zXs Γ) (hg : SG Γ x) (h : SC Γ x T G) (hp : SP T) (hq : QQ Γ (mNow Γ x) (G.2.2 903 x) (pA T) (pW T) G) (hv : pK T ≠ 0 → QQ Γ (mImg Γ x) (G.2.2 903 x) (pA T) (pV T) G) : zMet l Γ yX8_crumb cX8_crumb 6 (some .int) 4 [zr 9 x, zi a, zi k] G (zpi (fun u G' => SC Γ x T G')) :=
  zMet_mo (c_X8_crumbZ hX) (fun r G' q => by
    obtain ⟨u, e, q⟩ := q
    refine ⟨u, e, ?_⟩
    exact SC_z h q.1 ⟨by decide, by decide, by decide +kernel⟩)

theorem cC_pairs {l : Launch} {Γ : zΓ} {G : zH} {x : Nat} {T : pS}  (hX : zXs Γ) (hg : SG Γ x) (h : SC Γ x T G) (hp : SP T) (hq : QQ Γ (mNow Γ x) (G.2.2 903 x) (pA T) (pW T) G) (hv : pK T ≠ 0 → QQ Γ (mImg Γ x) (G.2.2 903 x) (pA T) (pV T) G) : zMet l Γ yX8_pairs cX8_pairs 1 (some .long) 10 [zr 9 x] G (zpj (fun u G' => SC Γ x T G')) :=
  zMet_mo (c_X8_pairsZ hX) (fun r G' q => by
    obtain ⟨u, e, q⟩ := q
    refine ⟨u, e, ?_⟩
    exact SC_z h q.1 ⟨by decide, by decide, by decide +kernel⟩)

theorem cC_paired {l : Launch} {Γ : zΓ} {G : zH} {x : Nat} {T : pS} {a : Int}  (hX : zXs Γ) (hg : SG Γ x) (h : SC Γ x T G) (hp : SP T) (hq : QQ Γ (mNow Γ x) (G.2.2 903 x) (pA T) (pW T) G) (hv : pK T ≠ 0 → QQ Γ (mImg Γ x) (G.2.2 903 x) (pA T) (pV T) G) : zMet l Γ yX8_paired cX8_paired 3 (some .int) 10 [zr 9 x, zi a] G (zpi (fun u G' => SC Γ x T G')) :=
  zMet_mo (c_X8_pairedZ hX) (fun r G' q => by
    obtain ⟨u, e, q⟩ := q
    refine ⟨u, e, ?_⟩
    exact SC_z h q.1 ⟨by decide, by decide, by decide +kernel⟩)

theorem cC_feed {l : Launch} {Γ : zΓ} {G : zH} {x : Nat} {T : pS} {a1 a2 a3 a4 a5 : Int}  (hX : zXs Γ) (hg : SG Γ x) (h : SC Γ x T G) (hp : SP T) (hq : QQ Γ (mNow Γ x) (G.2.2 903 x) (pA T) (pW T) G) (hv : pK T ≠ 0 → QQ Γ (mImg Γ x) (G.2.2 903 x) (pA T) (pV T) G) : zMet l Γ yX8_feed cX8_feed 6 (some .int) 1 [zr 9 x, zi a1, zi a2, zi a3, zi a4, zi a5] G (zpi (fun u G' => SC Γ x (fF T a1 a2 a3 a4 a5) G' ∧ u = (if pT T + 20 ≤ 700 then pT T + 20 else -1))) :=
  zMet_mo (c_X8_feedFZ hX) (fun r G' q => by
    obtain ⟨u, e, q⟩ := q
    refine ⟨u, e, ?_⟩
    obtain ⟨hz, q1, q2⟩ := q
    have hs := h.1.1
    rw [hs] at q1 q2
    have e : ∀ r a, G'.2.2 r a = G.2.2 r a := fun r a => by rw [hz.2]
    obtain ⟨⟨h1, h2, h3⟩, h4, h5, h6, h8, h9⟩ := h
    unfold fF
    by_cases z : pT T + 20 ≤ 700
    · obtain ⟨k1, k2, k3⟩ := q2 z
      rw [if_pos z, if_pos z]
      refine ⟨?_, k1⟩
      unfold SC
      rw [e 903 x, e 401 (Γ.2.1 x 2), hz.1 2044 (by decide), hz.1 911 (by decide), hz.1 910 (by decide), hz.1 2056 (by decide)]
      refine ⟨⟨k2, fun i => ?_, h3⟩, h4, QV_n hz.1 ⟨by decide, by decide +kernel⟩ (e 800 _) h5, h6, h8, fun z9 => QV_n hz.1 ⟨by decide, by decide +kernel⟩ (e 800 _) (h9 z9)⟩
      rw [k3 i, h2 i]
    · obtain ⟨k1, k2, k3⟩ := q1 (by omega)
      rw [if_neg z, if_neg z]
      refine ⟨?_, k1⟩
      unfold SC
      rw [e 903 x, e 401 (Γ.2.1 x 2), hz.1 2044 (by decide), hz.1 911 (by decide), hz.1 910 (by decide), hz.1 2056 (by decide)]
      refine ⟨⟨k2, fun i => (k3 i).trans (h2 i), h3⟩, h4, QV_n hz.1 ⟨by decide, by decide +kernel⟩ (e 800 _) h5, h6, h8, fun z9 => QV_n hz.1 ⟨by decide, by decide +kernel⟩ (e 800 _) (h9 z9)⟩)

theorem cC_confess {l : Launch} {Γ : zΓ} {G : zH} {x : Nat} {T : pS} {a b : Int}  (hX : zXs Γ) (hg : SG Γ x) (h : SC Γ x T G) (hp : SP T) (hq : QQ Γ (mNow Γ x) (G.2.2 903 x) (pA T) (pW T) G) (hv : pK T ≠ 0 → QQ Γ (mImg Γ x) (G.2.2 903 x) (pA T) (pV T) G) : zMet l Γ yX8_confess cX8_confess 3 (some .int) 5 [zr 9 x, zi a, zi b] G (zpi (fun u G' => SC Γ x (if (((0 ≤ a ∧ a < (pA T) 4 1) ∧ (0 ≤ b ∧ b < (pA T) 4 0)) ∧ wCan (pW T)) then fP T (wGrind (pA T) (pW T) a b 1) 0 else T) G' ∧ u = (if ((0 ≤ a ∧ a < (pA T) 4 1) ∧ (0 ≤ b ∧ b < (pA T) 4 0)) then (if wCan (pW T) then (pW T) 0 0 else -2) else -1))) :=
  zMet_mo (c_X8_confessK hX hq rfl hp.2.1 hp.1) (fun r G' q => by
    obtain ⟨u, e, q⟩ := q
    refine ⟨u, e, ?_⟩
    obtain ⟨hz, q1, q2, q3, q4⟩ := q
    by_cases hc : (((0 ≤ a ∧ a < (pA T) 4 1) ∧ (0 ≤ b ∧ b < (pA T) 4 0)) ∧ wCan (pW T))
    · rw [if_pos hc] at q2
      rw [if_pos hc]
      exact ⟨SC_push hg hp h hz ⟨by decide, by decide +kernel⟩ hq q2 wGh_grind (q3 hc), q1⟩
    · rw [if_neg hc] at q2
      rw [if_neg hc]
      exact ⟨SC_w hg h hz ⟨by decide, by decide +kernel⟩ hq q2 wGh_rf (q4 hc), q1⟩)

theorem cC_fall {l : Launch} {Γ : zΓ} {G : zH} {x : Nat} {T : pS} {a b : Int}  (hX : zXs Γ) (hg : SG Γ x) (h : SC Γ x T G) (hp : SP T) (hq : QQ Γ (mNow Γ x) (G.2.2 903 x) (pA T) (pW T) G) (hv : pK T ≠ 0 → QQ Γ (mImg Γ x) (G.2.2 903 x) (pA T) (pV T) G) : zMet l Γ yX8_fall cX8_fall 3 (some .int) 3 [zr 9 x, zi a, zi b] G (zpi (fun u G' => SC Γ x (if (((0 ≤ a ∧ a < (pA T) 4 1) ∧ (0 ≤ b ∧ b < (pA T) 4 0)) ∧ (pW T) 11 (a * 4 + b).toNat < 99) then fP T (wFall (pW T) a b) (1 + a * 4 + b) else T) G' ∧ u = (if ((0 ≤ a ∧ a < (pA T) 4 1) ∧ (0 ≤ b ∧ b < (pA T) 4 0)) then (if (pW T) 11 (a * 4 + b).toNat < 99 then (pW T) 15 a.toNat + 1 else -2) else -1))) :=
  zMet_mo (c_X8_fallK hX hq rfl hp.2.1 hp.1) (fun r G' q => by
    obtain ⟨u, e, q⟩ := q
    refine ⟨u, e, ?_⟩
    obtain ⟨hz, q1, q2, q3, q4⟩ := q
    by_cases hc : (((0 ≤ a ∧ a < (pA T) 4 1) ∧ (0 ≤ b ∧ b < (pA T) 4 0)) ∧ (pW T) 11 (a * 4 + b).toNat < 99)
    · rw [if_pos hc] at q2
      rw [if_pos hc]
      exact ⟨SC_push hg hp h hz ⟨by decide, by decide +kernel⟩ hq q2 (wGh_u (by decide) (wGh_u (by decide) (wGh_u (by decide) wGh_rf))) (q3 hc), q1⟩
    · rw [if_neg hc] at q2
      rw [if_neg hc]
      exact ⟨SC_w hg h hz ⟨by decide, by decide +kernel⟩ hq q2 wGh_rf (q4 hc), q1⟩)

theorem cC_bake {l : Launch} {Γ : zΓ} {G : zH} {x : Nat} {T : pS} {a : Int}  (hX : zXs Γ) (hg : SG Γ x) (h : SC Γ x T G) (hp : SP T) (hq : QQ Γ (mNow Γ x) (G.2.2 903 x) (pA T) (pW T) G) (hv : pK T ≠ 0 → QQ Γ (mImg Γ x) (G.2.2 903 x) (pA T) (pV T) G) : zMet l Γ yX8_bake cX8_bake 2 (some .boolean) 3 [zr 9 x, zi a] G (zpi (fun u G' => SC Γ x (if ((0 ≤ a ∧ a < (pA T) 4 2) ∧ (pW T) 18 0 ≤ (pA T) 11 a.toNat ∧ wCanB (pA T) (pW T) a) then fP T (wBake (pA T) (pW T) a) (21 + a) else T) G' ∧ (u = 0 ∨ u = 1) ∧ (u = 1 ↔ ((0 ≤ a ∧ a < (pA T) 4 2) ∧ (pW T) 18 0 ≤ (pA T) 11 a.toNat ∧ wCanB (pA T) (pW T) a)))) :=
  zMet_mo (c_X8_bakeK hX hq rfl hp.2.1 hp.1) (fun r G' q => by
    obtain ⟨u, e, q⟩ := q
    refine ⟨u, e, ?_⟩
    obtain ⟨hz, q0, q1, q2, q3, q4⟩ := q
    by_cases hc : ((0 ≤ a ∧ a < (pA T) 4 2) ∧ (pW T) 18 0 ≤ (pA T) 11 a.toNat ∧ wCanB (pA T) (pW T) a)
    · rw [if_pos hc] at q2
      rw [if_pos hc]
      exact ⟨SC_push hg hp h hz ⟨by decide, by decide +kernel⟩ hq q2 wGh_bake (q3 hc), q0, q1⟩
    · rw [if_neg hc] at q2
      rw [if_neg hc]
      exact ⟨SC_w hg h hz ⟨by decide, by decide +kernel⟩ hq q2 wGh_rf (q4 hc), q0, q1⟩)

theorem cC_ask {l : Launch} {Γ : zΓ} {G : zH} {x : Nat} {T : pS} {a : Int}  (hX : zXs Γ) (hg : SG Γ x) (h : SC Γ x T G) (hp : SP T) (hq : QQ Γ (mNow Γ x) (G.2.2 903 x) (pA T) (pW T) G) (hv : pK T ≠ 0 → QQ Γ (mImg Γ x) (G.2.2 903 x) (pA T) (pV T) G) : zMet l Γ yX8_ask cX8_ask 3 (some .int) 5 [zr 9 x, zi a] G (zpi (fun u G' => SC Γ x (if (((0 ≤ a ∧ a < (pA T) 4 1) ∧ wCan (pW T)) ∧ (wAskV (pA T) (pW T) a) ≠ -1) then fP T (wGrind (pA T) (wAsk (pA T) (pW T) a) a (wAskV (pA T) (pW T) a) 1) 0 else if ((0 ≤ a ∧ a < (pA T) 4 1) ∧ wCan (pW T)) then pfW T (wAsk (pA T) (pW T) a) else T) G' ∧ u = (if (0 ≤ a ∧ a < (pA T) 4 1) then (if wCan (pW T) then (if (wAskV (pA T) (pW T) a) ≠ -1 then (pW T) 0 0 else -3) else -2) else -1))) :=
  zMet_mo (c_X8_askK hX hq rfl hp.2.1 hp.1) (fun r G' q => by
    obtain ⟨u, e, q⟩ := q
    refine ⟨u, e, ?_⟩
    obtain ⟨hz, q1, q2, q3, q4⟩ := q
    refine ⟨?_, q1⟩
    by_cases hc : (((0 ≤ a ∧ a < (pA T) 4 1) ∧ wCan (pW T)) ∧ (wAskV (pA T) (pW T) a) ≠ -1)
    · rw [if_pos hc.1, if_pos hc.2] at q2
      rw [if_pos hc]
      exact SC_push hg hp h hz ⟨by decide, by decide +kernel⟩ hq q2 (wGh_t wGh_grind wGh_ask) (q3 hc)
    · rw [if_neg hc]
      by_cases hd : ((0 ≤ a ∧ a < (pA T) 4 1) ∧ wCan (pW T))
      · rw [if_pos hd, if_neg (fun z => hc ⟨hd, z⟩)] at q2
        rw [if_pos hd]
        exact SC_w hg h hz ⟨by decide, by decide +kernel⟩ hq q2 wGh_ask (q4 hc)
      · rw [if_neg hd] at q2
        rw [if_neg hd]
        exact SC_w hg h hz ⟨by decide, by decide +kernel⟩ hq q2 wGh_rf (q4 hc))

theorem cC_days {l : Launch} {Γ : zΓ} {G : zH} {x : Nat} {T : pS} {a : Int}  (hX : zXs Γ) (hg : SG Γ x) (h : SC Γ x T G) (hp : SP T) (hq : QQ Γ (mNow Γ x) (G.2.2 903 x) (pA T) (pW T) G) (hv : pK T ≠ 0 → QQ Γ (mImg Γ x) (G.2.2 903 x) (pA T) (pV T) G) : zMet l Γ yX8_days cX8_days 3 (some .int) 5 [zr 9 x, zi a] G (zpi (fun u G' => SC Γ x (if (0 ≤ a ∧ (pW T) 18 0 + a ≤ 100) ∧ 0 < a then f0 T (wDays (pA T) a.toNat (pW T)) else T) G' ∧ u = (if (0 ≤ a ∧ (pW T) 18 0 + a ≤ 100) then (pW T) 18 0 + a else -1))) :=
  zMet_mo (c_X8_daysK hX hq rfl hp.2.1 hp.1) (fun r G' q => by
    obtain ⟨u, e, q⟩ := q
    refine ⟨u, e, ?_⟩
    obtain ⟨hz, q1, q2, q3, q4⟩ := q
    refine ⟨?_, q1⟩
    by_cases hc : (0 ≤ a ∧ (pW T) 18 0 + a ≤ 100) ∧ 0 < a
    · rw [if_pos hc.1] at q2
      rw [if_pos hc]
      exact SC_now hg h hz ⟨by decide, by decide +kernel⟩ hq q2 (wGh_days _) (q3 hc) (fun j hj => absurd hj (by omega))
    · rw [if_neg hc]
      have q2b : QQ Γ (mNow Γ x) (G.2.2 903 x) (pA T) (pW T) G' := by
        by_cases hd : (0 ≤ a ∧ (pW T) 18 0 + a ≤ 100)
        · rw [if_pos hd] at q2
          have ha : a = 0 := by
            rcases Int.lt_or_le 0 a with z | z
            · exact absurd ⟨hd, z⟩ hc
            · omega
          rw [ha] at q2
          exact q2
        · rw [if_neg hd] at q2
          exact q2
      exact SC_w hg h hz ⟨by decide, by decide +kernel⟩ hq q2b wGh_rf (q4 hc))

theorem cC_known {l : Launch} {Γ : zΓ} {G : zH} {x : Nat} {T : pS} {a : Int}  (hX : zXs Γ) (hg : SG Γ x) (h : SC Γ x T G) (hp : SP T) (hq : QQ Γ (mNow Γ x) (G.2.2 903 x) (pA T) (pW T) G) (hv : pK T ≠ 0 → QQ Γ (mImg Γ x) (G.2.2 903 x) (pA T) (pV T) G) : zMet l Γ yX8_known cX8_known 2 (some .boolean) 0 [zr 9 x, zi a] G (zpi (fun u G' => SC Γ x (if (-1 ≤ a ∧ a ≤ (pW T) 0 0) then pfW T (up (pW T) 22 0 a) else T) G' ∧ (u = 0 ∨ u = 1) ∧ (u = 1 ↔ (-1 ≤ a ∧ a ≤ (pW T) 0 0)))) :=
  zMet_mo (c_X8_knownK hX hq rfl) (fun r G' q => by
    obtain ⟨u, e, q⟩ := q
    refine ⟨u, e, ?_⟩
    obtain ⟨hz, q0, q1, q2⟩ := q
    refine ⟨?_, q0, q1⟩
    by_cases hc : (-1 ≤ a ∧ a ≤ (pW T) 0 0)
    · rw [if_pos hc] at q2
      rw [if_pos hc]
      exact SC_w hg h hz ⟨by decide, by decide +kernel⟩ hq q2 (wGh_u (by decide) wGh_rf) (rmN_z hz (by decide))
    · rw [if_neg hc] at q2
      rw [if_neg hc]
      exact SC_w hg h hz ⟨by decide, by decide +kernel⟩ hq q2 wGh_rf (rmN_z hz (by decide)))

theorem cC_undo {l : Launch} {Γ : zΓ} {G : zH} {x : Nat} {T : pS}  (hX : zXs Γ) (hg : SG Γ x) (h : SC Γ x T G) (hp : SP T) (hq : QQ Γ (mNow Γ x) (G.2.2 903 x) (pA T) (pW T) G) (hv : pK T ≠ 0 → QQ Γ (mImg Γ x) (G.2.2 903 x) (pA T) (pV T) G) : zMet l Γ yX8_undo cX8_undo 2 (some .int) 2 [zr 9 x] G (zpi (fun u G' => SC Γ x (if 0 < pN T then (pA T, wUndo (pW T) (pU T (pN T - 1).toNat), pV T, pZ T, pU T, pN T - 1, pK T, pT T, pB T) else T) G' ∧ u = (if 0 < pN T then pN T - 1 else -1))) :=
  zMet_mo (c_X8_undoK hX hq rfl hp.2.1 hp.1 hp.2.2.1 (by rw [h.2.2.2.1.1]; exact hp.2.2.2.1.1.2) (fun z => by rw [h.2.2.2.1.1] at z ⊢; rw [h.2.2.2.1.2 _ (by omega)]; exact (wUI_pop hp.2.2.2.1 z).2)) (fun r G' q => by
    obtain ⟨u, e, q⟩ := q
    refine ⟨u, e, ?_⟩
    obtain ⟨hz, q1, q2⟩ := q
    have hn := h.2.2.2.1
    rw [hn.1] at q1 q2
    by_cases hc : 0 < pN T
    · obtain ⟨k1, k2, k3, k4⟩ := q2 hc
      rw [hn.2 _ (by omega)] at k2
      rw [if_pos hc, if_pos hc]
      exact ⟨SC_now hg h hz ⟨by decide, by decide +kernel⟩ hq k2 (wGh_undo (wUI_pop hp.2.2.2.1 hc).2) k3 (fun j hj => by rw [k4]; exact hn.2 j (by omega)), k1⟩
    · obtain ⟨k1, k2, k3, k4⟩ := q1 (by omega)
      rw [if_neg hc, if_neg hc]
      exact ⟨SC_now hg h hz ⟨by decide, by decide +kernel⟩ hq k2 wGh_rf k3 (fun j hj => by rw [k4]; exact hn.2 j hj), k1⟩)

theorem cC_run {l : Launch} {Γ : zΓ} {G : zH} {x : Nat} {T : pS} {a b : Int}  (hX : zXs Γ) (hg : SG Γ x) (h : SC Γ x T G) (hp : SP T) (hq : QQ Γ (mNow Γ x) (G.2.2 903 x) (pA T) (pW T) G) (hv : pK T ≠ 0 → QQ Γ (mImg Γ x) (G.2.2 903 x) (pA T) (pV T) G) : zMet l Γ yX8_run cX8_run 3 (some .int) 6 [zr 9 x, zi a, zi b] G (zpi (fun u G' => SC Γ x T G' ∧ u = (if ((0 ≤ a ∧ (pW T) 18 0 + a ≤ 100) ∧ 0 ≤ b ∧ b ≤ 999) then wFlour (wTry (pA T) (-1) 0 a.toNat (pW T)) b else -1))) :=
  zMet_mo (c_X8_runK hX hq rfl hp.2.1 hp.1) (fun r G' q => by
    obtain ⟨u, e, q⟩ := q
    refine ⟨u, e, ?_⟩
    obtain ⟨hz, q1, q2, q3, q4⟩ := q
    refine ⟨SC_try hg h hz ⟨by decide, by decide +kernel⟩ q3 q4, ?_⟩
    by_cases hc : ((0 ≤ a ∧ (pW T) 18 0 + a ≤ 100) ∧ 0 ≤ b ∧ b ≤ 999)
    · obtain ⟨U, u1, u2⟩ := q1 hc
      rw [if_pos hc, u2]
      exact wTry_fc hp.1 hp.2.1 u1 (by have := hc; omega)
    · rw [if_neg hc]
      exact q2 hc)

theorem cC_tried {l : Launch} {Γ : zΓ} {G : zH} {x : Nat} {T : pS} {k i a b : Int}  (hX : zXs Γ) (hg : SG Γ x) (h : SC Γ x T G) (hp : SP T) (hq : QQ Γ (mNow Γ x) (G.2.2 903 x) (pA T) (pW T) G) (hv : pK T ≠ 0 → QQ Γ (mImg Γ x) (G.2.2 903 x) (pA T) (pV T) G) : zMet l Γ yX8_tried cX8_tried 5 (some .int) 6 [zr 9 x, zi k, zi i, zi a, zi b] G (zpi (fun u G' => SC Γ x T G' ∧ u = (if (((0 ≤ a ∧ (pW T) 18 0 + a ≤ 100) ∧ 0 ≤ b ∧ b ≤ 999) ∧ ((k = 1 ∧ 0 ≤ i ∧ i < (pA T) 4 1) ∨ (k = 2 ∧ 0 ≤ i ∧ i < (pA T) 4 0) ∨ ((k = 0 ∨ k = 3 ∨ k = 4) ∧ i = 0))) then wFlour (wTry (pA T) k i a.toNat (pW T)) b else -1))) :=
  zMet_mo (c_X8_triedK hX hq rfl hp.2.1 hp.1) (fun r G' q => by
    obtain ⟨u, e, q⟩ := q
    refine ⟨u, e, ?_⟩
    obtain ⟨hz, q1, q2, q3, q4⟩ := q
    refine ⟨SC_try hg h hz ⟨by decide, by decide +kernel⟩ q3 q4, ?_⟩
    by_cases hc : (((0 ≤ a ∧ (pW T) 18 0 + a ≤ 100) ∧ 0 ≤ b ∧ b ≤ 999) ∧ ((k = 1 ∧ 0 ≤ i ∧ i < (pA T) 4 1) ∨ (k = 2 ∧ 0 ≤ i ∧ i < (pA T) 4 0) ∨ ((k = 0 ∨ k = 3 ∨ k = 4) ∧ i = 0)))
    · obtain ⟨U, u1, u2⟩ := q1 hc
      rw [if_pos hc, u2]
      exact wTry_fc hp.1 hp.2.1 u1 (by have := hc; omega)
    · rw [if_neg hc]
      exact q2 hc)

theorem cC_lies {l : Launch} {Γ : zΓ} {G : zH} {x : Nat} {T : pS} {a b k : Int}  (hX : zXs Γ) (hg : SG Γ x) (h : SC Γ x T G) (hp : SP T) (hq : QQ Γ (mNow Γ x) (G.2.2 903 x) (pA T) (pW T) G) (hv : pK T ≠ 0 → QQ Γ (mImg Γ x) (G.2.2 903 x) (pA T) (pV T) G) : zMet l Γ yX8_lies cX8_lies 7 (some .int) 3 [zr 9 x, zi a, zi b, zi k] G (zpi (fun u G' => SC Γ x T G' ∧ u = (if (0 ≤ a ∧ (0 ≤ b ∧ b < (pA T) 4 1) ∧ 1 ≤ k ∧ k ≤ 40) then (wLies (pA T) b k.toNat (up (pW T) 21 0 a)).1 else -1))) :=
  zMet_mo (c_X8_liesK hX hq rfl hp.2.1 hp.1) (fun r G' q => by
    obtain ⟨u, e, q⟩ := q
    refine ⟨u, e, ?_⟩
    obtain ⟨hz, q1, q2, q3, q4⟩ := q
    refine ⟨SC_try hg h hz ⟨by decide, by decide +kernel⟩ q3 q4, ?_⟩
    by_cases hc : (0 ≤ a ∧ (0 ≤ b ∧ b < (pA T) 4 1) ∧ 1 ≤ k ∧ k ≤ 40)
    · obtain ⟨U, u1, u2⟩ := q1 hc
      rw [if_pos hc, u2]
      exact wLies_cp hp.1 (by have := hp.1.1; have := hc.2.1; omega) u1 _
    · rw [if_neg hc]
      exact q2 hc)

theorem cC_plan {l : Launch} {Γ : zΓ} {G : zH} {x : Nat} {T : pS} {a k : Int}  (hX : zXs Γ) (hg : SG Γ x) (h : SC Γ x T G) (hp : SP T) (hq : QQ Γ (mNow Γ x) (G.2.2 903 x) (pA T) (pW T) G) (hv : pK T ≠ 0 → QQ Γ (mImg Γ x) (G.2.2 903 x) (pA T) (pV T) G) : zMet l Γ yX8_plan cX8_plan 3 (some .int) 19 [zr 9 x, zi a, zi k] G (zpi (fun u G' => SC Γ x T G')) :=
  zMet_mo (c_X8_planU hX) (fun r G' q => by
    obtain ⟨u, e, q⟩ := q
    refine ⟨u, e, ?_⟩
    obtain ⟨hz, q1, q2⟩ := q
    rw [hg.2.2.2] at q1
    exact SC_try hg h hz ⟨by decide, by decide +kernel⟩ q1.1 q1.2)

theorem cC_planned {l : Launch} {Γ : zΓ} {G : zH} {x : Nat} {T : pS} {a b k : Int}  (hX : zXs Γ) (hg : SG Γ x) (h : SC Γ x T G) (hp : SP T) (hq : QQ Γ (mNow Γ x) (G.2.2 903 x) (pA T) (pW T) G) (hv : pK T ≠ 0 → QQ Γ (mImg Γ x) (G.2.2 903 x) (pA T) (pV T) G) : zMet l Γ yX8_planned cX8_planned 5 (some .int) 19 [zr 9 x, zi a, zi b, zi k] G (zpi (fun u G' => SC Γ x T G')) :=
  zMet_mo (c_X8_plannedU hX) (fun r G' q => by
    obtain ⟨u, e, q⟩ := q
    refine ⟨u, e, ?_⟩
    obtain ⟨hz, q1, q2⟩ := q
    rw [hg.2.2.2] at q1
    exact SC_try hg h hz ⟨by decide, by decide +kernel⟩ q1.1 q1.2)

theorem cC_keep {l : Launch} {Γ : zΓ} {G : zH} {x : Nat} {T : pS}  (hX : zXs Γ) (hg : SG Γ x) (h : SC Γ x T G) (hp : SP T) (hq : QQ Γ (mNow Γ x) (G.2.2 903 x) (pA T) (pW T) G) (hv : pK T ≠ 0 → QQ Γ (mImg Γ x) (G.2.2 903 x) (pA T) (pV T) G) : zMet l Γ yX8_keep cX8_keep 1 (some .int) 3 [zr 9 x] G (zpi (fun u G' => ∃ U : aS, SC Γ x (pA T, pW T, U, pZ T, pU T, pN T, 1, pT T, pB T) G' ∧ wCp U (pW T) ∧ u = (pW T) 18 0)) :=
  zMet_mo (c_X8_keepK hX hq rfl (AW_s hg.1)) (fun r G' q => by
    obtain ⟨u, e, q⟩ := q
    refine ⟨u, e, ?_⟩
    obtain ⟨hz, q1, ⟨V, v1, v2⟩, ⟨U, u1, u2⟩, q3, q4⟩ := q
    refine ⟨U, ?_, u2, q1⟩
    have e : ∀ r a, r ≠ 800 → G'.2.2 r a = G.2.2 r a := fun r a hr9 => (q4 r a).resolve_left (fun z => hr9 z.1)
    obtain ⟨h1, h4, h5, h6, h8, h9⟩ := h
    unfold SC
    rw [e 903 x (by decide), e 401 (Γ.2.1 x 2) (by decide), hz 901 (by decide), hz 2055 (by decide), hz 2044 (by decide), hz 910 (by decide), hz 2056 (by decide)]
    exact ⟨h1, h4, QV_ex (wEx_s v2) (QV_Q v1), h6, q3, fun _ => QV_Q u1⟩)

theorem cC_back {l : Launch} {Γ : zΓ} {G : zH} {x : Nat} {T : pS}  (hX : zXs Γ) (hg : SG Γ x) (h : SC Γ x T G) (hp : SP T) (hq : QQ Γ (mNow Γ x) (G.2.2 903 x) (pA T) (pW T) G) (hv : pK T ≠ 0 → QQ Γ (mImg Γ x) (G.2.2 903 x) (pA T) (pV T) G) : zMet l Γ yX8_back cX8_back 1 (some .int) 3 [zr 9 x] G (zpi (fun u G' => ∃ U : aS, (pK T ≠ 0 → wCp U (pV T) ∧ ∀ j : Nat, U 17 j = (pW T) 17 j) ∧ SC Γ x (if pK T ≠ 0 then f0 T U else T) G' ∧ u = (if pK T ≠ 0 then (pV T) 18 0 else -1))) :=
  zMet_mo (c_X8_backK (V := pV T) hX hq rfl hg.1 (fun z => hv (by rw [← h.2.2.2.2.1]; exact z))) (fun r G' q => by
    obtain ⟨u, e, hz, q1, q2⟩ := q
    have hk := h.2.2.2.2.1
    rw [hk] at q1 q2
    by_cases hc : pK T ≠ 0
    · obtain ⟨k1, ⟨U, u1, u2, u3⟩, ⟨V', v1, v2⟩, k3, k4⟩ := q2 hc
      refine ⟨u, e, U, fun _ => ⟨u2, u3⟩, ?_, by rw [if_pos hc]; exact k1⟩
      have er : ∀ r a, r ≠ 800 → G'.2.2 r a = G.2.2 r a := fun r a hr9 => (k4 r a).resolve_left (fun z => hr9 z.1)
      obtain ⟨h1, h4, h5, h6, h8, h9⟩ := h
      rw [if_pos hc]
      unfold SC
      rw [er 903 x (by decide), er 401 (Γ.2.1 x 2) (by decide), hz 901 (by decide), hz 2055 (by decide), hz 2044 (by decide), hz 911 (by decide)]
      exact ⟨h1, h4, QV_Q u1, ⟨k3, fun j hj => absurd (show (j : Int) < 0 from hj) (by omega)⟩, h8, fun _ => QV_ex (wEx_s v2) (QV_Q v1)⟩
    · obtain ⟨k1, k2, k3, k4, rfl⟩ := q1 (Decidable.byContradiction hc)
      exact ⟨u, e, pW T, fun z => absurd z hc, by rw [if_neg hc]; exact h, by rw [if_neg hc]; exact k1⟩)
