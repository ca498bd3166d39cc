/-! which knots a knot joins: a stack, by the signs alone -/
def smH (sg : Nat → Int) (s0 : Nat) : Nat → Int × (Nat → Int)
  | 0 => (0, fun _ => 0)
  | m + 1 => if sg (s0 + m) ≤ 1 then ((smH sg s0 m).1 + 1, fun j => if j = (smH sg s0 m).1.toNat then ((s0 + m : Nat) : Int) else (smH sg s0 m).2 j)
    else if sg (s0 + m) = 4 then ((smH sg s0 m).1, fun j => if j = ((smH sg s0 m).1 - 1).toNat then ((s0 + m : Nat) : Int) else (smH sg s0 m).2 j)
    else ((smH sg s0 m).1 - 1, fun j => if j = ((smH sg s0 m).1 - 2).toNat then ((s0 + m : Nat) : Int) else (smH sg s0 m).2 j)
def smK (sg nb pt ot : Nat → Int) (s0 m : Nat) : Prop :=
  (sg (s0 + m) ≤ 1 → 0 ≤ sg (s0 + m) ∧ pt (s0 + m) = nb (s0 + m) ∧ 0 ≤ nb (s0 + m) ∧ nb (s0 + m) ≤ 9999 ∧ (sg (s0 + m) = 1 → nb (s0 + m) ≤ 6)) ∧
  (sg (s0 + m) = 4 → 1 ≤ (smH sg s0 m).1 ∧ pt (s0 + m) = (smH sg s0 m).2 ((smH sg s0 m).1 - 1).toNat) ∧
  (1 < sg (s0 + m) → sg (s0 + m) ≠ 4 → sg (s0 + m) ≤ 14 ∧ 2 ≤ (smH sg s0 m).1 ∧ pt (s0 + m) = (smH sg s0 m).2 ((smH sg s0 m).1 - 2).toNat ∧ ot (s0 + m) = (smH sg s0 m).2 ((smH sg s0 m).1 - 1).toNat)
def smO (sg nb pt ot : Nat → Int) (s0 n : Nat) : Prop := ∀ m, m < n → smK sg nb pt ot s0 m
theorem smH_cg {f g : Nat → Int} {s0 : Nat} : ∀ m, (∀ i, i < m → f (s0 + i) = g (s0 + i)) → smH f s0 m = smH g s0 m
  | 0, _ => rfl
  | m + 1, h => by rw [smH, smH, smH_cg m (fun i hi => h i (by omega)), h m (by omega)]
theorem smK_cg {sg nb pt ot sg' nb' pt' ot' : Nat → Int} {s0 m : Nat} (h : ∀ i, i ≤ m → sg' (s0 + i) = sg (s0 + i) ∧ nb' (s0 + i) = nb (s0 + i) ∧ pt' (s0 + i) = pt (s0 + i) ∧ ot' (s0 + i) = ot (s0 + i)) (hk : smK sg nb pt ot s0 m) : smK sg' nb' pt' ot' s0 m := by
  have e := smH_cg (f := sg') (g := sg) (s0 := s0) m (fun i hi => (h i (by omega)).1)
  obtain ⟨e1, e2, e3, e4⟩ := h m (Nat.le_refl m)
  unfold smK
  rw [e, e1, e2, e3, e4]
  exact hk
def SM (s0 : Nat) (A : aS) : Prop := (s0 : Int) ≤ A 20 0 ∧ A 29 0 = (smH (A 18) s0 (A 20 0 - s0).toNat).1 ∧ (∀ j : Nat, (j : Int) < A 29 0 → A 30 j = (smH (A 18) s0 (A 20 0 - s0).toNat).2 j) ∧ smO (A 18) (A 19) (A 27) (A 28) s0 (A 20 0 - s0).toNat
theorem SM_of {s0 : Nat} {A B : aS} (h : ∀ f : Nat, f = 18 ∨ f = 19 ∨ f = 20 ∨ f = 27 ∨ f = 28 ∨ f = 29 ∨ f = 30 → B f = A f) (hs : SM s0 A) : SM s0 B := by
  unfold SM
  rw [h 18 (by omega), h 19 (by omega), h 20 (by omega), h 27 (by omega), h 28 (by omega), h 29 (by omega), h 30 (by omega)]
  exact hs
/-- how a knot that is written takes its sides -/
def smA (A B : aS) (k w p q : Int) : Prop :=
  ((0 ≤ k ∧ k ≤ 1) ∧ (p = w ∧ 0 ≤ w ∧ w ≤ 9999 ∧ (k = 1 → w ≤ 6)) ∧ B 29 0 = A 29 0 + 1 ∧ ∀ j : Nat, B 30 j = if j = (A 29 0).toNat then A 20 0 else A 30 j) ∨
  (k = 4 ∧ (1 ≤ A 29 0 ∧ p = A 30 (A 29 0 - 1).toNat) ∧ B 29 0 = A 29 0 ∧ ∀ j : Nat, B 30 j = if j = (A 29 0 - 1).toNat then A 20 0 else A 30 j) ∨
  ((1 < k ∧ k ≠ 4 ∧ k ≤ 14) ∧ (2 ≤ A 29 0 ∧ p = A 30 (A 29 0 - 2).toNat ∧ q = A 30 (A 29 0 - 1).toNat) ∧ B 29 0 = A 29 0 - 1 ∧ ∀ j : Nat, B 30 j = if j = (A 29 0 - 2).toNat then A 20 0 else A 30 j)
theorem SM_app {s0 : Nat} {A B : aS} {k w p q : Int} (hs : SM s0 A) (b20 : B 20 0 = A 20 0 + 1) (b18 : ∀ j : Nat, B 18 j = if j = (A 20 0).toNat then k else A 18 j) (b19 : ∀ j : Nat, B 19 j = if j = (A 20 0).toNat then w else A 19 j) (b27 : ∀ j : Nat, B 27 j = if j = (A 20 0).toNat then p else A 27 j) (b28 : ∀ j : Nat, B 28 j = if j = (A 20 0).toNat then q else A 28 j) (hc : smA A B k w p q) : SM s0 B := by
  obtain ⟨h0, h1, h2, h3⟩ := hs
  have en : s0 + (A 20 0 - s0).toNat = (A 20 0).toNat := by omega
  have en1 : (B 20 0 - s0).toNat = (A 20 0 - s0).toNat + 1 := by omega
  have lo : ∀ i, i < (A 20 0 - s0).toNat → B 18 (s0 + i) = A 18 (s0 + i) ∧ B 19 (s0 + i) = A 19 (s0 + i) ∧ B 27 (s0 + i) = A 27 (s0 + i) ∧ B 28 (s0 + i) = A 28 (s0 + i) := fun i hi => by
    have ne : ¬ s0 + i = (A 20 0).toNat := by omega
    rw [b18, b19, b27, b28, if_neg ne, if_neg ne, if_neg ne, if_neg ne]
    exact ⟨rfl, rfl, rfl, rfl⟩
  have k18 : B 18 (A 20 0).toNat = k := by rw [b18, if_pos rfl]
  have k19 : B 19 (A 20 0).toNat = w := by rw [b19, if_pos rfl]
  have k27 : B 27 (A 20 0).toNat = p := by rw [b27, if_pos rfl]
  have k28 : B 28 (A 20 0).toNat = q := by rw [b28, if_pos rfl]
  have eH : smH (B 18) s0 (A 20 0 - s0).toNat = smH (A 18) s0 (A 20 0 - s0).toNat := smH_cg _ (fun i hi => (lo i hi).1)
  have eN : (((A 20 0).toNat : Nat) : Int) = A 20 0 := by omega
  have g1 : smH (B 18) s0 ((A 20 0 - s0).toNat + 1) = if k ≤ 1 then ((smH (A 18) s0 (A 20 0 - s0).toNat).1 + 1, fun j => if j = (smH (A 18) s0 (A 20 0 - s0).toNat).1.toNat then A 20 0 else (smH (A 18) s0 (A 20 0 - s0).toNat).2 j)
      else if k = 4 then ((smH (A 18) s0 (A 20 0 - s0).toNat).1, fun j => if j = ((smH (A 18) s0 (A 20 0 - s0).toNat).1 - 1).toNat then A 20 0 else (smH (A 18) s0 (A 20 0 - s0).toNat).2 j)
      else ((smH (A 18) s0 (A 20 0 - s0).toNat).1 - 1, fun j => if j = ((smH (A 18) s0 (A 20 0 - s0).toNat).1 - 2).toNat then A 20 0 else (smH (A 18) s0 (A 20 0 - s0).toNat).2 j) := by
    rw [smH, en, k18, eH, eN]
  have sel : ∀ (j : Nat) (d : Int), (j : Int) < B 29 0 → B 29 0 ≤ A 29 0 + 1 → (∀ i : Nat, B 30 i = if i = d.toNat then A 20 0 else A 30 i) → (j ≠ d.toNat → (j : Int) < A 29 0) → B 30 j = if j = d.toNat then A 20 0 else (smH (A 18) s0 (A 20 0 - s0).toNat).2 j := fun j d _ _ h4 h5 => by
    rw [h4 j]
    by_cases z : j = d.toNat
    · rw [if_pos z, if_pos z]
    · rw [if_neg z, if_neg z]
      exact h2 j (h5 z)
  refine ⟨by omega, ?_, fun j hj => ?_, fun i hi => ?_⟩
  · rw [en1, g1]
    rcases hc with ⟨c1, -, c3, -⟩ | ⟨c1, c2, c3, -⟩ | ⟨c1, c2, c3, -⟩
    · rw [if_pos c1.2]; exact c3.trans (congrArg (fun z => z + 1) h1)
    · rw [if_neg (by omega), if_pos c1]; exact c3.trans h1
    · rw [if_neg (by omega), if_neg c1.2.1]; exact c3.trans (congrArg (fun z => z - 1) h1)
  · rw [en1, g1]
    rcases hc with ⟨c1, -, c3, c4⟩ | ⟨c1, c2, c3, c4⟩ | ⟨c1, c2, c3, c4⟩
    · rw [if_pos c1.2, ← h1]; exact sel j (A 29 0) hj (by omega) c4 (fun z => by omega)
    · rw [if_neg (by omega), if_pos c1, ← h1]; exact sel j (A 29 0 - 1) hj (by omega) c4 (fun z => by omega)
    · rw [if_neg (by omega), if_neg c1.2.1, ← h1]; exact sel j (A 29 0 - 2) hj (by omega) c4 (fun z => by omega)
  · rw [en1] at hi
    rcases Nat.lt_or_ge i (A 20 0 - s0).toNat with z | z
    · exact smK_cg (fun i' hi2 => lo i' (by omega)) (h3 i z)
    · obtain rfl : i = (A 20 0 - s0).toNat := by omega
      unfold smK
      rw [en, k18, k19, k27, k28, eH, ← h1]
      rcases hc with ⟨c1, c2, -, -⟩ | ⟨c1, c2, -, -⟩ | ⟨c1, c2, -, -⟩
      · exact ⟨fun _ => ⟨c1.1, c2.1, c2.2.1, c2.2.2.1, c2.2.2.2⟩, fun z2 => absurd z2 (by omega), fun z2 => absurd z2 (by omega)⟩
      · exact ⟨fun z2 => absurd z2 (by omega), fun _ => ⟨c2.1, c2.2.trans (h2 _ (by omega))⟩, fun _ z2 => absurd c1 z2⟩
      · exact ⟨fun z2 => absurd z2 (by omega), fun z2 => absurd z2 c1.2.1, fun _ _ => ⟨c1.2.2, c2.1, c2.2.1.trans (h2 _ (by omega)), c2.2.2.trans (h2 _ (by omega))⟩⟩
/-! how many wait -/
def cnB (W : Nat → Int) (n : Nat) : Int := zct (fun i => decide (W i ≠ 4 ∧ W i ≠ 15)) n
def cnO (W : Nat → Int) (n : Nat) : Int := zct (fun i => decide (W i = 15)) n
theorem cn_s (W : Nat → Int) (n : Nat) : (W n = 15 → cnB W (n + 1) = cnB W n ∧ cnO W (n + 1) = cnO W n + 1) ∧ (W n = 4 → cnB W (n + 1) = cnB W n ∧ cnO W (n + 1) = cnO W n) ∧ (W n ≠ 4 → W n ≠ 15 → cnB W (n + 1) = cnB W n + 1 ∧ cnO W (n + 1) = cnO W n) := by
  unfold cnB cnO
  rw [zct_s, zct_s]
  refine ⟨fun h => ?_, fun h => ?_, fun h h' => ?_⟩
  · rw [if_neg (by simp [h]), if_pos (by simp [h])]; omega
  · rw [if_neg (by simp [h]), if_neg (by simp [h])]; omega
  · rw [if_pos (by simp [h, h']), if_neg (by simp [h'])]; omega
theorem cn_le (W : Nat → Int) : ∀ n : Nat, 0 ≤ cnB W n ∧ 0 ≤ cnO W n ∧ cnB W n + cnO W n ≤ n
  | 0 => ⟨Int.le_refl 0, Int.le_refl 0, Int.le_refl 0⟩
  | n + 1 => by
    have h := cn_le W n
    have h1 := cn_s W n
    by_cases q1 : W n = 15
    · have := h1.1 q1; omega
    · by_cases q2 : W n = 4
      · have := h1.2.1 q2; omega
      · have := h1.2.2 q2 q1; omega
theorem cn_cg {W V : Nat → Int} (n : Nat) (h : ∀ i, i < n → W i = V i) : cnB W n = cnB V n ∧ cnO W n = cnO V n :=
  ⟨zct_cg n (fun i hi => by simp only [h i hi]), zct_cg n (fun i hi => by simp only [h i hi])⟩
theorem cn_0 {W : Nat → Int} {n : Nat} (h : cnO W n = 0) : ∀ i, i < n → W i ≠ 15 := fun i hi => by simpa using zct_z n h i hi
def JC (A : aS) : Prop := 0 ≤ A 22 0 ∧ (∀ j : Nat, (j : Int) < A 22 0 → 2 ≤ A 26 j ∧ A 26 j ≤ 15) ∧ A 23 0 = cnO (A 26) (A 22 0).toNat ∧ A 21 0 = A 20 0 + A 22 0 - A 23 0 ∧ A 21 0 ≤ 64 ∧ A 23 0 ≤ 8 ∧ (A 24 0 = 0 ∨ A 24 0 = 1) ∧ A 29 0 = cnB (A 26) (A 22 0).toNat + 1 - A 24 0 ∧ 0 ≤ A 20 0
/-- an E that began at s0, as far as it is written -/
def JE (s0 : Nat) (C A : aS) : Prop := (∀ f j : Nat, (f = 18 ∨ f = 19 ∨ f = 27 ∨ f = 28) → j < s0 → A f j = C f j) ∧ SM s0 A ∧ JC A
theorem JE_of {s0 : Nat} {C A B : aS} (hB : ∀ f j : Nat, 18 ≤ f → B f j = A f j) (h : JE s0 C A) : JE s0 C B := by
  have e : ∀ f : Nat, 18 ≤ f → B f = A f := fun f hf => funext fun j => hB f j hf
  refine ⟨fun f j hf hj => (hB f j (by omega)).trans (h.1 f j hf hj), SM_of (fun f hf => e f (by omega)) h.2.1, ?_⟩
  unfold JC
  rw [e 20 (by omega), e 21 (by omega), e 22 (by omega), e 23 (by omega), e 24 (by omega), e 26 (by omega), e 29 (by omega)]
  exact h.2.2
theorem JE_next {b : Nat → Int} {n : Int} {s0 : Nat} {C A : aS} (h : JE s0 C A) : JE s0 C (sNext b n A) := JE_of (fun f j hf => sNext_f (by omega)) h
theorem JE_app {s0 : Nat} {C A B : aS} {k w p q : Int} (h : JE s0 C A) (b20 : B 20 0 = A 20 0 + 1) (b18 : ∀ j : Nat, B 18 j = if j = (A 20 0).toNat then k else A 18 j) (b19 : ∀ j : Nat, B 19 j = if j = (A 20 0).toNat then w else A 19 j) (b27 : ∀ j : Nat, B 27 j = if j = (A 20 0).toNat then p else A 27 j) (b28 : ∀ j : Nat, B 28 j = if j = (A 20 0).toNat then q else A 28 j) (hc : smA A B k w p q) (hJ : JC B) : JE s0 C B := by
  have h9 := h.2.1.1
  refine ⟨fun f j hf hj => ?_, SM_app h.2.1 b20 b18 b19 b27 b28 hc, hJ⟩
  have ne : ¬ j = (A 20 0).toNat := by omega
  rcases hf with rfl | rfl | rfl | rfl
  · rw [b18, if_neg ne]; exact h.1 _ j (by omega) hj
  · rw [b19, if_neg ne]; exact h.1 _ j (by omega) hj
  · rw [b27, if_neg ne]; exact h.1 _ j (by omega) hj
  · rw [b28, if_neg ne]; exact h.1 _ j (by omega) hj
theorem JE_push {s0 : Nat} {C A B : aS} {k : Int} (h : JE s0 C A) (hB : ∀ f j : Nat, (f = 18 ∨ f = 19 ∨ f = 20 ∨ f = 27 ∨ f = 28 ∨ f = 29 ∨ f = 30) → B f j = A f j) (b22 : B 22 0 = A 22 0 + 1) (b26 : ∀ j : Nat, B 26 j = if j = (A 22 0).toNat then k else A 26 j) (hk : 2 ≤ k ∧ k ≤ 15)
    (hc : (k = 15 ∧ B 23 0 = A 23 0 + 1 ∧ B 23 0 ≤ 8 ∧ B 21 0 = A 21 0 ∧ B 24 0 = A 24 0) ∨ (k = 4 ∧ B 23 0 = A 23 0 ∧ B 21 0 = A 21 0 + 1 ∧ B 21 0 ≤ 64 ∧ B 24 0 = A 24 0) ∨ ((k ≠ 15 ∧ k ≠ 4) ∧ B 23 0 = A 23 0 ∧ B 21 0 = A 21 0 + 1 ∧ B 21 0 ≤ 64 ∧ A 24 0 = 0 ∧ B 24 0 = 1)) : JE s0 C B := by
  obtain ⟨h1, h2, c1, c2, c3, c4, c5, c6, c7, c8, c9⟩ := h
  have e20 := hB 20 0 (by omega)
  have e29 := hB 29 0 (by omega)
  have en : (B 22 0).toNat = (A 22 0).toNat + 1 := by omega
  have hs := cn_s (B 26) (A 22 0).toNat
  have hcg := cn_cg (W := B 26) (V := A 26) (A 22 0).toNat (fun i hi => by rw [b26, if_neg (by omega)])
  have hk9 : B 26 (A 22 0).toNat = k := by rw [b26, if_pos rfl]
  rw [hk9, hcg.1, hcg.2] at hs
  refine ⟨fun f j hf hj => (hB f j (by omega)).trans (h1 f j hf hj), SM_of (fun f hf => funext fun j => hB f j hf) h2, by omega, fun j hj => ?_, ?_, ?_, ?_, ?_, ?_, ?_, by omega⟩
  · rw [b26]
    by_cases z : j = (A 22 0).toNat
    · rw [if_pos z]; exact hk
    · rw [if_neg z]; exact c2 j (by omega)
  · rw [en]
    rcases hc with q | q | q
    · have := hs.1 q.1; omega
    · have := hs.2.1 q.1; omega
    · have := hs.2.2 q.1.2 q.1.1; omega
  · omega
  · omega
  · omega
  · omega
  · rw [en]
    rcases hc with q | q | q
    · have := hs.1 q.1; omega
    · have := hs.2.1 q.1; omega
    · have := hs.2.2 q.1.2 q.1.1; omega
theorem JE_drop {s0 : Nat} {C A B : aS} (h : JE s0 C A) (hB : ∀ f j : Nat, (18 ≤ f ∧ f ≠ 22 ∧ f ≠ 23) → B f j = A f j) (hw : 0 < A 22 0) (ht : A 26 (A 22 0 - 1).toNat = 15) (b22 : B 22 0 = A 22 0 - 1) (b23 : B 23 0 = A 23 0 - 1) : JE s0 C B := by
  obtain ⟨h1, h2, c1, c2, c3, c4, c5, c6, c7, c8, c9⟩ := h
  have e : ∀ f : Nat, (18 ≤ f ∧ f ≠ 22 ∧ f ≠ 23) → B f = A f := fun f hf => funext fun j => hB f j hf
  have en : (A 22 0).toNat = (A 22 0 - 1).toNat + 1 := by omega
  have hs := (cn_s (A 26) (A 22 0 - 1).toNat).1 ht
  rw [← en] at hs
  refine ⟨fun f j hf hj => (hB f j (by omega)).trans (h1 f j hf hj), SM_of (fun f hf => e f (by omega)) h2, by omega, fun j hj => ?_, ?_, ?_, ?_, ?_, ?_, ?_, ?_⟩
  · rw [e 26 (by omega)]; exact c2 j (by omega)
  · rw [e 26 (by omega), b22]; omega
  · rw [e 21 (by omega), e 20 (by omega)]; omega
  · rw [e 21 (by omega)]; omega
  · omega
  · rw [e 24 (by omega)]; exact c7
  · rw [e 29 (by omega), e 26 (by omega), e 24 (by omega), b22]; omega
  · rw [e 20 (by omega)]; exact c9
theorem JE_pop {s0 : Nat} {C A : aS} (h : JE s0 C A) (h24 : A 24 0 = 0) (hw : 0 < A 22 0) (hk : A 26 (A 22 0 - 1).toNat ≠ 15) : JE s0 C (sWrite (A 26 (A 22 0 - 1).toNat) 0 (gOp (A 26 (A 22 0 - 1).toNat) (up A 22 0 (A 22 0 - 1)))) := by
  have h9 := h
  obtain ⟨h1, h2, c1, c2, c3, c4, c5, c6, c7, c8, c9⟩ := h
  have en : (A 22 0).toNat = (A 22 0 - 1).toNat + 1 := by omega
  have hs := cn_s (A 26) (A 22 0 - 1).toNat
  rw [← en] at hs
  have hl := cn_le (A 26) (A 22 0 - 1).toNat
  have hr := c2 (A 22 0 - 1).toNat (by omega)
  generalize hkk : A 26 (A 22 0 - 1).toNat = k at *
  have z20 : (up A 22 0 (A 22 0 - 1)) 20 0 = A 20 0 := up_f (by decide)
  have z29 : (up A 22 0 (A 22 0 - 1)) 29 0 = A 29 0 := up_f (by decide)
  have s20 : A 20 0 < 64 := by
    by_cases q : k = 4
    · have := hs.2.1 q; omega
    · have := hs.2.2 q hk; omega
  by_cases q : k = 4
  · have hs4 := hs.2.1 q
    subst q
    rw [sW_at (by rw [gOp_f (by decide), z20]; exact s20), gOp_f (by decide), gOp_4, z20, z29]
    refine JE_app (A := A) (k := 4) (w := 0) (p := A 30 (A 29 0 - 1).toNat) (q := -1) h9 ?_ (fun j => ?_) (fun j => ?_) (fun j => ?_) (fun j => ?_) (Or.inr (Or.inl ⟨rfl, ⟨by omega, rfl⟩, ?_, fun j => ?_⟩)) ⟨?_, fun j hj => ?_, ?_, ?_, ?_, ?_, ?_, ?_, ?_⟩
    all_goals (try simp (disch := decide) only [up_fn, up_f, up_eq, up_at] at *)
    all_goals first | rfl | omega | (exact c2 j (by omega)) | exact Or.inl trivial | skip
  · have hs4 := hs.2.2 q hk
    rw [sW_at (by rw [gOp_f (by decide), z20]; exact s20), gOp_f (by decide), gOp_n q, z20, z29]
    refine JE_app (A := A) (k := k) (w := 0) (p := A 30 (A 29 0 - 2).toNat) (q := A 30 (A 29 0 - 1).toNat) h9 ?_ (fun j => ?_) (fun j => ?_) (fun j => ?_) (fun j => ?_) (Or.inr (Or.inr ⟨⟨by omega, q, by omega⟩, ⟨by omega, rfl, rfl⟩, ?_, fun j => ?_⟩)) ⟨?_, fun j hj => ?_, ?_, ?_, ?_, ?_, ?_, ?_, ?_⟩
    all_goals (try simp (disch := decide) only [up_fn, up_f, up_eq, up_at] at *)
    all_goals first | rfl | omega | (exact c2 j (by omega)) | exact Or.inl trivial | skip
theorem bnd_15 : bnd 15 = 0 := by decide
theorem JE_reln {s0 : Nat} {C : aS} {r : Int} (hr : 1 ≤ r) : ∀ (m : Nat) (A : aS), JE s0 C A → A 24 0 = 0 → JE s0 C (sReln r m A) ∧ (A 22 0 ≤ m → (sReln r m A) 22 0 = 0 ∨ bnd ((sReln r m A) 26 ((sReln r m A) 22 0 - 1).toNat) < r)
  | 0, A, h, _ => ⟨h, fun q => Or.inl (by have := h.2.2.1; show A 22 0 = 0; omega)⟩
  | m + 1, A, h, h24 => by
    rw [sReln]
    by_cases q : 0 < A 22 0 ∧ r ≤ bnd (A 26 (A 22 0 - 1).toNat)
    · rw [if_pos q]
      have hp := JE_pop h h24 q.1 (fun e => by have q2 := q.2; rw [e, bnd_15] at q2; omega)
      have h24' : (sWrite (A 26 (A 22 0 - 1).toNat) 0 (gOp (A 26 (A 22 0 - 1).toNat) (up A 22 0 (A 22 0 - 1)))) 24 0 = 0 := by rw [sWrite_22 (by decide) (by decide) (by decide), gOp_f (by decide), up_f (by decide)]; exact h24
      obtain ⟨j1, j2⟩ := JE_reln hr m _ hp h24'
      exact ⟨j1, fun z => j2 (by rw [sWrite_22 (by decide) (by decide) (by decide), gOp_f (by decide), up_eq]; omega)⟩
    · rw [if_neg q]
      refine ⟨h, fun _ => ?_⟩
      have := h.2.2.1
      by_cases z : 0 < A 22 0
      · exact Or.inr (by rcases Int.lt_or_le (bnd (A 26 (A 22 0 - 1).toNat)) r with y | y; exact y; exact absurd ⟨z, y⟩ q)
      · exact Or.inl (by omega)
theorem JE_rel {s0 : Nat} {C A : aS} {r : Int} (hr : 1 ≤ r) (h : JE s0 C A) (h24 : A 24 0 = 0) : JE s0 C (sRel r A) ∧ ((sRel r A) 22 0 = 0 ∨ bnd ((sRel r A) 26 ((sRel r A) 22 0 - 1).toNat) < r) := by
  have q := JE_reln hr (A 22 0).toNat A h h24
  have := h.2.2.1
  exact ⟨q.1, q.2 (by omega)⟩
theorem sNext_1 {b : Nat → Int} {n : Int} {A B : aS} (e : B 0 0 = A 0 0) (hk : tK b n A ≠ 0) : (sNext b n B) 0 0 = A 0 0 + 1 := by
  obtain ⟨-, h, -⟩ := tk_00 (b := b) (n := n) e
  unfold sNext
  rw [h, if_pos (Or.inr hk), up_eq, e]
theorem JE_leaf {b : Nat → Int} {n : Int} {s0 : Nat} {C A : aS} {k w : Int} (h : JE s0 C A) (h0 : A 1 0 = 0) (h24 : A 24 0 = 1) (hk : 0 ≤ k ∧ k ≤ 1) (hw : 0 ≤ w ∧ w ≤ 9999 ∧ (k = 1 → w ≤ 6)) (hK : tK b n A ≠ 0) (hf : (sLeaf b n k w A) 1 0 = 0) : JE s0 C (sLeaf b n k w A) ∧ (sLeaf b n k w A) 0 0 = A 0 0 + 1 := by
  have h9 := h
  obtain ⟨h1, h2, c1, c2, c3, c4, c5, c6, c7, c8, c9⟩ := h
  have hl := cn_le (A 26) (A 22 0).toNat
  rcases Int.lt_or_le (A 21 0) 64 with q | q
  · rw [sLeaf_ok h0 q (by omega)]
    refine ⟨JE_next (JE_app (A := A) (k := k) (w := w) (p := w) (q := 0) h9 ?_ (fun j => ?_) (fun j => ?_) (fun j => ?_) (fun j => ?_) (Or.inl ⟨hk, ⟨rfl, hw⟩, ?_, fun j => ?_⟩) ⟨?_, fun j hj => ?_, ?_, ?_, ?_, ?_, ?_, ?_, ?_⟩), sNext_1 (by simp (disch := decide) only [up_f]) hK⟩
    all_goals (try simp (disch := decide) only [up_fn, up_f, up_eq, up_at] at *)
    all_goals first | rfl | omega | (exact c2 j (by omega)) | exact Or.inl trivial | skip
  · rw [sLeaf_64 q] at hf
    exact absurd hf (sFail_f (by decide))
theorem JE_side {b : Nat → Int} {n : Int} {s0 : Nat} {C A : aS} (h : JE s0 C A) (h0 : A 1 0 = 0) (h24 : A 24 0 = 1) (hf : (sSide b n A) 1 0 = 0) : JE s0 C (sSide b n A) ∧ (sSide b n A) 0 0 = A 0 0 + 1 ∧ tK b n A ≠ 0 := by
  have h9 := h
  obtain ⟨h1, h2, c1, c2, c3, c4, c5, c6, c7, c8, c9⟩ := h
  have hl := cn_le (A 26) (A 22 0).toNat
  by_cases t1 : tK b n A = 4 ∧ tV b n A = 15
  · rcases Int.lt_or_le (A 23 0) 8 with q | q
    · rw [sSide_op t1 q (by omega)]
      refine ⟨JE_next (JE_push (A := A) (k := 15) h9 (fun f j hf => ?_) ?_ (fun j => ?_) (by decide) (Or.inl ⟨rfl, ?_, ?_, ?_, ?_⟩)), sNext_1 (by simp (disch := decide) only [up_f]) (by omega), by omega⟩
      · rw [up_f (by omega), up_f (by omega), up_f (by omega), up_f (by omega)]
      all_goals (try simp (disch := decide) only [up_fn, up_f, up_eq, up_at])
      all_goals (try omega)
    · rw [sSide_op8 t1 q] at hf
      exact absurd hf (sFail_f (by decide))
  · by_cases t2 : tK b n A = 2 ∧ tV b n A = 16 ∧ A 25 0 ≠ 0
    · rcases Int.lt_or_le (A 21 0) 64 with q | q
      · rw [sSide_nt ⟨t2.1, t2.2.1⟩ t2.2.2 h0 q (by omega)]
        refine ⟨JE_next (JE_push (A := A) (k := 4) h9 (fun f j hf => ?_) ?_ (fun j => ?_) (by decide) (Or.inr (Or.inl ⟨rfl, ?_, ?_, ?_, ?_⟩))), sNext_1 (by simp (disch := decide) only [up_f]) (by omega), by omega⟩
        · rw [up_f (by omega), up_f (by omega), up_f (by omega)]
        all_goals (try simp (disch := decide) only [up_fn, up_f, up_eq, up_at])
        all_goals (try omega)
      · rw [sSide_nt64 ⟨t2.1, t2.2.1⟩ t2.2.2 q] at hf
        exact absurd hf (sFail_f (by decide))
    · by_cases t3 : tK b n A = 3
      · rcases Int.lt_or_le 9999 (tV b n A) with q | q
        · rw [sSide_big t3 q] at hf
          exact absurd hf (sFail_f (by decide))
        · rw [sSide_num t3 q] at hf ⊢
          have hv := tkV_3 t3
          have hj := JE_leaf h9 h0 h24 (by decide) ⟨hv, q, fun z => absurd z (by decide)⟩ (by omega) hf
          exact ⟨hj.1, hj.2, by omega⟩
      · by_cases t4 : tK b n A = 2 ∧ 17 ≤ tV b n A
        · rw [sSide_name t4.1 t4.2] at hf ⊢
          have hv := tkK_2 (b := b) (n := n) (p := tP b n A) t4.1
          have hv2 : tV b n A = tkV b n (tP b n A) := rfl
          have hj := JE_leaf h9 h0 h24 (by decide) ⟨by omega, by omega, fun _ => by omega⟩ (by omega) hf
          exact ⟨hj.1, hj.2, by omega⟩
        · rw [sSide_no t1 t2 t3 t4] at hf
          exact absurd hf (sFail_f (by decide))
theorem sKnot_in {b : Nat → Int} {n : Int} {A : aS} (h : sKnot b n A ≠ -1) : 2 ≤ sKnot b n A ∧ sKnot b n A ≤ 14 ∧ sKnot b n A ≠ 4 ∧ tK b n A ≠ 0 := by
  have e := tW_c (b := b) (n := n) (A := A)
  unfold sKnot at *
  split at h
  · rw [if_pos (by assumption)]; omega
  · rw [if_neg (by assumption)]
    split at h
    · rw [if_pos (by assumption)]; omega
    · rw [if_neg (by assumption)]
      split at h
      · rw [if_pos (by assumption)]; omega
      · exact absurd rfl h
theorem JE_beh {b : Nat → Int} {n : Int} {s0 : Nat} {C A : aS} (h : JE s0 C A) (h0 : A 1 0 = 0) (h24 : A 24 0 = 0) (hf : (sBehind b n A) 1 0 = 0) : (sGo b n A = 0 ∧ sBehind b n A = A ∧ A 23 0 = 0) ∨ (sGo b n A = 1 ∧ JE s0 C (sBehind b n A) ∧ (sBehind b n A) 0 0 = A 0 0 + 1 ∧ tK b n A ≠ 0) := by
  by_cases hj : sKnot b n A = -1
  · by_cases ho : A 23 0 = 0
    · have q := sBeh_0 hj ho
      exact Or.inl ⟨q.2, q.1, ho⟩
    · have hc9 := h.2.2.2.2.1
      have hl9 := cn_le (A 26) (A 22 0).toNat
      by_cases hc : tK b n A = 4 ∧ tV b n A = 16
      · have q := sBeh_close hc ho
        refine Or.inr ⟨q.2, ?_⟩
        rw [q.1]
        obtain ⟨j1, j2⟩ := JE_rel (r := 1) (by decide) h h24
        have r23 : (sRel 1 A) 23 0 = A 23 0 := sRel_f (by decide) (by decide) (by decide) (by decide) (by decide)
        have k3 := j1.2.2.2.2.1
        have k1 := j1.2.2.1
        have hl := cn_le ((sRel 1 A) 26) ((sRel 1 A) 22 0).toNat
        have w1 : 0 < (sRel 1 A) 22 0 := by omega
        have kb := j1.2.2.2.1 ((sRel 1 A) 22 0 - 1).toNat (by omega)
        have kc := bnd_c (k := (sRel 1 A) 26 ((sRel 1 A) 22 0 - 1).toNat) (by omega)
        have top : (sRel 1 A) 26 ((sRel 1 A) 22 0 - 1).toNat = 15 := by omega
        unfold sClose
        refine ⟨JE_next (JE_drop j1 (fun f j hf => by rw [up_f (by omega), up_f (by omega)]) w1 top (by rw [up_f (by decide), up_eq]; omega) (by rw [up_eq])), sNext_1 (by rw [up_f (by decide), up_f (by decide)]; exact sRel_f (by decide) (by decide) (by decide) (by decide) (by decide)) (by omega), by omega⟩
      · rw [sBeh_1 hj (by omega) hc] at hf
        exact absurd hf (sFail_f (by decide))
  · have q := sBeh_j hj
    have kn := sKnot_in hj
    refine Or.inr ⟨q.2, ?_⟩
    rw [q.1] at hf ⊢
    generalize sKnot b n A = k at *
    have hjn := jn_c (c := k) ⟨kn.1, kn.2.1, kn.2.2.1⟩
    have hr : 1 ≤ (if bnd k = 4 then (5 : Int) else bnd k) := by split <;> omega
    obtain ⟨j1, -⟩ := JE_rel hr h h24
    have hR : sRel (if bnd k = 4 then 5 else bnd k) A = sJR k A := rfl
    rw [hR] at j1
    have f0 : ∀ f j, f < 18 → (sJR k A) f j = A f j := fun f j hf => sRel_f (by omega) (by omega) (by omega) (by omega) (by omega)
    have f24 : (sJR k A) 24 0 = A 24 0 := sRel_f (by decide) (by decide) (by decide) (by decide) (by decide)
    by_cases hb : bnd k = 4 ∧ 0 < (sJR k A) 22 0 ∧ bnd ((sJR k A) 26 ((sJR k A) 22 0 - 1).toNat) = 4
    · rw [sJoint_bad hb] at hf
      exact absurd hf (sFail_f (by decide))
    · rcases Int.lt_or_le ((sJR k A) 21 0) 64 with z | z
      · have j9 := j1
        obtain ⟨-, -, c1, c2, c3, c4, c5, c6, c7, c8, c9⟩ := j1
        have hl := cn_le ((sJR k A) 26) ((sJR k A) 22 0).toNat
        rw [sJoint_ok hb (by rw [f0 1 0 (by decide)]; exact h0) z (by omega)]
        refine ⟨JE_next (JE_push (A := sJR k A) (k := k) j9 (fun f j hf => ?_) ?_ (fun j => ?_) (by omega) (Or.inr (Or.inr ⟨⟨by omega, kn.2.2.1⟩, ?_, ?_, ?_, ?_, ?_⟩))), sNext_1 (by simp (disch := decide) only [up_f]; exact f0 0 0 (by decide)) kn.2.2.2, kn.2.2.2⟩
        · rw [up_f (by omega), up_f (by omega), up_f (by omega), up_f (by omega), up_f (by omega)]
        all_goals (try simp (disch := decide) only [up_fn, up_f, up_eq, up_at])
        all_goals (try omega)
      · rw [sJoint_64 hb z] at hf
        exact absurd hf (sFail_f (by decide))
/-- a token's number is not beyond its place -/
def PA (b : Nat → Int) (n : Int) (A : aS) : Prop := 0 ≤ A 0 0 ∧ A 0 0 ≤ tP b n A ∧ tP b n A ≤ n
theorem PA_00 {b : Nat → Int} {n : Int} {A B : aS} (e : B 0 0 = A 0 0) (h : PA b n A) : PA b n B := by
  unfold PA at *
  rw [(tk_00 (b := b) (n := n) e).1, e]
  exact h
theorem PA_1 {b : Nat → Int} {n : Int} {A B : aS} (h : PA b n A) (hk : tK b n A ≠ 0) (e : B 0 0 = A 0 0 + 1) : PA b n B := by
  obtain ⟨h1, h2, h3⟩ := h
  have hl := tK_lt.mp hk
  have e1 : tP b n B = sk b n (tkN b n (tP b n A)) := by
    show stn b n (B 0 0).toNat = _
    rw [e, show (A 0 0 + 1).toNat = (A 0 0).toNat + 1 by omega]
    exact stn_s hl
  have g := tkN_gt (b := b) hl
  have g2 : tkN b n (tP b n A) ≤ sk b n (tkN b n (tP b n A)) := sp_ge
  have g3 : sk b n (tkN b n (tP b n A)) ≤ n := sp_le g.2
  refine ⟨by omega, by omega, by omega⟩
theorem JE_EL {b : Nat → Int} {n : Int} {s0 : Nat} {C : aS} (hn : n ≤ 700) : ∀ (m : Nat) (A : aS), JE s0 C A → A 1 0 = 0 → PA b n A → 702 ≤ A 0 0 + m → (sEL b n m 1 A) 1 0 = 0 → JE s0 C (sEL b n m 1 A) ∧ (sEL b n m 1 A) 24 0 = 0 ∧ (sEL b n m 1 A) 23 0 = 0
  | 0, A, _, _, hp, h7, _ => by
    obtain ⟨h1, h2, h3⟩ := hp
    omega
  | m + 1, A, h, h0, hp, h7, hf => by
    have c7 := h.2.2.2.2.2.2.2.2.1
    rw [sEL, if_pos ⟨h0, by decide⟩] at hf ⊢
    by_cases w : A 24 0 ≠ 0
    · rw [if_pos w] at hf ⊢
      by_cases hs : (sSide b n A) 1 0 = 0
      · obtain ⟨j1, j2, j3⟩ := JE_side h h0 (by omega) hs
        exact JE_EL hn m _ j1 hs (PA_1 hp j3 j2) (by omega) hf
      · rw [sEL_e (fun q => hs q.1)] at hf
        exact absurd hf hs
    · rw [if_neg w] at hf ⊢
      by_cases hs : (sBehind b n A) 1 0 = 0
      · rcases JE_beh h h0 (by omega) hs with ⟨g1, g2, g3⟩ | ⟨g1, j1, j2, j3⟩
        · rw [g1, g2, sEL_e (fun q => q.2 rfl)]
          exact ⟨h, by omega, g3⟩
        · rw [g1] at hf ⊢
          exact JE_EL hn m _ j1 hs (PA_1 hp j3 j2) (by omega) hf
      · rw [sEL_e (fun q => hs q.1)] at hf
        exact absurd hf hs
/-- a law as it must be: its knots make one value -/
def LWF (A : aS) (k : Nat) : Prop := A 16 k < A 17 k → 0 ≤ A 16 k ∧ A 17 k ≤ A 20 0 ∧ smO (A 18) (A 19) (A 27) (A 28) (A 16 k).toNat (A 17 k - A 16 k).toNat ∧ (smH (A 18) (A 16 k).toNat (A 17 k - A 16 k).toNat).1 = 1
def WFA (A : aS) : Prop := (0 ≤ A 20 0 ∧ A 20 0 = A 21 0 ∧ A 21 0 ≤ 64) ∧ ∀ k : Nat, k < 7 → LWF A k
theorem LWF_of {A B : aS} {k : Nat} (h16 : B 16 k = A 16 k) (h17 : B 17 k = A 17 k) (h20 : A 20 0 ≤ B 20 0) (hl : ∀ f j : Nat, (f = 18 ∨ f = 19 ∨ f = 27 ∨ f = 28) → (j : Int) < A 20 0 → B f j = A f j) (h : LWF A k) : LWF B k := by
  unfold LWF
  rw [h16, h17]
  intro hq
  obtain ⟨h1, h2, h3, h4⟩ := h hq
  refine ⟨h1, by omega, fun m hm => smK_cg (fun i hi => ⟨hl 18 _ (by omega) (by omega), hl 19 _ (by omega) (by omega), hl 27 _ (by omega) (by omega), hl 28 _ (by omega) (by omega)⟩) (h3 m hm), ?_⟩
  rw [smH_cg (g := A 18) _ (fun i hi => hl 18 _ (by omega) (by omega))]
  exact h4
theorem WFA_of {A B : aS} (h : ∀ f j : Nat, 16 ≤ f → B f j = A f j) (hA : WFA A) : WFA B := by
  refine ⟨by rw [h 20 0 (by decide), h 21 0 (by decide)]; exact hA.1, fun k hk => ?_⟩
  exact LWF_of (h 16 k (by decide)) (h 17 k (by decide)) (by rw [h 20 0 (by decide)]; exact Int.le_refl _) (fun f j hf _ => h f j (by omega)) (hA.2 k hk)
theorem WFA_E {b : Nat → Int} {n k : Int} {A : aS} (hn : n ≤ 700) (hk : 0 ≤ k ∧ k < 7) (hA : WFA A) (h0 : A 1 0 = 0) (hp : PA b n A) (h2 : 2 ≤ A 0 0) (hf : (sE b n k A) 1 0 = 0) : WFA (sE b n k A) := by
  obtain ⟨⟨a1, a2, a3⟩, a4⟩ := hA
  have be := sBeg_e k A
  have bf : ∀ f j, f ≠ 16 → f < 22 → (sBeg k A) f j = A f j := fun f j h1 h2 => sBeg_f h1 h2
  have b27 : ∀ f j, f = 27 ∨ f = 28 → (sBeg k A) f j = A f j := fun f j h => sBeg_g h
  have j0 : JE (A 20 0).toNat (sBeg k A) (sBeg k A) := by
    have e20 : (sBeg k A) 20 0 = A 20 0 := bf 20 0 (by decide) (by decide)
    refine ⟨fun _ _ _ _ => rfl, ⟨by omega, ?_, fun j hj => by omega, fun m hm => ?_⟩, by omega, fun j hj => by omega, ?_, ?_, ?_, by omega, by omega, ?_, by omega⟩
    · rw [e20, show (A 20 0 - ((A 20 0).toNat : Int)).toNat = 0 by omega, be.2.2.2.2]; rfl
    · rw [e20] at hm; omega
    · rw [be.1, be.2.1]; rfl
    · rw [be.1, be.2.1, bf 21 0 (by decide) (by decide), e20]; omega
    · rw [bf 21 0 (by decide) (by decide)]; exact a3
    · rw [be.2.2.2.2, be.1, be.2.2.1]; rfl
  have f1 : ∀ X : aS, (sFin k X) 1 0 = X 1 0 := fun X => sFin_f (by decide)
  have hfE : (sEL b n 700 1 (sBeg k A)) 1 0 = 0 := by
    unfold sE at hf
    rw [f1, sRel_0 (by decide)] at hf
    exact hf
  have hl := JE_EL (s0 := (A 20 0).toNat) (C := sBeg k A) hn 700 (sBeg k A) j0 (by rw [bf 1 0 (by decide) (by decide)]; exact h0) (PA_00 (bf 0 0 (by decide) (by decide)) hp) (by rw [bf 0 0 (by decide) (by decide)]; omega) hfE
  unfold sE
  have e16 : ∀ j, (sEL b n 700 1 (sBeg k A)) 16 j = if j = k.toNat then A 20 0 else A 16 j := fun j => by rw [sEL_f (by decide) (by decide)]; exact sBeg_16 hk
  have e17 : ∀ j, (sEL b n 700 1 (sBeg k A)) 17 j = A 17 j := fun j => by rw [sEL_f (by decide) (by decide)]; exact bf 17 j (by decide) (by decide)
  generalize sEL b n 700 1 (sBeg k A) = X at *
  obtain ⟨j1, x24, x23⟩ := hl
  have hz : ∀ j : Nat, (j : Int) < X 22 0 → 1 ≤ bnd (X 26 j) := fun j hj => by
    have q1 := j1.2.2.2.1 j hj
    have q2 := cn_0 (W := X 26) (n := (X 22 0).toNat) (by have := j1.2.2.2.2.1; omega) j (by omega)
    have q3 := bnd_c (k := X 26 j) (by omega)
    omega
  rw [rel_01 hz]
  obtain ⟨j2, j3⟩ := JE_rel (r := 1) (by decide) j1 x24
  have r16 : ∀ j, (sRel 1 X) 16 j = X 16 j := fun j => sRel_f (by decide) (by decide) (by decide) (by decide) (by decide)
  have r17 : ∀ j, (sRel 1 X) 17 j = X 17 j := fun j => sRel_f (by decide) (by decide) (by decide) (by decide) (by decide)
  have r23 : (sRel 1 X) 23 0 = X 23 0 := sRel_f (by decide) (by decide) (by decide) (by decide) (by decide)
  have r24 : (sRel 1 X) 24 0 = X 24 0 := sRel_f (by decide) (by decide) (by decide) (by decide) (by decide)
  generalize sRel 1 X = Y at *
  obtain ⟨y1, ⟨y2, y3, y4, y5⟩, c1, c2, c3, c4, c5, c6, c7, c8, c9⟩ := j2
  have w0 : Y 22 0 = 0 := by
    rcases j3 with q | q
    · exact q
    · rcases Int.lt_or_le 0 (Y 22 0) with z | z
      · have q1 := c2 (Y 22 0 - 1).toNat (by omega)
        have q2 := cn_0 (W := Y 26) (n := (Y 22 0).toNat) (by omega) (Y 22 0 - 1).toNat (by omega)
        have q3 := bnd_c (k := Y 26 (Y 22 0 - 1).toNat) (by omega)
        omega
      · omega
  have h29 : Y 29 0 = 1 := by
    rw [c8, w0, r24, x24]; rfl
  have ff : ∀ f j, f ≠ 17 → (sFin k Y) f j = Y f j := fun f j h => sFin_f h
  have f17 : ∀ j, (sFin k Y) 17 j = if j = k.toNat then Y 20 0 else Y 17 j := fun j => by
    unfold sFin
    rw [if_pos hk, up_at]
  have low : ∀ f j : Nat, (f = 18 ∨ f = 19 ∨ f = 27 ∨ f = 28) → (j : Int) < A 20 0 → (sFin k Y) f j = A f j := fun f j hf hj => by
    rw [ff f j (by omega), y1 f j hf (by omega)]
    rcases hf with rfl | rfl | rfl | rfl
    · exact bf 18 j (by decide) (by decide)
    · exact bf 19 j (by decide) (by decide)
    · exact b27 27 j (Or.inl rfl)
    · exact b27 28 j (Or.inr rfl)
  refine ⟨?_, fun i hi => ?_⟩
  · rw [ff 20 0 (by decide), ff 21 0 (by decide)]
    omega
  · by_cases z : i = k.toNat
    · intro _
      have h16 : (sFin k Y) 16 i = A 20 0 := by rw [ff 16 i (by decide), r16, e16, if_pos z]
      have h17 : (sFin k Y) 17 i = Y 20 0 := by rw [f17, if_pos z]
      rw [h16, h17, ff 20 0 (by decide), funext (fun j => ff 18 j (by decide)), funext (fun j => ff 19 j (by decide)), funext (fun j => ff 27 j (by decide)), funext (fun j => ff 28 j (by decide))]
      have e0 : (Y 20 0 - A 20 0).toNat = (Y 20 0 - ((A 20 0).toNat : Int)).toNat := by omega
      rw [e0]
      exact ⟨a1, Int.le_refl _, y5, y3.symm.trans h29⟩
    · refine LWF_of ?_ ?_ ?_ low (a4 i hi)
      · rw [ff 16 i (by decide), r16, e16, if_neg z]
      · rw [f17, if_neg z, r17, e17]
      · rw [ff 20 0 (by decide)]; omega

theorem sE_ne {b : Nat → Int} {n k : Int} {A : aS} (h : (sE b n k A) 1 0 = 0) : A 1 0 = 0 := by
  by_cases q : A 1 0 = 0
  · exact q
  · have e1 : (sBeg k A) 1 0 ≠ 0 := by rw [sBeg_f (by decide) (by decide)]; exact q
    unfold sE at h
    rw [sFin_f (by decide), sRel_0 (by decide), sEL_e (fun z => e1 z.1)] at h
    exact absurd h e1

/-- how many names of a kind are told stays at least none -/
def nG (A : aS) : Prop := 0 ≤ A 4 3

theorem ng_up {B : aS} {f j : Nat} {v : Int} (hf : f ≠ 4) (h : nG B) : nG (up B f j v) := by
  unfold nG at *
  rw [up_f (fun q => hf q.symm)]
  exact h

/-- what a line that is no law leaves of the knots -/
def lq (A B : aS) : Prop := ∀ f j : Nat, 16 ≤ f → B f j = A f j
theorem lq_rf {A : aS} : lq A A := fun _ _ _ => rfl
theorem lq_up {A B : aS} {f j : Nat} {v : Int} (hf : f < 16) (h : lq A B) : lq A (up B f j v) := fun f' j' h' => by rw [up_f (by omega)]; exact h f' j' h'
theorem lq_sNext {A : aS} {B : aS} {b : Nat → Int} {n : Int} (h : lq A B) : lq A (sNext b n B) := by
  unfold sNext
  (repeat' split) <;> (with_reducible repeat (first | assumption | refine lq_up (by decide) ?_))
theorem lq_sFail {A : aS} {B : aS} {b : Nat → Int} {n : Int} {c : Int} (h : lq A B) : lq A (sFail b n c B) := by
  unfold sFail
  (repeat' split) <;> (with_reducible repeat (first | assumption | refine lq_up (by decide) ?_ | refine lq_sNext ?_))
theorem lq_sNumB {A : aS} {B : aS} {b : Nat → Int} {n : Int} (h : lq A B) : lq A (sNumB b n B) := by
  unfold sNumB
  (repeat' split) <;> (with_reducible repeat (first | assumption | refine lq_up (by decide) ?_ | refine lq_sFail ?_ | refine lq_sNext ?_))
theorem lq_sNum {A : aS} {B : aS} {b : Nat → Int} {n : Int} {lo hi : Int} (h : lq A B) : lq A (sNum b n lo hi B) := by
  unfold sNum
  (repeat' split) <;> (with_reducible repeat (first | assumption | refine lq_up (by decide) ?_ | refine lq_sNumB ?_ | refine lq_sFail ?_ | refine lq_sNext ?_))
theorem lq_sAdd {A : aS} {B : aS} {kd c : Int} (h : lq A B) : lq A (sAdd kd c B) := by
  unfold sAdd
  (repeat' split) <;> (with_reducible repeat (first | assumption | refine lq_up (by decide) ?_ | refine lq_sNum ?_ | refine lq_sNumB ?_ | refine lq_sFail ?_ | refine lq_sNext ?_))
theorem lq_sNew {A : aS} {B : aS} {b : Nat → Int} {n : Int} {kd : Int} (h : lq A B) : lq A (sNew b n kd B) := by
  unfold sNew
  (repeat' split) <;> (with_reducible repeat (first | assumption | refine lq_up (by decide) ?_ | refine lq_sAdd ?_ | refine lq_sNum ?_ | refine lq_sNumB ?_ | refine lq_sFail ?_ | refine lq_sNext ?_))
theorem lq_sSin {A : aS} {B : aS} {b : Nat → Int} {n : Int} (h : lq A B) : lq A (sSin b n B) := by
  unfold sSin
  (repeat' split) <;> (with_reducible repeat (first | assumption | refine lq_up (by decide) ?_ | refine lq_sNew ?_ | refine lq_sAdd ?_ | refine lq_sNum ?_ | refine lq_sNumB ?_ | refine lq_sFail ?_ | refine lq_sNext ?_))
theorem lq_sDeed {A : aS} {B : aS} {b : Nat → Int} {n : Int} {p : Int} (h : lq A B) : lq A (sDeed b n p B) := by
  unfold sDeed
  (repeat' split) <;> (with_reducible repeat (first | assumption | refine lq_up (by decide) ?_ | refine lq_sSin ?_ | refine lq_sNew ?_ | refine lq_sAdd ?_ | refine lq_sNum ?_ | refine lq_sNumB ?_ | refine lq_sFail ?_ | refine lq_sNext ?_))
theorem lq_sDeeds {A : aS} {b : Nat → Int} {n : Int} {p : Int} : ∀ (m : Nat) {B : aS}, lq A B → lq A (sDeeds b n p m B)
  | 0, _, h => h
  | m + 1, B, h => by
    rw [sDeeds]
    split
    · exact lq_sDeeds m (lq_sDeed (lq_sNext h))
    · exact h
theorem lq_sHon {A : aS} {B : aS} {b : Nat → Int} {n : Int} (h : lq A B) : lq A (sHon b n B) := by
  unfold sHon
  (repeat' split) <;> (with_reducible repeat (first | assumption | refine lq_up (by decide) ?_ | refine lq_sDeeds _ ?_ | refine lq_sDeed ?_ | refine lq_sSin ?_ | refine lq_sNew ?_ | refine lq_sAdd ?_ | refine lq_sNum ?_ | refine lq_sNumB ?_ | refine lq_sFail ?_ | refine lq_sNext ?_))
theorem lq_sPerson {A : aS} {B : aS} {b : Nat → Int} {n : Int} (h : lq A B) : lq A (sPerson b n B) := by
  unfold sPerson
  (repeat' split) <;> (with_reducible repeat (first | assumption | refine lq_up (by decide) ?_ | refine lq_sHon ?_ | refine lq_sDeeds _ ?_ | refine lq_sDeed ?_ | refine lq_sSin ?_ | refine lq_sNew ?_ | refine lq_sAdd ?_ | refine lq_sNum ?_ | refine lq_sNumB ?_ | refine lq_sFail ?_ | refine lq_sNext ?_))
theorem lq_sC1 {A : aS} {B : aS} {b : Nat → Int} {n : Int} (h : lq A B) : lq A (sC1 b n B) := by
  unfold sC1
  (repeat' split) <;> (with_reducible repeat (first | assumption | refine lq_up (by decide) ?_ | refine lq_sPerson ?_ | refine lq_sHon ?_ | refine lq_sDeeds _ ?_ | refine lq_sDeed ?_ | refine lq_sSin ?_ | refine lq_sNew ?_ | refine lq_sAdd ?_ | refine lq_sNum ?_ | refine lq_sNumB ?_ | refine lq_sFail ?_ | refine lq_sNext ?_))
theorem lq_sC2 {A : aS} {B : aS} {b : Nat → Int} {n : Int} (h : lq A B) : lq A (sC2 b n B) := by
  unfold sC2
  (repeat' split) <;> (with_reducible repeat (first | assumption | refine lq_up (by decide) ?_ | refine lq_sC1 ?_ | refine lq_sPerson ?_ | refine lq_sHon ?_ | refine lq_sDeeds _ ?_ | refine lq_sDeed ?_ | refine lq_sSin ?_ | refine lq_sNew ?_ | refine lq_sAdd ?_ | refine lq_sNum ?_ | refine lq_sNumB ?_ | refine lq_sFail ?_ | refine lq_sNext ?_))
theorem lq_sC3 {A : aS} {B : aS} {b : Nat → Int} {n : Int} (h : lq A B) : lq A (sC3 b n B) := by
  unfold sC3
  (repeat' split) <;> (with_reducible repeat (first | assumption | refine lq_up (by decide) ?_ | refine lq_sC2 ?_ | refine lq_sC1 ?_ | refine lq_sPerson ?_ | refine lq_sHon ?_ | refine lq_sDeeds _ ?_ | refine lq_sDeed ?_ | refine lq_sSin ?_ | refine lq_sNew ?_ | refine lq_sAdd ?_ | refine lq_sNum ?_ | refine lq_sNumB ?_ | refine lq_sFail ?_ | refine lq_sNext ?_))
theorem lq_sCake {A : aS} {B : aS} {b : Nat → Int} {n : Int} (h : lq A B) : lq A (sCake b n B) := by
  unfold sCake
  (repeat' split) <;> (with_reducible repeat (first | assumption | refine lq_up (by decide) ?_ | refine lq_sC3 ?_ | refine lq_sC2 ?_ | refine lq_sC1 ?_ | refine lq_sPerson ?_ | refine lq_sHon ?_ | refine lq_sDeeds _ ?_ | refine lq_sDeed ?_ | refine lq_sSin ?_ | refine lq_sNew ?_ | refine lq_sAdd ?_ | refine lq_sNum ?_ | refine lq_sNumB ?_ | refine lq_sFail ?_ | refine lq_sNext ?_))
theorem lq_sKind {A : aS} {B : aS} {b : Nat → Int} {n : Int} (h : lq A B) : lq A (sKind b n B) := by
  unfold sKind
  (repeat' split) <;> (with_reducible repeat (first | assumption | refine lq_up (by decide) ?_ | refine lq_sCake ?_ | refine lq_sC3 ?_ | refine lq_sC2 ?_ | refine lq_sC1 ?_ | refine lq_sPerson ?_ | refine lq_sHon ?_ | refine lq_sDeeds _ ?_ | refine lq_sDeed ?_ | refine lq_sSin ?_ | refine lq_sNew ?_ | refine lq_sAdd ?_ | refine lq_sNum ?_ | refine lq_sNumB ?_ | refine lq_sFail ?_ | refine lq_sNext ?_))
theorem lq_sOnB {A : aS} {B : aS} {b : Nat → Int} {n : Int} (h : lq A B) : lq A (sOnB b n B) := by
  unfold sOnB
  (repeat' split) <;> (with_reducible repeat (first | assumption | refine lq_up (by decide) ?_ | refine lq_sKind ?_ | refine lq_sCake ?_ | refine lq_sC3 ?_ | refine lq_sC2 ?_ | refine lq_sC1 ?_ | refine lq_sPerson ?_ | refine lq_sHon ?_ | refine lq_sDeeds _ ?_ | refine lq_sDeed ?_ | refine lq_sSin ?_ | refine lq_sNew ?_ | refine lq_sAdd ?_ | refine lq_sNum ?_ | refine lq_sNumB ?_ | refine lq_sFail ?_ | refine lq_sNext ?_))
theorem lq_sOnce {A : aS} {B : aS} {b : Nat → Int} {n : Int} {lo hi : Int} (h : lq A B) : lq A (sOnce b n lo hi B) := by
  unfold sOnce
  (repeat' split) <;> (with_reducible repeat (first | assumption | refine lq_up (by decide) ?_ | refine lq_sOnB ?_ | refine lq_sKind ?_ | refine lq_sCake ?_ | refine lq_sC3 ?_ | refine lq_sC2 ?_ | refine lq_sC1 ?_ | refine lq_sPerson ?_ | refine lq_sHon ?_ | refine lq_sDeeds _ ?_ | refine lq_sDeed ?_ | refine lq_sSin ?_ | refine lq_sNew ?_ | refine lq_sAdd ?_ | refine lq_sNum ?_ | refine lq_sNumB ?_ | refine lq_sFail ?_ | refine lq_sNext ?_))

theorem pa_up {b : Nat → Int} {n : Int} {B : aS} {f j : Nat} {v : Int} (hf : f ≠ 0) (h : PA b n B) : PA b n (up B f j v) := PA_00 (up_f (fun q => hf q.symm)) h
theorem pa_sNext {b : Nat → Int} {n : Int} {B : aS} (h : PA b n B) : PA b n (sNext b n B) := by
  by_cases hk : tK b n B ≠ 0
  · exact PA_1 h hk (sNext_1 rfl hk)
  · have e : sNext b n B = B := by
      unfold sNext
      rw [if_neg]
      rintro (q | q)
      · have := h.1; omega
      · exact hk q
    rw [e]
    exact h
theorem pa_sFail {B : aS} {b : Nat → Int} {n : Int} {c : Int} (h : PA b n B) : PA b n (sFail b n c B) := by
  unfold sFail
  (repeat' split) <;> (with_reducible repeat (first | assumption | refine pa_up (by decide) ?_ | refine pa_sNext ?_))
theorem pa_sNumB {B : aS} {b : Nat → Int} {n : Int} (h : PA b n B) : PA b n (sNumB b n B) := by
  unfold sNumB
  (repeat' split) <;> (with_reducible repeat (first | assumption | refine pa_up (by decide) ?_ | refine pa_sFail ?_ | refine pa_sNext ?_))
theorem pa_sNum {B : aS} {b : Nat → Int} {n : Int} {lo hi : Int} (h : PA b n B) : PA b n (sNum b n lo hi B) := by
  unfold sNum
  (repeat' split) <;> (with_reducible repeat (first | assumption | refine pa_up (by decide) ?_ | refine pa_sNumB ?_ | refine pa_sFail ?_ | refine pa_sNext ?_))
theorem pa_sAdd {B : aS} {b : Nat → Int} {n : Int} {kd c : Int} (h : PA b n B) : PA b n (sAdd kd c B) := by
  unfold sAdd
  (repeat' split) <;> (with_reducible repeat (first | assumption | refine pa_up (by decide) ?_ | refine pa_sNum ?_ | refine pa_sNumB ?_ | refine pa_sFail ?_ | refine pa_sNext ?_))
theorem pa_sNew {B : aS} {b : Nat → Int} {n : Int} {kd : Int} (h : PA b n B) : PA b n (sNew b n kd B) := by
  unfold sNew
  (repeat' split) <;> (with_reducible repeat (first | assumption | refine pa_up (by decide) ?_ | refine pa_sAdd ?_ | refine pa_sNum ?_ | refine pa_sNumB ?_ | refine pa_sFail ?_ | refine pa_sNext ?_))
theorem pa_sSin {B : aS} {b : Nat → Int} {n : Int} (h : PA b n B) : PA b n (sSin b n B) := by
  unfold sSin
  (repeat' split) <;> (with_reducible repeat (first | assumption | refine pa_up (by decide) ?_ | refine pa_sNew ?_ | refine pa_sAdd ?_ | refine pa_sNum ?_ | refine pa_sNumB ?_ | refine pa_sFail ?_ | refine pa_sNext ?_))
theorem pa_sDeed {B : aS} {b : Nat → Int} {n : Int} {p : Int} (h : PA b n B) : PA b n (sDeed b n p B) := by
  unfold sDeed
  (repeat' split) <;> (with_reducible repeat (first | assumption | refine pa_up (by decide) ?_ | refine pa_sSin ?_ | refine pa_sNew ?_ | refine pa_sAdd ?_ | refine pa_sNum ?_ | refine pa_sNumB ?_ | refine pa_sFail ?_ | refine pa_sNext ?_))
theorem pa_sDeeds {b : Nat → Int} {n : Int} {p : Int} : ∀ (m : Nat) {B : aS}, PA b n B → PA b n (sDeeds b n p m B)
  | 0, _, h => h
  | m + 1, B, h => by
    rw [sDeeds]
    split
    · exact pa_sDeeds m (pa_sDeed (pa_sNext h))
    · exact h
theorem pa_sHon {B : aS} {b : Nat → Int} {n : Int} (h : PA b n B) : PA b n (sHon b n B) := by
  unfold sHon
  (repeat' split) <;> (with_reducible repeat (first | assumption | refine pa_up (by decide) ?_ | refine pa_sDeeds _ ?_ | refine pa_sDeed ?_ | refine pa_sSin ?_ | refine pa_sNew ?_ | refine pa_sAdd ?_ | refine pa_sNum ?_ | refine pa_sNumB ?_ | refine pa_sFail ?_ | refine pa_sNext ?_))
theorem pa_sPerson {B : aS} {b : Nat → Int} {n : Int} (h : PA b n B) : PA b n (sPerson b n B) := by
  unfold sPerson
  (repeat' split) <;> (with_reducible repeat (first | assumption | refine pa_up (by decide) ?_ | refine pa_sHon ?_ | refine pa_sDeeds _ ?_ | refine pa_sDeed ?_ | refine pa_sSin ?_ | refine pa_sNew ?_ | refine pa_sAdd ?_ | refine pa_sNum ?_ | refine pa_sNumB ?_ | refine pa_sFail ?_ | refine pa_sNext ?_))
theorem pa_sC1 {B : aS} {b : Nat → Int} {n : Int} (h : PA b n B) : PA b n (sC1 b n B) := by
  unfold sC1
  (repeat' split) <;> (with_reducible repeat (first | assumption | refine pa_up (by decide) ?_ | refine pa_sPerson ?_ | refine pa_sHon ?_ | refine pa_sDeeds _ ?_ | refine pa_sDeed ?_ | refine pa_sSin ?_ | refine pa_sNew ?_ | refine pa_sAdd ?_ | refine pa_sNum ?_ | refine pa_sNumB ?_ | refine pa_sFail ?_ | refine pa_sNext ?_))
theorem pa_sC2 {B : aS} {b : Nat → Int} {n : Int} (h : PA b n B) : PA b n (sC2 b n B) := by
  unfold sC2
  (repeat' split) <;> (with_reducible repeat (first | assumption | refine pa_up (by decide) ?_ | refine pa_sC1 ?_ | refine pa_sPerson ?_ | refine pa_sHon ?_ | refine pa_sDeeds _ ?_ | refine pa_sDeed ?_ | refine pa_sSin ?_ | refine pa_sNew ?_ | refine pa_sAdd ?_ | refine pa_sNum ?_ | refine pa_sNumB ?_ | refine pa_sFail ?_ | refine pa_sNext ?_))
theorem pa_sC3 {B : aS} {b : Nat → Int} {n : Int} (h : PA b n B) : PA b n (sC3 b n B) := by
  unfold sC3
  (repeat' split) <;> (with_reducible repeat (first | assumption | refine pa_up (by decide) ?_ | refine pa_sC2 ?_ | refine pa_sC1 ?_ | refine pa_sPerson ?_ | refine pa_sHon ?_ | refine pa_sDeeds _ ?_ | refine pa_sDeed ?_ | refine pa_sSin ?_ | refine pa_sNew ?_ | refine pa_sAdd ?_ | refine pa_sNum ?_ | refine pa_sNumB ?_ | refine pa_sFail ?_ | refine pa_sNext ?_))
theorem pa_sCake {B : aS} {b : Nat → Int} {n : Int} (h : PA b n B) : PA b n (sCake b n B) := by
  unfold sCake
  (repeat' split) <;> (with_reducible repeat (first | assumption | refine pa_up (by decide) ?_ | refine pa_sC3 ?_ | refine pa_sC2 ?_ | refine pa_sC1 ?_ | refine pa_sPerson ?_ | refine pa_sHon ?_ | refine pa_sDeeds _ ?_ | refine pa_sDeed ?_ | refine pa_sSin ?_ | refine pa_sNew ?_ | refine pa_sAdd ?_ | refine pa_sNum ?_ | refine pa_sNumB ?_ | refine pa_sFail ?_ | refine pa_sNext ?_))
theorem pa_sKind {B : aS} {b : Nat → Int} {n : Int} (h : PA b n B) : PA b n (sKind b n B) := by
  unfold sKind
  (repeat' split) <;> (with_reducible repeat (first | assumption | refine pa_up (by decide) ?_ | refine pa_sCake ?_ | refine pa_sC3 ?_ | refine pa_sC2 ?_ | refine pa_sC1 ?_ | refine pa_sPerson ?_ | refine pa_sHon ?_ | refine pa_sDeeds _ ?_ | refine pa_sDeed ?_ | refine pa_sSin ?_ | refine pa_sNew ?_ | refine pa_sAdd ?_ | refine pa_sNum ?_ | refine pa_sNumB ?_ | refine pa_sFail ?_ | refine pa_sNext ?_))
theorem pa_sOnB {B : aS} {b : Nat → Int} {n : Int} (h : PA b n B) : PA b n (sOnB b n B) := by
  unfold sOnB
  (repeat' split) <;> (with_reducible repeat (first | assumption | refine pa_up (by decide) ?_ | refine pa_sKind ?_ | refine pa_sCake ?_ | refine pa_sC3 ?_ | refine pa_sC2 ?_ | refine pa_sC1 ?_ | refine pa_sPerson ?_ | refine pa_sHon ?_ | refine pa_sDeeds _ ?_ | refine pa_sDeed ?_ | refine pa_sSin ?_ | refine pa_sNew ?_ | refine pa_sAdd ?_ | refine pa_sNum ?_ | refine pa_sNumB ?_ | refine pa_sFail ?_ | refine pa_sNext ?_))
theorem pa_sOnce {B : aS} {b : Nat → Int} {n : Int} {lo hi : Int} (h : PA b n B) : PA b n (sOnce b n lo hi B) := by
  unfold sOnce
  (repeat' split) <;> (with_reducible repeat (first | assumption | refine pa_up (by decide) ?_ | refine pa_sOnB ?_ | refine pa_sKind ?_ | refine pa_sCake ?_ | refine pa_sC3 ?_ | refine pa_sC2 ?_ | refine pa_sC1 ?_ | refine pa_sPerson ?_ | refine pa_sHon ?_ | refine pa_sDeeds _ ?_ | refine pa_sDeed ?_ | refine pa_sSin ?_ | refine pa_sNew ?_ | refine pa_sAdd ?_ | refine pa_sNum ?_ | refine pa_sNumB ?_ | refine pa_sFail ?_ | refine pa_sNext ?_))
theorem pa_gLeaf {B : aS} {b : Nat → Int} {n : Int} {what : Int} (h : PA b n B) : PA b n (gLeaf what B) := by
  unfold gLeaf
  (repeat' split) <;> (with_reducible repeat (first | assumption | refine pa_up (by decide) ?_ | refine pa_sOnce ?_ | refine pa_sOnB ?_ | refine pa_sKind ?_ | refine pa_sCake ?_ | refine pa_sC3 ?_ | refine pa_sC2 ?_ | refine pa_sC1 ?_ | refine pa_sPerson ?_ | refine pa_sHon ?_ | refine pa_sDeeds _ ?_ | refine pa_sDeed ?_ | refine pa_sSin ?_ | refine pa_sNew ?_ | refine pa_sAdd ?_ | refine pa_sNum ?_ | refine pa_sNumB ?_ | refine pa_sFail ?_ | refine pa_sNext ?_))
theorem pa_gOp {B : aS} {b : Nat → Int} {n : Int} {k : Int} (h : PA b n B) : PA b n (gOp k B) := by
  unfold gOp
  (repeat' split) <;> (with_reducible repeat (first | assumption | refine pa_up (by decide) ?_ | refine pa_gLeaf ?_ | refine pa_sOnce ?_ | refine pa_sOnB ?_ | refine pa_sKind ?_ | refine pa_sCake ?_ | refine pa_sC3 ?_ | refine pa_sC2 ?_ | refine pa_sC1 ?_ | refine pa_sPerson ?_ | refine pa_sHon ?_ | refine pa_sDeeds _ ?_ | refine pa_sDeed ?_ | refine pa_sSin ?_ | refine pa_sNew ?_ | refine pa_sAdd ?_ | refine pa_sNum ?_ | refine pa_sNumB ?_ | refine pa_sFail ?_ | refine pa_sNext ?_))
theorem pa_sWrite {B : aS} {b : Nat → Int} {n : Int} {k what : Int} (h : PA b n B) : PA b n (sWrite k what B) := by
  unfold sWrite
  (repeat' split) <;> (with_reducible repeat (first | assumption | refine pa_up (by decide) ?_ | refine pa_gOp ?_ | refine pa_gLeaf ?_ | refine pa_sOnce ?_ | refine pa_sOnB ?_ | refine pa_sKind ?_ | refine pa_sCake ?_ | refine pa_sC3 ?_ | refine pa_sC2 ?_ | refine pa_sC1 ?_ | refine pa_sPerson ?_ | refine pa_sHon ?_ | refine pa_sDeeds _ ?_ | refine pa_sDeed ?_ | refine pa_sSin ?_ | refine pa_sNew ?_ | refine pa_sAdd ?_ | refine pa_sNum ?_ | refine pa_sNumB ?_ | refine pa_sFail ?_ | refine pa_sNext ?_))
theorem pa_sReln {b : Nat → Int} {n : Int} {r : Int} : ∀ (m : Nat) {B : aS}, PA b n B → PA b n (sReln r m B)
  | 0, _, h => h
  | m + 1, B, h => by
    rw [sReln]
    split
    · exact pa_sReln m (pa_sWrite (pa_gOp (pa_up (by decide) h)))
    · exact h
theorem pa_sRel {B : aS} {b : Nat → Int} {n : Int} {r : Int} (h : PA b n B) : PA b n (sRel r B) := by
  unfold sRel
  (repeat' split) <;> (with_reducible repeat (first | assumption | refine pa_up (by decide) ?_ | refine pa_sReln _ ?_ | refine pa_sWrite ?_ | refine pa_gOp ?_ | refine pa_gLeaf ?_ | refine pa_sOnce ?_ | refine pa_sOnB ?_ | refine pa_sKind ?_ | refine pa_sCake ?_ | refine pa_sC3 ?_ | refine pa_sC2 ?_ | refine pa_sC1 ?_ | refine pa_sPerson ?_ | refine pa_sHon ?_ | refine pa_sDeeds _ ?_ | refine pa_sDeed ?_ | refine pa_sSin ?_ | refine pa_sNew ?_ | refine pa_sAdd ?_ | refine pa_sNum ?_ | refine pa_sNumB ?_ | refine pa_sFail ?_ | refine pa_sNext ?_))
theorem pa_sCnt {B : aS} {b : Nat → Int} {n : Int} (h : PA b n B) : PA b n (sCnt b n B) := by
  unfold sCnt
  (repeat' split) <;> (with_reducible repeat (first | assumption | refine pa_up (by decide) ?_ | refine pa_sRel ?_ | refine pa_sReln _ ?_ | refine pa_sWrite ?_ | refine pa_gOp ?_ | refine pa_gLeaf ?_ | refine pa_sOnce ?_ | refine pa_sOnB ?_ | refine pa_sKind ?_ | refine pa_sCake ?_ | refine pa_sC3 ?_ | refine pa_sC2 ?_ | refine pa_sC1 ?_ | refine pa_sPerson ?_ | refine pa_sHon ?_ | refine pa_sDeeds _ ?_ | refine pa_sDeed ?_ | refine pa_sSin ?_ | refine pa_sNew ?_ | refine pa_sAdd ?_ | refine pa_sNum ?_ | refine pa_sNumB ?_ | refine pa_sFail ?_ | refine pa_sNext ?_))
theorem pa_sCount {B : aS} {b : Nat → Int} {n : Int} (h : PA b n B) : PA b n (sCount b n B) := by
  unfold sCount
  (repeat' split) <;> (with_reducible repeat (first | assumption | refine pa_up (by decide) ?_ | refine pa_sCnt ?_ | refine pa_sRel ?_ | refine pa_sReln _ ?_ | refine pa_sWrite ?_ | refine pa_gOp ?_ | refine pa_gLeaf ?_ | refine pa_sOnce ?_ | refine pa_sOnB ?_ | refine pa_sKind ?_ | refine pa_sCake ?_ | refine pa_sC3 ?_ | refine pa_sC2 ?_ | refine pa_sC1 ?_ | refine pa_sPerson ?_ | refine pa_sHon ?_ | refine pa_sDeeds _ ?_ | refine pa_sDeed ?_ | refine pa_sSin ?_ | refine pa_sNew ?_ | refine pa_sAdd ?_ | refine pa_sNum ?_ | refine pa_sNumB ?_ | refine pa_sFail ?_ | refine pa_sNext ?_))
theorem pa_sPush {B : aS} {b : Nat → Int} {n : Int} {k : Int} (h : PA b n B) : PA b n (sPush b n k B) := by
  unfold sPush
  (repeat' split) <;> (with_reducible repeat (first | assumption | refine pa_up (by decide) ?_ | refine pa_sCount ?_ | refine pa_sCnt ?_ | refine pa_sRel ?_ | refine pa_sReln _ ?_ | refine pa_sWrite ?_ | refine pa_gOp ?_ | refine pa_gLeaf ?_ | refine pa_sOnce ?_ | refine pa_sOnB ?_ | refine pa_sKind ?_ | refine pa_sCake ?_ | refine pa_sC3 ?_ | refine pa_sC2 ?_ | refine pa_sC1 ?_ | refine pa_sPerson ?_ | refine pa_sHon ?_ | refine pa_sDeeds _ ?_ | refine pa_sDeed ?_ | refine pa_sSin ?_ | refine pa_sNew ?_ | refine pa_sAdd ?_ | refine pa_sNum ?_ | refine pa_sNumB ?_ | refine pa_sFail ?_ | refine pa_sNext ?_))
theorem pa_sOpen {B : aS} {b : Nat → Int} {n : Int} (h : PA b n B) : PA b n (sOpen b n B) := by
  unfold sOpen
  (repeat' split) <;> (with_reducible repeat (first | assumption | refine pa_up (by decide) ?_ | refine pa_sPush ?_ | refine pa_sCount ?_ | refine pa_sCnt ?_ | refine pa_sRel ?_ | refine pa_sReln _ ?_ | refine pa_sWrite ?_ | refine pa_gOp ?_ | refine pa_gLeaf ?_ | refine pa_sOnce ?_ | refine pa_sOnB ?_ | refine pa_sKind ?_ | refine pa_sCake ?_ | refine pa_sC3 ?_ | refine pa_sC2 ?_ | refine pa_sC1 ?_ | refine pa_sPerson ?_ | refine pa_sHon ?_ | refine pa_sDeeds _ ?_ | refine pa_sDeed ?_ | refine pa_sSin ?_ | refine pa_sNew ?_ | refine pa_sAdd ?_ | refine pa_sNum ?_ | refine pa_sNumB ?_ | refine pa_sFail ?_ | refine pa_sNext ?_))
theorem pa_sLeaf {B : aS} {b : Nat → Int} {n : Int} {k what : Int} (h : PA b n B) : PA b n (sLeaf b n k what B) := by
  unfold sLeaf
  (repeat' split) <;> (with_reducible repeat (first | assumption | refine pa_up (by decide) ?_ | refine pa_sOpen ?_ | refine pa_sPush ?_ | refine pa_sCount ?_ | refine pa_sCnt ?_ | refine pa_sRel ?_ | refine pa_sReln _ ?_ | refine pa_sWrite ?_ | refine pa_gOp ?_ | refine pa_gLeaf ?_ | refine pa_sOnce ?_ | refine pa_sOnB ?_ | refine pa_sKind ?_ | refine pa_sCake ?_ | refine pa_sC3 ?_ | refine pa_sC2 ?_ | refine pa_sC1 ?_ | refine pa_sPerson ?_ | refine pa_sHon ?_ | refine pa_sDeeds _ ?_ | refine pa_sDeed ?_ | refine pa_sSin ?_ | refine pa_sNew ?_ | refine pa_sAdd ?_ | refine pa_sNum ?_ | refine pa_sNumB ?_ | refine pa_sFail ?_ | refine pa_sNext ?_))
theorem pa_sNot {B : aS} {b : Nat → Int} {n : Int} (h : PA b n B) : PA b n (sNot b n B) := by
  unfold sNot
  (repeat' split) <;> (with_reducible repeat (first | assumption | refine pa_up (by decide) ?_ | refine pa_sLeaf ?_ | refine pa_sOpen ?_ | refine pa_sPush ?_ | refine pa_sCount ?_ | refine pa_sCnt ?_ | refine pa_sRel ?_ | refine pa_sReln _ ?_ | refine pa_sWrite ?_ | refine pa_gOp ?_ | refine pa_gLeaf ?_ | refine pa_sOnce ?_ | refine pa_sOnB ?_ | refine pa_sKind ?_ | refine pa_sCake ?_ | refine pa_sC3 ?_ | refine pa_sC2 ?_ | refine pa_sC1 ?_ | refine pa_sPerson ?_ | refine pa_sHon ?_ | refine pa_sDeeds _ ?_ | refine pa_sDeed ?_ | refine pa_sSin ?_ | refine pa_sNew ?_ | refine pa_sAdd ?_ | refine pa_sNum ?_ | refine pa_sNumB ?_ | refine pa_sFail ?_ | refine pa_sNext ?_))
theorem pa_sSide {B : aS} {b : Nat → Int} {n : Int} (h : PA b n B) : PA b n (sSide b n B) := by
  unfold sSide
  (repeat' split) <;> (with_reducible repeat (first | assumption | refine pa_up (by decide) ?_ | refine pa_sNot ?_ | refine pa_sLeaf ?_ | refine pa_sOpen ?_ | refine pa_sPush ?_ | refine pa_sCount ?_ | refine pa_sCnt ?_ | refine pa_sRel ?_ | refine pa_sReln _ ?_ | refine pa_sWrite ?_ | refine pa_gOp ?_ | refine pa_gLeaf ?_ | refine pa_sOnce ?_ | refine pa_sOnB ?_ | refine pa_sKind ?_ | refine pa_sCake ?_ | refine pa_sC3 ?_ | refine pa_sC2 ?_ | refine pa_sC1 ?_ | refine pa_sPerson ?_ | refine pa_sHon ?_ | refine pa_sDeeds _ ?_ | refine pa_sDeed ?_ | refine pa_sSin ?_ | refine pa_sNew ?_ | refine pa_sAdd ?_ | refine pa_sNum ?_ | refine pa_sNumB ?_ | refine pa_sFail ?_ | refine pa_sNext ?_))
theorem pa_sJB {B : aS} {b : Nat → Int} {n : Int} {k : Int} (h : PA b n B) : PA b n (sJB b n k B) := by
  unfold sJB
  (repeat' split) <;> (with_reducible repeat (first | assumption | refine pa_up (by decide) ?_ | refine pa_sSide ?_ | refine pa_sNot ?_ | refine pa_sLeaf ?_ | refine pa_sOpen ?_ | refine pa_sPush ?_ | refine pa_sCount ?_ | refine pa_sCnt ?_ | refine pa_sRel ?_ | refine pa_sReln _ ?_ | refine pa_sWrite ?_ | refine pa_gOp ?_ | refine pa_gLeaf ?_ | refine pa_sOnce ?_ | refine pa_sOnB ?_ | refine pa_sKind ?_ | refine pa_sCake ?_ | refine pa_sC3 ?_ | refine pa_sC2 ?_ | refine pa_sC1 ?_ | refine pa_sPerson ?_ | refine pa_sHon ?_ | refine pa_sDeeds _ ?_ | refine pa_sDeed ?_ | refine pa_sSin ?_ | refine pa_sNew ?_ | refine pa_sAdd ?_ | refine pa_sNum ?_ | refine pa_sNumB ?_ | refine pa_sFail ?_ | refine pa_sNext ?_))
theorem pa_sJR {B : aS} {b : Nat → Int} {n : Int} {k : Int} (h : PA b n B) : PA b n (sJR k B) := by
  unfold sJR
  (repeat' split) <;> (with_reducible repeat (first | assumption | refine pa_up (by decide) ?_ | refine pa_sJB ?_ | refine pa_sSide ?_ | refine pa_sNot ?_ | refine pa_sLeaf ?_ | refine pa_sOpen ?_ | refine pa_sPush ?_ | refine pa_sCount ?_ | refine pa_sCnt ?_ | refine pa_sRel ?_ | refine pa_sReln _ ?_ | refine pa_sWrite ?_ | refine pa_gOp ?_ | refine pa_gLeaf ?_ | refine pa_sOnce ?_ | refine pa_sOnB ?_ | refine pa_sKind ?_ | refine pa_sCake ?_ | refine pa_sC3 ?_ | refine pa_sC2 ?_ | refine pa_sC1 ?_ | refine pa_sPerson ?_ | refine pa_sHon ?_ | refine pa_sDeeds _ ?_ | refine pa_sDeed ?_ | refine pa_sSin ?_ | refine pa_sNew ?_ | refine pa_sAdd ?_ | refine pa_sNum ?_ | refine pa_sNumB ?_ | refine pa_sFail ?_ | refine pa_sNext ?_))
theorem pa_sJoint {B : aS} {b : Nat → Int} {n : Int} {k : Int} (h : PA b n B) : PA b n (sJoint b n k B) := by
  unfold sJoint
  (repeat' split) <;> (with_reducible repeat (first | assumption | refine pa_up (by decide) ?_ | refine pa_sJR ?_ | refine pa_sJB ?_ | refine pa_sSide ?_ | refine pa_sNot ?_ | refine pa_sLeaf ?_ | refine pa_sOpen ?_ | refine pa_sPush ?_ | refine pa_sCount ?_ | refine pa_sCnt ?_ | refine pa_sRel ?_ | refine pa_sReln _ ?_ | refine pa_sWrite ?_ | refine pa_gOp ?_ | refine pa_gLeaf ?_ | refine pa_sOnce ?_ | refine pa_sOnB ?_ | refine pa_sKind ?_ | refine pa_sCake ?_ | refine pa_sC3 ?_ | refine pa_sC2 ?_ | refine pa_sC1 ?_ | refine pa_sPerson ?_ | refine pa_sHon ?_ | refine pa_sDeeds _ ?_ | refine pa_sDeed ?_ | refine pa_sSin ?_ | refine pa_sNew ?_ | refine pa_sAdd ?_ | refine pa_sNum ?_ | refine pa_sNumB ?_ | refine pa_sFail ?_ | refine pa_sNext ?_))
theorem pa_sClose {B : aS} {b : Nat → Int} {n : Int} (h : PA b n B) : PA b n (sClose b n B) := by
  unfold sClose
  (repeat' split) <;> (with_reducible repeat (first | assumption | refine pa_up (by decide) ?_ | refine pa_sJoint ?_ | refine pa_sJR ?_ | refine pa_sJB ?_ | refine pa_sSide ?_ | refine pa_sNot ?_ | refine pa_sLeaf ?_ | refine pa_sOpen ?_ | refine pa_sPush ?_ | refine pa_sCount ?_ | refine pa_sCnt ?_ | refine pa_sRel ?_ | refine pa_sReln _ ?_ | refine pa_sWrite ?_ | refine pa_gOp ?_ | refine pa_gLeaf ?_ | refine pa_sOnce ?_ | refine pa_sOnB ?_ | refine pa_sKind ?_ | refine pa_sCake ?_ | refine pa_sC3 ?_ | refine pa_sC2 ?_ | refine pa_sC1 ?_ | refine pa_sPerson ?_ | refine pa_sHon ?_ | refine pa_sDeeds _ ?_ | refine pa_sDeed ?_ | refine pa_sSin ?_ | refine pa_sNew ?_ | refine pa_sAdd ?_ | refine pa_sNum ?_ | refine pa_sNumB ?_ | refine pa_sFail ?_ | refine pa_sNext ?_))
theorem pa_sBehind {B : aS} {b : Nat → Int} {n : Int} (h : PA b n B) : PA b n (sBehind b n B) := by
  unfold sBehind
  (repeat' split) <;> (with_reducible repeat (first | assumption | refine pa_up (by decide) ?_ | refine pa_sClose ?_ | refine pa_sJoint ?_ | refine pa_sJR ?_ | refine pa_sJB ?_ | refine pa_sSide ?_ | refine pa_sNot ?_ | refine pa_sLeaf ?_ | refine pa_sOpen ?_ | refine pa_sPush ?_ | refine pa_sCount ?_ | refine pa_sCnt ?_ | refine pa_sRel ?_ | refine pa_sReln _ ?_ | refine pa_sWrite ?_ | refine pa_gOp ?_ | refine pa_gLeaf ?_ | refine pa_sOnce ?_ | refine pa_sOnB ?_ | refine pa_sKind ?_ | refine pa_sCake ?_ | refine pa_sC3 ?_ | refine pa_sC2 ?_ | refine pa_sC1 ?_ | refine pa_sPerson ?_ | refine pa_sHon ?_ | refine pa_sDeeds _ ?_ | refine pa_sDeed ?_ | refine pa_sSin ?_ | refine pa_sNew ?_ | refine pa_sAdd ?_ | refine pa_sNum ?_ | refine pa_sNumB ?_ | refine pa_sFail ?_ | refine pa_sNext ?_))
theorem pa_sEL {b : Nat → Int} {n : Int} : ∀ (m : Nat) (go : Int) {B : aS}, PA b n B → PA b n (sEL b n m go B)
  | 0, _, _, h => h
  | m + 1, go, B, h => by
    rw [sEL]
    split
    · split
      · exact pa_sEL m go (pa_sSide h)
      · exact pa_sEL m _ (pa_sBehind h)
    · exact h
theorem pa_sB0 {B : aS} {b : Nat → Int} {n : Int} (h : PA b n B) : PA b n (sB0 B) := by
  unfold sB0
  (repeat' split) <;> (with_reducible repeat (first | assumption | refine pa_up (by decide) ?_ | refine pa_sEL _ _ ?_ | refine pa_sBehind ?_ | refine pa_sClose ?_ | refine pa_sJoint ?_ | refine pa_sJR ?_ | refine pa_sJB ?_ | refine pa_sSide ?_ | refine pa_sNot ?_ | refine pa_sLeaf ?_ | refine pa_sOpen ?_ | refine pa_sPush ?_ | refine pa_sCount ?_ | refine pa_sCnt ?_ | refine pa_sRel ?_ | refine pa_sReln _ ?_ | refine pa_sWrite ?_ | refine pa_gOp ?_ | refine pa_gLeaf ?_ | refine pa_sOnce ?_ | refine pa_sOnB ?_ | refine pa_sKind ?_ | refine pa_sCake ?_ | refine pa_sC3 ?_ | refine pa_sC2 ?_ | refine pa_sC1 ?_ | refine pa_sPerson ?_ | refine pa_sHon ?_ | refine pa_sDeeds _ ?_ | refine pa_sDeed ?_ | refine pa_sSin ?_ | refine pa_sNew ?_ | refine pa_sAdd ?_ | refine pa_sNum ?_ | refine pa_sNumB ?_ | refine pa_sFail ?_ | refine pa_sNext ?_))
theorem pa_sLB {B : aS} {b : Nat → Int} {n : Int} {k : Int} (h : PA b n B) : PA b n (sLB k B) := by
  unfold sLB
  (repeat' split) <;> (with_reducible repeat (first | assumption | refine pa_up (by decide) ?_ | refine pa_sB0 ?_ | refine pa_sEL _ _ ?_ | refine pa_sBehind ?_ | refine pa_sClose ?_ | refine pa_sJoint ?_ | refine pa_sJR ?_ | refine pa_sJB ?_ | refine pa_sSide ?_ | refine pa_sNot ?_ | refine pa_sLeaf ?_ | refine pa_sOpen ?_ | refine pa_sPush ?_ | refine pa_sCount ?_ | refine pa_sCnt ?_ | refine pa_sRel ?_ | refine pa_sReln _ ?_ | refine pa_sWrite ?_ | refine pa_gOp ?_ | refine pa_gLeaf ?_ | refine pa_sOnce ?_ | refine pa_sOnB ?_ | refine pa_sKind ?_ | refine pa_sCake ?_ | refine pa_sC3 ?_ | refine pa_sC2 ?_ | refine pa_sC1 ?_ | refine pa_sPerson ?_ | refine pa_sHon ?_ | refine pa_sDeeds _ ?_ | refine pa_sDeed ?_ | refine pa_sSin ?_ | refine pa_sNew ?_ | refine pa_sAdd ?_ | refine pa_sNum ?_ | refine pa_sNumB ?_ | refine pa_sFail ?_ | refine pa_sNext ?_))
theorem pa_sBeg {B : aS} {b : Nat → Int} {n : Int} {k : Int} (h : PA b n B) : PA b n (sBeg k B) := by
  unfold sBeg
  (repeat' split) <;> (with_reducible repeat (first | assumption | refine pa_up (by decide) ?_ | refine pa_sLB ?_ | refine pa_sB0 ?_ | refine pa_sEL _ _ ?_ | refine pa_sBehind ?_ | refine pa_sClose ?_ | refine pa_sJoint ?_ | refine pa_sJR ?_ | refine pa_sJB ?_ | refine pa_sSide ?_ | refine pa_sNot ?_ | refine pa_sLeaf ?_ | refine pa_sOpen ?_ | refine pa_sPush ?_ | refine pa_sCount ?_ | refine pa_sCnt ?_ | refine pa_sRel ?_ | refine pa_sReln _ ?_ | refine pa_sWrite ?_ | refine pa_gOp ?_ | refine pa_gLeaf ?_ | refine pa_sOnce ?_ | refine pa_sOnB ?_ | refine pa_sKind ?_ | refine pa_sCake ?_ | refine pa_sC3 ?_ | refine pa_sC2 ?_ | refine pa_sC1 ?_ | refine pa_sPerson ?_ | refine pa_sHon ?_ | refine pa_sDeeds _ ?_ | refine pa_sDeed ?_ | refine pa_sSin ?_ | refine pa_sNew ?_ | refine pa_sAdd ?_ | refine pa_sNum ?_ | refine pa_sNumB ?_ | refine pa_sFail ?_ | refine pa_sNext ?_))
theorem pa_sFin {B : aS} {b : Nat → Int} {n : Int} {k : Int} (h : PA b n B) : PA b n (sFin k B) := by
  unfold sFin
  (repeat' split) <;> (with_reducible repeat (first | assumption | refine pa_up (by decide) ?_ | refine pa_sBeg ?_ | refine pa_sLB ?_ | refine pa_sB0 ?_ | refine pa_sEL _ _ ?_ | refine pa_sBehind ?_ | refine pa_sClose ?_ | refine pa_sJoint ?_ | refine pa_sJR ?_ | refine pa_sJB ?_ | refine pa_sSide ?_ | refine pa_sNot ?_ | refine pa_sLeaf ?_ | refine pa_sOpen ?_ | refine pa_sPush ?_ | refine pa_sCount ?_ | refine pa_sCnt ?_ | refine pa_sRel ?_ | refine pa_sReln _ ?_ | refine pa_sWrite ?_ | refine pa_gOp ?_ | refine pa_gLeaf ?_ | refine pa_sOnce ?_ | refine pa_sOnB ?_ | refine pa_sKind ?_ | refine pa_sCake ?_ | refine pa_sC3 ?_ | refine pa_sC2 ?_ | refine pa_sC1 ?_ | refine pa_sPerson ?_ | refine pa_sHon ?_ | refine pa_sDeeds _ ?_ | refine pa_sDeed ?_ | refine pa_sSin ?_ | refine pa_sNew ?_ | refine pa_sAdd ?_ | refine pa_sNum ?_ | refine pa_sNumB ?_ | refine pa_sFail ?_ | refine pa_sNext ?_))
theorem pa_sE {B : aS} {b : Nat → Int} {n : Int} {k : Int} (h : PA b n B) : PA b n (sE b n k B) := by
  unfold sE
  (repeat' split) <;> (with_reducible repeat (first | assumption | refine pa_up (by decide) ?_ | refine pa_sFin ?_ | refine pa_sBeg ?_ | refine pa_sLB ?_ | refine pa_sB0 ?_ | refine pa_sEL _ _ ?_ | refine pa_sBehind ?_ | refine pa_sClose ?_ | refine pa_sJoint ?_ | refine pa_sJR ?_ | refine pa_sJB ?_ | refine pa_sSide ?_ | refine pa_sNot ?_ | refine pa_sLeaf ?_ | refine pa_sOpen ?_ | refine pa_sPush ?_ | refine pa_sCount ?_ | refine pa_sCnt ?_ | refine pa_sRel ?_ | refine pa_sReln _ ?_ | refine pa_sWrite ?_ | refine pa_gOp ?_ | refine pa_gLeaf ?_ | refine pa_sOnce ?_ | refine pa_sOnB ?_ | refine pa_sKind ?_ | refine pa_sCake ?_ | refine pa_sC3 ?_ | refine pa_sC2 ?_ | refine pa_sC1 ?_ | refine pa_sPerson ?_ | refine pa_sHon ?_ | refine pa_sDeeds _ ?_ | refine pa_sDeed ?_ | refine pa_sSin ?_ | refine pa_sNew ?_ | refine pa_sAdd ?_ | refine pa_sNum ?_ | refine pa_sNumB ?_ | refine pa_sFail ?_ | refine pa_sNext ?_))
theorem pa_sBody {B : aS} {b : Nat → Int} {n : Int} (h : PA b n B) : PA b n (sBody b n B) := by
  unfold sBody
  (repeat' split) <;> (with_reducible repeat (first | assumption | refine pa_up (by decide) ?_ | refine pa_sE ?_ | refine pa_sFin ?_ | refine pa_sBeg ?_ | refine pa_sLB ?_ | refine pa_sB0 ?_ | refine pa_sEL _ _ ?_ | refine pa_sBehind ?_ | refine pa_sClose ?_ | refine pa_sJoint ?_ | refine pa_sJR ?_ | refine pa_sJB ?_ | refine pa_sSide ?_ | refine pa_sNot ?_ | refine pa_sLeaf ?_ | refine pa_sOpen ?_ | refine pa_sPush ?_ | refine pa_sCount ?_ | refine pa_sCnt ?_ | refine pa_sRel ?_ | refine pa_sReln _ ?_ | refine pa_sWrite ?_ | refine pa_gOp ?_ | refine pa_gLeaf ?_ | refine pa_sOnce ?_ | refine pa_sOnB ?_ | refine pa_sKind ?_ | refine pa_sCake ?_ | refine pa_sC3 ?_ | refine pa_sC2 ?_ | refine pa_sC1 ?_ | refine pa_sPerson ?_ | refine pa_sHon ?_ | refine pa_sDeeds _ ?_ | refine pa_sDeed ?_ | refine pa_sSin ?_ | refine pa_sNew ?_ | refine pa_sAdd ?_ | refine pa_sNum ?_ | refine pa_sNumB ?_ | refine pa_sFail ?_ | refine pa_sNext ?_))
theorem pa_sSemi {B : aS} {b : Nat → Int} {n : Int} (h : PA b n B) : PA b n (sSemi b n B) := by
  unfold sSemi
  (repeat' split) <;> (with_reducible repeat (first | assumption | refine pa_up (by decide) ?_ | refine pa_sBody ?_ | refine pa_sE ?_ | refine pa_sFin ?_ | refine pa_sBeg ?_ | refine pa_sLB ?_ | refine pa_sB0 ?_ | refine pa_sEL _ _ ?_ | refine pa_sBehind ?_ | refine pa_sClose ?_ | refine pa_sJoint ?_ | refine pa_sJR ?_ | refine pa_sJB ?_ | refine pa_sSide ?_ | refine pa_sNot ?_ | refine pa_sLeaf ?_ | refine pa_sOpen ?_ | refine pa_sPush ?_ | refine pa_sCount ?_ | refine pa_sCnt ?_ | refine pa_sRel ?_ | refine pa_sReln _ ?_ | refine pa_sWrite ?_ | refine pa_gOp ?_ | refine pa_gLeaf ?_ | refine pa_sOnce ?_ | refine pa_sOnB ?_ | refine pa_sKind ?_ | refine pa_sCake ?_ | refine pa_sC3 ?_ | refine pa_sC2 ?_ | refine pa_sC1 ?_ | refine pa_sPerson ?_ | refine pa_sHon ?_ | refine pa_sDeeds _ ?_ | refine pa_sDeed ?_ | refine pa_sSin ?_ | refine pa_sNew ?_ | refine pa_sAdd ?_ | refine pa_sNum ?_ | refine pa_sNumB ?_ | refine pa_sFail ?_ | refine pa_sNext ?_))
theorem pa_sLine {B : aS} {b : Nat → Int} {n : Int} (h : PA b n B) : PA b n (sLine b n B) := by
  unfold sLine
  (repeat' split) <;> (with_reducible repeat (first | assumption | refine pa_up (by decide) ?_ | refine pa_sSemi ?_ | refine pa_sBody ?_ | refine pa_sE ?_ | refine pa_sFin ?_ | refine pa_sBeg ?_ | refine pa_sLB ?_ | refine pa_sB0 ?_ | refine pa_sEL _ _ ?_ | refine pa_sBehind ?_ | refine pa_sClose ?_ | refine pa_sJoint ?_ | refine pa_sJR ?_ | refine pa_sJB ?_ | refine pa_sSide ?_ | refine pa_sNot ?_ | refine pa_sLeaf ?_ | refine pa_sOpen ?_ | refine pa_sPush ?_ | refine pa_sCount ?_ | refine pa_sCnt ?_ | refine pa_sRel ?_ | refine pa_sReln _ ?_ | refine pa_sWrite ?_ | refine pa_gOp ?_ | refine pa_gLeaf ?_ | refine pa_sOnce ?_ | refine pa_sOnB ?_ | refine pa_sKind ?_ | refine pa_sCake ?_ | refine pa_sC3 ?_ | refine pa_sC2 ?_ | refine pa_sC1 ?_ | refine pa_sPerson ?_ | refine pa_sHon ?_ | refine pa_sDeeds _ ?_ | refine pa_sDeed ?_ | refine pa_sSin ?_ | refine pa_sNew ?_ | refine pa_sAdd ?_ | refine pa_sNum ?_ | refine pa_sNumB ?_ | refine pa_sFail ?_ | refine pa_sNext ?_))

theorem ng_sNext {B : aS} {b : Nat → Int} {n : Int} (h : nG B) : nG (sNext b n B) := by
  unfold sNext
  (repeat' split) <;> (with_reducible repeat (first | assumption | refine ng_up (by decide) ?_))
theorem ng_sFail {B : aS} {b : Nat → Int} {n : Int} {c : Int} (h : nG B) : nG (sFail b n c B) := by
  unfold sFail
  (repeat' split) <;> (with_reducible repeat (first | assumption | refine ng_up (by decide) ?_ | refine ng_sNext ?_))
theorem ng_sNumB {B : aS} {b : Nat → Int} {n : Int} (h : nG B) : nG (sNumB b n B) := by
  unfold sNumB
  (repeat' split) <;> (with_reducible repeat (first | assumption | refine ng_up (by decide) ?_ | refine ng_sFail ?_ | refine ng_sNext ?_))
theorem ng_sNum {B : aS} {b : Nat → Int} {n : Int} {lo hi : Int} (h : nG B) : nG (sNum b n lo hi B) := by
  unfold sNum
  (repeat' split) <;> (with_reducible repeat (first | assumption | refine ng_up (by decide) ?_ | refine ng_sNumB ?_ | refine ng_sFail ?_ | refine ng_sNext ?_))
theorem ng_sAdd {B : aS} {kd c : Int} (h : nG B) : nG (sAdd kd c B) := by
  unfold sAdd
  split
  · exact h
  · unfold nG at *
    rw [up_at, up_f (by decide)]
    split
    · rename_i q
      rw [← q]
      omega
    · exact h
theorem ng_sNew {B : aS} {b : Nat → Int} {n : Int} {kd : Int} (h : nG B) : nG (sNew b n kd B) := by
  unfold sNew
  (repeat' split) <;> (with_reducible repeat (first | assumption | refine ng_up (by decide) ?_ | refine ng_sAdd ?_ | refine ng_sNum ?_ | refine ng_sNumB ?_ | refine ng_sFail ?_ | refine ng_sNext ?_))
theorem ng_sSin {B : aS} {b : Nat → Int} {n : Int} (h : nG B) : nG (sSin b n B) := by
  unfold sSin
  (repeat' split) <;> (with_reducible repeat (first | assumption | refine ng_up (by decide) ?_ | refine ng_sNew ?_ | refine ng_sAdd ?_ | refine ng_sNum ?_ | refine ng_sNumB ?_ | refine ng_sFail ?_ | refine ng_sNext ?_))
theorem ng_sDeed {B : aS} {b : Nat → Int} {n : Int} {p : Int} (h : nG B) : nG (sDeed b n p B) := by
  unfold sDeed
  (repeat' split) <;> (with_reducible repeat (first | assumption | refine ng_up (by decide) ?_ | refine ng_sSin ?_ | refine ng_sNew ?_ | refine ng_sAdd ?_ | refine ng_sNum ?_ | refine ng_sNumB ?_ | refine ng_sFail ?_ | refine ng_sNext ?_))
theorem ng_sDeeds {b : Nat → Int} {n : Int} {p : Int} : ∀ (m : Nat) {B : aS}, nG B → nG (sDeeds b n p m B)
  | 0, _, h => h
  | m + 1, B, h => by
    rw [sDeeds]
    split
    · exact ng_sDeeds m (ng_sDeed (ng_sNext h))
    · exact h
theorem ng_sHon {B : aS} {b : Nat → Int} {n : Int} (h : nG B) : nG (sHon b n B) := by
  unfold sHon
  (repeat' split) <;> (with_reducible repeat (first | assumption | refine ng_up (by decide) ?_ | refine ng_sDeeds _ ?_ | refine ng_sDeed ?_ | refine ng_sSin ?_ | refine ng_sNew ?_ | refine ng_sAdd ?_ | refine ng_sNum ?_ | refine ng_sNumB ?_ | refine ng_sFail ?_ | refine ng_sNext ?_))
theorem ng_sPerson {B : aS} {b : Nat → Int} {n : Int} (h : nG B) : nG (sPerson b n B) := by
  unfold sPerson
  (repeat' split) <;> (with_reducible repeat (first | assumption | refine ng_up (by decide) ?_ | refine ng_sHon ?_ | refine ng_sDeeds _ ?_ | refine ng_sDeed ?_ | refine ng_sSin ?_ | refine ng_sNew ?_ | refine ng_sAdd ?_ | refine ng_sNum ?_ | refine ng_sNumB ?_ | refine ng_sFail ?_ | refine ng_sNext ?_))
theorem ng_sC1 {B : aS} {b : Nat → Int} {n : Int} (h : nG B) : nG (sC1 b n B) := by
  unfold sC1
  (repeat' split) <;> (with_reducible repeat (first | assumption | refine ng_up (by decide) ?_ | refine ng_sPerson ?_ | refine ng_sHon ?_ | refine ng_sDeeds _ ?_ | refine ng_sDeed ?_ | refine ng_sSin ?_ | refine ng_sNew ?_ | refine ng_sAdd ?_ | refine ng_sNum ?_ | refine ng_sNumB ?_ | refine ng_sFail ?_ | refine ng_sNext ?_))
theorem ng_sC2 {B : aS} {b : Nat → Int} {n : Int} (h : nG B) : nG (sC2 b n B) := by
  unfold sC2
  (repeat' split) <;> (with_reducible repeat (first | assumption | refine ng_up (by decide) ?_ | refine ng_sC1 ?_ | refine ng_sPerson ?_ | refine ng_sHon ?_ | refine ng_sDeeds _ ?_ | refine ng_sDeed ?_ | refine ng_sSin ?_ | refine ng_sNew ?_ | refine ng_sAdd ?_ | refine ng_sNum ?_ | refine ng_sNumB ?_ | refine ng_sFail ?_ | refine ng_sNext ?_))
theorem ng_sC3 {B : aS} {b : Nat → Int} {n : Int} (h : nG B) : nG (sC3 b n B) := by
  unfold sC3
  (repeat' split) <;> (with_reducible repeat (first | assumption | refine ng_up (by decide) ?_ | refine ng_sC2 ?_ | refine ng_sC1 ?_ | refine ng_sPerson ?_ | refine ng_sHon ?_ | refine ng_sDeeds _ ?_ | refine ng_sDeed ?_ | refine ng_sSin ?_ | refine ng_sNew ?_ | refine ng_sAdd ?_ | refine ng_sNum ?_ | refine ng_sNumB ?_ | refine ng_sFail ?_ | refine ng_sNext ?_))
theorem ng_sCake {B : aS} {b : Nat → Int} {n : Int} (h : nG B) : nG (sCake b n B) := by
  unfold sCake
  (repeat' split) <;> (with_reducible repeat (first | assumption | refine ng_up (by decide) ?_ | refine ng_sC3 ?_ | refine ng_sC2 ?_ | refine ng_sC1 ?_ | refine ng_sPerson ?_ | refine ng_sHon ?_ | refine ng_sDeeds _ ?_ | refine ng_sDeed ?_ | refine ng_sSin ?_ | refine ng_sNew ?_ | refine ng_sAdd ?_ | refine ng_sNum ?_ | refine ng_sNumB ?_ | refine ng_sFail ?_ | refine ng_sNext ?_))
theorem ng_sKind {B : aS} {b : Nat → Int} {n : Int} (h : nG B) : nG (sKind b n B) := by
  unfold sKind
  (repeat' split) <;> (with_reducible repeat (first | assumption | refine ng_up (by decide) ?_ | refine ng_sCake ?_ | refine ng_sC3 ?_ | refine ng_sC2 ?_ | refine ng_sC1 ?_ | refine ng_sPerson ?_ | refine ng_sHon ?_ | refine ng_sDeeds _ ?_ | refine ng_sDeed ?_ | refine ng_sSin ?_ | refine ng_sNew ?_ | refine ng_sAdd ?_ | refine ng_sNum ?_ | refine ng_sNumB ?_ | refine ng_sFail ?_ | refine ng_sNext ?_))
theorem ng_sOnB {B : aS} {b : Nat → Int} {n : Int} (h : nG B) : nG (sOnB b n B) := by
  unfold sOnB
  (repeat' split) <;> (with_reducible repeat (first | assumption | refine ng_up (by decide) ?_ | refine ng_sKind ?_ | refine ng_sCake ?_ | refine ng_sC3 ?_ | refine ng_sC2 ?_ | refine ng_sC1 ?_ | refine ng_sPerson ?_ | refine ng_sHon ?_ | refine ng_sDeeds _ ?_ | refine ng_sDeed ?_ | refine ng_sSin ?_ | refine ng_sNew ?_ | refine ng_sAdd ?_ | refine ng_sNum ?_ | refine ng_sNumB ?_ | refine ng_sFail ?_ | refine ng_sNext ?_))
theorem ng_sOnce {B : aS} {b : Nat → Int} {n : Int} {lo hi : Int} (h : nG B) : nG (sOnce b n lo hi B) := by
  unfold sOnce
  (repeat' split) <;> (with_reducible repeat (first | assumption | refine ng_up (by decide) ?_ | refine ng_sOnB ?_ | refine ng_sKind ?_ | refine ng_sCake ?_ | refine ng_sC3 ?_ | refine ng_sC2 ?_ | refine ng_sC1 ?_ | refine ng_sPerson ?_ | refine ng_sHon ?_ | refine ng_sDeeds _ ?_ | refine ng_sDeed ?_ | refine ng_sSin ?_ | refine ng_sNew ?_ | refine ng_sAdd ?_ | refine ng_sNum ?_ | refine ng_sNumB ?_ | refine ng_sFail ?_ | refine ng_sNext ?_))
theorem ng_gLeaf {B : aS} {what : Int} (h : nG B) : nG (gLeaf what B) := by
  unfold gLeaf
  (repeat' split) <;> (with_reducible repeat (first | assumption | refine ng_up (by decide) ?_ | refine ng_sOnce ?_ | refine ng_sOnB ?_ | refine ng_sKind ?_ | refine ng_sCake ?_ | refine ng_sC3 ?_ | refine ng_sC2 ?_ | refine ng_sC1 ?_ | refine ng_sPerson ?_ | refine ng_sHon ?_ | refine ng_sDeeds _ ?_ | refine ng_sDeed ?_ | refine ng_sSin ?_ | refine ng_sNew ?_ | refine ng_sAdd ?_ | refine ng_sNum ?_ | refine ng_sNumB ?_ | refine ng_sFail ?_ | refine ng_sNext ?_))
theorem ng_gOp {B : aS} {k : Int} (h : nG B) : nG (gOp k B) := by
  unfold gOp
  (repeat' split) <;> (with_reducible repeat (first | assumption | refine ng_up (by decide) ?_ | refine ng_gLeaf ?_ | refine ng_sOnce ?_ | refine ng_sOnB ?_ | refine ng_sKind ?_ | refine ng_sCake ?_ | refine ng_sC3 ?_ | refine ng_sC2 ?_ | refine ng_sC1 ?_ | refine ng_sPerson ?_ | refine ng_sHon ?_ | refine ng_sDeeds _ ?_ | refine ng_sDeed ?_ | refine ng_sSin ?_ | refine ng_sNew ?_ | refine ng_sAdd ?_ | refine ng_sNum ?_ | refine ng_sNumB ?_ | refine ng_sFail ?_ | refine ng_sNext ?_))
theorem ng_sWrite {B : aS} {k what : Int} (h : nG B) : nG (sWrite k what B) := by
  unfold sWrite
  (repeat' split) <;> (with_reducible repeat (first | assumption | refine ng_up (by decide) ?_ | refine ng_gOp ?_ | refine ng_gLeaf ?_ | refine ng_sOnce ?_ | refine ng_sOnB ?_ | refine ng_sKind ?_ | refine ng_sCake ?_ | refine ng_sC3 ?_ | refine ng_sC2 ?_ | refine ng_sC1 ?_ | refine ng_sPerson ?_ | refine ng_sHon ?_ | refine ng_sDeeds _ ?_ | refine ng_sDeed ?_ | refine ng_sSin ?_ | refine ng_sNew ?_ | refine ng_sAdd ?_ | refine ng_sNum ?_ | refine ng_sNumB ?_ | refine ng_sFail ?_ | refine ng_sNext ?_))
theorem ng_sReln {r : Int} : ∀ (m : Nat) {B : aS}, nG B → nG (sReln r m B)
  | 0, _, h => h
  | m + 1, B, h => by
    rw [sReln]
    split
    · exact ng_sReln m (ng_sWrite (ng_gOp (ng_up (by decide) h)))
    · exact h
theorem ng_sRel {B : aS} {r : Int} (h : nG B) : nG (sRel r B) := by
  unfold sRel
  (repeat' split) <;> (with_reducible repeat (first | assumption | refine ng_up (by decide) ?_ | refine ng_sReln _ ?_ | refine ng_sWrite ?_ | refine ng_gOp ?_ | refine ng_gLeaf ?_ | refine ng_sOnce ?_ | refine ng_sOnB ?_ | refine ng_sKind ?_ | refine ng_sCake ?_ | refine ng_sC3 ?_ | refine ng_sC2 ?_ | refine ng_sC1 ?_ | refine ng_sPerson ?_ | refine ng_sHon ?_ | refine ng_sDeeds _ ?_ | refine ng_sDeed ?_ | refine ng_sSin ?_ | refine ng_sNew ?_ | refine ng_sAdd ?_ | refine ng_sNum ?_ | refine ng_sNumB ?_ | refine ng_sFail ?_ | refine ng_sNext ?_))
theorem ng_sCnt {B : aS} {b : Nat → Int} {n : Int} (h : nG B) : nG (sCnt b n B) := by
  unfold sCnt
  (repeat' split) <;> (with_reducible repeat (first | assumption | refine ng_up (by decide) ?_ | refine ng_sRel ?_ | refine ng_sReln _ ?_ | refine ng_sWrite ?_ | refine ng_gOp ?_ | refine ng_gLeaf ?_ | refine ng_sOnce ?_ | refine ng_sOnB ?_ | refine ng_sKind ?_ | refine ng_sCake ?_ | refine ng_sC3 ?_ | refine ng_sC2 ?_ | refine ng_sC1 ?_ | refine ng_sPerson ?_ | refine ng_sHon ?_ | refine ng_sDeeds _ ?_ | refine ng_sDeed ?_ | refine ng_sSin ?_ | refine ng_sNew ?_ | refine ng_sAdd ?_ | refine ng_sNum ?_ | refine ng_sNumB ?_ | refine ng_sFail ?_ | refine ng_sNext ?_))
theorem ng_sCount {B : aS} {b : Nat → Int} {n : Int} (h : nG B) : nG (sCount b n B) := by
  unfold sCount
  (repeat' split) <;> (with_reducible repeat (first | assumption | refine ng_up (by decide) ?_ | refine ng_sCnt ?_ | refine ng_sRel ?_ | refine ng_sReln _ ?_ | refine ng_sWrite ?_ | refine ng_gOp ?_ | refine ng_gLeaf ?_ | refine ng_sOnce ?_ | refine ng_sOnB ?_ | refine ng_sKind ?_ | refine ng_sCake ?_ | refine ng_sC3 ?_ | refine ng_sC2 ?_ | refine ng_sC1 ?_ | refine ng_sPerson ?_ | refine ng_sHon ?_ | refine ng_sDeeds _ ?_ | refine ng_sDeed ?_ | refine ng_sSin ?_ | refine ng_sNew ?_ | refine ng_sAdd ?_ | refine ng_sNum ?_ | refine ng_sNumB ?_ | refine ng_sFail ?_ | refine ng_sNext ?_))
theorem ng_sPush {B : aS} {b : Nat → Int} {n : Int} {k : Int} (h : nG B) : nG (sPush b n k B) := by
  unfold sPush
  (repeat' split) <;> (with_reducible repeat (first | assumption | refine ng_up (by decide) ?_ | refine ng_sCount ?_ | refine ng_sCnt ?_ | refine ng_sRel ?_ | refine ng_sReln _ ?_ | refine ng_sWrite ?_ | refine ng_gOp ?_ | refine ng_gLeaf ?_ | refine ng_sOnce ?_ | refine ng_sOnB ?_ | refine ng_sKind ?_ | refine ng_sCake ?_ | refine ng_sC3 ?_ | refine ng_sC2 ?_ | refine ng_sC1 ?_ | refine ng_sPerson ?_ | refine ng_sHon ?_ | refine ng_sDeeds _ ?_ | refine ng_sDeed ?_ | refine ng_sSin ?_ | refine ng_sNew ?_ | refine ng_sAdd ?_ | refine ng_sNum ?_ | refine ng_sNumB ?_ | refine ng_sFail ?_ | refine ng_sNext ?_))
theorem ng_sOpen {B : aS} {b : Nat → Int} {n : Int} (h : nG B) : nG (sOpen b n B) := by
  unfold sOpen
  (repeat' split) <;> (with_reducible repeat (first | assumption | refine ng_up (by decide) ?_ | refine ng_sPush ?_ | refine ng_sCount ?_ | refine ng_sCnt ?_ | refine ng_sRel ?_ | refine ng_sReln _ ?_ | refine ng_sWrite ?_ | refine ng_gOp ?_ | refine ng_gLeaf ?_ | refine ng_sOnce ?_ | refine ng_sOnB ?_ | refine ng_sKind ?_ | refine ng_sCake ?_ | refine ng_sC3 ?_ | refine ng_sC2 ?_ | refine ng_sC1 ?_ | refine ng_sPerson ?_ | refine ng_sHon ?_ | refine ng_sDeeds _ ?_ | refine ng_sDeed ?_ | refine ng_sSin ?_ | refine ng_sNew ?_ | refine ng_sAdd ?_ | refine ng_sNum ?_ | refine ng_sNumB ?_ | refine ng_sFail ?_ | refine ng_sNext ?_))
theorem ng_sLeaf {B : aS} {b : Nat → Int} {n : Int} {k what : Int} (h : nG B) : nG (sLeaf b n k what B) := by
  unfold sLeaf
  (repeat' split) <;> (with_reducible repeat (first | assumption | refine ng_up (by decide) ?_ | refine ng_sOpen ?_ | refine ng_sPush ?_ | refine ng_sCount ?_ | refine ng_sCnt ?_ | refine ng_sRel ?_ | refine ng_sReln _ ?_ | refine ng_sWrite ?_ | refine ng_gOp ?_ | refine ng_gLeaf ?_ | refine ng_sOnce ?_ | refine ng_sOnB ?_ | refine ng_sKind ?_ | refine ng_sCake ?_ | refine ng_sC3 ?_ | refine ng_sC2 ?_ | refine ng_sC1 ?_ | refine ng_sPerson ?_ | refine ng_sHon ?_ | refine ng_sDeeds _ ?_ | refine ng_sDeed ?_ | refine ng_sSin ?_ | refine ng_sNew ?_ | refine ng_sAdd ?_ | refine ng_sNum ?_ | refine ng_sNumB ?_ | refine ng_sFail ?_ | refine ng_sNext ?_))
theorem ng_sNot {B : aS} {b : Nat → Int} {n : Int} (h : nG B) : nG (sNot b n B) := by
  unfold sNot
  (repeat' split) <;> (with_reducible repeat (first | assumption | refine ng_up (by decide) ?_ | refine ng_sLeaf ?_ | refine ng_sOpen ?_ | refine ng_sPush ?_ | refine ng_sCount ?_ | refine ng_sCnt ?_ | refine ng_sRel ?_ | refine ng_sReln _ ?_ | refine ng_sWrite ?_ | refine ng_gOp ?_ | refine ng_gLeaf ?_ | refine ng_sOnce ?_ | refine ng_sOnB ?_ | refine ng_sKind ?_ | refine ng_sCake ?_ | refine ng_sC3 ?_ | refine ng_sC2 ?_ | refine ng_sC1 ?_ | refine ng_sPerson ?_ | refine ng_sHon ?_ | refine ng_sDeeds _ ?_ | refine ng_sDeed ?_ | refine ng_sSin ?_ | refine ng_sNew ?_ | refine ng_sAdd ?_ | refine ng_sNum ?_ | refine ng_sNumB ?_ | refine ng_sFail ?_ | refine ng_sNext ?_))
theorem ng_sSide {B : aS} {b : Nat → Int} {n : Int} (h : nG B) : nG (sSide b n B) := by
  unfold sSide
  (repeat' split) <;> (with_reducible repeat (first | assumption | refine ng_up (by decide) ?_ | refine ng_sNot ?_ | refine ng_sLeaf ?_ | refine ng_sOpen ?_ | refine ng_sPush ?_ | refine ng_sCount ?_ | refine ng_sCnt ?_ | refine ng_sRel ?_ | refine ng_sReln _ ?_ | refine ng_sWrite ?_ | refine ng_gOp ?_ | refine ng_gLeaf ?_ | refine ng_sOnce ?_ | refine ng_sOnB ?_ | refine ng_sKind ?_ | refine ng_sCake ?_ | refine ng_sC3 ?_ | refine ng_sC2 ?_ | refine ng_sC1 ?_ | refine ng_sPerson ?_ | refine ng_sHon ?_ | refine ng_sDeeds _ ?_ | refine ng_sDeed ?_ | refine ng_sSin ?_ | refine ng_sNew ?_ | refine ng_sAdd ?_ | refine ng_sNum ?_ | refine ng_sNumB ?_ | refine ng_sFail ?_ | refine ng_sNext ?_))
theorem ng_sJB {B : aS} {b : Nat → Int} {n : Int} {k : Int} (h : nG B) : nG (sJB b n k B) := by
  unfold sJB
  (repeat' split) <;> (with_reducible repeat (first | assumption | refine ng_up (by decide) ?_ | refine ng_sSide ?_ | refine ng_sNot ?_ | refine ng_sLeaf ?_ | refine ng_sOpen ?_ | refine ng_sPush ?_ | refine ng_sCount ?_ | refine ng_sCnt ?_ | refine ng_sRel ?_ | refine ng_sReln _ ?_ | refine ng_sWrite ?_ | refine ng_gOp ?_ | refine ng_gLeaf ?_ | refine ng_sOnce ?_ | refine ng_sOnB ?_ | refine ng_sKind ?_ | refine ng_sCake ?_ | refine ng_sC3 ?_ | refine ng_sC2 ?_ | refine ng_sC1 ?_ | refine ng_sPerson ?_ | refine ng_sHon ?_ | refine ng_sDeeds _ ?_ | refine ng_sDeed ?_ | refine ng_sSin ?_ | refine ng_sNew ?_ | refine ng_sAdd ?_ | refine ng_sNum ?_ | refine ng_sNumB ?_ | refine ng_sFail ?_ | refine ng_sNext ?_))
theorem ng_sJR {B : aS} {k : Int} (h : nG B) : nG (sJR k B) := by
  unfold sJR
  (repeat' split) <;> (with_reducible repeat (first | assumption | refine ng_up (by decide) ?_ | refine ng_sJB ?_ | refine ng_sSide ?_ | refine ng_sNot ?_ | refine ng_sLeaf ?_ | refine ng_sOpen ?_ | refine ng_sPush ?_ | refine ng_sCount ?_ | refine ng_sCnt ?_ | refine ng_sRel ?_ | refine ng_sReln _ ?_ | refine ng_sWrite ?_ | refine ng_gOp ?_ | refine ng_gLeaf ?_ | refine ng_sOnce ?_ | refine ng_sOnB ?_ | refine ng_sKind ?_ | refine ng_sCake ?_ | refine ng_sC3 ?_ | refine ng_sC2 ?_ | refine ng_sC1 ?_ | refine ng_sPerson ?_ | refine ng_sHon ?_ | refine ng_sDeeds _ ?_ | refine ng_sDeed ?_ | refine ng_sSin ?_ | refine ng_sNew ?_ | refine ng_sAdd ?_ | refine ng_sNum ?_ | refine ng_sNumB ?_ | refine ng_sFail ?_ | refine ng_sNext ?_))
theorem ng_sJoint {B : aS} {b : Nat → Int} {n : Int} {k : Int} (h : nG B) : nG (sJoint b n k B) := by
  unfold sJoint
  (repeat' split) <;> (with_reducible repeat (first | assumption | refine ng_up (by decide) ?_ | refine ng_sJR ?_ | refine ng_sJB ?_ | refine ng_sSide ?_ | refine ng_sNot ?_ | refine ng_sLeaf ?_ | refine ng_sOpen ?_ | refine ng_sPush ?_ | refine ng_sCount ?_ | refine ng_sCnt ?_ | refine ng_sRel ?_ | refine ng_sReln _ ?_ | refine ng_sWrite ?_ | refine ng_gOp ?_ | refine ng_gLeaf ?_ | refine ng_sOnce ?_ | refine ng_sOnB ?_ | refine ng_sKind ?_ | refine ng_sCake ?_ | refine ng_sC3 ?_ | refine ng_sC2 ?_ | refine ng_sC1 ?_ | refine ng_sPerson ?_ | refine ng_sHon ?_ | refine ng_sDeeds _ ?_ | refine ng_sDeed ?_ | refine ng_sSin ?_ | refine ng_sNew ?_ | refine ng_sAdd ?_ | refine ng_sNum ?_ | refine ng_sNumB ?_ | refine ng_sFail ?_ | refine ng_sNext ?_))
theorem ng_sClose {B : aS} {b : Nat → Int} {n : Int} (h : nG B) : nG (sClose b n B) := by
  unfold sClose
  (repeat' split) <;> (with_reducible repeat (first | assumption | refine ng_up (by decide) ?_ | refine ng_sJoint ?_ | refine ng_sJR ?_ | refine ng_sJB ?_ | refine ng_sSide ?_ | refine ng_sNot ?_ | refine ng_sLeaf ?_ | refine ng_sOpen ?_ | refine ng_sPush ?_ | refine ng_sCount ?_ | refine ng_sCnt ?_ | refine ng_sRel ?_ | refine ng_sReln _ ?_ | refine ng_sWrite ?_ | refine ng_gOp ?_ | refine ng_gLeaf ?_ | refine ng_sOnce ?_ | refine ng_sOnB ?_ | refine ng_sKind ?_ | refine ng_sCake ?_ | refine ng_sC3 ?_ | refine ng_sC2 ?_ | refine ng_sC1 ?_ | refine ng_sPerson ?_ | refine ng_sHon ?_ | refine ng_sDeeds _ ?_ | refine ng_sDeed ?_ | refine ng_sSin ?_ | refine ng_sNew ?_ | refine ng_sAdd ?_ | refine ng_sNum ?_ | refine ng_sNumB ?_ | refine ng_sFail ?_ | refine ng_sNext ?_))
theorem ng_sBehind {B : aS} {b : Nat → Int} {n : Int} (h : nG B) : nG (sBehind b n B) := by
  unfold sBehind
  (repeat' split) <;> (with_reducible repeat (first | assumption | refine ng_up (by decide) ?_ | refine ng_sClose ?_ | refine ng_sJoint ?_ | refine ng_sJR ?_ | refine ng_sJB ?_ | refine ng_sSide ?_ | refine ng_sNot ?_ | refine ng_sLeaf ?_ | refine ng_sOpen ?_ | refine ng_sPush ?_ | refine ng_sCount ?_ | refine ng_sCnt ?_ | refine ng_sRel ?_ | refine ng_sReln _ ?_ | refine ng_sWrite ?_ | refine ng_gOp ?_ | refine ng_gLeaf ?_ | refine ng_sOnce ?_ | refine ng_sOnB ?_ | refine ng_sKind ?_ | refine ng_sCake ?_ | refine ng_sC3 ?_ | refine ng_sC2 ?_ | refine ng_sC1 ?_ | refine ng_sPerson ?_ | refine ng_sHon ?_ | refine ng_sDeeds _ ?_ | refine ng_sDeed ?_ | refine ng_sSin ?_ | refine ng_sNew ?_ | refine ng_sAdd ?_ | refine ng_sNum ?_ | refine ng_sNumB ?_ | refine ng_sFail ?_ | refine ng_sNext ?_))
theorem ng_sEL {b : Nat → Int} {n : Int} : ∀ (m : Nat) (go : Int) {B : aS}, nG B → nG (sEL b n m go B)
  | 0, _, _, h => h
  | m + 1, go, B, h => by
    rw [sEL]
    split
    · split
      · exact ng_sEL m go (ng_sSide h)
      · exact ng_sEL m _ (ng_sBehind h)
    · exact h
theorem ng_sB0 {B : aS} (h : nG B) : nG (sB0 B) := by
  unfold sB0
  (repeat' split) <;> (with_reducible repeat (first | assumption | refine ng_up (by decide) ?_ | refine ng_sEL _ _ ?_ | refine ng_sBehind ?_ | refine ng_sClose ?_ | refine ng_sJoint ?_ | refine ng_sJR ?_ | refine ng_sJB ?_ | refine ng_sSide ?_ | refine ng_sNot ?_ | refine ng_sLeaf ?_ | refine ng_sOpen ?_ | refine ng_sPush ?_ | refine ng_sCount ?_ | refine ng_sCnt ?_ | refine ng_sRel ?_ | refine ng_sReln _ ?_ | refine ng_sWrite ?_ | refine ng_gOp ?_ | refine ng_gLeaf ?_ | refine ng_sOnce ?_ | refine ng_sOnB ?_ | refine ng_sKind ?_ | refine ng_sCake ?_ | refine ng_sC3 ?_ | refine ng_sC2 ?_ | refine ng_sC1 ?_ | refine ng_sPerson ?_ | refine ng_sHon ?_ | refine ng_sDeeds _ ?_ | refine ng_sDeed ?_ | refine ng_sSin ?_ | refine ng_sNew ?_ | refine ng_sAdd ?_ | refine ng_sNum ?_ | refine ng_sNumB ?_ | refine ng_sFail ?_ | refine ng_sNext ?_))
theorem ng_sLB {B : aS} {k : Int} (h : nG B) : nG (sLB k B) := by
  unfold sLB
  (repeat' split) <;> (with_reducible repeat (first | assumption | refine ng_up (by decide) ?_ | refine ng_sB0 ?_ | refine ng_sEL _ _ ?_ | refine ng_sBehind ?_ | refine ng_sClose ?_ | refine ng_sJoint ?_ | refine ng_sJR ?_ | refine ng_sJB ?_ | refine ng_sSide ?_ | refine ng_sNot ?_ | refine ng_sLeaf ?_ | refine ng_sOpen ?_ | refine ng_sPush ?_ | refine ng_sCount ?_ | refine ng_sCnt ?_ | refine ng_sRel ?_ | refine ng_sReln _ ?_ | refine ng_sWrite ?_ | refine ng_gOp ?_ | refine ng_gLeaf ?_ | refine ng_sOnce ?_ | refine ng_sOnB ?_ | refine ng_sKind ?_ | refine ng_sCake ?_ | refine ng_sC3 ?_ | refine ng_sC2 ?_ | refine ng_sC1 ?_ | refine ng_sPerson ?_ | refine ng_sHon ?_ | refine ng_sDeeds _ ?_ | refine ng_sDeed ?_ | refine ng_sSin ?_ | refine ng_sNew ?_ | refine ng_sAdd ?_ | refine ng_sNum ?_ | refine ng_sNumB ?_ | refine ng_sFail ?_ | refine ng_sNext ?_))
theorem ng_sBeg {B : aS} {k : Int} (h : nG B) : nG (sBeg k B) := by
  unfold sBeg
  (repeat' split) <;> (with_reducible repeat (first | assumption | refine ng_up (by decide) ?_ | refine ng_sLB ?_ | refine ng_sB0 ?_ | refine ng_sEL _ _ ?_ | refine ng_sBehind ?_ | refine ng_sClose ?_ | refine ng_sJoint ?_ | refine ng_sJR ?_ | refine ng_sJB ?_ | refine ng_sSide ?_ | refine ng_sNot ?_ | refine ng_sLeaf ?_ | refine ng_sOpen ?_ | refine ng_sPush ?_ | refine ng_sCount ?_ | refine ng_sCnt ?_ | refine ng_sRel ?_ | refine ng_sReln _ ?_ | refine ng_sWrite ?_ | refine ng_gOp ?_ | refine ng_gLeaf ?_ | refine ng_sOnce ?_ | refine ng_sOnB ?_ | refine ng_sKind ?_ | refine ng_sCake ?_ | refine ng_sC3 ?_ | refine ng_sC2 ?_ | refine ng_sC1 ?_ | refine ng_sPerson ?_ | refine ng_sHon ?_ | refine ng_sDeeds _ ?_ | refine ng_sDeed ?_ | refine ng_sSin ?_ | refine ng_sNew ?_ | refine ng_sAdd ?_ | refine ng_sNum ?_ | refine ng_sNumB ?_ | refine ng_sFail ?_ | refine ng_sNext ?_))
theorem ng_sFin {B : aS} {k : Int} (h : nG B) : nG (sFin k B) := by
  unfold sFin
  (repeat' split) <;> (with_reducible repeat (first | assumption | refine ng_up (by decide) ?_ | refine ng_sBeg ?_ | refine ng_sLB ?_ | refine ng_sB0 ?_ | refine ng_sEL _ _ ?_ | refine ng_sBehind ?_ | refine ng_sClose ?_ | refine ng_sJoint ?_ | refine ng_sJR ?_ | refine ng_sJB ?_ | refine ng_sSide ?_ | refine ng_sNot ?_ | refine ng_sLeaf ?_ | refine ng_sOpen ?_ | refine ng_sPush ?_ | refine ng_sCount ?_ | refine ng_sCnt ?_ | refine ng_sRel ?_ | refine ng_sReln _ ?_ | refine ng_sWrite ?_ | refine ng_gOp ?_ | refine ng_gLeaf ?_ | refine ng_sOnce ?_ | refine ng_sOnB ?_ | refine ng_sKind ?_ | refine ng_sCake ?_ | refine ng_sC3 ?_ | refine ng_sC2 ?_ | refine ng_sC1 ?_ | refine ng_sPerson ?_ | refine ng_sHon ?_ | refine ng_sDeeds _ ?_ | refine ng_sDeed ?_ | refine ng_sSin ?_ | refine ng_sNew ?_ | refine ng_sAdd ?_ | refine ng_sNum ?_ | refine ng_sNumB ?_ | refine ng_sFail ?_ | refine ng_sNext ?_))
theorem ng_sE {B : aS} {b : Nat → Int} {n : Int} {k : Int} (h : nG B) : nG (sE b n k B) := by
  unfold sE
  (repeat' split) <;> (with_reducible repeat (first | assumption | refine ng_up (by decide) ?_ | refine ng_sFin ?_ | refine ng_sBeg ?_ | refine ng_sLB ?_ | refine ng_sB0 ?_ | refine ng_sEL _ _ ?_ | refine ng_sBehind ?_ | refine ng_sClose ?_ | refine ng_sJoint ?_ | refine ng_sJR ?_ | refine ng_sJB ?_ | refine ng_sSide ?_ | refine ng_sNot ?_ | refine ng_sLeaf ?_ | refine ng_sOpen ?_ | refine ng_sPush ?_ | refine ng_sCount ?_ | refine ng_sCnt ?_ | refine ng_sRel ?_ | refine ng_sReln _ ?_ | refine ng_sWrite ?_ | refine ng_gOp ?_ | refine ng_gLeaf ?_ | refine ng_sOnce ?_ | refine ng_sOnB ?_ | refine ng_sKind ?_ | refine ng_sCake ?_ | refine ng_sC3 ?_ | refine ng_sC2 ?_ | refine ng_sC1 ?_ | refine ng_sPerson ?_ | refine ng_sHon ?_ | refine ng_sDeeds _ ?_ | refine ng_sDeed ?_ | refine ng_sSin ?_ | refine ng_sNew ?_ | refine ng_sAdd ?_ | refine ng_sNum ?_ | refine ng_sNumB ?_ | refine ng_sFail ?_ | refine ng_sNext ?_))
theorem ng_sBody {B : aS} {b : Nat → Int} {n : Int} (h : nG B) : nG (sBody b n B) := by
  unfold sBody
  (repeat' split) <;> (with_reducible repeat (first | assumption | refine ng_up (by decide) ?_ | refine ng_sE ?_ | refine ng_sFin ?_ | refine ng_sBeg ?_ | refine ng_sLB ?_ | refine ng_sB0 ?_ | refine ng_sEL _ _ ?_ | refine ng_sBehind ?_ | refine ng_sClose ?_ | refine ng_sJoint ?_ | refine ng_sJR ?_ | refine ng_sJB ?_ | refine ng_sSide ?_ | refine ng_sNot ?_ | refine ng_sLeaf ?_ | refine ng_sOpen ?_ | refine ng_sPush ?_ | refine ng_sCount ?_ | refine ng_sCnt ?_ | refine ng_sRel ?_ | refine ng_sReln _ ?_ | refine ng_sWrite ?_ | refine ng_gOp ?_ | refine ng_gLeaf ?_ | refine ng_sOnce ?_ | refine ng_sOnB ?_ | refine ng_sKind ?_ | refine ng_sCake ?_ | refine ng_sC3 ?_ | refine ng_sC2 ?_ | refine ng_sC1 ?_ | refine ng_sPerson ?_ | refine ng_sHon ?_ | refine ng_sDeeds _ ?_ | refine ng_sDeed ?_ | refine ng_sSin ?_ | refine ng_sNew ?_ | refine ng_sAdd ?_ | refine ng_sNum ?_ | refine ng_sNumB ?_ | refine ng_sFail ?_ | refine ng_sNext ?_))
theorem ng_sSemi {B : aS} {b : Nat → Int} {n : Int} (h : nG B) : nG (sSemi b n B) := by
  unfold sSemi
  (repeat' split) <;> (with_reducible repeat (first | assumption | refine ng_up (by decide) ?_ | refine ng_sBody ?_ | refine ng_sE ?_ | refine ng_sFin ?_ | refine ng_sBeg ?_ | refine ng_sLB ?_ | refine ng_sB0 ?_ | refine ng_sEL _ _ ?_ | refine ng_sBehind ?_ | refine ng_sClose ?_ | refine ng_sJoint ?_ | refine ng_sJR ?_ | refine ng_sJB ?_ | refine ng_sSide ?_ | refine ng_sNot ?_ | refine ng_sLeaf ?_ | refine ng_sOpen ?_ | refine ng_sPush ?_ | refine ng_sCount ?_ | refine ng_sCnt ?_ | refine ng_sRel ?_ | refine ng_sReln _ ?_ | refine ng_sWrite ?_ | refine ng_gOp ?_ | refine ng_gLeaf ?_ | refine ng_sOnce ?_ | refine ng_sOnB ?_ | refine ng_sKind ?_ | refine ng_sCake ?_ | refine ng_sC3 ?_ | refine ng_sC2 ?_ | refine ng_sC1 ?_ | refine ng_sPerson ?_ | refine ng_sHon ?_ | refine ng_sDeeds _ ?_ | refine ng_sDeed ?_ | refine ng_sSin ?_ | refine ng_sNew ?_ | refine ng_sAdd ?_ | refine ng_sNum ?_ | refine ng_sNumB ?_ | refine ng_sFail ?_ | refine ng_sNext ?_))
theorem ng_sLine {B : aS} {b : Nat → Int} {n : Int} (h : nG B) : nG (sLine b n B) := by
  unfold sLine
  (repeat' split) <;> (with_reducible repeat (first | assumption | refine ng_up (by decide) ?_ | refine ng_sSemi ?_ | refine ng_sBody ?_ | refine ng_sE ?_ | refine ng_sFin ?_ | refine ng_sBeg ?_ | refine ng_sLB ?_ | refine ng_sB0 ?_ | refine ng_sEL _ _ ?_ | refine ng_sBehind ?_ | refine ng_sClose ?_ | refine ng_sJoint ?_ | refine ng_sJR ?_ | refine ng_sJB ?_ | refine ng_sSide ?_ | refine ng_sNot ?_ | refine ng_sLeaf ?_ | refine ng_sOpen ?_ | refine ng_sPush ?_ | refine ng_sCount ?_ | refine ng_sCnt ?_ | refine ng_sRel ?_ | refine ng_sReln _ ?_ | refine ng_sWrite ?_ | refine ng_gOp ?_ | refine ng_gLeaf ?_ | refine ng_sOnce ?_ | refine ng_sOnB ?_ | refine ng_sKind ?_ | refine ng_sCake ?_ | refine ng_sC3 ?_ | refine ng_sC2 ?_ | refine ng_sC1 ?_ | refine ng_sPerson ?_ | refine ng_sHon ?_ | refine ng_sDeeds _ ?_ | refine ng_sDeed ?_ | refine ng_sSin ?_ | refine ng_sNew ?_ | refine ng_sAdd ?_ | refine ng_sNum ?_ | refine ng_sNumB ?_ | refine ng_sFail ?_ | refine ng_sNext ?_))
theorem sSemi_0 {b : Nat → Int} {n : Int} {A : aS} (h : (sLine b n A) 1 0 = 0) : (sBody b n A) 1 0 = 0 ∧ ∀ f j : Nat, f ≠ 0 → (sLine b n A) f j = (sBody b n A) f j := by
  unfold sLine sNumB at h ⊢
  unfold sSemi at h ⊢
  by_cases q : tK b n (sBody b n A) = 4 ∧ tV b n (sBody b n A) = 17
  · rw [if_pos q] at h ⊢
    by_cases q2 : (sBody b n A) 1 0 = 0
    · rw [if_pos q2]
      exact ⟨q2, fun f j hf => sNext_f hf⟩
    · rw [if_neg q2] at h
      exact absurd h q2
  · rw [if_neg q, if_neg (sFail_f (by decide))] at h
    exact absurd h (sFail_f (by decide))
theorem WFA_line {b : Nat → Int} {n : Int} {A : aS} (hn : n ≤ 700) (hA : WFA A) (h0 : A 1 0 = 0) (hp : PA b n A) (hM : nG A) (hf : (sLine b n A) 1 0 = 0) : WFA (sLine b n A) := by
  obtain ⟨hb, he⟩ := sSemi_0 hf
  refine WFA_of (A := sBody b n A) (fun f j h => he f j (by omega)) ?_
  clear he hf
  have tw := tW_c (b := b) (n := n) (A := A)
  unfold sBody at hb ⊢
  split at hb
  · rw [if_pos (by assumption)]; exact WFA_of (lq_sSin lq_rf) hA
  rw [if_neg (by assumption)]
  split at hb
  · rw [if_pos (by assumption)]; exact WFA_of (lq_sPerson lq_rf) hA
  rw [if_neg (by assumption)]
  split at hb
  · rw [if_pos (by assumption)]; exact WFA_of (lq_sCake lq_rf) hA
  rw [if_neg (by assumption)]
  split at hb
  · rw [if_pos (by assumption)]; exact WFA_of (lq_up (by decide) (lq_sOnce lq_rf)) hA
  rw [if_neg (by assumption)]
  split at hb
  · rw [if_pos (by assumption)]; exact WFA_of (lq_up (by decide) (lq_sOnce lq_rf)) hA
  rw [if_neg (by assumption)]
  split at hb
  · rw [if_pos (by assumption)]; exact WFA_of (lq_up (by decide) (lq_sOnce lq_rf)) hA
  rw [if_neg (by assumption)]
  split at hb
  · rw [if_pos (by assumption)]; exact WFA_of (lq_up (by decide) (lq_sOnce lq_rf)) hA
  rw [if_neg (by assumption)]
  split at hb
  · rename_i h8
    rw [if_pos h8]
    have hs : (sKind b n A) 1 0 = 0 := sE_ne hb
    have k0 : tK b n A ≠ 0 := by omega
    have n1 := sNext_1 (b := b) (n := n) (A := A) (B := A) rfl k0
    have tw1 := tW_c (b := b) (n := n) (A := sNext b n A)
    by_cases q : tW b n (sNext b n A) < 10 ∨ 13 < tW b n (sNext b n A)
    · rw [sKind_1 q] at hs
      exact absurd hs (sFail_f (by decide))
    · by_cases q2 : A 16 (tW b n (sNext b n A) - 10).toNat < A 17 (tW b n (sNext b n A) - 10).toNat
      · rw [sKind_3 q q2] at hs
        exact absurd hs (sFail_f (by decide))
      · obtain ⟨e1, e2⟩ := sKind_ok q q2
        have k1 : tK b n (sNext b n A) ≠ 0 := by omega
        have n2 := sNext_1 (b := b) (n := n) (A := sNext b n A) (B := sNext b n A) rfl k1
        have := hp.1
        exact WFA_E hn (by rw [e2]; omega) (WFA_of (lq_sKind lq_rf) hA) hs (pa_sKind hp) (by rw [e1]; omega) hb
  rw [if_neg (by assumption)]
  split at hb
  · rename_i h9
    rw [if_pos h9]
    have hs : (sNew b n 3 A) 1 0 = 0 := sE_ne hb
    have k0 : tK b n A ≠ 0 := by omega
    have n1 := sNext_1 (b := b) (n := n) (A := A) (B := A) rfl k0
    by_cases q : mst 3 ≤ A 4 (3 : Int).toNat
    · rw [sNew_full q] at hs
      exact absurd hs (sFail_f (by decide))
    · by_cases q1 : tK b n (sNext b n A) = 1
      · by_cases q2 : sFind 3 (tV b n (sNext b n A)) (sNext b n A) = -1
        · obtain ⟨e1, e2⟩ := sNew_ok q q1 q2
          have n2 := sNext_1 (b := b) (n := n) (A := sNext b n A) (B := up (up (sNext b n A) 5 (3 * 5 + A 4 (3 : Int).toNat).toNat (tV b n (sNext b n A))) 4 (3 : Int).toNat (A 4 (3 : Int).toNat + 1)) (by rw [up_f (by decide), up_f (by decide)]) (by omega)
          have m3 : mst 3 = 3 := by decide
          have := hp.1
          have h43 : 0 ≤ A 4 3 := hM
          exact WFA_E hn (by rw [e2]; show 0 ≤ 4 + A 4 3 ∧ 4 + A 4 3 < 7; rw [m3] at q; have q9 : ¬ (3 : Int) ≤ A 4 3 := q; omega) (WFA_of (lq_sNew lq_rf) hA) hs (pa_sNew hp) (by rw [e1]; omega) hb
        · rw [sNew_3 q q1 q2] at hs
          exact absurd hs (sFail_f (by decide))
      · rw [sNew_1 q q1] at hs
        exact absurd hs (sFail_f (by decide))
  · rw [if_neg (by assumption)]
    exact absurd hb (sFail_f (by decide))

theorem WFA_text {b : Nat → Int} {n : Int} (hn : n ≤ 700) : ∀ (m : Nat) (A : aS), WFA A → nG A → PA b n A → (sLN b n m A) 1 0 = 0 → A 1 0 = 0 → WFA (sLN b n m A)
  | 0, _, h, _, _, _, _ => h
  | m + 1, A, h, hg, hp, hf, h0 => by
    rw [sLN] at hf ⊢
    by_cases q : A 1 0 = 0 ∧ tK b n A ≠ 0
    · rw [if_pos q] at hf ⊢
      by_cases q2 : (sLine b n A) 1 0 = 0
      · exact WFA_text hn m _ (WFA_line hn h h0 hp hg q2) (ng_sLine hg) (pa_sLine hp) hf q2
      · rw [(sLN_e (fun z => q2 z.1) m 0).1] at hf
        exact absurd hf q2
    · rw [if_neg q]
      exact h
theorem WFA_cl {b : Nat → Int} {n : Int} {A0 : aS} (hn : 0 ≤ n ∧ n ≤ 700) (hA : sCl A0) (hf : (sLN b n 700 (sNext b n A0)) 1 0 = 0) : WFA (sLN b n 700 (sNext b n A0)) := by
  obtain ⟨a0, a1, a2, a3, a4, a8, a16, a20, a21, a12, a13, a14, a15⟩ := hA
  have e0 : (sNext b n A0) 0 0 = 0 := by
    unfold sNext
    rw [if_pos (Or.inl (by omega)), up_eq]
    omega
  refine WFA_text hn.2 700 _ ⟨?_, fun k hk => ?_⟩ ?_ ⟨?_, ?_, ?_⟩ hf (by rw [sNext_f (by decide)]; exact a1)
  · rw [sNext_f (by decide), sNext_f (by decide), a20, a21]; decide
  · intro q
    rw [sNext_f (by decide), sNext_f (by decide), (a16 k hk).1, (a16 k hk).2] at q
    omega
  · unfold nG
    rw [sNext_f (by decide), a4 3 (by decide)]
    decide
  · rw [e0]; decide
  · rw [e0]
    show 0 ≤ stn b n ((sNext b n A0) 0 0).toNat
    rw [e0]
    exact sp_ge
  · show stn b n ((sNext b n A0) 0 0).toNat ≤ n
    rw [e0]
    exact sp_le hn.1
