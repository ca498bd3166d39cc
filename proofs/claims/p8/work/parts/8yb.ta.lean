/-! what a text without fault tells lies within bounds -/
def TBc (A : aS) : Prop := ∀ j : Nat, (j : Int) < A 4 2 → 0 ≤ A 9 j ∧ A 9 j ≤ 999 ∧ 1 ≤ A 10 j ∧ A 10 j ≤ 99 ∧ 0 ≤ A 11 j ∧ A 11 j ≤ 99
def TBd (A : aS) : Prop := ∀ j : Nat, j < 20 → (0 ≤ A 8 j ∧ A 8 j ≤ 9) ∧ (((j : Int) < 4 * A 4 1 ∧ (j : Int) % 4 < A 4 0) ∨ A 8 j = 0)
def TBn (A : aS) : Prop := 0 ≤ A 12 0 ∧ A 12 0 ≤ 9999 ∧ 1 ≤ A 13 0 ∧ A 13 0 ≤ 99 ∧ 0 ≤ A 14 0 ∧ A 14 0 ≤ 999 ∧ 0 ≤ A 15 0 ∧ A 15 0 ≤ 99999
def TBs (A : aS) : Prop := 0 ≤ A 4 0 ∧ A 4 0 ≤ 4 ∧ 0 ≤ A 4 1 ∧ A 4 1 ≤ 5 ∧ 0 ≤ A 4 2 ∧ A 4 2 ≤ 5 ∧ 0 ≤ A 4 3 ∧ A 4 3 ≤ 3
def TB (A : aS) : Prop := TBs A ∧ (∀ j : Nat, (j : Int) < A 4 0 → 0 ≤ A 6 j ∧ A 6 j ≤ 99) ∧ (∀ j : Nat, (j : Int) < A 4 1 → 0 ≤ A 7 j ∧ A 7 j ≤ 100) ∧ TBd A ∧ TBc A ∧ TBn A
theorem TB_of {A B : aS} (h : ∀ f j : Nat, f = 4 ∨ (6 ≤ f ∧ f ≤ 15) → B f j = A f j) (hA : TB A) : TB B := by
  obtain ⟨h1, h2, h3, h4, h5, h6⟩ := hA
  have e4 : ∀ j, B 4 j = A 4 j := fun j => h 4 j (Or.inl rfl)
  refine ⟨?_, fun j hj => ?_, fun j hj => ?_, fun j hj => ?_, fun j hj => ?_, ?_⟩
  · unfold TBs at *; rw [e4, e4, e4, e4]; exact h1
  · rw [e4] at hj; rw [h 6 j (by omega)]; exact h2 j hj
  · rw [e4] at hj; rw [h 7 j (by omega)]; exact h3 j hj
  · rw [h 8 j (by omega), e4, e4]; exact h4 j hj
  · rw [e4] at hj; rw [h 9 j (by omega), h 10 j (by omega), h 11 j (by omega)]; exact h5 j hj
  · unfold TBn at *; rw [h 12 0 (by omega), h 13 0 (by omega), h 14 0 (by omega), h 15 0 (by omega)]; exact h6
theorem tbFail_o {b : Nat → Int} {n c : Int} {A : aS} {f j : Nat} (h1 : f ≠ 1) (h2 : f ≠ 2) : (sFail b n c A) f j = A f j := by
  unfold sFail
  split
  · rw [up_f h2, up_f h1]
  · rfl
theorem tbNumB_no {b : Nat → Int} {n : Int} {A : aS} (h : A 1 0 ≠ 0) : (sNumB b n A) 1 0 ≠ 0 := by
  unfold sNumB
  rw [if_neg h]
  exact h
theorem tbNum_ok {b : Nat → Int} {n lo hi : Int} {A : aS} (h : (sNum b n lo hi A) 1 0 = 0) : A 1 0 = 0 ∧ lo ≤ sNumV b n lo hi A ∧ sNumV b n lo hi A ≤ hi ∧ ∀ f j : Nat, f ≠ 0 → (sNum b n lo hi A) f j = A f j := by
  unfold sNum at h ⊢
  by_cases q : tK b n A ≠ 3
  · rw [if_pos q] at h
    exact absurd h (tbNumB_no (sFail_f (by decide)))
  rw [if_neg q] at h ⊢
  by_cases q2 : tV b n A < lo ∨ hi < tV b n A
  · rw [if_pos q2] at h
    exact absurd h (tbNumB_no (sFail_f (by decide)))
  rw [if_neg q2] at h ⊢
  unfold sNumB at h ⊢
  by_cases q3 : A 1 0 = 0
  · rw [if_pos q3]
    unfold sNumV
    rw [if_neg (by rintro (z | z | z | z); exact q z; omega; omega; exact z q3)]
    exact ⟨q3, by omega, by omega, fun f j hf => sNext_f hf⟩
  · rw [if_neg q3] at h
    exact absurd h q3
theorem tbNew_ok {b : Nat → Int} {n kd : Int} {A : aS} (h : (sNew b n kd A) 1 0 = 0) : A 1 0 = 0 ∧ A 4 kd.toNat < mst kd ∧ sNewV b n kd A = A 4 kd.toNat ∧ ∀ f j : Nat, f ≠ 0 → f ≠ 5 → (sNew b n kd A) f j = if f = 4 ∧ j = kd.toNat then A 4 kd.toNat + 1 else A f j := by
  unfold sNew at h ⊢
  by_cases q : mst kd ≤ A 4 kd.toNat
  · rw [if_pos q] at h
    exact absurd h (sFail_f (by decide))
  rw [if_neg q] at h ⊢
  by_cases q2 : tK b n (sNext b n A) ≠ 1
  · rw [if_pos q2] at h
    exact absurd h (sFail_f (by decide))
  rw [if_neg q2] at h ⊢
  by_cases q3 : sFind kd (tV b n (sNext b n A)) (sNext b n A) ≠ -1
  · rw [if_pos q3] at h
    exact absurd h (sFail_f (by decide))
  rw [if_neg q3] at h ⊢
  have e4 : ∀ j, (sNext b n A) 4 j = A 4 j := fun j => sNext_f (by decide)
  have ea : ∀ f j : Nat, f ≠ 0 → f ≠ 5 → (sAdd kd (tV b n (sNext b n A)) (sNext b n A)) f j = if f = 4 ∧ j = kd.toNat then A 4 kd.toNat + 1 else A f j := fun f j h0 h5 => by
    unfold sAdd
    rw [e4, if_neg q]
    by_cases z : f = 4 ∧ j = kd.toNat
    · obtain ⟨rfl, rfl⟩ := z
      rw [up_eq, if_pos ⟨rfl, rfl⟩]
    · rw [if_neg z]
      show (if f = 4 ∧ j = kd.toNat then _ else _) = _
      rw [if_neg z, up_f h5]
      exact sNext_f h0
  refine ⟨?_, by omega, ?_, fun f j h0 h5 => (sNext_f h0).trans (ea f j h0 h5)⟩
  · rw [sNext_f (by decide), ea 1 0 (by decide) (by decide), if_neg (fun z => absurd z.1 (by decide))] at h
    exact h
  · unfold sNewV
    rw [if_neg (by rintro (z | z | z); exact q z; exact q2 z; exact q3 z)]
theorem tbOnce_ok {b : Nat → Int} {n lo hi : Int} {A : aS} (h : (sOnce b n lo hi A) 1 0 = 0) : lo ≤ sOnceV b n lo hi A ∧ sOnceV b n lo hi A ≤ hi ∧ ∀ f j : Nat, f ≠ 0 → f ≠ 3 → (sOnce b n lo hi A) f j = A f j := by
  unfold sOnce sOnceV at *
  by_cases q : band (A 3 0) (bshl 1 (tW b n A)) ≠ 0
  · rw [if_pos q] at h
    exact absurd h (sFail_f (by decide))
  rw [if_neg q] at h ⊢
  rw [if_neg q]
  obtain ⟨h1, h2, h3, h4⟩ := tbNum_ok h
  refine ⟨h2, h3, fun f j h0 h9 => (h4 f j h0).trans ?_⟩
  unfold sOnB
  rw [sNext_f h0, up_f h9]
theorem tbFnd_in {f : Nat → Int} {q c : Int} : ∀ (m : Nat) (k : Int), fndn f q c m k = -1 ∨ (k ≤ fndn f q c m k ∧ fndn f q c m k < k + m)
  | 0, k => Or.inl rfl
  | m + 1, k => by
    have h := tbFnd_in (f := f) (q := q) (c := c) m (k + 1)
    rw [fndn]
    split
    · exact Or.inr ⟨by omega, by omega⟩
    · omega
theorem tbMst : mst 0 = 4 ∧ mst 1 = 5 ∧ mst 2 = 5 ∧ mst 3 = 3 := by decide
theorem TB_deed {b : Nat → Int} {n p : Int} {A : aS} (hA : TB A) (hp : 0 ≤ p ∧ p < A 4 1) (h : (sDeed b n p A) 1 0 = 0) : TB (sDeed b n p A) ∧ (sDeed b n p A) 4 1 = A 4 1 := by
  unfold sDeed at h ⊢
  by_cases q : tK b n A ≠ 1
  · rw [if_pos q] at h
    exact absurd h (sFail_f (by decide))
  rw [if_neg q] at h ⊢
  by_cases q2 : sFind 0 (tV b n A) A = -1
  · rw [if_pos q2] at h
    exact absurd h (sFail_f (by decide))
  rw [if_neg q2] at h ⊢
  by_cases q3 : A 8 (p * 4 + sFind 0 (tV b n A) A).toNat ≠ 0
  · rw [if_pos q3] at h
    exact absurd h (sFail_f (by decide))
  rw [if_neg q3] at h ⊢
  rw [up_f (by decide)] at h
  obtain ⟨-, v1, v2, hf⟩ := tbNum_ok h
  have hs := (tbFnd_in (f := A 5) (q := 0 * 5) (c := tV b n A) (A 4 (0 : Int).toNat).toNat 0).resolve_left q2
  have hse : fndn (A 5) (0 * 5) (tV b n A) (A 4 (0 : Int).toNat).toNat 0 = sFind 0 (tV b n A) A := rfl
  rw [hse] at hs
  have hs2 : sFind 0 (tV b n A) A < A 4 0 := by
    have e9 : (0 : Int).toNat = 0 := rfl
    rw [e9] at hs
    omega
  generalize sFind 0 (tV b n A) A = s at *
  generalize sNumV b n 1 9 (sNext b n A) = v at *
  have e : ∀ f j : Nat, f ≠ 0 → (up (sNum b n 1 9 (sNext b n A)) 8 (p * 4 + s).toNat v) f j = if f = 8 ∧ j = (p * 4 + s).toNat then v else A f j := fun f j h0 => by
    show (if f = 8 ∧ j = (p * 4 + s).toNat then v else _) = _
    rw [hf f j h0, sNext_f h0]
  generalize up (sNum b n 1 9 (sNext b n A)) 8 (p * 4 + s).toNat v = B at *
  obtain ⟨h1, h2, h3, h4, h5, h6⟩ := hA
  have e9 : ∀ f j : Nat, f ≠ 0 → f ≠ 8 → B f j = A f j := fun f j h0 h8 => by rw [e f j h0, if_neg (fun z => h8 z.1)]
  refine ⟨⟨?_, fun j hj => ?_, fun j hj => ?_, fun j hj => ?_, fun j hj => ?_, ?_⟩, e9 4 1 (by decide) (by decide)⟩
  · unfold TBs at *; rw [e9 4 0 (by decide) (by decide), e9 4 1 (by decide) (by decide), e9 4 2 (by decide) (by decide), e9 4 3 (by decide) (by decide)]; exact h1
  · rw [e9 4 0 (by decide) (by decide)] at hj; rw [e9 6 j (by decide) (by decide)]; exact h2 j hj
  · rw [e9 4 1 (by decide) (by decide)] at hj; rw [e9 7 j (by decide) (by decide)]; exact h3 j hj
  · rw [e 8 j (by decide), e9 4 0 (by decide) (by decide), e9 4 1 (by decide) (by decide)]
    by_cases z : j = (p * 4 + s).toNat
    · rw [if_pos ⟨rfl, z⟩]
      unfold TBs at h1
      exact ⟨by omega, Or.inl ⟨by omega, by omega⟩⟩
    · rw [if_neg (fun y => z y.2)]; exact h4 j hj
  · rw [e9 4 2 (by decide) (by decide)] at hj; rw [e9 9 j (by decide) (by decide), e9 10 j (by decide) (by decide), e9 11 j (by decide) (by decide)]; exact h5 j hj
  · unfold TBn at *; rw [e9 12 0 (by decide) (by decide), e9 13 0 (by decide) (by decide), e9 14 0 (by decide) (by decide), e9 15 0 (by decide) (by decide)]; exact h6
theorem tbDeeds_no {b : Nat → Int} {n p : Int} {A : aS} (h : A 1 0 ≠ 0) : ∀ m : Nat, sDeeds b n p m A = A
  | 0 => rfl
  | m + 1 => by rw [sDeeds, if_neg (fun z => h z.1)]
theorem TB_next {b : Nat → Int} {n : Int} {A : aS} (h : TB A) : TB (sNext b n A) := TB_of (fun f j hf => sNext_f (by omega)) h
theorem TB_deeds {b : Nat → Int} {n p : Int} : ∀ (m : Nat) (A : aS), TB A → (0 ≤ p ∧ p < A 4 1) → (sDeeds b n p m A) 1 0 = 0 → TB (sDeeds b n p m A)
  | 0, _, h, _, _ => h
  | m + 1, A, h, hp, hf => by
    rw [sDeeds] at hf ⊢
    by_cases q : A 1 0 = 0 ∧ tW b n A = 2
    · rw [if_pos q] at hf ⊢
      by_cases q2 : (sDeed b n p (sNext b n A)) 1 0 = 0
      · have hp2 : 0 ≤ p ∧ p < (sNext b n A) 4 1 := by rw [sNext_f (by decide)]; exact hp
        obtain ⟨k1, k2⟩ := TB_deed (TB_next h) hp2 q2
        exact TB_deeds m _ k1 (by rw [k2]; exact hp2) hf
      · rw [tbDeeds_no q2] at hf
        exact absurd hf q2
    · rw [if_neg q]
      exact h
theorem TB_sin {b : Nat → Int} {n : Int} {A : aS} (hA : TB A) (h : (sSin b n A) 1 0 = 0) : TB (sSin b n A) := by
  unfold sSin at h ⊢
  by_cases q : (sNum b n 0 99 (sNew b n 0 A)) 1 0 = 0
  · rw [if_pos q]
    obtain ⟨k1, v1, v2, hf⟩ := tbNum_ok q
    obtain ⟨k2, km, kv, kf⟩ := tbNew_ok k1
    rw [kv]
    generalize sNumV b n 0 99 (sNew b n 0 A) = v at *
    have e : ∀ f j : Nat, f ≠ 0 → f ≠ 5 → (up (sNum b n 0 99 (sNew b n 0 A)) 6 (A 4 (0 : Int).toNat).toNat v) f j = if f = 6 ∧ j = (A 4 0).toNat then v else if f = 4 ∧ j = 0 then A 4 0 + 1 else A f j := fun f j h0 h5 => by
      show (if f = 6 ∧ j = (A 4 0).toNat then v else _) = _
      rw [hf f j h0, kf f j h0 h5]
      rfl
    generalize up (sNum b n 0 99 (sNew b n 0 A)) 6 (A 4 (0 : Int).toNat).toNat v = B at *
    have m0 := tbMst.1
    have km2 : A 4 0 < mst 0 := km
    have e40 : B 4 0 = A 4 0 + 1 := by rw [e 4 0 (by decide) (by decide), if_neg (fun z => absurd z.1 (by decide)), if_pos (by decide)]
    have e4 : ∀ j, j ≠ 0 → B 4 j = A 4 j := fun j hj => by rw [e 4 j (by decide) (by decide), if_neg (fun z => absurd z.1 (by decide)), if_neg (fun z => hj z.2)]
    have eo : ∀ f j, 7 ≤ f → B f j = A f j := fun f j h7 => by rw [e f j (by omega) (by omega), if_neg (fun z => by omega), if_neg (fun z => by omega)]
    obtain ⟨h1, h2, h3, h4, h5, h6⟩ := hA
    unfold TBs at h1
    refine ⟨?_, fun j hj => ?_, fun j hj => ?_, fun j hj => ?_, fun j hj => ?_, ?_⟩
    · unfold TBs; rw [e40, e4 1 (by decide), e4 2 (by decide), e4 3 (by decide)]; omega
    · rw [e40] at hj
      rw [e 6 j (by decide) (by decide)]
      by_cases z : j = (A 4 0).toNat
      · rw [if_pos ⟨rfl, z⟩]; exact ⟨v1, v2⟩
      · rw [if_neg (fun y => z y.2), if_neg (fun y => absurd y.1 (by decide))]; exact h2 j (by omega)
    · rw [e4 1 (by decide)] at hj; rw [eo 7 j (by decide)]; exact h3 j hj
    · rw [eo 8 j (by decide), e40, e4 1 (by decide)]
      have z := h4 j hj
      omega
    · rw [e4 2 (by decide)] at hj; rw [eo 9 j (by decide), eo 10 j (by decide), eo 11 j (by decide)]; exact h5 j hj
    · unfold TBn at *; rw [eo 12 0 (by decide), eo 13 0 (by decide), eo 14 0 (by decide), eo 15 0 (by decide)]; exact h6
  · rw [if_neg q] at h
    exact absurd h q
theorem TB_hon {b : Nat → Int} {n : Int} {A : aS} (hA : TB A) (h : (sHon b n A) 1 0 = 0) : TB (sHon b n A) ∧ sNewV b n 1 A = A 4 1 ∧ (sHon b n A) 4 1 = A 4 1 + 1 := by
  unfold sHon at h ⊢
  by_cases q : (sNum b n 0 100 (sNew b n 1 A)) 1 0 = 0
  · rw [if_pos q]
    obtain ⟨k1, v1, v2, hf⟩ := tbNum_ok q
    obtain ⟨k2, km, kv, kf⟩ := tbNew_ok k1
    rw [kv]
    generalize sNumV b n 0 100 (sNew b n 1 A) = v at *
    have e : ∀ f j : Nat, f ≠ 0 → f ≠ 5 → (up (sNum b n 0 100 (sNew b n 1 A)) 7 (A 4 (1 : Int).toNat).toNat v) f j = if f = 7 ∧ j = (A 4 1).toNat then v else if f = 4 ∧ j = 1 then A 4 1 + 1 else A f j := fun f j h0 h5 => by
      show (if f = 7 ∧ j = (A 4 1).toNat then v else _) = _
      rw [hf f j h0, kf f j h0 h5]
      rfl
    generalize up (sNum b n 0 100 (sNew b n 1 A)) 7 (A 4 (1 : Int).toNat).toNat v = B at *
    have m0 := tbMst.2.1
    have km2 : A 4 1 < mst 1 := km
    have e41 : B 4 1 = A 4 1 + 1 := by rw [e 4 1 (by decide) (by decide), if_neg (fun z => absurd z.1 (by decide)), if_pos (by decide)]
    have e4 : ∀ j, j ≠ 1 → B 4 j = A 4 j := fun j hj => by rw [e 4 j (by decide) (by decide), if_neg (fun z => absurd z.1 (by decide)), if_neg (fun z => hj z.2)]
    have eo : ∀ f j, 6 ≤ f → f ≠ 7 → B f j = A f j := fun f j h7 h8 => by rw [e f j (by omega) (by omega), if_neg (fun z => h8 z.1), if_neg (fun z => by omega)]
    obtain ⟨h1, h2, h3, h4, h5, h6⟩ := hA
    unfold TBs at h1
    refine ⟨⟨?_, fun j hj => ?_, fun j hj => ?_, fun j hj => ?_, fun j hj => ?_, ?_⟩, rfl, e41⟩
    · unfold TBs; rw [e41, e4 0 (by decide), e4 2 (by decide), e4 3 (by decide)]; omega
    · rw [e4 0 (by decide)] at hj; rw [eo 6 j (by decide) (by decide)]; exact h2 j hj
    · rw [e41] at hj
      rw [e 7 j (by decide) (by decide)]
      by_cases z : j = (A 4 1).toNat
      · rw [if_pos ⟨rfl, z⟩]; exact ⟨v1, v2⟩
      · rw [if_neg (fun y => z y.2), if_neg (fun y => absurd y.1 (by decide))]; exact h3 j (by omega)
    · rw [eo 8 j (by decide) (by decide), e41, e4 0 (by decide)]
      have z := h4 j hj
      omega
    · rw [e4 2 (by decide)] at hj; rw [eo 9 j (by decide) (by decide), eo 10 j (by decide) (by decide), eo 11 j (by decide) (by decide)]; exact h5 j hj
    · unfold TBn at *; rw [eo 12 0 (by decide) (by decide), eo 13 0 (by decide) (by decide), eo 14 0 (by decide) (by decide), eo 15 0 (by decide) (by decide)]; exact h6
  · rw [if_neg q] at h
    exact absurd h q
theorem TB_person {b : Nat → Int} {n : Int} {A : aS} (hA : TB A) (h : (sPerson b n A) 1 0 = 0) : TB (sPerson b n A) := by
  unfold sPerson at h ⊢
  by_cases q : (sHon b n A) 1 0 = 0
  · obtain ⟨k1, k2, k3⟩ := TB_hon hA q
    have h1 := hA.1
    unfold TBs at h1
    exact TB_deeds 700 _ k1 (by rw [k2, k3]; omega) h
  · rw [tbDeeds_no q] at h
    exact absurd h q
theorem TB_cake {b : Nat → Int} {n : Int} {A : aS} (hA : TB A) (h : (sCake b n A) 1 0 = 0) : TB (sCake b n A) := by
  unfold sCake at h ⊢
  by_cases q : (sC3 b n A) 1 0 = 0
  · rw [if_pos q]
    have q3 : (sNum b n 0 99 (sC2 b n A)) 1 0 = 0 := q
    obtain ⟨q2, v5, v6, hf3⟩ := tbNum_ok q3
    have q2b : (sNum b n 1 99 (sC1 b n A)) 1 0 = 0 := q2
    obtain ⟨q1, v3, v4, hf2⟩ := tbNum_ok q2b
    have q1b : (sNum b n 0 999 (sNew b n 2 A)) 1 0 = 0 := q1
    obtain ⟨k1, v1, v2, hf1⟩ := tbNum_ok q1b
    obtain ⟨k2, km, kv, kf⟩ := tbNew_ok k1
    rw [kv]
    generalize sNumV b n 0 999 (sNew b n 2 A) = v at *
    generalize sNumV b n 1 99 (sC1 b n A) = u at *
    generalize sNumV b n 0 99 (sC2 b n A) = t at *
    have ec : ∀ f j : Nat, f ≠ 0 → f ≠ 5 → (sC3 b n A) f j = if f = 4 ∧ j = 2 then A 4 2 + 1 else A f j := fun f j h0 h5 => by
      have z3 : (sC3 b n A) f j = (sC2 b n A) f j := hf3 f j h0
      have z2 : (sC2 b n A) f j = (sC1 b n A) f j := hf2 f j h0
      have z1 : (sC1 b n A) f j = (sNew b n 2 A) f j := hf1 f j h0
      rw [z3, z2, z1, kf f j h0 h5]
      rfl
    have e : ∀ f j : Nat, f ≠ 0 → f ≠ 5 → (up (up (up (sC3 b n A) 9 (A 4 (2 : Int).toNat).toNat v) 10 (A 4 (2 : Int).toNat).toNat u) 11 (A 4 (2 : Int).toNat).toNat t) f j = if f = 11 ∧ j = (A 4 2).toNat then t else if f = 10 ∧ j = (A 4 2).toNat then u else if f = 9 ∧ j = (A 4 2).toNat then v else if f = 4 ∧ j = 2 then A 4 2 + 1 else A f j := fun f j h0 h5 => by
      show (if f = 11 ∧ j = (A 4 2).toNat then t else if f = 10 ∧ j = (A 4 2).toNat then u else if f = 9 ∧ j = (A 4 2).toNat then v else _) = _
      rw [ec f j h0 h5]
    generalize up (up (up (sC3 b n A) 9 (A 4 (2 : Int).toNat).toNat v) 10 (A 4 (2 : Int).toNat).toNat u) 11 (A 4 (2 : Int).toNat).toNat t = B at *
    have m0 := tbMst.2.2.1
    have km2 : A 4 2 < mst 2 := km
    have e42 : B 4 2 = A 4 2 + 1 := by rw [e 4 2 (by decide) (by decide), if_neg (fun z => absurd z.1 (by decide)), if_neg (fun z => absurd z.1 (by decide)), if_neg (fun z => absurd z.1 (by decide)), if_pos (by decide)]
    have eo : ∀ f j, f ≠ 0 → f ≠ 5 → (f ≠ 4 ∨ j ≠ 2) → (f < 9 ∨ 11 < f) → B f j = A f j := fun f j h0 h5 h4 h9 => by rw [e f j h0 h5, if_neg (by omega), if_neg (by omega), if_neg (by omega), if_neg (by omega)]
    obtain ⟨h1, h2, h3, h4, h5, h6⟩ := hA
    unfold TBs at h1
    refine ⟨?_, fun j hj => ?_, fun j hj => ?_, fun j hj => ?_, fun j hj => ?_, ?_⟩
    · unfold TBs; rw [e42, eo 4 0 (by omega) (by omega) (by omega) (by omega), eo 4 1 (by omega) (by omega) (by omega) (by omega), eo 4 3 (by omega) (by omega) (by omega) (by omega)]; omega
    · rw [eo 4 0 (by omega) (by omega) (by omega) (by omega)] at hj; rw [eo 6 j (by omega) (by omega) (by omega) (by omega)]; exact h2 j hj
    · rw [eo 4 1 (by omega) (by omega) (by omega) (by omega)] at hj; rw [eo 7 j (by omega) (by omega) (by omega) (by omega)]; exact h3 j hj
    · rw [eo 8 j (by omega) (by omega) (by omega) (by omega), eo 4 0 (by omega) (by omega) (by omega) (by omega), eo 4 1 (by omega) (by omega) (by omega) (by omega)]; exact h4 j hj
    · rw [e42] at hj
      have f9 := e 9 j (by decide) (by decide)
      have f10 := e 10 j (by decide) (by decide)
      have f11 := e 11 j (by decide) (by decide)
      rw [if_neg (by omega), if_neg (by omega)] at f9
      rw [if_neg (by omega)] at f10
      by_cases z : j = (A 4 2).toNat
      · rw [if_pos ⟨rfl, z⟩] at f9 f10 f11
        rw [f9, f10, f11]
        exact ⟨v1, v2, v3, v4, v5, v6⟩
      · rw [if_neg (fun y => z y.2), if_neg (by omega)] at f9
        rw [if_neg (fun y => z y.2), if_neg (by omega), if_neg (by omega)] at f10
        rw [if_neg (fun y => z y.2), if_neg (by omega), if_neg (by omega), if_neg (by omega)] at f11
        rw [f9, f10, f11]
        exact h5 j (by omega)
    · unfold TBn at *; rw [eo 12 0 (by omega) (by omega) (by omega) (by omega), eo 13 0 (by omega) (by omega) (by omega) (by omega), eo 14 0 (by omega) (by omega) (by omega) (by omega), eo 15 0 (by omega) (by omega) (by omega) (by omega)]; exact h6
  · rw [if_neg q] at h
    exact absurd h q
theorem TB_once {b : Nat → Int} {n lo hi : Int} {A : aS} {f : Nat} (hA : TB A) (hf : 12 ≤ f ∧ f ≤ 15) (h : (sOnce b n lo hi A) 1 0 = 0) (hv : ∀ v : Int, lo ≤ v → v ≤ hi → TBn (up A f 0 v)) : TB (up (sOnce b n lo hi A) f 0 (sOnceV b n lo hi A)) := by
  obtain ⟨v1, v2, ef⟩ := tbOnce_ok h
  have hn := hv _ v1 v2
  generalize sOnceV b n lo hi A = v at *
  have e : ∀ g j : Nat, g ≠ 0 → g ≠ 3 → (up (sOnce b n lo hi A) f 0 v) g j = (up A f 0 v) g j := fun g j h0 h3 => by
    show (if g = f ∧ j = 0 then v else _) = (if g = f ∧ j = 0 then v else _)
    rw [ef g j h0 h3]
  have e2 : ∀ g j : Nat, g ≠ 0 → g ≠ 3 → g < 12 → (up (sOnce b n lo hi A) f 0 v) g j = A g j := fun g j h0 h3 h12 => by rw [e g j h0 h3, up_f (by omega)]
  generalize up (sOnce b n lo hi A) f 0 v = B at *
  obtain ⟨h1, h2, h3, h4, h5, h6⟩ := hA
  refine ⟨?_, fun j hj => ?_, fun j hj => ?_, fun j hj => ?_, fun j hj => ?_, ?_⟩
  · unfold TBs at *; rw [e2 4 0 (by decide) (by decide) (by decide), e2 4 1 (by decide) (by decide) (by decide), e2 4 2 (by decide) (by decide) (by decide), e2 4 3 (by decide) (by decide) (by decide)]; exact h1
  · rw [e2 4 0 (by decide) (by decide) (by decide)] at hj; rw [e2 6 j (by decide) (by decide) (by decide)]; exact h2 j hj
  · rw [e2 4 1 (by decide) (by decide) (by decide)] at hj; rw [e2 7 j (by decide) (by decide) (by decide)]; exact h3 j hj
  · rw [e2 8 j (by decide) (by decide) (by decide), e2 4 0 (by decide) (by decide) (by decide), e2 4 1 (by decide) (by decide) (by decide)]; exact h4 j hj
  · rw [e2 4 2 (by decide) (by decide) (by decide)] at hj; rw [e2 9 j (by decide) (by decide) (by decide), e2 10 j (by decide) (by decide) (by decide), e2 11 j (by decide) (by decide) (by decide)]; exact h5 j hj
  · unfold TBn at *; rw [e 12 0 (by decide) (by decide), e 13 0 (by decide) (by decide), e 14 0 (by decide) (by decide), e 15 0 (by decide) (by decide)]; exact hn
theorem tbKind_f {b : Nat → Int} {n : Int} {A : aS} {f j : Nat} (hf : 3 ≤ f) : (sKind b n A) f j = A f j := by
  unfold sKind
  split
  · rw [tbFail_o (by omega) (by omega), sNext_f (by omega)]
  · split
    · rw [tbFail_o (by omega) (by omega), sNext_f (by omega)]
    · rw [sNext_f (by omega), sNext_f (by omega)]
theorem TB_line {b : Nat → Int} {n : Int} {A : aS} (hA : TB A) (hf : (sLine b n A) 1 0 = 0) : TB (sLine b n A) := by
  obtain ⟨hb, he⟩ := sSemi_0 hf
  refine TB_of (A := sBody b n A) (fun f j h => he f j (by omega)) ?_
  clear he hf
  have hN := hA.2.2.2.2.2
  unfold TBn at hN
  have hu : ∀ (f : Nat) (v : Int), (f = 12 → 0 ≤ v ∧ v ≤ 9999) → (f = 13 → 1 ≤ v ∧ v ≤ 99) → (f = 14 → 0 ≤ v ∧ v ≤ 999) → (f = 15 → 0 ≤ v ∧ v ≤ 99999) → TBn (up A f 0 v) := fun f v g1 g2 g3 g4 => by
    unfold TBn
    show 0 ≤ (if 12 = f ∧ 0 = 0 then v else A 12 0) ∧ (if 12 = f ∧ 0 = 0 then v else A 12 0) ≤ 9999 ∧ 1 ≤ (if 13 = f ∧ 0 = 0 then v else A 13 0) ∧ (if 13 = f ∧ 0 = 0 then v else A 13 0) ≤ 99 ∧ 0 ≤ (if 14 = f ∧ 0 = 0 then v else A 14 0) ∧ (if 14 = f ∧ 0 = 0 then v else A 14 0) ≤ 999 ∧ 0 ≤ (if 15 = f ∧ 0 = 0 then v else A 15 0) ∧ (if 15 = f ∧ 0 = 0 then v else A 15 0) ≤ 99999
    refine ⟨?_, ?_, ?_, ?_, ?_, ?_, ?_, ?_⟩ <;> (split <;> omega)
  unfold sBody at hb ⊢
  split at hb
  · rw [if_pos (by assumption)]; exact TB_sin hA hb
  rw [if_neg (by assumption)]
  split at hb
  · rw [if_pos (by assumption)]; exact TB_person hA hb
  rw [if_neg (by assumption)]
  split at hb
  · rw [if_pos (by assumption)]; exact TB_cake hA hb
  rw [if_neg (by assumption)]
  split at hb
  · rw [if_pos (by assumption)]; rw [up_f (by decide)] at hb; exact TB_once hA (by decide) hb (fun v h1 h2 => hu 12 v (fun _ => ⟨h1, h2⟩) (fun q => absurd q (by decide)) (fun q => absurd q (by decide)) (fun q => absurd q (by decide)))
  rw [if_neg (by assumption)]
  split at hb
  · rw [if_pos (by assumption)]; rw [up_f (by decide)] at hb; exact TB_once hA (by decide) hb (fun v h1 h2 => hu 13 v (fun q => absurd q (by decide)) (fun _ => ⟨h1, h2⟩) (fun q => absurd q (by decide)) (fun q => absurd q (by decide)))
  rw [if_neg (by assumption)]
  split at hb
  · rw [if_pos (by assumption)]; rw [up_f (by decide)] at hb; exact TB_once hA (by decide) hb (fun v h1 h2 => hu 14 v (fun q => absurd q (by decide)) (fun q => absurd q (by decide)) (fun _ => ⟨h1, h2⟩) (fun q => absurd q (by decide)))
  rw [if_neg (by assumption)]
  split at hb
  · rw [if_pos (by assumption)]; rw [up_f (by decide)] at hb; exact TB_once hA (by decide) hb (fun v h1 h2 => hu 15 v (fun q => absurd q (by decide)) (fun q => absurd q (by decide)) (fun q => absurd q (by decide)) (fun _ => ⟨h1, h2⟩))
  rw [if_neg (by assumption)]
  split at hb
  · rw [if_pos (by assumption)]
    exact TB_of (fun f j h => (sE_f (by omega) (by omega)).trans (tbKind_f (by omega))) hA
  rw [if_neg (by assumption)]
  split at hb
  · rw [if_pos (by assumption)]
    by_cases q : (sNew b n 3 A) 1 0 = 0
    · obtain ⟨k2, km, kv, kf⟩ := tbNew_ok q
      have m0 := tbMst.2.2.2
      have km2 : A 4 3 < mst 3 := km
      have e : ∀ f j : Nat, f = 4 ∨ (6 ≤ f ∧ f ≤ 15) → (sE b n (4 + sNewV b n 3 A) (sNew b n 3 A)) f j = if f = 4 ∧ j = 3 then A 4 3 + 1 else A f j := fun f j h => (sE_f (by omega) (by omega)).trans (kf f j (by omega) (by omega))
      generalize sE b n (4 + sNewV b n 3 A) (sNew b n 3 A) = B at *
      have e43 : B 4 3 = A 4 3 + 1 := by rw [e 4 3 (by omega), if_pos (by decide)]
      have eo : ∀ f j, (f = 4 ∨ (6 ≤ f ∧ f ≤ 15)) → (f ≠ 4 ∨ j ≠ 3) → B f j = A f j := fun f j h h4 => by rw [e f j h, if_neg (by omega)]
      obtain ⟨h1, h2, h3, h4, h5, h6⟩ := hA
      unfold TBs at h1
      refine ⟨?_, fun j hj => ?_, fun j hj => ?_, fun j hj => ?_, fun j hj => ?_, ?_⟩
      · unfold TBs; rw [e43, eo 4 0 (by omega) (by omega), eo 4 1 (by omega) (by omega), eo 4 2 (by omega) (by omega)]; omega
      · rw [eo 4 0 (by omega) (by omega)] at hj; rw [eo 6 j (by omega) (by omega)]; exact h2 j hj
      · rw [eo 4 1 (by omega) (by omega)] at hj; rw [eo 7 j (by omega) (by omega)]; exact h3 j hj
      · rw [eo 8 j (by omega) (by omega), eo 4 0 (by omega) (by omega), eo 4 1 (by omega) (by omega)]; exact h4 j hj
      · rw [eo 4 2 (by omega) (by omega)] at hj; rw [eo 9 j (by omega) (by omega), eo 10 j (by omega) (by omega), eo 11 j (by omega) (by omega)]; exact h5 j hj
      · unfold TBn at *; rw [eo 12 0 (by omega) (by omega), eo 13 0 (by omega) (by omega), eo 14 0 (by omega) (by omega), eo 15 0 (by omega) (by omega)]; exact h6
    · exact absurd (sE_ne hb) q
  rw [if_neg (by assumption)]
  exact absurd hb (sFail_f (by decide))
theorem TB_text {b : Nat → Int} {n : Int} : ∀ (m : Nat) (A : aS), TB A → (sLN b n m A) 1 0 = 0 → TB (sLN b n m A)
  | 0, _, h, _ => h
  | m + 1, A, h, hf => by
    rw [sLN] at hf ⊢
    by_cases q : A 1 0 = 0 ∧ tK b n A ≠ 0
    · rw [if_pos q] at hf ⊢
      by_cases q2 : (sLine b n A) 1 0 = 0
      · exact TB_text m _ (TB_line h q2) hf
      · rw [(sLN_e (fun z => q2 z.1) m 0).1] at hf
        exact absurd hf q2
    · rw [if_neg q]
      exact h
theorem TB_cl0 {A0 : aS} (hA : sCl A0) : TB A0 := by
  obtain ⟨a0, a1, a2, a3, a4, a8, a16, a20, a21, a12, a13, a14, a15⟩ := hA
  have z0 := a4 0 (by decide)
  have z1 := a4 1 (by decide)
  have z2 := a4 2 (by decide)
  have z3 := a4 3 (by decide)
  refine ⟨?_, fun j hj => ?_, fun j hj => ?_, fun j hj => ?_, fun j hj => ?_, ?_⟩
  · unfold TBs; omega
  · omega
  · omega
  · have q := a8 j hj
    exact ⟨by omega, Or.inr q⟩
  · omega
  · unfold TBn; omega
theorem TB_TA {A : aS} (h : TB A) (hw : WFA A) : TA A := by
  obtain ⟨h1, h2, h3, h4, h5, h6⟩ := h
  exact ⟨h1, h2, h3, fun j hj => (h4 j hj).1, h5, h6, hw⟩
/-- a text that was told without fault -/
theorem TA_cl {b : Nat → Int} {n : Int} {A0 : aS} (hn : 0 ≤ n ∧ n ≤ 700) (hA : sCl A0) (hf : (sLN b n 700 (sNext b n A0)) 1 0 = 0) : TA (sLN b n 700 (sNext b n A0)) ∧ TB (sLN b n 700 (sNext b n A0)) ∧ ∀ j : Nat, j < 20 → ¬ ((j : Int) < 4 * (sLN b n 700 (sNext b n A0)) 4 1 ∧ (j : Int) % 4 < (sLN b n 700 (sNext b n A0)) 4 0) → (sLN b n 700 (sNext b n A0)) 8 j = 0 := by
  have h := TB_text 700 _ (TB_next (b := b) (n := n) (TB_cl0 hA)) hf
  exact ⟨TB_TA h (WFA_cl hn hA hf), h, fun j hj hno => ((h.2.2.2.1 j hj).2).resolve_left hno⟩
/-- a text without lines -/
theorem WFA_0 {A0 : aS} (hA : sCl A0) : WFA A0 := by
  obtain ⟨a0, a1, a2, a3, a4, a8, a16, a20, a21, a12, a13, a14, a15⟩ := hA
  refine ⟨by omega, fun k hk q => ?_⟩
  have := a16 k hk
  omega
theorem WI_bg {A W : aS} (hT : TB A) (h : wBeg A W) : WI A W := by
  obtain ⟨h1, h2, h3, h4, h5, h6⟩ := hT
  obtain ⟨b0, b1, b2, b3, b4, b5, b6, b7⟩ := h
  unfold TBs at h1
  unfold TBn at h6
  refine ⟨by omega, fun k hk => by omega, fun j hj => ?_, fun p s hp hs => ?_, fun j hj => ?_, by omega, by omega, by omega, by omega, by omega⟩
  · have q := (h4 j hj).1
    have q2 := b1 j hj
    omega
  · have q := (h4 (p * 4 + s) (by omega)).2
    have q2 := b1 (p * 4 + s) (by omega)
    rcases q with z | z
    · exact Or.inl ⟨by omega, by omega⟩
    · exact Or.inr (by omega)
  · have q2 := b2 j hj
    have k0 := h4 (j * 4) (by omega)
    have k1 := h4 (j * 4 + 1) (by omega)
    have k2 := h4 (j * 4 + 2) (by omega)
    have k3 := h4 (j * 4 + 3) (by omega)
    have m0 := b1 (j * 4) (by omega)
    have m1 := b1 (j * 4 + 1) (by omega)
    have m2 := b1 (j * 4 + 2) (by omega)
    have m3 := b1 (j * 4 + 3) (by omega)
    omega
