theorem zct_z {f : Nat → Bool} : ∀ (n : Nat), zct f n = 0 → ∀ i, i < n → f i = false
  | 0, _, i, hi => absurd hi (Nat.not_lt_zero _)
  | n + 1, h, i, hi => by
    rw [zct_s] at h
    have h1 := (zct_le f n).1
    by_cases q : f n = true
    · rw [if_pos q] at h
      omega
    · rw [if_neg q] at h
      rcases Nat.lt_succ_iff_lt_or_eq.mp hi with z | z
      · exact zct_z n (by omega) i z
      · subst z
        simpa using q
theorem rel_01n : ∀ (m : Nat) (A : aS), (∀ j : Nat, (j : Int) < A 22 0 → 1 ≤ bnd (A 26 j)) → sReln 0 m A = sReln 1 m A
  | 0, A, _ => rfl
  | m + 1, A, h => by
    rw [sReln, sReln]
    by_cases q : 0 < A 22 0
    · have h1 := h (A 22 0 - 1).toNat (by omega)
      rw [if_pos ⟨q, by omega⟩, if_pos ⟨q, by omega⟩]
      refine rel_01n m _ (fun j hj => ?_)
      rw [sWrite_22 (by decide) (by decide) (by decide), gOp_f (by decide), up_eq] at hj
      rw [sWrite_22 (by decide) (by decide) (by decide), gOp_f (by decide), up_f (by decide)]
      exact h j (by omega)
    · rw [if_neg (fun z => q z.1), if_neg (fun z => q z.1)]
theorem rel_01 {A : aS} (h : ∀ j : Nat, (j : Int) < A 22 0 → 1 ≤ bnd (A 26 j)) : sRel 0 A = sRel 1 A := rel_01n _ A h
theorem szW {k q : Int} {A : aS} : A 20 0 ≤ (sWrite k q A) 20 0 := by
  unfold sWrite
  split
  · rw [up_eq]; omega
  · exact Int.le_refl _
theorem szReln {r : Int} : ∀ (m : Nat) (A : aS), A 20 0 ≤ (sReln r m A) 20 0
  | 0, A => Int.le_refl _
  | m + 1, A => by
    rw [sReln]
    split
    · refine Int.le_trans ?_ (szReln m _)
      refine Int.le_trans ?_ szW
      rw [gOp_f (by decide), up_f (by decide)]
      exact Int.le_refl _
    · exact Int.le_refl _
theorem szRel {r : Int} {A : aS} : A 20 0 ≤ (sRel r A) 20 0 := szReln _ A
theorem sCnt_f {b : Nat → Int} {n : Int} {A : aS} {f j : Nat} (h1 : f ≠ 1) (h2 : f ≠ 2) : (sCnt b n A) f j = A f j := by
  unfold sCnt
  split
  · exact sFail_fn h1 h2
  · rfl
theorem sCount_f {b : Nat → Int} {n : Int} {A : aS} {f j : Nat} (h1 : f ≠ 1) (h2 : f ≠ 2) (h3 : f ≠ 21) : (sCount b n A) f j = A f j := by
  unfold sCount
  split
  · rw [up_f h3]; exact sCnt_f h1 h2
  · exact sCnt_f h1 h2
theorem sPush_f {b : Nat → Int} {n k : Int} {A : aS} {f j : Nat} (h0 : f ≠ 0) (h1 : f ≠ 26) (h2 : f ≠ 22) : (sPush b n k A) f j = A f j := by
  unfold sPush
  split
  · rw [sNext_f h0, up_f h2, up_f h1]
  · rw [sNext_f h0]
theorem sLeaf_f {b : Nat → Int} {n k q : Int} {A : aS} {f j : Nat} (h0 : 3 ≤ f) (h1 : f < 18) : (sLeaf b n k q A) f j = A f j := by
  unfold sLeaf
  split
  · rw [sNext_f (by omega), up_f (by omega), sWrite_22 (by omega) (by omega) (by omega), gLeaf_f (by omega), sCount_f (by omega) (by omega) (by omega)]
  · rw [sCount_f (by omega) (by omega) (by omega)]
theorem sNot_f {b : Nat → Int} {n : Int} {A : aS} {f j : Nat} (h0 : 3 ≤ f) (h1 : f < 21) : (sNot b n A) f j = A f j := by
  unfold sNot
  split
  · rw [sPush_f (by omega) (by omega) (by omega), sCount_f (by omega) (by omega) (by omega)]
  · rw [sCount_f (by omega) (by omega) (by omega)]
theorem sOpen_f {b : Nat → Int} {n : Int} {A : aS} {f j : Nat} (h0 : 3 ≤ f) (h1 : f < 22) : (sOpen b n A) f j = A f j := by
  unfold sOpen
  split
  · exact sFail_fn (by omega) (by omega)
  · rw [sPush_f (by omega) (by omega) (by omega), up_f (by omega), up_f (by omega)]
theorem sSide_f {b : Nat → Int} {n : Int} {A : aS} {f j : Nat} (h0 : 3 ≤ f) (h1 : f < 18) : (sSide b n A) f j = A f j := by
  unfold sSide
  split
  · exact sOpen_f h0 (by omega)
  · split
    · exact sNot_f h0 (by omega)
    · split
      · split
        · rw [sLeaf_f h0 h1]; exact sFail_fn (by omega) (by omega)
        · exact sLeaf_f h0 h1
      · split
        · exact sLeaf_f h0 h1
        · exact sFail_fn (by omega) (by omega)
theorem sJB_f {b : Nat → Int} {n k : Int} {A : aS} {f j : Nat} (h0 : 3 ≤ f) (h1 : f < 21) : (sJB b n k A) f j = A f j := by
  unfold sJB
  split
  · rw [sPush_f (by omega) (by omega) (by omega), up_f (by omega), up_f (by omega), sCount_f (by omega) (by omega) (by omega)]
  · rw [sCount_f (by omega) (by omega) (by omega)]
theorem sJoint_f {b : Nat → Int} {n k : Int} {A : aS} {f j : Nat} (h0 : 3 ≤ f) (h1 : f < 21) : (sJoint b n k A) f j = (sJR k A) f j := by
  unfold sJoint
  split
  · exact sFail_fn (by omega) (by omega)
  · exact sJB_f h0 h1
theorem sClose_f {b : Nat → Int} {n : Int} {A : aS} {f j : Nat} (h0 : 3 ≤ f) (h1 : f < 21) : (sClose b n A) f j = (sRel 1 A) f j := by
  unfold sClose
  rw [sNext_f (by omega), up_f (by omega), up_f (by omega)]
theorem sBehind_f {b : Nat → Int} {n : Int} {A : aS} {f j : Nat} (h0 : 3 ≤ f) (h1 : f < 18) : (sBehind b n A) f j = A f j := by
  unfold sBehind
  split
  · rw [sJoint_f h0 (by omega)]; exact sRel_f (by omega) (by omega) (by omega) (by omega) (by omega)
  · split
    · split
      · exact sFail_fn (by omega) (by omega)
      · rfl
    · rw [sClose_f h0 (by omega)]; exact sRel_f (by omega) (by omega) (by omega) (by omega) (by omega)
theorem szBehind {b : Nat → Int} {n : Int} {A : aS} : A 20 0 ≤ (sBehind b n A) 20 0 := by
  unfold sBehind
  split
  · rw [sJoint_f (by decide) (by decide)]; exact szRel
  · split
    · split
      · rw [sFail_fn (by decide) (by decide)]; exact Int.le_refl _
      · exact Int.le_refl _
    · rw [sClose_f (by decide) (by decide)]; exact szRel
theorem szLeaf {b : Nat → Int} {n k q : Int} {A : aS} : A 20 0 ≤ (sLeaf b n k q A) 20 0 := by
  unfold sLeaf
  split
  · rw [sNext_f (by decide), up_f (by decide)]
    refine Int.le_trans ?_ szW
    rw [gLeaf_f (by decide), sCount_f (by decide) (by decide) (by decide)]
    exact Int.le_refl _
  · rw [sCount_f (by decide) (by decide) (by decide)]; exact Int.le_refl _
theorem szLeaf2 {b : Nat → Int} {n k q : Int} {A : aS} (h1 : A 20 0 ≤ A 21 0) (hf : (sLeaf b n k q A) 1 0 = 0) : A 20 0 < (sLeaf b n k q A) 20 0 := by
  have h0 : A 1 0 = 0 := by
    by_cases q : A 1 0 = 0
    · exact q
    · unfold sLeaf at hf
      rw [sCount_ne q, if_neg q] at hf
      exact hf
  have h21 : A 21 0 < 64 := by
    rcases Int.lt_or_le (A 21 0) 64 with q | q
    · exact q
    · unfold sLeaf at hf
      rw [sCount_64 q, if_neg (sFail_f (by decide))] at hf
      exact absurd hf (sFail_f (by decide))
  rw [sLeaf_ok h0 h21 (by omega), sNext_f (by decide), up_f (by decide), up_eq]
  omega
theorem sPush_24 {b : Nat → Int} {n k : Int} {A : aS} : (sPush b n k A) 24 0 = A 24 0 := sPush_f (by decide) (by decide) (by decide)
theorem szSide {b : Nat → Int} {n : Int} {A : aS} (h1 : A 20 0 ≤ A 21 0) (hf : (sSide b n A) 1 0 = 0) : A 20 0 ≤ (sSide b n A) 20 0 ∧ (A 24 0 ≠ 0 → (sSide b n A) 24 0 = 0 → A 20 0 < (sSide b n A) 20 0) := by
  unfold sSide at *
  split at hf
  · rw [if_pos (by assumption), sOpen_f (by decide) (by decide)]
    refine ⟨Int.le_refl _, fun q q2 => absurd q2 ?_⟩
    unfold sOpen
    split
    · rw [sFail_fn (by decide) (by decide)]; exact q
    · rw [sPush_24, up_f (by decide), up_f (by decide)]; exact q
  · rw [if_neg (by assumption)]
    split at hf
    · rw [if_pos (by assumption), sNot_f (by decide) (by decide)]
      refine ⟨Int.le_refl _, fun q q2 => absurd q2 ?_⟩
      unfold sNot
      split
      · rw [sPush_24, sCount_f (by decide) (by decide) (by decide)]; exact q
      · rw [sCount_f (by decide) (by decide) (by decide)]; exact q
    · rw [if_neg (by assumption)]
      split at hf
      · rw [if_pos (by assumption)]
        split at hf
        · rw [if_pos (by assumption)]
          unfold sLeaf at hf
          rw [sCount_ne (sFail_f (by decide)), if_neg (sFail_f (by decide))] at hf
          exact absurd hf (sFail_f (by decide))
        · rw [if_neg (by assumption)]
          exact ⟨szLeaf, fun _ _ => szLeaf2 h1 hf⟩
      · rw [if_neg (by assumption)]
        split at hf
        · rw [if_pos (by assumption)]
          exact ⟨szLeaf, fun _ _ => szLeaf2 h1 hf⟩
        · exact absurd hf (sFail_f (by decide))
theorem sEL_f {b : Nat → Int} {n : Int} {f j : Nat} (h0 : 3 ≤ f) (h1 : f < 18) : ∀ (m : Nat) (go : Int) (A : aS), (sEL b n m go A) f j = A f j
  | 0, _, A => rfl
  | m + 1, go, A => by
    rw [sEL]
    split
    · split
      · rw [sEL_f h0 h1 m, sSide_f h0 h1]
      · rw [sEL_f h0 h1 m, sBehind_f h0 h1]
    · rfl
theorem sBeg_f {k : Int} {A : aS} {f j : Nat} (h1 : f ≠ 16) (h2 : f < 22) : (sBeg k A) f j = A f j := by
  unfold sBeg sLB sB0
  rw [up_f (by omega)]
  split
  · rw [up_f h1, up_f (by omega), up_f (by omega), up_f (by omega), up_f (by omega)]
  · rw [up_f (by omega), up_f (by omega), up_f (by omega), up_f (by omega)]
theorem sBeg_16 {k : Int} {A : aS} {j : Nat} (hk : 0 ≤ k ∧ k < 7) : (sBeg k A) 16 j = if j = k.toNat then A 20 0 else A 16 j := by
  unfold sBeg sLB sB0
  rw [up_f (by decide), if_pos hk, up_at]
  simp (disch := decide) only [up_f]
theorem sEL_side {b : Nat → Int} {n : Int} {A : aS} {m : Nat} (h0 : A 1 0 = 0) (hm : 1 ≤ m) (hw : A 24 0 ≠ 0) : sEL b n m 1 A = sEL b n (m - 1) 1 (sSide b n A) := by
  obtain ⟨k, rfl⟩ : ∃ k, m = k + 1 := ⟨m - 1, by omega⟩
  rw [sEL, if_pos ⟨h0, by decide⟩, if_pos hw]
  rfl
theorem sEL_beh {b : Nat → Int} {n : Int} {A : aS} {m : Nat} (h0 : A 1 0 = 0) (hm : 1 ≤ m) (hw : A 24 0 = 0) : sEL b n m 1 A = sEL b n (m - 1) (sGo b n A) (sBehind b n A) := by
  obtain ⟨k, rfl⟩ : ∃ k, m = k + 1 := ⟨m - 1, by omega⟩
  rw [sEL, if_pos ⟨h0, by decide⟩, if_neg (by omega)]
  rfl
theorem sEL_semi {b : Nat → Int} {n : Int} {A : aS} {m : Nat} (h0 : A 1 0 = 0) (hm : 1 ≤ m) (hw : A 24 0 = 0) (ho : A 23 0 = 0) (hk : tK b n A = 4) (hv : tV b n A = 17) : sEL b n m 1 A = A := by
  have hn : sKnot b n A = -1 := sKnot_n (by omega) (by omega) (by omega)
  rw [sEL_beh h0 hm hw]
  have h1 : sBehind b n A = A := by unfold sBehind; rw [if_neg (by omega), if_pos (Or.inl ho), if_neg (by omega)]
  have h2 : sGo b n A = 0 := by unfold sGo; rw [if_neg (by omega), if_pos (Or.inl ho)]
  rw [h1, h2]
  exact sEL_e (by omega) _
theorem FT_E {b : Nat → Int} {n k : Int} {w : Nat} {A B : aS} {G : zH} (h : FT w (sSemi b n B) G) (he : sEL b n 700 1 (sBeg k A) = B) : FT w (sSemi b n (sE b n k A)) G := by
  refine FT_semi h ?_ ?_ ?_
  all_goals
    unfold sE
    rw [he, sFin_f (by decide), sRel_0 (by decide)]
