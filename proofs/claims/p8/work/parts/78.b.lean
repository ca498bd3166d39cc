theorem sBeg_g {k : Int} {A : aS} {f j : Nat} (h : f = 27 ∨ f = 28) : (sBeg k A) f j = A f j := by
  unfold sBeg sLB sB0
  rw [up_f (by omega)]
  split
  · rw [up_f (by omega), up_f (by omega), up_f (by omega), up_f (by omega), up_f (by omega)]
  · rw [up_f (by omega), up_f (by omega), up_f (by omega), up_f (by omega)]
theorem sBeg_e (k : Int) (A : aS) : (sBeg k A) 22 0 = 0 ∧ (sBeg k A) 23 0 = 0 ∧ (sBeg k A) 24 0 = 1 ∧ (sBeg k A) 25 0 = 1 ∧ (sBeg k A) 29 0 = 0 := by
  unfold sBeg sLB sB0
  split <;> simp (disch := decide) only [up_f, up_eq, and_self]

