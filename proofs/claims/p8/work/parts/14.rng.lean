/-! ranges that hang on the place -/
theorem rs_2037 (i : Nat) : (zrg 2037 i).1 = 0 ∧ (zrg 2037 i).2 ≤ 5 ∧ (zrg 2037 i).2 ≥ 3 ∧ (i = 0 → (zrg 2037 i).2 = 4) ∧ (i = 3 → (zrg 2037 i).2 = 3) ∧ (i ≠ 0 → i ≠ 3 → (zrg 2037 i).2 = 5) := by
  have e : zrg 2037 i = zcl (0, if i = 0 then 4 else if i = 3 then 3 else 5) := rfl
  rw [e]
  simp only [zcl]
  omega
theorem zX0_2037 : ∀ j, j < 4 → zX0.getD j 0 = (zrg 2037 j).2 := by decide +kernel
