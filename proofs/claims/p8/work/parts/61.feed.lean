/-- what comes behind the tape -/
def ff (a b c d e k : Int) : Int := if k < 4 then byt a (24 - 8 * k) else if k < 8 then byt b (24 - 8 * (k - 4)) else if k < 12 then byt c (24 - 8 * (k - 8)) else if k < 16 then byt d (24 - 8 * (k - 12)) else byt e (24 - 8 * (k - 16))
theorem fill_step {f g h : Nat → Int} {T M v : Int} {n : Nat} (hinv : ∀ i : Nat, f i = if T ≤ (i : Int) ∧ (i : Int) < M then h i else g i) (hn : (n : Int) = M) (hT : T ≤ M) (hv : v = h n) : ∀ i : Nat, (if i = n then v else f i) = if T ≤ (i : Int) ∧ (i : Int) < M + 1 then h i else g i := by
  intro i
  by_cases hi : i = n
  · subst hi
    rw [if_pos rfl, if_pos ⟨by omega, by omega⟩]
    exact hv
  · rw [if_neg hi, hinv i]
    by_cases h1 : T ≤ (i : Int) ∧ (i : Int) < M
    · rw [if_pos h1, if_pos ⟨h1.1, by omega⟩]
    · rw [if_neg h1, if_neg (by omega)]

