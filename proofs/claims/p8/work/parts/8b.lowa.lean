/-! the halves of the reference's rows: below them lies what is kept -/
def hhL : List (Nat × Nat) := [(2059, 4), (2061, 4), (2062, 4), (2063, 5), (2064, 5), (2065, 20), (2066, 5), (2067, 5), (2068, 5), (2069, 5), (2070, 3), (2071, 7), (2072, 7), (2073, 7), (2074, 64), (2075, 64), (2076, 64)]
def hh (r : Nat) : Nat := (hhL.lookup r).getD 0
def LHr (G G1 : zH) : Prop := ∀ r a j : Nat, j < hh r → G1.1 r a j = G.1 r a j
theorem LHr_rf {G : zH} : LHr G G := fun _ _ _ _ => rfl
theorem LHr_c {G G1 G2 : zH} (h2 : LHr G1 G2) (h : LHr G G1) : LHr G G2 := fun r a j hj => (h2 r a j hj).trans (h r a j hj)
theorem LHr_I {G G1 : zH} {r a i h : Nat} {x : Int} (hr : hh r ≤ h) (hi : h ≤ i) (hL : LHr G G1) : LHr G (zuI G1 r a i x) := fun r' a' j hj => by
  rw [zuI_1, if_neg (fun q => by have q1 := q.1; subst q1; have q3 := q.2.2; omega)]
  exact hL r' a' j hj
theorem LHr_J {G G1 : zH} {r a i : Nat} {x : Int} (hL : LHr G G1) : LHr G (zuJ G1 r a i x) := hL
theorem hh_in : ∀ r : Nat, r ∉ [2059, 2061, 2062, 2063, 2064, 2065, 2066, 2067, 2068, 2069, 2070, 2071, 2072, 2073, 2074, 2075, 2076] → hh r = 0 := by
  intro r hr
  have e : ∀ (l : List (Nat × Nat)), (∀ q ∈ l, r ≠ q.1) → l.lookup r = none := by
    intro l
    induction l with
    | nil => intro _; rfl
    | cons q l ih =>
      intro h
      have h1 : (r == q.1) = false := beq_false_of_ne (h q List.mem_cons_self)
      rw [show q = (q.1, q.2) from rfl, List.lookup_cons, h1]
      exact ih (fun q2 h2 => h q2 (List.mem_cons_of_mem _ h2))
  unfold hh
  rw [e hhL (fun q hq he => hr (by rw [he]; exact List.mem_map.mpr ⟨q, hq, rfl⟩ : r ∈ hhL.map (fun q => q.1)))]
  rfl
theorem LHr_z {G G1 G2 : zH} {rs : List Nat} (hz : zsm rs G1 G2) (hr : ∀ r ∈ [2059, 2061, 2062, 2063, 2064, 2065, 2066, 2067, 2068, 2069, 2070, 2071, 2072, 2073, 2074, 2075, 2076], r ∉ rs) (h : LHr G G1) : LHr G G2 := fun r a j hj => by
  by_cases q : r ∈ [2059, 2061, 2062, 2063, 2064, 2065, 2066, 2067, 2068, 2069, 2070, 2071, 2072, 2073, 2074, 2075, 2076]
  · rw [hz.1 r (hr r q)]
    exact h r a j hj
  · rw [hh_in r q] at hj
    exact absurd hj (Nat.not_lt_zero _)

