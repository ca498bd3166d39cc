def sgM (V k v : Int) : Prop := (5 ≤ V ∧ V ≤ 10 ∧ k = 5 ∧ v = V - 5) ∨ (V = 11 ∧ k = 4 ∧ v = 43) ∨ (V = 12 ∧ k = 4 ∧ v = 45) ∨ (V = 13 ∧ k = 4 ∧ v = 42) ∨ (V = 14 ∧ k = 4 ∧ v = 47) ∨ (V = 15 ∧ k = 4 ∧ v = 40) ∨ (V = 16 ∧ k = 4 ∧ v = 41) ∨ (V = 17 ∧ k = 4 ∧ v = 59)
/-- a token as the class says it, and as the reference does -/
def tkM (K V k v : Int) : Prop := (K = 0 ∧ k = 0) ∨ (K = 1 ∧ k = 2 ∧ v = V) ∨ (K = 2 ∧ k = 1 ∧ v = rp V) ∨ (K = 3 ∧ k = 3 ∧ 0 ≤ v ∧ min v 100000 = V) ∨ (K = 4 ∧ sgM V k v) ∨ (K = 5 ∧ (k = 6 ∨ (k = 4 ∧ v = 37)))
theorem lwn_in : ∀ (r : List Int) (c k : Int), 0 ≤ k → lwn r c k = -1 ∨ (k ≤ lwn r c k ∧ lwn r c k < k + r.length)
  | [], _, _, _ => Or.inl rfl
  | x :: r, c, k, h => by
    rw [lwn]
    by_cases h1 : x = c
    · rw [if_pos h1]
      refine Or.inr ⟨Int.le_refl _, ?_⟩
      rw [List.length_cons]
      omega
    · rw [if_neg h1]
      rcases lwn_in r c (k + 1) (by omega) with h2 | h2
      · exact Or.inl h2
      · rw [List.length_cons]
        exact Or.inr ⟨by omega, by omega⟩
theorem rp_in : ∀ k : Nat, k < 24 → 0 ≤ rp k := by decide +kernel
theorem lw_rp (c : Int) : (lw c = -1 ∧ rp (lw c) = -1) ∨ (0 ≤ lw c ∧ lw c < 24 ∧ 0 ≤ rp (lw c)) := by
  rcases lwn_in wl c 0 (by decide) with h | h
  · have h1 : lw c = -1 := h
    rw [h1]
    exact Or.inl ⟨rfl, rfl⟩
  · have h1 : 0 ≤ lw c ∧ lw c < 24 := ⟨h.1, by have h2 := h.2; rw [wl_24] at h2; exact h2⟩
    have h3 := rp_in (lw c).toNat (by omega)
    rw [show (((lw c).toNat : Nat) : Int) = lw c by omega] at h3
    exact Or.inr ⟨h1.1, h1.2, h3⟩

theorem sg_a {c d k : Int} (h : c ≠ 60 ∧ c ≠ 61 ∧ c ≠ 62) (hk : (k = 4 ∧ (c = 59 ∨ c = 40 ∨ c = 41 ∨ c = 43 ∨ c = 45 ∨ c = 42 ∨ c = 47 ∨ c = 37)) ∨ (k = 6 ∧ ¬ (c = 59 ∨ c = 40 ∨ c = 41 ∨ c = 43 ∨ c = 45 ∨ c = 42 ∨ c = 47 ∨ c = 37))) : sgW c d = 1 ∧ (sgV c d = 0 → k = 6 ∨ (k = 4 ∧ c = 37)) ∧ (sgV c d ≠ 0 → sgM (sgV c d) k c) := by
  rcases hk with ⟨rfl, hk⟩ | ⟨rfl, hk⟩
  · rcases hk with rfl | rfl | rfl | rfl | rfl | rfl | rfl | rfl
    · have q := sg_59 (d := d)
      rw [q.1, q.2]
      exact ⟨rfl, fun h9 => absurd h9 (by decide), fun _ => by unfold sgM; decide⟩
    · have q := sg_40 (d := d)
      rw [q.1, q.2]
      exact ⟨rfl, fun h9 => absurd h9 (by decide), fun _ => by unfold sgM; decide⟩
    · have q := sg_41 (d := d)
      rw [q.1, q.2]
      exact ⟨rfl, fun h9 => absurd h9 (by decide), fun _ => by unfold sgM; decide⟩
    · have q := sg_43 (d := d)
      rw [q.1, q.2]
      exact ⟨rfl, fun h9 => absurd h9 (by decide), fun _ => by unfold sgM; decide⟩
    · have q := sg_45 (d := d)
      rw [q.1, q.2]
      exact ⟨rfl, fun h9 => absurd h9 (by decide), fun _ => by unfold sgM; decide⟩
    · have q := sg_42 (d := d)
      rw [q.1, q.2]
      exact ⟨rfl, fun h9 => absurd h9 (by decide), fun _ => by unfold sgM; decide⟩
    · have q := sg_47 (d := d)
      rw [q.1, q.2]
      exact ⟨rfl, fun h9 => absurd h9 (by decide), fun _ => by unfold sgM; decide⟩
    · have q := sg_no (c := 37) (d := d) (by decide)
      rw [q.1, q.2]
      exact ⟨rfl, fun _ => Or.inr ⟨rfl, rfl⟩, fun h9 => absurd rfl h9⟩
  · have q := sg_no (c := c) (d := d) (by omega)
    rw [q.1, q.2]
    exact ⟨rfl, fun _ => Or.inl rfl, fun h9 => absurd rfl h9⟩
theorem sg_b {c d x2 x3 r nx p : Int} (hc : c = 60 ∨ c = 62 ∨ c = 61) (h2 : (x2 = 0 ∨ x2 = 1) ∧ (x2 = 1 ↔ c ≠ 61 ∧ d = 61)) (h3 : (x3 = 0 ∨ x3 = 1) ∧ (x3 = 1 ↔ c = 60 ∧ d = 62)) (hn : ((x2 = 1 ∨ x3 = 1) ∧ nx = p + 2) ∨ (x2 = 0 ∧ x3 = 0 ∧ nx = p + 1)) (hr : (c = 61 ∧ r = 2) ∨ (c = 60 ∧ x2 ≠ 0 ∧ r = 1) ∨ (c = 60 ∧ x2 = 0 ∧ x3 ≠ 0 ∧ r = 3) ∨ (c = 60 ∧ x2 = 0 ∧ x3 = 0 ∧ r = 0) ∨ (c = 62 ∧ x2 ≠ 0 ∧ r = 4) ∨ (c = 62 ∧ x2 = 0 ∧ r = 5)) : nx = p + sgW c d ∧ sgV c d ≠ 0 ∧ sgM (sgV c d) 5 r := by
  rcases hr with ⟨rfl, rfl⟩ | ⟨rfl, h8, rfl⟩ | ⟨rfl, h8, h9, rfl⟩ | ⟨rfl, h8, h9, rfl⟩ | ⟨rfl, h8, rfl⟩ | ⟨rfl, h8, rfl⟩
  · have q := sg_61 (d := d)
    rw [q.1, q.2]
    exact ⟨by omega, by decide, Or.inl ⟨by decide, by decide, rfl, rfl⟩⟩
  · have q := (sg_60 (d := d)).1 (h2.2.mp (by omega)).2
    rw [q.1, q.2]
    exact ⟨by omega, by decide, Or.inl ⟨by decide, by decide, rfl, rfl⟩⟩
  · have q := (sg_60 (d := d)).2.1 (h3.2.mp (by omega)).2
    rw [q.1, q.2]
    exact ⟨by omega, by decide, Or.inl ⟨by decide, by decide, rfl, rfl⟩⟩
  · have q := (sg_60 (d := d)).2.2 (fun e => by have := h2.2.mpr ⟨by decide, e⟩; omega) (fun e => by have := h3.2.mpr ⟨rfl, e⟩; omega)
    rw [q.1, q.2]
    exact ⟨by omega, by decide, Or.inl ⟨by decide, by decide, rfl, rfl⟩⟩
  · have q := (sg_62 (d := d)).1 (h2.2.mp (by omega)).2
    rw [q.1, q.2]
    exact ⟨by omega, by decide, Or.inl ⟨by decide, by decide, rfl, rfl⟩⟩
  · have q := (sg_62 (d := d)).2 (fun e => by have := h2.2.mpr ⟨by decide, e⟩; omega)
    have h9 : x3 = 0 := by rcases h3.1 with z | z; exact z; have := (h3.2.mp z).1; omega
    rw [q.1, q.2]
    exact ⟨by omega, by decide, Or.inl ⟨by decide, by decide, rfl, rfl⟩⟩
