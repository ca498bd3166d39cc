theorem tkN_0 {b : Nat → Int} {n p : Int} (h : ¬ p < n) : tkN b n p = p := by unfold tkN; rw [if_pos h]
theorem rp_le : ∀ k : Nat, k < 24 → rp k ≤ 23 := by decide +kernel
theorem sgM_k {V k v : Int} (h : sgM V k v) : (k = 5 ∧ 0 ≤ v ∧ v ≤ 5) ∨ k = 4 := by unfold sgM at h; omega
theorem tkK_2 {b : Nat → Int} {n p : Int} (h : tkK b n p = 2) : 0 ≤ tkV b n p ∧ tkV b n p < 24 := by
  unfold tkK at h
  unfold tkV
  split at h
  · exact absurd h (by decide)
  · rename_i h1
    rw [if_neg h1]
    split at h
    · rename_i h2
      rw [if_pos h2]
      split at h
      · exact absurd h (by decide)
      · rename_i h3
        rw [if_neg h3]
        split at h
        · rename_i h4
          rw [if_pos h4]
          have h5 := lw_rp (cd b p (sp fL b n p))
          omega
        · exact absurd h (by decide)
    · split at h
      · exact absurd h (by decide)
      · split at h <;> exact absurd h (by decide)
theorem tkK_0 {b : Nat → Int} {n p : Int} (h : p < n) : tkK b n p ≠ 0 := by
  unfold tkK
  rw [if_neg (by omega)]
  split
  · split
    · decide
    · split <;> decide
  · split
    · decide
    · split <;> decide
theorem tkM_w {b : Nat → Int} {n p k v : Int} (h : tkM (tkK b n p) (tkV b n p) k v) : (k = 5 → 0 ≤ v ∧ v ≤ 5) ∧ (k = 1 → 0 ≤ v ∧ v ≤ 23) ∧ (k = 3 → 0 ≤ v) ∧ (k ≠ 0 → p < n) := by
  have hlt : k ≠ 0 → p < n := fun hk => by
    rcases Int.lt_or_le p n with q | q
    · exact q
    · have h0 := (tk_0 (b := b) (n := n) (p := p) (by omega)).1
      rw [h0] at h
      unfold tkM at h
      omega
  refine ⟨fun q => ?_, fun q => ?_, fun q => ?_, hlt⟩
  · rcases h with h | h | h | h | h | h
    · omega
    · omega
    · omega
    · omega
    · have := sgM_k h.2; omega
    · omega
  · rcases h with h | h | h | h | h | h
    · omega
    · omega
    · have h1 := tkK_2 h.1
      have h2 := rp_in (tkV b n p).toNat (by omega)
      have h3 := rp_le (tkV b n p).toNat (by omega)
      rw [show (((tkV b n p).toNat : Nat) : Int) = tkV b n p by omega] at h2 h3
      omega
    · omega
    · have := sgM_k h.2; omega
    · omega
  · rcases h with h | h | h | h | h | h
    · omega
    · omega
    · omega
    · omega
    · have := sgM_k h.2; omega
    · omega
theorem TI_of {w : Nat} {G1 : zH} {b : Nat → Int} {n a : Int} (hs : G1.1 1006 w 0 = n) (ha : a ≤ n) (h1 : G1.1 1010 w 0 = a) (h2 : G1.1 1007 w 0 = tkN b n a) (h3 : tkM (tkK b n a) (tkV b n a) (G1.1 1008 w 0) (G1.1 1009 w 0)) : TI w G1 := by
  obtain ⟨k1, k2, k3, k4⟩ := tkM_w h3
  have hg : a < n → a < tkN b n a ∧ tkN b n a ≤ n := fun q => tkN_gt q
  have hz : ¬ a < n → tkN b n a = a := fun q => tkN_0 q
  unfold TI
  rw [hs, h1, h2]
  refine ⟨?_, ?_, fun q => ?_, k1, k2, k3⟩
  · rcases Int.lt_or_le a n with q | q
    · exact (hg q).2
    · rw [hz (by omega)]; exact ha
  · rcases Int.lt_or_le a n with q | q
    · exact Int.le_of_lt (hg q).1
    · rw [hz (by omega)]; exact Int.le_refl _
  · exact (hg (k4 q)).1

