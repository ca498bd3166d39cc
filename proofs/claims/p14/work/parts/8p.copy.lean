theorem zcp_0 {G : zH} {r0 a0 r1 a1 j : Nat} {n : Int} (h : (j : Int) < n) : zcp G r0 a0 r1 a1 (0 : Int).toNat (0 : Int).toNat n.toNat j = G.1 r0 a0 j := by
  show (if 0 ≤ j ∧ j < 0 + n.toNat then G.1 r0 a0 (0 + (j - 0)) else G.1 r1 a1 j) = _
  rw [if_pos (by omega), Nat.sub_zero, Nat.zero_add]
theorem OWw_510 {Γ : zΓ} {w : Nat} {G G1 : zH} {i : Nat} {v : Int} (h : OW Γ w G G1) : OW Γ w G (zuI G1 510 (Γ.2.1 w 1) i v) := OW_w (f := 0) (by decide) h
theorem OWc_510 {Γ : zΓ} {w : Nat} {G G1 : zH} {g : Nat → Int} (h : OW Γ w G G1) : OW Γ w G (zuC G1 510 (Γ.2.1 w 1) g) := OW_c (f := 0) (by decide) h
theorem OWw_2026 {Γ : zΓ} {w : Nat} {G G1 : zH} {i : Nat} {v : Int} (h : OW Γ w G G1) : OW Γ w G (zuI G1 2026 (Γ.2.1 (Γ.2.1 w 1) 0) i v) := OW_w (f := 1) (by decide) h
theorem OWc_2026 {Γ : zΓ} {w : Nat} {G G1 : zH} {g : Nat → Int} (h : OW Γ w G G1) : OW Γ w G (zuC G1 2026 (Γ.2.1 (Γ.2.1 w 1) 0) g) := OW_c (f := 1) (by decide) h
theorem OWw_2027 {Γ : zΓ} {w : Nat} {G G1 : zH} {i : Nat} {v : Int} (h : OW Γ w G G1) : OW Γ w G (zuI G1 2027 (Γ.2.1 (Γ.2.1 w 1) 1) i v) := OW_w (f := 2) (by decide) h
theorem OWc_2027 {Γ : zΓ} {w : Nat} {G G1 : zH} {g : Nat → Int} (h : OW Γ w G G1) : OW Γ w G (zuC G1 2027 (Γ.2.1 (Γ.2.1 w 1) 1) g) := OW_c (f := 2) (by decide) h
theorem OWw_2028 {Γ : zΓ} {w : Nat} {G G1 : zH} {i : Nat} {v : Int} (h : OW Γ w G G1) : OW Γ w G (zuI G1 2028 (Γ.2.1 (Γ.2.1 w 1) 2) i v) := OW_w (f := 3) (by decide) h
theorem OWc_2028 {Γ : zΓ} {w : Nat} {G G1 : zH} {g : Nat → Int} (h : OW Γ w G G1) : OW Γ w G (zuC G1 2028 (Γ.2.1 (Γ.2.1 w 1) 2) g) := OW_c (f := 3) (by decide) h
theorem OWw_2029 {Γ : zΓ} {w : Nat} {G G1 : zH} {i : Nat} {v : Int} (h : OW Γ w G G1) : OW Γ w G (zuI G1 2029 (Γ.2.1 (Γ.2.1 w 1) 3) i v) := OW_w (f := 4) (by decide) h
theorem OWc_2029 {Γ : zΓ} {w : Nat} {G G1 : zH} {g : Nat → Int} (h : OW Γ w G G1) : OW Γ w G (zuC G1 2029 (Γ.2.1 (Γ.2.1 w 1) 3) g) := OW_c (f := 4) (by decide) h
theorem OWw_2030 {Γ : zΓ} {w : Nat} {G G1 : zH} {i : Nat} {v : Int} (h : OW Γ w G G1) : OW Γ w G (zuI G1 2030 (Γ.2.1 (Γ.2.1 w 1) 4) i v) := OW_w (f := 5) (by decide) h
theorem OWc_2030 {Γ : zΓ} {w : Nat} {G G1 : zH} {g : Nat → Int} (h : OW Γ w G G1) : OW Γ w G (zuC G1 2030 (Γ.2.1 (Γ.2.1 w 1) 4) g) := OW_c (f := 5) (by decide) h
theorem OWw_2031 {Γ : zΓ} {w : Nat} {G G1 : zH} {i : Nat} {v : Int} (h : OW Γ w G G1) : OW Γ w G (zuI G1 2031 (Γ.2.1 (Γ.2.1 w 1) 5) i v) := OW_w (f := 6) (by decide) h
theorem OWc_2031 {Γ : zΓ} {w : Nat} {G G1 : zH} {g : Nat → Int} (h : OW Γ w G G1) : OW Γ w G (zuC G1 2031 (Γ.2.1 (Γ.2.1 w 1) 5) g) := OW_c (f := 6) (by decide) h
theorem OWw_2032 {Γ : zΓ} {w : Nat} {G G1 : zH} {i : Nat} {v : Int} (h : OW Γ w G G1) : OW Γ w G (zuI G1 2032 (Γ.2.1 (Γ.2.1 w 1) 6) i v) := OW_w (f := 7) (by decide) h
theorem OWc_2032 {Γ : zΓ} {w : Nat} {G G1 : zH} {g : Nat → Int} (h : OW Γ w G G1) : OW Γ w G (zuC G1 2032 (Γ.2.1 (Γ.2.1 w 1) 6) g) := OW_c (f := 7) (by decide) h
theorem OWw_2033 {Γ : zΓ} {w : Nat} {G G1 : zH} {i : Nat} {v : Int} (h : OW Γ w G G1) : OW Γ w G (zuI G1 2033 (Γ.2.1 (Γ.2.1 w 1) 7) i v) := OW_w (f := 8) (by decide) h
theorem OWc_2033 {Γ : zΓ} {w : Nat} {G G1 : zH} {g : Nat → Int} (h : OW Γ w G G1) : OW Γ w G (zuC G1 2033 (Γ.2.1 (Γ.2.1 w 1) 7) g) := OW_c (f := 8) (by decide) h
theorem OWw_2034 {Γ : zΓ} {w : Nat} {G G1 : zH} {i : Nat} {v : Int} (h : OW Γ w G G1) : OW Γ w G (zuI G1 2034 (Γ.2.1 (Γ.2.1 w 1) 8) i v) := OW_w (f := 9) (by decide) h
theorem OWc_2034 {Γ : zΓ} {w : Nat} {G G1 : zH} {g : Nat → Int} (h : OW Γ w G G1) : OW Γ w G (zuC G1 2034 (Γ.2.1 (Γ.2.1 w 1) 8) g) := OW_c (f := 9) (by decide) h
theorem OWw_2035 {Γ : zΓ} {w : Nat} {G G1 : zH} {i : Nat} {v : Int} (h : OW Γ w G G1) : OW Γ w G (zuI G1 2035 (Γ.2.1 (Γ.2.1 w 1) 9) i v) := OW_w (f := 10) (by decide) h
theorem OWc_2035 {Γ : zΓ} {w : Nat} {G G1 : zH} {g : Nat → Int} (h : OW Γ w G G1) : OW Γ w G (zuC G1 2035 (Γ.2.1 (Γ.2.1 w 1) 9) g) := OW_c (f := 10) (by decide) h
theorem OWw_2048 {Γ : zΓ} {w : Nat} {G G1 : zH} {i : Nat} {v : Int} (h : OW Γ w G G1) : OW Γ w G (zuI G1 2048 (Γ.2.1 w 2) i v) := OW_w (f := 11) (by decide) h
theorem OWc_2048 {Γ : zΓ} {w : Nat} {G G1 : zH} {g : Nat → Int} (h : OW Γ w G G1) : OW Γ w G (zuC G1 2048 (Γ.2.1 w 2) g) := OW_c (f := 11) (by decide) h
theorem OWw_2049 {Γ : zΓ} {w : Nat} {G G1 : zH} {i : Nat} {v : Int} (h : OW Γ w G G1) : OW Γ w G (zuI G1 2049 (Γ.2.1 w 3) i v) := OW_w (f := 12) (by decide) h
theorem OWc_2049 {Γ : zΓ} {w : Nat} {G G1 : zH} {g : Nat → Int} (h : OW Γ w G G1) : OW Γ w G (zuC G1 2049 (Γ.2.1 w 3) g) := OW_c (f := 12) (by decide) h
theorem OWw_2050 {Γ : zΓ} {w : Nat} {G G1 : zH} {i : Nat} {v : Int} (h : OW Γ w G G1) : OW Γ w G (zuI G1 2050 (Γ.2.1 w 4) i v) := OW_w (f := 13) (by decide) h
theorem OWc_2050 {Γ : zΓ} {w : Nat} {G G1 : zH} {g : Nat → Int} (h : OW Γ w G G1) : OW Γ w G (zuC G1 2050 (Γ.2.1 w 4) g) := OW_c (f := 13) (by decide) h
theorem OWw_2051 {Γ : zΓ} {w : Nat} {G G1 : zH} {i : Nat} {v : Int} (h : OW Γ w G G1) : OW Γ w G (zuI G1 2051 (Γ.2.1 w 5) i v) := OW_w (f := 14) (by decide) h
theorem OWc_2051 {Γ : zΓ} {w : Nat} {G G1 : zH} {g : Nat → Int} (h : OW Γ w G G1) : OW Γ w G (zuC G1 2051 (Γ.2.1 w 5) g) := OW_c (f := 14) (by decide) h
theorem OWw_2052 {Γ : zΓ} {w : Nat} {G G1 : zH} {i : Nat} {v : Int} (h : OW Γ w G G1) : OW Γ w G (zuI G1 2052 (Γ.2.1 w 6) i v) := OW_w (f := 15) (by decide) h
theorem OWc_2052 {Γ : zΓ} {w : Nat} {G G1 : zH} {g : Nat → Int} (h : OW Γ w G G1) : OW Γ w G (zuC G1 2052 (Γ.2.1 w 6) g) := OW_c (f := 15) (by decide) h
theorem OWw_2053 {Γ : zΓ} {w : Nat} {G G1 : zH} {i : Nat} {v : Int} (h : OW Γ w G G1) : OW Γ w G (zuI G1 2053 (Γ.2.1 w 7) i v) := OW_w (f := 16) (by decide) h
theorem OWc_2053 {Γ : zΓ} {w : Nat} {G G1 : zH} {g : Nat → Int} (h : OW Γ w G G1) : OW Γ w G (zuC G1 2053 (Γ.2.1 w 7) g) := OW_c (f := 16) (by decide) h
theorem OWw_2054 {Γ : zΓ} {w : Nat} {G G1 : zH} {i : Nat} {v : Int} (h : OW Γ w G G1) : OW Γ w G (zuI G1 2054 (Γ.2.1 w 8) i v) := OW_w (f := 17) (by decide) h
theorem OWc_2054 {Γ : zΓ} {w : Nat} {G G1 : zH} {g : Nat → Int} (h : OW Γ w G G1) : OW Γ w G (zuC G1 2054 (Γ.2.1 w 8) g) := OW_c (f := 17) (by decide) h
theorem OWw_809 {Γ : zΓ} {w : Nat} {G G1 : zH} {i : Nat} {v : Int} (h : OW Γ w G G1) : OW Γ w G (zuI G1 809 w i v) := OW_w (f := 18) (by decide) h
theorem OWc_809 {Γ : zΓ} {w : Nat} {G G1 : zH} {g : Nat → Int} (h : OW Γ w G G1) : OW Γ w G (zuC G1 809 w g) := OW_c (f := 18) (by decide) h
theorem OWw_810 {Γ : zΓ} {w : Nat} {G G1 : zH} {i : Nat} {v : Int} (h : OW Γ w G G1) : OW Γ w G (zuI G1 810 w i v) := OW_w (f := 19) (by decide) h
theorem OWc_810 {Γ : zΓ} {w : Nat} {G G1 : zH} {g : Nat → Int} (h : OW Γ w G G1) : OW Γ w G (zuC G1 810 w g) := OW_c (f := 19) (by decide) h
theorem OWw_811 {Γ : zΓ} {w : Nat} {G G1 : zH} {i : Nat} {v : Int} (h : OW Γ w G G1) : OW Γ w G (zuI G1 811 w i v) := OW_w (f := 20) (by decide) h
theorem OWc_811 {Γ : zΓ} {w : Nat} {G G1 : zH} {g : Nat → Int} (h : OW Γ w G G1) : OW Γ w G (zuC G1 811 w g) := OW_c (f := 20) (by decide) h
theorem OWw_812 {Γ : zΓ} {w : Nat} {G G1 : zH} {i : Nat} {v : Int} (h : OW Γ w G G1) : OW Γ w G (zuI G1 812 w i v) := OW_w (f := 21) (by decide) h
theorem OWc_812 {Γ : zΓ} {w : Nat} {G G1 : zH} {g : Nat → Int} (h : OW Γ w G G1) : OW Γ w G (zuC G1 812 w g) := OW_c (f := 21) (by decide) h
theorem OWw_813 {Γ : zΓ} {w : Nat} {G G1 : zH} {i : Nat} {v : Int} (h : OW Γ w G G1) : OW Γ w G (zuI G1 813 w i v) := OW_w (f := 22) (by decide) h
theorem OWc_813 {Γ : zΓ} {w : Nat} {G G1 : zH} {g : Nat → Int} (h : OW Γ w G G1) : OW Γ w G (zuC G1 813 w g) := OW_c (f := 22) (by decide) h
/-- copied, and begun, in the heap -/
def cpS (Γ : zΓ) (w v : Nat) (G G' : zH) : Prop := G'.1 510 (Γ.2.1 w 1) 0 = G.1 510 (Γ.2.1 v 1) 0 ∧ ∀ j : Nat, j < 60 → G'.1 2026 (Γ.2.1 (Γ.2.1 w 1) 0) j = G.1 2026 (Γ.2.1 (Γ.2.1 v 1) 0) j ∧ G'.1 2027 (Γ.2.1 (Γ.2.1 w 1) 1) j = G.1 2027 (Γ.2.1 (Γ.2.1 v 1) 1) j ∧ G'.1 2028 (Γ.2.1 (Γ.2.1 w 1) 2) j = G.1 2028 (Γ.2.1 (Γ.2.1 v 1) 2) j ∧ G'.1 2029 (Γ.2.1 (Γ.2.1 w 1) 3) j = G.1 2029 (Γ.2.1 (Γ.2.1 v 1) 3) j ∧ G'.1 2030 (Γ.2.1 (Γ.2.1 w 1) 4) j = G.1 2030 (Γ.2.1 (Γ.2.1 v 1) 4) j ∧ G'.1 2031 (Γ.2.1 (Γ.2.1 w 1) 5) j = G.1 2031 (Γ.2.1 (Γ.2.1 v 1) 5) j ∧ G'.1 2032 (Γ.2.1 (Γ.2.1 w 1) 6) j = G.1 2032 (Γ.2.1 (Γ.2.1 v 1) 6) j ∧ G'.1 2033 (Γ.2.1 (Γ.2.1 w 1) 7) j = G.1 2033 (Γ.2.1 (Γ.2.1 v 1) 7) j ∧ G'.1 2034 (Γ.2.1 (Γ.2.1 w 1) 8) j = G.1 2034 (Γ.2.1 (Γ.2.1 v 1) 8) j ∧ G'.1 2035 (Γ.2.1 (Γ.2.1 w 1) 9) j = G.1 2035 (Γ.2.1 (Γ.2.1 v 1) 9) j
def cpG (Γ : zΓ) (w v : Nat) (G G' : zH) : Prop := cpS Γ w v G G' ∧ (∀ j : Nat, j < 20 → G'.1 2048 (Γ.2.1 w 2) j = G.1 2048 (Γ.2.1 v 2) j ∧ G'.1 2049 (Γ.2.1 w 3) j = G.1 2049 (Γ.2.1 v 3) j) ∧ (∀ j : Nat, j < 5 → G'.1 2050 (Γ.2.1 w 4) j = G.1 2050 (Γ.2.1 v 4) j ∧ G'.1 2051 (Γ.2.1 w 5) j = G.1 2051 (Γ.2.1 v 5) j ∧ G'.1 2052 (Γ.2.1 w 6) j = G.1 2052 (Γ.2.1 v 6) j ∧ G'.1 2053 (Γ.2.1 w 7) j = G.1 2053 (Γ.2.1 v 7) j) ∧ G'.1 809 w 0 = G.1 809 v 0 ∧ G'.1 810 w 0 = G.1 810 v 0 ∧ G'.1 811 w 0 = G.1 811 v 0 ∧ G'.1 812 w 0 = G.1 812 v 0 ∧ G'.1 813 w 0 = G.1 813 v 0
def bgG (Γ : zΓ) (w b : Nat) (G G' : zH) : Prop := G'.1 510 (Γ.2.1 w 1) 0 = 0 ∧ (∀ j : Nat, j < 20 → G'.1 2048 (Γ.2.1 w 2) j = G.1 2040 (Γ.2.1 b 5) j ∧ G'.1 2049 (Γ.2.1 w 3) j = G.1 2040 (Γ.2.1 b 5) j) ∧ (∀ j : Nat, j < 5 → G'.1 2050 (Γ.2.1 w 4) j = 0 ∧ G'.1 2051 (Γ.2.1 w 5) j = 0 ∧ G'.1 2052 (Γ.2.1 w 6) j = 0 ∧ G'.1 2053 (Γ.2.1 w 7) j = -1) ∧ G'.1 809 w 0 = 0 ∧ G'.1 810 w 0 = G.1 609 b 0 ∧ G'.1 811 w 0 = G.1 611 b 0 ∧ G'.1 812 w 0 = G.1 612 b 0 ∧ G'.1 813 w 0 = -1
/-- a copy, in numbers -/
def wCp (W V : aS) : Prop := W 0 0 = V 0 0 ∧ (∀ f k : Nat, 1 ≤ f → f ≤ 10 → k < 60 → W f k = V f k) ∧ (∀ j : Nat, j < 20 → W 11 j = V 11 j ∧ W 12 j = V 12 j) ∧ (∀ f j : Nat, 13 ≤ f → f ≤ 16 → j < 5 → W f j = V f j) ∧ ∀ f : Nat, 18 ≤ f → f ≤ 22 → W f 0 = V f 0
/-- the numbers that a heap holds, what lies elsewhere as in W -/
def wRd (Γ : zΓ) (w : Nat) (W : aS) (G : zH) : aS := fun f j => if f < 23 then G.1 (wreg f) (wad Γ w f) j else W f j
theorem QW_rd {Γ : zΓ} {w : Nat} {W : aS} {G G' : zH} (h : QW Γ w W G) (ho : OW Γ w G G') : QW Γ w (wRd Γ w W G') G' := by
  refine ⟨fun f a j hf ha => ?_, fun f j hf => ?_⟩
  · rw [ho f a j hf ha]
    show _ = (if 100 + 23 * a + f < 23 then _ else _)
    rw [if_neg (by omega)]
    exact h.1 f a j hf ha
  · show _ = (if f < 23 then _ else _)
    rw [if_pos hf]
theorem wRd_gh {Γ : zΓ} {w : Nat} {W : aS} {G : zH} : wGh (wRd Γ w W G) W := fun f j hf => if_neg (by omega)
theorem wRd_at {Γ : zΓ} {w : Nat} {W : aS} {G : zH} {f j : Nat} (hf : f < 23) : (wRd Γ w W G) f j = G.1 (wreg f) (wad Γ w f) j := if_pos hf
theorem wreg_17 : wreg 17 = 2054 := rfl
theorem QQ_cp {Γ : zΓ} {w v t : Nat} {A V W : aS} {G G' : zH} {rs : List Nat} (hs : zsn rs G G') (hr : (∀ f : Nat, f < 22 → 4 ≤ f → creg f ∉ rs) ∧ 2054 ∉ rs) (hw : QW Γ w W G) (hv : QQ Γ v t A V G) (h8 : G'.2.2 800 w = t) (ho : OW Γ w G G') (hc : cpG Γ w v G G') : ∃ U : aS, QQ Γ w t A U G' ∧ wCp U V ∧ wGh U W ∧ ∀ j : Nat, U 17 j = W 17 j := by
  obtain ⟨⟨c0, c1⟩, c2, c3, c4⟩ := hc
  refine ⟨wRd Γ w W G', ⟨QW_rd hw ho, TV_n hs hr.1 hv.2.1, h8⟩, ⟨?_, fun f k h1 h2 h3 => ?_, fun j hj => ?_, fun f j h1 h2 h3 => ?_, fun f h1 h2 => ?_⟩, wRd_gh, fun j => ?_⟩
  · rw [wRd_at (by decide)]; exact c0.trans (hv.1.2 0 0 (by decide))
  · have q := c1 k h3
    obtain ⟨q1, q2, q3, q4, q5, q6, q7, q8, q9, q10⟩ := q
    rw [wRd_at (by omega)]
    refine Eq.trans ?_ (hv.1.2 f k (by omega))
    rcases (show f = 1 ∨ f = 2 ∨ f = 3 ∨ f = 4 ∨ f = 5 ∨ f = 6 ∨ f = 7 ∨ f = 8 ∨ f = 9 ∨ f = 10 by omega) with rfl | rfl | rfl | rfl | rfl | rfl | rfl | rfl | rfl | rfl <;> assumption
  · rw [wRd_at (by decide), wRd_at (by decide)]
    exact ⟨(c2 j hj).1.trans (hv.1.2 11 j (by decide)), (c2 j hj).2.trans (hv.1.2 12 j (by decide))⟩
  · obtain ⟨q1, q2, q3, q4⟩ := c3 j h3
    rw [wRd_at (by omega)]
    refine Eq.trans ?_ (hv.1.2 f j (by omega))
    rcases (show f = 13 ∨ f = 14 ∨ f = 15 ∨ f = 16 by omega) with rfl | rfl | rfl | rfl <;> assumption
  · obtain ⟨q1, q2, q3, q4, q5⟩ := c4
    rw [wRd_at (by omega)]
    refine Eq.trans ?_ (hv.1.2 f 0 (by omega))
    rcases (show f = 18 ∨ f = 19 ∨ f = 20 ∨ f = 21 ∨ f = 22 by omega) with rfl | rfl | rfl | rfl | rfl <;> assumption
  · rw [wRd_at (by decide), wreg_17, hs 2054 hr.2]
    exact hw.2 17 j (by decide)
theorem QQ_bg {Γ : zΓ} {w b : Nat} {A W : aS} {G G' : zH} {rs : List Nat} (hs : zsn rs G G') (hr : (∀ f : Nat, f < 22 → 4 ≤ f → creg f ∉ rs) ∧ 2054 ∉ rs) (hw : QW Γ w W G) (hT : TV Γ b A G) (h8 : G'.2.2 800 w = b) (ho : OW Γ w G G') (hc : bgG Γ w b G G') : ∃ U : aS, QQ Γ w b A U G' ∧ wBeg A U ∧ wGh U W ∧ ∀ j : Nat, U 17 j = W 17 j := by
  obtain ⟨c0, c1, c2, c3, c4, c5, c6, c7⟩ := hc
  refine ⟨wRd Γ w W G', ⟨QW_rd hw ho, TV_n hs hr.1 hT, h8⟩, ⟨?_, fun j hj => ?_, fun j hj => ?_, ?_, ?_, ?_, ?_, ?_⟩, wRd_gh, fun j => ?_⟩
  · rw [wRd_at (by decide)]; exact c0
  · rw [wRd_at (by decide), wRd_at (by decide)]
    exact ⟨(c1 j hj).1.trans (TV_2040 hT j), (c1 j hj).2.trans (TV_2040 hT j)⟩
  · rw [wRd_at (by decide), wRd_at (by decide), wRd_at (by decide), wRd_at (by decide)]
    exact c2 j hj
  · rw [wRd_at (by decide)]; exact c3
  · rw [wRd_at (by decide)]; exact c4.trans (TV_609 hT)
  · rw [wRd_at (by decide)]; exact c5.trans (TV_611 hT)
  · rw [wRd_at (by decide)]; exact c6.trans (TV_612 hT)
  · rw [wRd_at (by decide)]; exact c7
  · rw [wRd_at (by decide), wreg_17, hs 2054 hr.2]
    exact hw.2 17 j (by decide)
/-- two works have no row in common -/
def AW (Γ : zΓ) (w v : Nat) : Prop := w ≠ v ∧ ∀ f : Nat, f < 23 → wad Γ w f ≠ wad Γ v f
theorem AW_s {Γ : zΓ} {w v : Nat} (h : AW Γ w v) : AW Γ v w := ⟨fun q => h.1 q.symm, fun f hf q => h.2 f hf q.symm⟩
/-- works at v stay, where those at w alone change -/
theorem QQ_ot {Γ : zΓ} {w v t : Nat} {A V : aS} {G G' : zH} {rs : List Nat} (ha : AW Γ w v) (hs : zsn rs G G') (hr : ∀ f : Nat, f < 22 → 4 ≤ f → creg f ∉ rs) (ho : OW Γ w G G') (h8 : G'.2.2 800 v = G.2.2 800 v) (h : QQ Γ v t A V G) : QQ Γ v t A (wRd Γ v (fun f j => G'.1 (wreg ((f - 100) % 23)) ((f - 100) / 23) j) G') G' ∧ ∀ f j : Nat, f < 23 → (wRd Γ v (fun f j => G'.1 (wreg ((f - 100) % 23)) ((f - 100) / 23) j) G') f j = V f j := by
  refine ⟨⟨⟨fun f a j hf hx => ?_, fun f j hf => ?_⟩, TV_n hs hr h.2.1, h8.trans h.2.2⟩, fun f j hf => ?_⟩
  · show _ = (if 100 + 23 * a + f < 23 then _ else _)
    rw [if_neg (by omega)]; dsimp only; rw [show (100 + 23 * a + f - 100) % 23 = f by omega, show (100 + 23 * a + f - 100) / 23 = a by omega]
  · rw [wRd_at hf]
  · rw [wRd_at hf, ho f _ j hf (fun q => ha.2 f hf q.symm)]
    exact h.1.2 f j hf
theorem OW_gh {Γ : zΓ} {w : Nat} {W W' : aS} {G G' : zH} (h : QW Γ w W G) (h' : QW Γ w W' G') (hg : wGh W' W) : OW Γ w G G' := fun f a j hf ha => by
  rw [h'.1 f a j hf ha, h.1 f a j hf ha]
  exact hg _ _ (by omega)

set_option maxHeartbeats 4000000 in
set_option maxRecDepth 100000 in
theorem c_X4_copyFromK {l : Launch} {Γ : zΓ} {G : zH} {w v : Nat} (hX : zXs Γ)  : zMet l Γ yX4_copyFrom cX4_copyFrom 2 none 1 [zr 5 (Γ.2.1 w 1), zr 5 (Γ.2.1 v 1)] G (zpv (fun G' => zsm [510, 2026, 2027, 2028, 2029, 2030, 2031, 2032, 2033, 2034, 2035] G G' ∧ (OW Γ w G G' ∧ cpS Γ w v G G'))) := by
  refine zMet_of RX4 hX (by decide) rfl (Nat.le_of_ble_eq_true rfl) ?_
  intro p e s m args below meth c C hr hlk
  show Z p l e (zrm 1) s m args below meth c Γ 2 0 0 (MQ below (zQc Γ (zpv (fun G' => zsm [510, 2026, 2027, 2028, 2029, 2030, 2031, 2032, 2033, 2034, 2035] G G' ∧ (OW Γ w G G' ∧ cpS Γ w v G G')))) args s 0 0 (zA Γ)) 0 [some (zr 5 (Γ.2.1 w 1)), some (zr 5 (Γ.2.1 v 1))] [] G
  refine zs_aload_n (pc := 0) C dX4_copyFrom_0 rfl ?_
  refine zs_aload_n (pc := 1) C dX4_copyFrom_1 rfl ?_
  refine zs_geti (r := 510) (pc := 2) C dX4_copyFrom_2 w_X4_42 f_5_10 rfl (r_510 0) (fun v2 e2 l2 u2 => ?_)
  refine zs_puti (r := 510) (pc := 5) C dX4_copyFrom_5 w_X4_42 f_5_10 rfl (r_510 0) (by omega) ?_
  refine zs_aload_n (pc := 8) C dX4_copyFrom_8 rfl ?_
  refine zs_getf (pc := 9) C dX4_copyFrom_9 w_X4_9 f_5_0 (by decide) ?_
  refine zs_iconst (pc := 12) C dX4_copyFrom_12 (by decide) ?_
  refine zs_aload_n (pc := 13) C dX4_copyFrom_13 rfl ?_
  refine zs_getf (pc := 14) C dX4_copyFrom_14 w_X4_9 f_5_0 (by decide) ?_
  refine zs_iconst (pc := 17) C dX4_copyFrom_17 (by decide) ?_
  refine zs_bipush (pc := 18) C dX4_copyFrom_18 (by decide) (by decide) ?_
  refine zs_acopy (r0 := 2026) (r1 := 2026) (pc := 20) C dX4_copyFrom_20 ac_X4_46 a_26 a_26 (by decide) (by decide) (by omega) (by omega) (by omega) (by omega) (by omega) rfl rfl (fun i j => Or.inl (by rw [r_2026, r_2026]; decide)) (by decide) (Nat.le_of_ble_eq_true rfl) ?_
  refine zs_aload_n (pc := 23) C dX4_copyFrom_23 rfl ?_
  refine zs_getf (pc := 24) C dX4_copyFrom_24 w_X4_15 f_5_1 (by decide) ?_
  refine zs_iconst (pc := 27) C dX4_copyFrom_27 (by decide) ?_
  refine zs_aload_n (pc := 28) C dX4_copyFrom_28 rfl ?_
  refine zs_getf (pc := 29) C dX4_copyFrom_29 w_X4_15 f_5_1 (by decide) ?_
  refine zs_iconst (pc := 32) C dX4_copyFrom_32 (by decide) ?_
  refine zs_bipush (pc := 33) C dX4_copyFrom_33 (by decide) (by decide) ?_
  refine zs_acopy (r0 := 2027) (r1 := 2027) (pc := 35) C dX4_copyFrom_35 ac_X4_46 a_27 a_27 (by decide) (by decide) (by omega) (by omega) (by omega) (by omega) (by omega) rfl rfl (fun i j => Or.inl (by rw [r_2027, r_2027]; decide)) (by decide) (Nat.le_of_ble_eq_true rfl) ?_
  refine zs_aload_n (pc := 38) C dX4_copyFrom_38 rfl ?_
  refine zs_getf (pc := 39) C dX4_copyFrom_39 w_X4_18 f_5_2 (by decide) ?_
  refine zs_iconst (pc := 42) C dX4_copyFrom_42 (by decide) ?_
  refine zs_aload_n (pc := 43) C dX4_copyFrom_43 rfl ?_
  refine zs_getf (pc := 44) C dX4_copyFrom_44 w_X4_18 f_5_2 (by decide) ?_
  refine zs_iconst (pc := 47) C dX4_copyFrom_47 (by decide) ?_
  refine zs_bipush (pc := 48) C dX4_copyFrom_48 (by decide) (by decide) ?_
  refine zs_acopy (r0 := 2028) (r1 := 2028) (pc := 50) C dX4_copyFrom_50 ac_X4_46 a_28 a_28 (by decide) (by decide) (by omega) (by omega) (by omega) (by omega) (by omega) rfl rfl (fun i j => Or.inl (by rw [r_2028, r_2028]; decide)) (by decide) (Nat.le_of_ble_eq_true rfl) ?_
  refine zs_aload_n (pc := 53) C dX4_copyFrom_53 rfl ?_
  refine zs_getf (pc := 54) C dX4_copyFrom_54 w_X4_21 f_5_3 (by decide) ?_
  refine zs_iconst (pc := 57) C dX4_copyFrom_57 (by decide) ?_
  refine zs_aload_n (pc := 58) C dX4_copyFrom_58 rfl ?_
  refine zs_getf (pc := 59) C dX4_copyFrom_59 w_X4_21 f_5_3 (by decide) ?_
  refine zs_iconst (pc := 62) C dX4_copyFrom_62 (by decide) ?_
  refine zs_bipush (pc := 63) C dX4_copyFrom_63 (by decide) (by decide) ?_
  refine zs_acopy (r0 := 2029) (r1 := 2029) (pc := 65) C dX4_copyFrom_65 ac_X4_46 a_29 a_29 (by decide) (by decide) (by omega) (by omega) (by omega) (by omega) (by omega) rfl rfl (fun i j => Or.inl (by rw [r_2029, r_2029]; decide)) (by decide) (Nat.le_of_ble_eq_true rfl) ?_
  refine zs_aload_n (pc := 68) C dX4_copyFrom_68 rfl ?_
  refine zs_getf (pc := 69) C dX4_copyFrom_69 w_X4_24 f_5_4 (by decide) ?_
  refine zs_iconst (pc := 72) C dX4_copyFrom_72 (by decide) ?_
  refine zs_aload_n (pc := 73) C dX4_copyFrom_73 rfl ?_
  refine zs_getf (pc := 74) C dX4_copyFrom_74 w_X4_24 f_5_4 (by decide) ?_
  refine zs_iconst (pc := 77) C dX4_copyFrom_77 (by decide) ?_
  refine zs_bipush (pc := 78) C dX4_copyFrom_78 (by decide) (by decide) ?_
  refine zs_acopy (r0 := 2030) (r1 := 2030) (pc := 80) C dX4_copyFrom_80 ac_X4_46 a_30 a_30 (by decide) (by decide) (by omega) (by omega) (by omega) (by omega) (by omega) rfl rfl (fun i j => Or.inl (by rw [r_2030, r_2030]; decide)) (by decide) (Nat.le_of_ble_eq_true rfl) ?_
  refine zs_aload_n (pc := 83) C dX4_copyFrom_83 rfl ?_
  refine zs_getf (pc := 84) C dX4_copyFrom_84 w_X4_27 f_5_5 (by decide) ?_
  refine zs_iconst (pc := 87) C dX4_copyFrom_87 (by decide) ?_
  refine zs_aload_n (pc := 88) C dX4_copyFrom_88 rfl ?_
  refine zs_getf (pc := 89) C dX4_copyFrom_89 w_X4_27 f_5_5 (by decide) ?_
  refine zs_iconst (pc := 92) C dX4_copyFrom_92 (by decide) ?_
  refine zs_bipush (pc := 93) C dX4_copyFrom_93 (by decide) (by decide) ?_
  refine zs_acopy (r0 := 2031) (r1 := 2031) (pc := 95) C dX4_copyFrom_95 ac_X4_46 a_31 a_31 (by decide) (by decide) (by omega) (by omega) (by omega) (by omega) (by omega) rfl rfl (fun i j => Or.inl (by rw [r_2031, r_2031]; decide)) (by decide) (Nat.le_of_ble_eq_true rfl) ?_
  refine zs_aload_n (pc := 98) C dX4_copyFrom_98 rfl ?_
  refine zs_getf (pc := 99) C dX4_copyFrom_99 w_X4_30 f_5_6 (by decide) ?_
  refine zs_iconst (pc := 102) C dX4_copyFrom_102 (by decide) ?_
  refine zs_aload_n (pc := 103) C dX4_copyFrom_103 rfl ?_
  refine zs_getf (pc := 104) C dX4_copyFrom_104 w_X4_30 f_5_6 (by decide) ?_
  refine zs_iconst (pc := 107) C dX4_copyFrom_107 (by decide) ?_
  refine zs_bipush (pc := 108) C dX4_copyFrom_108 (by decide) (by decide) ?_
  refine zs_acopy (r0 := 2032) (r1 := 2032) (pc := 110) C dX4_copyFrom_110 ac_X4_46 a_32 a_32 (by decide) (by decide) (by omega) (by omega) (by omega) (by omega) (by omega) rfl rfl (fun i j => Or.inl (by rw [r_2032, r_2032]; decide)) (by decide) (Nat.le_of_ble_eq_true rfl) ?_
  refine zs_aload_n (pc := 113) C dX4_copyFrom_113 rfl ?_
  refine zs_getf (pc := 114) C dX4_copyFrom_114 w_X4_33 f_5_7 (by decide) ?_
  refine zs_iconst (pc := 117) C dX4_copyFrom_117 (by decide) ?_
  refine zs_aload_n (pc := 118) C dX4_copyFrom_118 rfl ?_
  refine zs_getf (pc := 119) C dX4_copyFrom_119 w_X4_33 f_5_7 (by decide) ?_
  refine zs_iconst (pc := 122) C dX4_copyFrom_122 (by decide) ?_
  refine zs_bipush (pc := 123) C dX4_copyFrom_123 (by decide) (by decide) ?_
  refine zs_acopy (r0 := 2033) (r1 := 2033) (pc := 125) C dX4_copyFrom_125 ac_X4_46 a_33 a_33 (by decide) (by decide) (by omega) (by omega) (by omega) (by omega) (by omega) rfl rfl (fun i j => Or.inl (by rw [r_2033, r_2033]; decide)) (by decide) (Nat.le_of_ble_eq_true rfl) ?_
  refine zs_aload_n (pc := 128) C dX4_copyFrom_128 rfl ?_
  refine zs_getf (pc := 129) C dX4_copyFrom_129 w_X4_36 f_5_8 (by decide) ?_
  refine zs_iconst (pc := 132) C dX4_copyFrom_132 (by decide) ?_
  refine zs_aload_n (pc := 133) C dX4_copyFrom_133 rfl ?_
  refine zs_getf (pc := 134) C dX4_copyFrom_134 w_X4_36 f_5_8 (by decide) ?_
  refine zs_iconst (pc := 137) C dX4_copyFrom_137 (by decide) ?_
  refine zs_bipush (pc := 138) C dX4_copyFrom_138 (by decide) (by decide) ?_
  refine zs_acopy (r0 := 2034) (r1 := 2034) (pc := 140) C dX4_copyFrom_140 ac_X4_46 a_34 a_34 (by decide) (by decide) (by omega) (by omega) (by omega) (by omega) (by omega) rfl rfl (fun i j => Or.inl (by rw [r_2034, r_2034]; decide)) (by decide) (Nat.le_of_ble_eq_true rfl) ?_
  refine zs_aload_n (pc := 143) C dX4_copyFrom_143 rfl ?_
  refine zs_getf (pc := 144) C dX4_copyFrom_144 w_X4_39 f_5_9 (by decide) ?_
  refine zs_iconst (pc := 147) C dX4_copyFrom_147 (by decide) ?_
  refine zs_aload_n (pc := 148) C dX4_copyFrom_148 rfl ?_
  refine zs_getf (pc := 149) C dX4_copyFrom_149 w_X4_39 f_5_9 (by decide) ?_
  refine zs_iconst (pc := 152) C dX4_copyFrom_152 (by decide) ?_
  refine zs_bipush (pc := 153) C dX4_copyFrom_153 (by decide) (by decide) ?_
  refine zs_acopy (r0 := 2035) (r1 := 2035) (pc := 155) C dX4_copyFrom_155 ac_X4_46 a_35 a_35 (by decide) (by decide) (by omega) (by omega) (by omega) (by omega) (by omega) rfl rfl (fun i j => Or.inl (by rw [r_2035, r_2035]; decide)) (by decide) (Nat.le_of_ble_eq_true rfl) ?_
  exact zs_vret (pc := 158) C hr hlk dX4_copyFrom_158 ⟨by repeat (first | exact zsm_rf | assumption | refine zsm_C (by decide) ?_ | refine zsm_I (by decide) ?_ | refine zsm_J ?_ | refine zsm_c (by assumption) (by decide) ?_), ⟨(by with_reducible repeat (first | exact OW_rf | assumption | apply OW_P | apply OWw_510 | apply OWc_510 | apply OWw_2026 | apply OWc_2026 | apply OWw_2027 | apply OWc_2027 | apply OWw_2028 | apply OWc_2028 | apply OWw_2029 | apply OWc_2029 | apply OWw_2030 | apply OWc_2030 | apply OWw_2031 | apply OWc_2031 | apply OWw_2032 | apply OWc_2032 | apply OWw_2033 | apply OWc_2033 | apply OWw_2034 | apply OWc_2034 | apply OWw_2035 | apply OWc_2035 | apply OWw_2048 | apply OWc_2048 | apply OWw_2049 | apply OWc_2049 | apply OWw_2050 | apply OWc_2050 | apply OWw_2051 | apply OWc_2051 | apply OWw_2052 | apply OWc_2052 | apply OWw_2053 | apply OWc_2053 | apply OWw_2054 | apply OWc_2054 | apply OWw_809 | apply OWc_809 | apply OWw_810 | apply OWc_810 | apply OWw_811 | apply OWc_811 | apply OWw_812 | apply OWc_812 | apply OWw_813 | apply OWc_813)), ⟨(by simp only [zuI_1, zuI_2, zuJ_1, zuJ_2, zuJ_3, zuP_1, zuP_2, zuP_3, zuC_1, zuC_2, reduceIte, Nat.reduceEqDiff, false_and, and_false, true_and, and_true, and_self, or_true, true_or, or_false, false_or]; first | done | exact e2), fun j hj => ⟨(by simp only [zuI_1, zuI_2, zuJ_1, zuJ_2, zuJ_3, zuP_1, zuP_2, zuP_3, zuC_1, zuC_2, reduceIte, Nat.reduceEqDiff, false_and, and_false, true_and, and_true, and_self, or_true, true_or, or_false, false_or, zcp_0 (show (j : Int) < 60 by omega)]), (by simp only [zuI_1, zuI_2, zuJ_1, zuJ_2, zuJ_3, zuP_1, zuP_2, zuP_3, zuC_1, zuC_2, reduceIte, Nat.reduceEqDiff, false_and, and_false, true_and, and_true, and_self, or_true, true_or, or_false, false_or, zcp_0 (show (j : Int) < 60 by omega)]), (by simp only [zuI_1, zuI_2, zuJ_1, zuJ_2, zuJ_3, zuP_1, zuP_2, zuP_3, zuC_1, zuC_2, reduceIte, Nat.reduceEqDiff, false_and, and_false, true_and, and_true, and_self, or_true, true_or, or_false, false_or, zcp_0 (show (j : Int) < 60 by omega)]), (by simp only [zuI_1, zuI_2, zuJ_1, zuJ_2, zuJ_3, zuP_1, zuP_2, zuP_3, zuC_1, zuC_2, reduceIte, Nat.reduceEqDiff, false_and, and_false, true_and, and_true, and_self, or_true, true_or, or_false, false_or, zcp_0 (show (j : Int) < 60 by omega)]), (by simp only [zuI_1, zuI_2, zuJ_1, zuJ_2, zuJ_3, zuP_1, zuP_2, zuP_3, zuC_1, zuC_2, reduceIte, Nat.reduceEqDiff, false_and, and_false, true_and, and_true, and_self, or_true, true_or, or_false, false_or, zcp_0 (show (j : Int) < 60 by omega)]), (by simp only [zuI_1, zuI_2, zuJ_1, zuJ_2, zuJ_3, zuP_1, zuP_2, zuP_3, zuC_1, zuC_2, reduceIte, Nat.reduceEqDiff, false_and, and_false, true_and, and_true, and_self, or_true, true_or, or_false, false_or, zcp_0 (show (j : Int) < 60 by omega)]), (by simp only [zuI_1, zuI_2, zuJ_1, zuJ_2, zuJ_3, zuP_1, zuP_2, zuP_3, zuC_1, zuC_2, reduceIte, Nat.reduceEqDiff, false_and, and_false, true_and, and_true, and_self, or_true, true_or, or_false, false_or, zcp_0 (show (j : Int) < 60 by omega)]), (by simp only [zuI_1, zuI_2, zuJ_1, zuJ_2, zuJ_3, zuP_1, zuP_2, zuP_3, zuC_1, zuC_2, reduceIte, Nat.reduceEqDiff, false_and, and_false, true_and, and_true, and_self, or_true, true_or, or_false, false_or, zcp_0 (show (j : Int) < 60 by omega)]), (by simp only [zuI_1, zuI_2, zuJ_1, zuJ_2, zuJ_3, zuP_1, zuP_2, zuP_3, zuC_1, zuC_2, reduceIte, Nat.reduceEqDiff, false_and, and_false, true_and, and_true, and_self, or_true, true_or, or_false, false_or, zcp_0 (show (j : Int) < 60 by omega)]), (by simp only [zuI_1, zuI_2, zuJ_1, zuJ_2, zuJ_3, zuP_1, zuP_2, zuP_3, zuC_1, zuC_2, reduceIte, Nat.reduceEqDiff, false_and, and_false, true_and, and_true, and_self, or_true, true_or, or_false, false_or, zcp_0 (show (j : Int) < 60 by omega)])⟩⟩⟩⟩

set_option maxHeartbeats 4000000 in
set_option maxRecDepth 100000 in
theorem c_X7_copyFromK {l : Launch} {Γ : zΓ} {G : zH} {w v t : Nat} (hX : zXs Γ) (hI : G.2.2 800 v = t) : zMet l Γ yX7_copyFrom cX7_copyFrom 2 none 2 [zr 8 w, zr 8 v] G (zpv (fun G' => zsn [510, 2026, 2027, 2028, 2029, 2030, 2031, 2032, 2033, 2034, 2035, 2048, 2049, 2050, 2051, 2052, 2053, 809, 810, 811, 812, 813] G G' ∧ (G'.2.2 = (zuP G 800 w t).2.2 ∧ OW Γ w G G' ∧ cpG Γ w v G G'))) := by
  refine zMet_of RX7 hX (by decide) rfl (Nat.le_of_ble_eq_true rfl) ?_
  intro p e s m args below meth c C hr hlk
  show Z p l e (zrm 2) s m args below meth c Γ 2 0 0 (MQ below (zQc Γ (zpv (fun G' => zsn [510, 2026, 2027, 2028, 2029, 2030, 2031, 2032, 2033, 2034, 2035, 2048, 2049, 2050, 2051, 2052, 2053, 809, 810, 811, 812, 813] G G' ∧ (G'.2.2 = (zuP G 800 w t).2.2 ∧ OW Γ w G G' ∧ cpG Γ w v G G')))) args s 0 0 (zA Γ)) 0 [some (zr 8 w), some (zr 8 v)] [] G
  refine zs_aload_n (pc := 0) C dX7_copyFrom_0 rfl ?_
  refine zs_aload_n (pc := 1) C dX7_copyFrom_1 rfl ?_
  refine zs_getd (r := 800) (pc := 2) C dX7_copyFrom_2 w_X7_40 f_8_0 (by decide) rfl (fun v2 e2 t2 => ?_)
  rw [hI] at e2
  subst v2
  refine zs_putd (r := 800) (pc := 5) C dX7_copyFrom_5 w_X7_40 f_8_0 (by decide) rfl ?_
  refine zs_aload_n (pc := 8) C dX7_copyFrom_8 rfl ?_
  refine zs_getf (pc := 9) C dX7_copyFrom_9 w_X7_12 f_8_1 (by decide) ?_
  refine zs_aload_n (pc := 12) C dX7_copyFrom_12 rfl ?_
  refine zs_getf (pc := 13) C dX7_copyFrom_13 w_X7_12 f_8_1 (by decide) ?_
  refine zVv1 (pc := 16) C dX7_copyFrom_16 v_X7_91 (c_X4_copyFromK hX ) (by decide) (by decide) ⟨Nat.zero_le _, Nat.zero_le _⟩ (Nat.le_of_ble_eq_true rfl) (fun G16 hp16 => ?_)
  obtain ⟨hz16, hq16⟩ := hp16
  try simp only [zuI_1, zuI_2, zuJ_1, zuJ_2, zuJ_3, zuP_1, zuP_2, zuP_3, zuC_1, zuC_2, reduceIte, Nat.reduceEqDiff, false_and, and_false, true_and, and_true, and_self, or_true, true_or, or_false, false_or] at hq16
  refine zs_aload_n (pc := 19) C dX7_copyFrom_19 rfl ?_
  refine zs_getf (pc := 20) C dX7_copyFrom_20 w_X7_18 f_8_2 (by decide) ?_
  refine zs_iconst (pc := 23) C dX7_copyFrom_23 (by decide) ?_
  refine zs_aload_n (pc := 24) C dX7_copyFrom_24 rfl ?_
  refine zs_getf (pc := 25) C dX7_copyFrom_25 w_X7_18 f_8_2 (by decide) ?_
  refine zs_iconst (pc := 28) C dX7_copyFrom_28 (by decide) ?_
  refine zs_bipush (pc := 29) C dX7_copyFrom_29 (by decide) (by decide) ?_
  refine zs_acopy (r0 := 2048) (r1 := 2048) (pc := 31) C dX7_copyFrom_31 ac_X7_57 a_48 a_48 (by decide) (by decide) (by omega) (by omega) (by omega) (by omega) (by omega) rfl rfl (fun i j => Or.inl (by rw [r_2048, r_2048]; decide)) (by decide) (Nat.le_of_ble_eq_true rfl) ?_
  refine zs_aload_n (pc := 34) C dX7_copyFrom_34 rfl ?_
  refine zs_getf (pc := 35) C dX7_copyFrom_35 w_X7_22 f_8_3 (by decide) ?_
  refine zs_iconst (pc := 38) C dX7_copyFrom_38 (by decide) ?_
  refine zs_aload_n (pc := 39) C dX7_copyFrom_39 rfl ?_
  refine zs_getf (pc := 40) C dX7_copyFrom_40 w_X7_22 f_8_3 (by decide) ?_
  refine zs_iconst (pc := 43) C dX7_copyFrom_43 (by decide) ?_
  refine zs_bipush (pc := 44) C dX7_copyFrom_44 (by decide) (by decide) ?_
  refine zs_acopy (r0 := 2049) (r1 := 2049) (pc := 46) C dX7_copyFrom_46 ac_X7_57 a_49 a_49 (by decide) (by decide) (by omega) (by omega) (by omega) (by omega) (by omega) rfl rfl (fun i j => Or.inl (by rw [r_2049, r_2049]; decide)) (by decide) (Nat.le_of_ble_eq_true rfl) ?_
  refine zs_aload_n (pc := 49) C dX7_copyFrom_49 rfl ?_
  refine zs_getf (pc := 50) C dX7_copyFrom_50 w_X7_25 f_8_4 (by decide) ?_
  refine zs_iconst (pc := 53) C dX7_copyFrom_53 (by decide) ?_
  refine zs_aload_n (pc := 54) C dX7_copyFrom_54 rfl ?_
  refine zs_getf (pc := 55) C dX7_copyFrom_55 w_X7_25 f_8_4 (by decide) ?_
  refine zs_iconst (pc := 58) C dX7_copyFrom_58 (by decide) ?_
  refine zs_iconst (pc := 59) C dX7_copyFrom_59 (by decide) ?_
  refine zs_acopy (r0 := 2050) (r1 := 2050) (pc := 60) C dX7_copyFrom_60 ac_X7_57 a_50 a_50 (by decide) (by decide) (by omega) (by omega) (by omega) (by omega) (by omega) rfl rfl (fun i j => Or.inl (by rw [r_2050, r_2050]; decide)) (by decide) (Nat.le_of_ble_eq_true rfl) ?_
  refine zs_aload_n (pc := 63) C dX7_copyFrom_63 rfl ?_
  refine zs_getf (pc := 64) C dX7_copyFrom_64 w_X7_28 f_8_5 (by decide) ?_
  refine zs_iconst (pc := 67) C dX7_copyFrom_67 (by decide) ?_
  refine zs_aload_n (pc := 68) C dX7_copyFrom_68 rfl ?_
  refine zs_getf (pc := 69) C dX7_copyFrom_69 w_X7_28 f_8_5 (by decide) ?_
  refine zs_iconst (pc := 72) C dX7_copyFrom_72 (by decide) ?_
  refine zs_iconst (pc := 73) C dX7_copyFrom_73 (by decide) ?_
  refine zs_acopy (r0 := 2051) (r1 := 2051) (pc := 74) C dX7_copyFrom_74 ac_X7_57 a_51 a_51 (by decide) (by decide) (by omega) (by omega) (by omega) (by omega) (by omega) rfl rfl (fun i j => Or.inl (by rw [r_2051, r_2051]; decide)) (by decide) (Nat.le_of_ble_eq_true rfl) ?_
  refine zs_aload_n (pc := 77) C dX7_copyFrom_77 rfl ?_
  refine zs_getf (pc := 78) C dX7_copyFrom_78 w_X7_31 f_8_6 (by decide) ?_
  refine zs_iconst (pc := 81) C dX7_copyFrom_81 (by decide) ?_
  refine zs_aload_n (pc := 82) C dX7_copyFrom_82 rfl ?_
  refine zs_getf (pc := 83) C dX7_copyFrom_83 w_X7_31 f_8_6 (by decide) ?_
  refine zs_iconst (pc := 86) C dX7_copyFrom_86 (by decide) ?_
  refine zs_iconst (pc := 87) C dX7_copyFrom_87 (by decide) ?_
  refine zs_acopy (r0 := 2052) (r1 := 2052) (pc := 88) C dX7_copyFrom_88 ac_X7_57 a_52 a_52 (by decide) (by decide) (by omega) (by omega) (by omega) (by omega) (by omega) rfl rfl (fun i j => Or.inl (by rw [r_2052, r_2052]; decide)) (by decide) (Nat.le_of_ble_eq_true rfl) ?_
  refine zs_aload_n (pc := 91) C dX7_copyFrom_91 rfl ?_
  refine zs_getf (pc := 92) C dX7_copyFrom_92 w_X7_34 f_8_7 (by decide) ?_
  refine zs_iconst (pc := 95) C dX7_copyFrom_95 (by decide) ?_
  refine zs_aload_n (pc := 96) C dX7_copyFrom_96 rfl ?_
  refine zs_getf (pc := 97) C dX7_copyFrom_97 w_X7_34 f_8_7 (by decide) ?_
  refine zs_iconst (pc := 100) C dX7_copyFrom_100 (by decide) ?_
  refine zs_iconst (pc := 101) C dX7_copyFrom_101 (by decide) ?_
  refine zs_acopy (r0 := 2053) (r1 := 2053) (pc := 102) C dX7_copyFrom_102 ac_X7_57 a_53 a_53 (by decide) (by decide) (by omega) (by omega) (by omega) (by omega) (by omega) rfl rfl (fun i j => Or.inl (by rw [r_2053, r_2053]; decide)) (by decide) (Nat.le_of_ble_eq_true rfl) ?_
  refine zs_aload_n (pc := 105) C dX7_copyFrom_105 rfl ?_
  refine zs_aload_n (pc := 106) C dX7_copyFrom_106 rfl ?_
  refine zs_geti (r := 809) (pc := 107) C dX7_copyFrom_107 w_X7_69 f_8_9 rfl (r_809 0) (fun v107 e107 l107 u107 => ?_)
  try simp only [zuI_1, zuI_2, zuJ_1, zuJ_2, zuJ_3, zuP_1, zuP_2, zuP_3, zuC_1, zuC_2, reduceIte, Nat.reduceEqDiff, false_and, and_false, true_and, and_true, and_self, or_true, true_or, or_false, false_or] at e107
  refine zs_puti (r := 809) (pc := 110) C dX7_copyFrom_110 w_X7_69 f_8_9 rfl (r_809 0) (by omega) ?_
  refine zs_aload_n (pc := 113) C dX7_copyFrom_113 rfl ?_
  refine zs_aload_n (pc := 114) C dX7_copyFrom_114 rfl ?_
  refine zs_geti (r := 810) (pc := 115) C dX7_copyFrom_115 w_X7_75 f_8_10 rfl (r_810 0) (fun v115 e115 l115 u115 => ?_)
  try simp only [zuI_1, zuI_2, zuJ_1, zuJ_2, zuJ_3, zuP_1, zuP_2, zuP_3, zuC_1, zuC_2, reduceIte, Nat.reduceEqDiff, false_and, and_false, true_and, and_true, and_self, or_true, true_or, or_false, false_or] at e115
  refine zs_puti (r := 810) (pc := 118) C dX7_copyFrom_118 w_X7_75 f_8_10 rfl (r_810 0) (by omega) ?_
  refine zs_aload_n (pc := 121) C dX7_copyFrom_121 rfl ?_
  refine zs_aload_n (pc := 122) C dX7_copyFrom_122 rfl ?_
  refine zs_geti (r := 811) (pc := 123) C dX7_copyFrom_123 w_X7_79 f_8_11 rfl (r_811 0) (fun v123 e123 l123 u123 => ?_)
  try simp only [zuI_1, zuI_2, zuJ_1, zuJ_2, zuJ_3, zuP_1, zuP_2, zuP_3, zuC_1, zuC_2, reduceIte, Nat.reduceEqDiff, false_and, and_false, true_and, and_true, and_self, or_true, true_or, or_false, false_or] at e123
  refine zs_puti (r := 811) (pc := 126) C dX7_copyFrom_126 w_X7_79 f_8_11 rfl (r_811 0) (by omega) ?_
  refine zs_aload_n (pc := 129) C dX7_copyFrom_129 rfl ?_
  refine zs_aload_n (pc := 130) C dX7_copyFrom_130 rfl ?_
  refine zs_geti (r := 812) (pc := 131) C dX7_copyFrom_131 w_X7_85 f_8_12 rfl (r_812 0) (fun v131 e131 l131 u131 => ?_)
  try simp only [zuI_1, zuI_2, zuJ_1, zuJ_2, zuJ_3, zuP_1, zuP_2, zuP_3, zuC_1, zuC_2, reduceIte, Nat.reduceEqDiff, false_and, and_false, true_and, and_true, and_self, or_true, true_or, or_false, false_or] at e131
  refine zs_puti (r := 812) (pc := 134) C dX7_copyFrom_134 w_X7_85 f_8_12 rfl (r_812 0) (by omega) ?_
  refine zs_aload_n (pc := 137) C dX7_copyFrom_137 rfl ?_
  refine zs_aload_n (pc := 138) C dX7_copyFrom_138 rfl ?_
  refine zs_geti (r := 813) (pc := 139) C dX7_copyFrom_139 w_X7_88 f_8_13 rfl (r_813 0) (fun v139 e139 l139 u139 => ?_)
  try simp only [zuI_1, zuI_2, zuJ_1, zuJ_2, zuJ_3, zuP_1, zuP_2, zuP_3, zuC_1, zuC_2, reduceIte, Nat.reduceEqDiff, false_and, and_false, true_and, and_true, and_self, or_true, true_or, or_false, false_or] at e139
  refine zs_puti (r := 813) (pc := 142) C dX7_copyFrom_142 w_X7_88 f_8_13 rfl (r_813 0) (by omega) ?_
  exact zs_vret (pc := 145) C hr hlk dX7_copyFrom_145 ⟨by repeat (first | exact zsn_rf | assumption | refine zsn_C (by decide) ?_ | refine zsn_I (by decide) ?_ | refine zsn_J ?_ | refine zsn_P ?_ | refine zsn_m (by assumption) (by decide) ?_ | refine zsn_c (by assumption) (by decide) ?_), ⟨hz16.2, OW_t (by with_reducible repeat (first | exact OW_rf | assumption | apply OW_P | apply OWw_510 | apply OWc_510 | apply OWw_2026 | apply OWc_2026 | apply OWw_2027 | apply OWc_2027 | apply OWw_2028 | apply OWc_2028 | apply OWw_2029 | apply OWc_2029 | apply OWw_2030 | apply OWc_2030 | apply OWw_2031 | apply OWc_2031 | apply OWw_2032 | apply OWc_2032 | apply OWw_2033 | apply OWc_2033 | apply OWw_2034 | apply OWc_2034 | apply OWw_2035 | apply OWc_2035 | apply OWw_2048 | apply OWc_2048 | apply OWw_2049 | apply OWc_2049 | apply OWw_2050 | apply OWc_2050 | apply OWw_2051 | apply OWc_2051 | apply OWw_2052 | apply OWc_2052 | apply OWw_2053 | apply OWc_2053 | apply OWw_2054 | apply OWc_2054 | apply OWw_809 | apply OWc_809 | apply OWw_810 | apply OWc_810 | apply OWw_811 | apply OWc_811 | apply OWw_812 | apply OWc_812 | apply OWw_813 | apply OWc_813)) (OW_t hq16.1 (OW_P OW_rf)), ⟨⟨(by simp only [zuI_1, zuI_2, zuJ_1, zuJ_2, zuJ_3, zuP_1, zuP_2, zuP_3, zuC_1, zuC_2, reduceIte, Nat.reduceEqDiff, false_and, and_false, true_and, and_true, and_self, or_true, true_or, or_false, false_or]; exact hq16.2.1), fun j hj => ⟨(by simp only [zuI_1, zuI_2, zuJ_1, zuJ_2, zuJ_3, zuP_1, zuP_2, zuP_3, zuC_1, zuC_2, reduceIte, Nat.reduceEqDiff, false_and, and_false, true_and, and_true, and_self, or_true, true_or, or_false, false_or]; exact (hq16.2.2 j hj).1), (by simp only [zuI_1, zuI_2, zuJ_1, zuJ_2, zuJ_3, zuP_1, zuP_2, zuP_3, zuC_1, zuC_2, reduceIte, Nat.reduceEqDiff, false_and, and_false, true_and, and_true, and_self, or_true, true_or, or_false, false_or]; exact (hq16.2.2 j hj).2.1), (by simp only [zuI_1, zuI_2, zuJ_1, zuJ_2, zuJ_3, zuP_1, zuP_2, zuP_3, zuC_1, zuC_2, reduceIte, Nat.reduceEqDiff, false_and, and_false, true_and, and_true, and_self, or_true, true_or, or_false, false_or]; exact (hq16.2.2 j hj).2.2.1), (by simp only [zuI_1, zuI_2, zuJ_1, zuJ_2, zuJ_3, zuP_1, zuP_2, zuP_3, zuC_1, zuC_2, reduceIte, Nat.reduceEqDiff, false_and, and_false, true_and, and_true, and_self, or_true, true_or, or_false, false_or]; exact (hq16.2.2 j hj).2.2.2.1), (by simp only [zuI_1, zuI_2, zuJ_1, zuJ_2, zuJ_3, zuP_1, zuP_2, zuP_3, zuC_1, zuC_2, reduceIte, Nat.reduceEqDiff, false_and, and_false, true_and, and_true, and_self, or_true, true_or, or_false, false_or]; exact (hq16.2.2 j hj).2.2.2.2.1), (by simp only [zuI_1, zuI_2, zuJ_1, zuJ_2, zuJ_3, zuP_1, zuP_2, zuP_3, zuC_1, zuC_2, reduceIte, Nat.reduceEqDiff, false_and, and_false, true_and, and_true, and_self, or_true, true_or, or_false, false_or]; exact (hq16.2.2 j hj).2.2.2.2.2.1), (by simp only [zuI_1, zuI_2, zuJ_1, zuJ_2, zuJ_3, zuP_1, zuP_2, zuP_3, zuC_1, zuC_2, reduceIte, Nat.reduceEqDiff, false_and, and_false, true_and, and_true, and_self, or_true, true_or, or_false, false_or]; exact (hq16.2.2 j hj).2.2.2.2.2.2.1), (by simp only [zuI_1, zuI_2, zuJ_1, zuJ_2, zuJ_3, zuP_1, zuP_2, zuP_3, zuC_1, zuC_2, reduceIte, Nat.reduceEqDiff, false_and, and_false, true_and, and_true, and_self, or_true, true_or, or_false, false_or]; exact (hq16.2.2 j hj).2.2.2.2.2.2.2.1), (by simp only [zuI_1, zuI_2, zuJ_1, zuJ_2, zuJ_3, zuP_1, zuP_2, zuP_3, zuC_1, zuC_2, reduceIte, Nat.reduceEqDiff, false_and, and_false, true_and, and_true, and_self, or_true, true_or, or_false, false_or]; exact (hq16.2.2 j hj).2.2.2.2.2.2.2.2.1), (by simp only [zuI_1, zuI_2, zuJ_1, zuJ_2, zuJ_3, zuP_1, zuP_2, zuP_3, zuC_1, zuC_2, reduceIte, Nat.reduceEqDiff, false_and, and_false, true_and, and_true, and_self, or_true, true_or, or_false, false_or]; exact (hq16.2.2 j hj).2.2.2.2.2.2.2.2.2)⟩⟩, fun j hj => ⟨(by simp only [zuI_1, zuI_2, zuJ_1, zuJ_2, zuJ_3, zuP_1, zuP_2, zuP_3, zuC_1, zuC_2, reduceIte, Nat.reduceEqDiff, false_and, and_false, true_and, and_true, and_self, or_true, true_or, or_false, false_or, zcp_0 (show (j : Int) < 20 by omega), hz16.1 2048 (by decide)]), (by simp only [zuI_1, zuI_2, zuJ_1, zuJ_2, zuJ_3, zuP_1, zuP_2, zuP_3, zuC_1, zuC_2, reduceIte, Nat.reduceEqDiff, false_and, and_false, true_and, and_true, and_self, or_true, true_or, or_false, false_or, zcp_0 (show (j : Int) < 20 by omega), hz16.1 2049 (by decide)])⟩, fun j hj => ⟨(by simp only [zuI_1, zuI_2, zuJ_1, zuJ_2, zuJ_3, zuP_1, zuP_2, zuP_3, zuC_1, zuC_2, reduceIte, Nat.reduceEqDiff, false_and, and_false, true_and, and_true, and_self, or_true, true_or, or_false, false_or, zcp_0 (show (j : Int) < 5 by omega), hz16.1 2050 (by decide)]), (by simp only [zuI_1, zuI_2, zuJ_1, zuJ_2, zuJ_3, zuP_1, zuP_2, zuP_3, zuC_1, zuC_2, reduceIte, Nat.reduceEqDiff, false_and, and_false, true_and, and_true, and_self, or_true, true_or, or_false, false_or, zcp_0 (show (j : Int) < 5 by omega), hz16.1 2051 (by decide)]), (by simp only [zuI_1, zuI_2, zuJ_1, zuJ_2, zuJ_3, zuP_1, zuP_2, zuP_3, zuC_1, zuC_2, reduceIte, Nat.reduceEqDiff, false_and, and_false, true_and, and_true, and_self, or_true, true_or, or_false, false_or, zcp_0 (show (j : Int) < 5 by omega), hz16.1 2052 (by decide)]), (by simp only [zuI_1, zuI_2, zuJ_1, zuJ_2, zuJ_3, zuP_1, zuP_2, zuP_3, zuC_1, zuC_2, reduceIte, Nat.reduceEqDiff, false_and, and_false, true_and, and_true, and_self, or_true, true_or, or_false, false_or, zcp_0 (show (j : Int) < 5 by omega), hz16.1 2053 (by decide)])⟩, (by simp only [zuI_1, zuI_2, zuJ_1, zuJ_2, zuJ_3, zuP_1, zuP_2, zuP_3, zuC_1, zuC_2, reduceIte, Nat.reduceEqDiff, false_and, and_false, true_and, and_true, and_self, or_true, true_or, or_false, false_or]; first | done | (rw [e107, hz16.1 809 (by decide)]; done) | (rw [e107, hz16.1 809 (by decide)]; rfl)), (by simp only [zuI_1, zuI_2, zuJ_1, zuJ_2, zuJ_3, zuP_1, zuP_2, zuP_3, zuC_1, zuC_2, reduceIte, Nat.reduceEqDiff, false_and, and_false, true_and, and_true, and_self, or_true, true_or, or_false, false_or]; first | done | (rw [e115, hz16.1 810 (by decide)]; done) | (rw [e115, hz16.1 810 (by decide)]; rfl)), (by simp only [zuI_1, zuI_2, zuJ_1, zuJ_2, zuJ_3, zuP_1, zuP_2, zuP_3, zuC_1, zuC_2, reduceIte, Nat.reduceEqDiff, false_and, and_false, true_and, and_true, and_self, or_true, true_or, or_false, false_or]; first | done | (rw [e123, hz16.1 811 (by decide)]; done) | (rw [e123, hz16.1 811 (by decide)]; rfl)), (by simp only [zuI_1, zuI_2, zuJ_1, zuJ_2, zuJ_3, zuP_1, zuP_2, zuP_3, zuC_1, zuC_2, reduceIte, Nat.reduceEqDiff, false_and, and_false, true_and, and_true, and_self, or_true, true_or, or_false, false_or]; first | done | (rw [e131, hz16.1 812 (by decide)]; done) | (rw [e131, hz16.1 812 (by decide)]; rfl)), (by simp only [zuI_1, zuI_2, zuJ_1, zuJ_2, zuJ_3, zuP_1, zuP_2, zuP_3, zuC_1, zuC_2, reduceIte, Nat.reduceEqDiff, false_and, and_false, true_and, and_true, and_self, or_true, true_or, or_false, false_or]; first | done | (rw [e139, hz16.1 813 (by decide)]; done) | (rw [e139, hz16.1 813 (by decide)]; rfl))⟩⟩⟩

set_option maxHeartbeats 4000000 in
set_option maxRecDepth 100000 in
theorem c_X7_beginK {l : Launch} {Γ : zΓ} {G : zH} {w b : Nat} (hX : zXs Γ)  : zMet l Γ yX7_begin cX7_begin 2 none 1 [zr 8 w, zr 6 b] G (zpv (fun G' => zsn [510, 2048, 2049, 2050, 2051, 2052, 2053, 809, 810, 811, 812, 813] G G' ∧ (G'.2.2 = (zuP G 800 w b).2.2 ∧ OW Γ w G G' ∧ bgG Γ w b G G'))) := by
  refine zMet_of RX7 hX (by decide) rfl (Nat.le_of_ble_eq_true rfl) ?_
  intro p e s m args below meth c C hr hlk
  show Z p l e (zrm 1) s m args below meth c Γ 2 0 0 (MQ below (zQc Γ (zpv (fun G' => zsn [510, 2048, 2049, 2050, 2051, 2052, 2053, 809, 810, 811, 812, 813] G G' ∧ (G'.2.2 = (zuP G 800 w b).2.2 ∧ OW Γ w G G' ∧ bgG Γ w b G G')))) args s 0 0 (zA Γ)) 0 [some (zr 8 w), some (zr 6 b)] [] G
  refine zs_aload_n (pc := 0) C dX7_begin_0 rfl ?_
  refine zs_aload_n (pc := 1) C dX7_begin_1 rfl ?_
  refine zs_putd (r := 800) (pc := 2) C dX7_begin_2 w_X7_40 f_8_0 (by decide) rfl ?_
  refine zs_aload_n (pc := 5) C dX7_begin_5 rfl ?_
  refine zs_getf (pc := 6) C dX7_begin_6 w_X7_12 f_8_1 (by decide) ?_
  refine zs_iconst (pc := 9) C dX7_begin_9 (by decide) ?_
  refine zs_puti (r := 510) (pc := 10) C dX7_begin_10 w_X7_48 f_5_10 rfl (r_510 0) (by omega) ?_
  refine zs_aload_n (pc := 13) C dX7_begin_13 rfl ?_
  refine zs_getf (pc := 14) C dX7_begin_14 w_X7_52 f_6_5 (by decide) ?_
  refine zs_iconst (pc := 17) C dX7_begin_17 (by decide) ?_
  refine zs_aload_n (pc := 18) C dX7_begin_18 rfl ?_
  refine zs_getf (pc := 19) C dX7_begin_19 w_X7_18 f_8_2 (by decide) ?_
  refine zs_iconst (pc := 22) C dX7_begin_22 (by decide) ?_
  refine zs_bipush (pc := 23) C dX7_begin_23 (by decide) (by decide) ?_
  refine zs_acopy (r0 := 2040) (r1 := 2048) (pc := 25) C dX7_begin_25 ac_X7_57 a_40 a_48 (by decide) (by decide) (by omega) (by omega) (by omega) (by omega) (by omega) rfl rfl (fun i j => Or.inl (by rw [r_2040, r_2048]; decide)) (by decide) (Nat.le_of_ble_eq_true rfl) ?_
  refine zs_aload_n (pc := 28) C dX7_begin_28 rfl ?_
  refine zs_getf (pc := 29) C dX7_begin_29 w_X7_52 f_6_5 (by decide) ?_
  refine zs_iconst (pc := 32) C dX7_begin_32 (by decide) ?_
  refine zs_aload_n (pc := 33) C dX7_begin_33 rfl ?_
  refine zs_getf (pc := 34) C dX7_begin_34 w_X7_22 f_8_3 (by decide) ?_
  refine zs_iconst (pc := 37) C dX7_begin_37 (by decide) ?_
  refine zs_bipush (pc := 38) C dX7_begin_38 (by decide) (by decide) ?_
  refine zs_acopy (r0 := 2040) (r1 := 2049) (pc := 40) C dX7_begin_40 ac_X7_57 a_40 a_49 (by decide) (by decide) (by omega) (by omega) (by omega) (by omega) (by omega) rfl rfl (fun i j => Or.inl (by rw [r_2040, r_2049]; decide)) (by decide) (Nat.le_of_ble_eq_true rfl) ?_
  refine zs_aload_n (pc := 43) C dX7_begin_43 rfl ?_
  refine zs_getf (pc := 44) C dX7_begin_44 w_X7_25 f_8_4 (by decide) ?_
  refine zs_iconst (pc := 47) C dX7_begin_47 (by decide) ?_
  refine zSv2 (pc := 48) C dX7_begin_48 s_X7_63 (c_J7_fill_53178F hX a_50 (by decide) (by decide) (fun i => by rw [r_2050]; decide)) (by decide) ⟨Nat.zero_le _, Nat.zero_le _⟩ (Nat.le_of_ble_eq_true rfl) (fun G48 hp48 => ?_)
  obtain ⟨hz48, hq48⟩ := hp48
  try simp only [zuI_1, zuI_2, zuJ_1, zuJ_2, zuJ_3, zuP_1, zuP_2, zuP_3, zuC_1, zuC_2, reduceIte, Nat.reduceEqDiff, false_and, and_false, true_and, and_true, and_self, or_true, true_or, or_false, false_or] at hq48
  refine zs_aload_n (pc := 51) C dX7_begin_51 rfl ?_
  refine zs_getf (pc := 52) C dX7_begin_52 w_X7_28 f_8_5 (by decide) ?_
  refine zs_iconst (pc := 55) C dX7_begin_55 (by decide) ?_
  refine zSv2 (pc := 56) C dX7_begin_56 s_X7_63 (c_J7_fill_53178F hX a_51 (by decide) (by decide) (fun i => by rw [r_2051]; decide)) (by decide) ⟨Nat.zero_le _, Nat.zero_le _⟩ (Nat.le_of_ble_eq_true rfl) (fun G56 hp56 => ?_)
  obtain ⟨hz56, hq56⟩ := hp56
  refine zs_aload_n (pc := 59) C dX7_begin_59 rfl ?_
  refine zs_getf (pc := 60) C dX7_begin_60 w_X7_31 f_8_6 (by decide) ?_
  refine zs_iconst (pc := 63) C dX7_begin_63 (by decide) ?_
  refine zSv2 (pc := 64) C dX7_begin_64 s_X7_63 (c_J7_fill_53178F hX a_52 (by decide) (by decide) (fun i => by rw [r_2052]; decide)) (by decide) ⟨Nat.zero_le _, Nat.zero_le _⟩ (Nat.le_of_ble_eq_true rfl) (fun G64 hp64 => ?_)
  obtain ⟨hz64, hq64⟩ := hp64
  refine zs_aload_n (pc := 67) C dX7_begin_67 rfl ?_
  refine zs_getf (pc := 68) C dX7_begin_68 w_X7_34 f_8_7 (by decide) ?_
  refine zs_iconst (pc := 71) C dX7_begin_71 (by decide) ?_
  refine zSv2 (pc := 72) C dX7_begin_72 s_X7_63 (c_J7_fill_53178F hX a_53 (by decide) (by decide) (fun i => by rw [r_2053]; decide)) (by decide) ⟨Nat.zero_le _, Nat.zero_le _⟩ (Nat.le_of_ble_eq_true rfl) (fun G72 hp72 => ?_)
  obtain ⟨hz72, hq72⟩ := hp72
  refine zs_aload_n (pc := 75) C dX7_begin_75 rfl ?_
  refine zs_iconst (pc := 76) C dX7_begin_76 (by decide) ?_
  refine zs_puti (r := 809) (pc := 77) C dX7_begin_77 w_X7_69 f_8_9 rfl (r_809 0) (by omega) ?_
  refine zs_aload_n (pc := 80) C dX7_begin_80 rfl ?_
  refine zs_aload_n (pc := 81) C dX7_begin_81 rfl ?_
  refine zs_geti (r := 609) (pc := 82) C dX7_begin_82 w_X7_72 f_6_9 rfl (r_609 0) (fun v82 e82 l82 u82 => ?_)
  try simp only [zuI_1, zuI_2, zuJ_1, zuJ_2, zuJ_3, zuP_1, zuP_2, zuP_3, zuC_1, zuC_2, reduceIte, Nat.reduceEqDiff, false_and, and_false, true_and, and_true, and_self, or_true, true_or, or_false, false_or] at e82
  have eb82 : v82 = G.1 609 b 0 := by rw [e82]; first | (rw [hz72.1 609 (by decide), hz64.1 609 (by decide), hz56.1 609 (by decide), hz48.1 609 (by decide)]; simp only [zuI_1, zuI_2, zuJ_1, zuJ_2, zuJ_3, zuP_1, zuP_2, zuP_3, zuC_1, zuC_2, reduceIte, Nat.reduceEqDiff, false_and, and_false, true_and, and_true, and_self, or_true, true_or, or_false, false_or]; done) | (simp only [zuI_1, zuI_2, zuJ_1, zuJ_2, zuJ_3, zuP_1, zuP_2, zuP_3, zuC_1, zuC_2, reduceIte, Nat.reduceEqDiff, false_and, and_false, true_and, and_true, and_self, or_true, true_or, or_false, false_or, hz72.1 609 (by decide), hz64.1 609 (by decide), hz56.1 609 (by decide), hz48.1 609 (by decide)]; done)
  refine zs_puti (r := 810) (pc := 85) C dX7_begin_85 w_X7_75 f_8_10 rfl (r_810 0) (by omega) ?_
  refine zs_aload_n (pc := 88) C dX7_begin_88 rfl ?_
  refine zs_aload_n (pc := 89) C dX7_begin_89 rfl ?_
  refine zs_geti (r := 611) (pc := 90) C dX7_begin_90 w_X7_76 f_6_11 rfl (r_611 0) (fun v90 e90 l90 u90 => ?_)
  try simp only [zuI_1, zuI_2, zuJ_1, zuJ_2, zuJ_3, zuP_1, zuP_2, zuP_3, zuC_1, zuC_2, reduceIte, Nat.reduceEqDiff, false_and, and_false, true_and, and_true, and_self, or_true, true_or, or_false, false_or] at e90
  have eb90 : v90 = G.1 611 b 0 := by rw [e90]; first | (rw [hz72.1 611 (by decide), hz64.1 611 (by decide), hz56.1 611 (by decide), hz48.1 611 (by decide)]; simp only [zuI_1, zuI_2, zuJ_1, zuJ_2, zuJ_3, zuP_1, zuP_2, zuP_3, zuC_1, zuC_2, reduceIte, Nat.reduceEqDiff, false_and, and_false, true_and, and_true, and_self, or_true, true_or, or_false, false_or]; done) | (simp only [zuI_1, zuI_2, zuJ_1, zuJ_2, zuJ_3, zuP_1, zuP_2, zuP_3, zuC_1, zuC_2, reduceIte, Nat.reduceEqDiff, false_and, and_false, true_and, and_true, and_self, or_true, true_or, or_false, false_or, hz72.1 611 (by decide), hz64.1 611 (by decide), hz56.1 611 (by decide), hz48.1 611 (by decide)]; done)
  refine zs_puti (r := 811) (pc := 93) C dX7_begin_93 w_X7_79 f_8_11 rfl (r_811 0) (by omega) ?_
  refine zs_aload_n (pc := 96) C dX7_begin_96 rfl ?_
  refine zs_aload_n (pc := 97) C dX7_begin_97 rfl ?_
  refine zs_geti (r := 612) (pc := 98) C dX7_begin_98 w_X7_82 f_6_12 rfl (r_612 0) (fun v98 e98 l98 u98 => ?_)
  try simp only [zuI_1, zuI_2, zuJ_1, zuJ_2, zuJ_3, zuP_1, zuP_2, zuP_3, zuC_1, zuC_2, reduceIte, Nat.reduceEqDiff, false_and, and_false, true_and, and_true, and_self, or_true, true_or, or_false, false_or] at e98
  have eb98 : v98 = G.1 612 b 0 := by rw [e98]; first | (rw [hz72.1 612 (by decide), hz64.1 612 (by decide), hz56.1 612 (by decide), hz48.1 612 (by decide)]; simp only [zuI_1, zuI_2, zuJ_1, zuJ_2, zuJ_3, zuP_1, zuP_2, zuP_3, zuC_1, zuC_2, reduceIte, Nat.reduceEqDiff, false_and, and_false, true_and, and_true, and_self, or_true, true_or, or_false, false_or]; done) | (simp only [zuI_1, zuI_2, zuJ_1, zuJ_2, zuJ_3, zuP_1, zuP_2, zuP_3, zuC_1, zuC_2, reduceIte, Nat.reduceEqDiff, false_and, and_false, true_and, and_true, and_self, or_true, true_or, or_false, false_or, hz72.1 612 (by decide), hz64.1 612 (by decide), hz56.1 612 (by decide), hz48.1 612 (by decide)]; done)
  refine zs_puti (r := 812) (pc := 101) C dX7_begin_101 w_X7_85 f_8_12 rfl (r_812 0) (by omega) ?_
  refine zs_aload_n (pc := 104) C dX7_begin_104 rfl ?_
  refine zs_iconst (pc := 105) C dX7_begin_105 (by decide) ?_
  refine zs_puti (r := 813) (pc := 106) C dX7_begin_106 w_X7_88 f_8_13 rfl (r_813 0) (by omega) ?_
  exact zs_vret (pc := 109) C hr hlk dX7_begin_109 ⟨by repeat (first | exact zsn_rf | assumption | refine zsn_C (by decide) ?_ | refine zsn_I (by decide) ?_ | refine zsn_J ?_ | refine zsn_P ?_ | refine zsn_m (by assumption) (by decide) ?_ | refine zsn_c (by assumption) (by decide) ?_), ⟨(by show G72.2.2 = _; rw [hz72.2, hz64.2, hz56.2, hz48.2]; rfl), OW_t (by with_reducible repeat (first | exact OW_rf | assumption | apply OW_P | apply OWw_510 | apply OWc_510 | apply OWw_2026 | apply OWc_2026 | apply OWw_2027 | apply OWc_2027 | apply OWw_2028 | apply OWc_2028 | apply OWw_2029 | apply OWc_2029 | apply OWw_2030 | apply OWc_2030 | apply OWw_2031 | apply OWc_2031 | apply OWw_2032 | apply OWc_2032 | apply OWw_2033 | apply OWc_2033 | apply OWw_2034 | apply OWc_2034 | apply OWw_2035 | apply OWc_2035 | apply OWw_2048 | apply OWc_2048 | apply OWw_2049 | apply OWc_2049 | apply OWw_2050 | apply OWc_2050 | apply OWw_2051 | apply OWc_2051 | apply OWw_2052 | apply OWc_2052 | apply OWw_2053 | apply OWc_2053 | apply OWw_2054 | apply OWc_2054 | apply OWw_809 | apply OWc_809 | apply OWw_810 | apply OWc_810 | apply OWw_811 | apply OWc_811 | apply OWw_812 | apply OWc_812 | apply OWw_813 | apply OWc_813)) (OW_fl (f := 16) (by decide) hz72 hq72.2 (OW_fl (f := 15) (by decide) hz64 hq64.2 (OW_fl (f := 14) (by decide) hz56 hq56.2 (OW_fl (f := 13) (by decide) hz48 hq48.2 (by with_reducible repeat (first | exact OW_rf | assumption | apply OW_P | apply OWw_510 | apply OWc_510 | apply OWw_2026 | apply OWc_2026 | apply OWw_2027 | apply OWc_2027 | apply OWw_2028 | apply OWc_2028 | apply OWw_2029 | apply OWc_2029 | apply OWw_2030 | apply OWc_2030 | apply OWw_2031 | apply OWc_2031 | apply OWw_2032 | apply OWc_2032 | apply OWw_2033 | apply OWc_2033 | apply OWw_2034 | apply OWc_2034 | apply OWw_2035 | apply OWc_2035 | apply OWw_2048 | apply OWc_2048 | apply OWw_2049 | apply OWc_2049 | apply OWw_2050 | apply OWc_2050 | apply OWw_2051 | apply OWc_2051 | apply OWw_2052 | apply OWc_2052 | apply OWw_2053 | apply OWc_2053 | apply OWw_2054 | apply OWc_2054 | apply OWw_809 | apply OWc_809 | apply OWw_810 | apply OWc_810 | apply OWw_811 | apply OWc_811 | apply OWw_812 | apply OWc_812 | apply OWw_813 | apply OWc_813)))))), ⟨(by simp only [zuI_1, zuI_2, zuJ_1, zuJ_2, zuJ_3, zuP_1, zuP_2, zuP_3, zuC_1, zuC_2, reduceIte, Nat.reduceEqDiff, false_and, and_false, true_and, and_true, and_self, or_true, true_or, or_false, false_or, hz72.1 510 (by decide), hz64.1 510 (by decide), hz56.1 510 (by decide), hz48.1 510 (by decide)]), fun j hj => ⟨(by simp only [zuI_1, zuI_2, zuJ_1, zuJ_2, zuJ_3, zuP_1, zuP_2, zuP_3, zuC_1, zuC_2, reduceIte, Nat.reduceEqDiff, false_and, and_false, true_and, and_true, and_self, or_true, true_or, or_false, false_or, zcp_0 (show (j : Int) < 20 by omega), hz72.1 2048 (by decide), hz64.1 2048 (by decide), hz56.1 2048 (by decide), hz48.1 2048 (by decide)]), (by simp only [zuI_1, zuI_2, zuJ_1, zuJ_2, zuJ_3, zuP_1, zuP_2, zuP_3, zuC_1, zuC_2, reduceIte, Nat.reduceEqDiff, false_and, and_false, true_and, and_true, and_self, or_true, true_or, or_false, false_or, zcp_0 (show (j : Int) < 20 by omega), hz72.1 2049 (by decide), hz64.1 2049 (by decide), hz56.1 2049 (by decide), hz48.1 2049 (by decide)])⟩, fun j hj => ⟨(by simp only [zuI_1, zuI_2, zuJ_1, zuJ_2, zuJ_3, zuP_1, zuP_2, zuP_3, zuC_1, zuC_2, reduceIte, Nat.reduceEqDiff, false_and, and_false, true_and, and_true, and_self, or_true, true_or, or_false, false_or, hz72.1 2050 (by decide), hz64.1 2050 (by decide), hz56.1 2050 (by decide)]; exact hq48.1 j hj), (by simp only [zuI_1, zuI_2, zuJ_1, zuJ_2, zuJ_3, zuP_1, zuP_2, zuP_3, zuC_1, zuC_2, reduceIte, Nat.reduceEqDiff, false_and, and_false, true_and, and_true, and_self, or_true, true_or, or_false, false_or, hz72.1 2051 (by decide), hz64.1 2051 (by decide)]; exact hq56.1 j hj), (by simp only [zuI_1, zuI_2, zuJ_1, zuJ_2, zuJ_3, zuP_1, zuP_2, zuP_3, zuC_1, zuC_2, reduceIte, Nat.reduceEqDiff, false_and, and_false, true_and, and_true, and_self, or_true, true_or, or_false, false_or, hz72.1 2052 (by decide)]; exact hq64.1 j hj), (by simp only [zuI_1, zuI_2, zuJ_1, zuJ_2, zuJ_3, zuP_1, zuP_2, zuP_3, zuC_1, zuC_2, reduceIte, Nat.reduceEqDiff, false_and, and_false, true_and, and_true, and_self, or_true, true_or, or_false, false_or]; exact hq72.1 j hj)⟩, (by simp only [zuI_1, zuI_2, zuJ_1, zuJ_2, zuJ_3, zuP_1, zuP_2, zuP_3, zuC_1, zuC_2, reduceIte, Nat.reduceEqDiff, false_and, and_false, true_and, and_true, and_self, or_true, true_or, or_false, false_or]), (by simp only [zuI_1, zuI_2, zuJ_1, zuJ_2, zuJ_3, zuP_1, zuP_2, zuP_3, zuC_1, zuC_2, reduceIte, Nat.reduceEqDiff, false_and, and_false, true_and, and_true, and_self, or_true, true_or, or_false, false_or]; first | done | exact eb82), (by simp only [zuI_1, zuI_2, zuJ_1, zuJ_2, zuJ_3, zuP_1, zuP_2, zuP_3, zuC_1, zuC_2, reduceIte, Nat.reduceEqDiff, false_and, and_false, true_and, and_true, and_self, or_true, true_or, or_false, false_or]; first | done | exact eb90), (by simp only [zuI_1, zuI_2, zuJ_1, zuJ_2, zuJ_3, zuP_1, zuP_2, zuP_3, zuC_1, zuC_2, reduceIte, Nat.reduceEqDiff, false_and, and_false, true_and, and_true, and_self, or_true, true_or, or_false, false_or]; first | done | exact eb98), (by simp only [zuI_1, zuI_2, zuJ_1, zuJ_2, zuJ_3, zuP_1, zuP_2, zuP_3, zuC_1, zuC_2, reduceIte, Nat.reduceEqDiff, false_and, and_false, true_and, and_true, and_self, or_true, true_or, or_false, false_or])⟩⟩⟩
