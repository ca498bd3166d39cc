/-! steps of the counts; what is left, as a function -/
def lfz (Γ : zΓ) (w : Nat) (G : zH) (p t : Int) : Int := wr (G.1 2081 (Γ.2.1 w 51) (20 * 0 + 4 * p + t).toNat - G.1 2082 (Γ.2.1 w 52) (20 * 0 + 4 * p + t).toNat)
def lfc (Γ : zΓ) (w : Nat) (G : zH) (p : Int) : Nat → Bool := fun s => decide (lfz Γ w G p (s : Int) = 0)
theorem zct_step {f : Nat → Bool} {x3 x4 v : Int} (h : x3 = zct f x4.toNat) (h0 : 0 ≤ x4) (hf : f x4.toNat = decide (v = 0)) : (v = 0 → x3 + 1 = zct f (x4 + 1).toNat) ∧ (v ≠ 0 → x3 + 0 = zct f (x4 + 1).toNat) := by
  rw [show (x4 + 1).toNat = x4.toNat + 1 by omega, zct_s, ← h, hf]
  constructor
  · intro q
    simp [q]
  · intro q
    simp [q]
theorem lfc_at {Γ : zΓ} {w : Nat} {G G1 : zH} {p t v : Int} (h0 : 0 ≤ t) (h1 : G1.1 2081 = G.1 2081) (h2 : G1.1 2082 = G.1 2082) (hv : v = wr (G1.1 2081 (Γ.2.1 w 51) (20 * 0 + 4 * p + t).toNat - G1.1 2082 (Γ.2.1 w 52) (20 * 0 + 4 * p + t).toNat)) : lfc Γ w G p t.toNat = decide (v = 0) := by
  unfold lfc lfz
  rw [show ((t.toNat : Nat) : Int) = t by omega, hv, h1, h2]
theorem zfl_step {fi ha : Nat → Int} {q b x3 x4 : Int} (h : x3 = zfl fi ha q b.toNat x4.toNat) (hb : 0 ≤ b) (h0 : 0 ≤ x4) : (q ≤ fi (b + x4).toNat → x3 + ha (b + x4).toNat = zfl fi ha q b.toNat (x4 + 1).toNat) ∧ (¬ q ≤ fi (b + x4).toNat → x3 + 0 = zfl fi ha q b.toNat (x4 + 1).toNat) := by
  rw [show (x4 + 1).toNat = x4.toNat + 1 by omega, zfl_s, ← h, show b.toNat + x4.toNat = (b + x4).toNat by omega]
  constructor
  · intro q1
    rw [if_pos q1]
  · intro q1
    rw [if_neg q1]
theorem zuI_ne {G : zH} {r r' a i : Nat} {x : Int} (h : r' ≠ r) : (zuI G r a i x).1 r' = G.1 r' := by
  funext a' i'
  rw [zuI_1, if_neg (fun q : r' = r ∧ a' = a ∧ i' = i => h q.1)]
/-- no sack among the first x5 will do -/
def NB (ha fi : Nat → Int) (q : Int) (B : Nat) (x5 : Int) : Prop := ∀ k : Nat, (k : Int) < x5 → ha (B + k) = 0 ∨ fi (B + k) < q
theorem NB_0 {ha fi : Nat → Int} {q : Int} {B : Nat} : NB ha fi q B 0 := fun k h => absurd h (by omega)
theorem NB_s {ha fi : Nat → Int} {q b x5 : Int} (h : NB ha fi q b.toNat x5) (hb : 0 ≤ b) (h0 : 0 ≤ x5) (hx : ha (b + x5).toNat = 0 ∨ fi (b + x5).toNat < q) : NB ha fi q b.toNat (x5 + 1) := by
  intro k hk
  rcases Int.lt_or_le (k : Int) x5 with q1 | q1
  · exact h k q1
  · rw [show b.toNat + k = (b + x5).toNat by omega]
    exact hx
theorem zuI_fl {G : zH} {a i : Nat} {x : Int} {fi : Nat → Int} {q b : Int} {n : Nat} {j : Int} (hb : 0 ≤ b) (hj : b ≤ j ∧ j < b + n) (hi : i = j.toNat) (h3 : q ≤ fi j.toNat) : zfl fi ((zuI G 2094 a i x).1 2094 a) q b.toNat n = zfl fi (G.1 2094 a) q b.toNat n - (G.1 2094 a i - x) := by
  subst hi
  have e : j.toNat = b.toNat + (j - b).toNat := by omega
  refine zfl_upd (k := (j - b).toNat) ?_ ?_ ?_ n (by omega)
  · rw [← e, zuI_1, if_pos ⟨rfl, rfl, rfl⟩]
    omega
  · intro i hi
    rw [zuI_1, if_neg (fun q => hi (by rw [← e]; exact q.2.2))]
  · rw [← e]
    exact h3
