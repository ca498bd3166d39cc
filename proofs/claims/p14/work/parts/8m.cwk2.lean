section Z8
variable {p : Program} {l : Launch} {e : Env} {R : Room} {s : State} {m : MethodId} {args : Array Value} {below : List Frame} {meth : Method} {c : Code} {Γ : zΓ} {cc : ByteArray} {nL : Nat} {own : String} {cells slots : Nat} {Q : State → Prop} {pc : Nat} {ls : List (Option zV)} {st : List zV} {G : zH}
theorem zl_andE {x : Int} (h0 : 0 ≤ x) (h1 : x ≤ 9223372036854775807) : Int64.ofInt x &&& Int64.ofInt 2147483647 = Int64.ofInt (x % 2147483648) := by
  obtain ⟨n, rfl⟩ := Int.eq_ofNat_of_zero_le h0
  apply Int64.toBitVec_inj.mp
  apply BitVec.eq_of_toNat_eq
  rw [Int64.toBitVec_and, BitVec.toNat_and, Int64.toBitVec_ofInt, Int64.toBitVec_ofInt, Int64.toBitVec_ofInt, show ((n : Int) % 2147483648) = ((n % 2147483648 : Nat) : Int) by omega, BitVec.ofInt_natCast, BitVec.ofInt_natCast, BitVec.toNat_ofNat, BitVec.toNat_ofNat, show (BitVec.ofInt 64 2147483647).toNat = 2 ^ 31 - 1 from rfl, Nat.and_two_pow_sub_one_eq_mod]
  omega
theorem zs_landT (C : zCx p s m args c Γ cc nL own) {x : Int} (d : decode cc pc = .ok (.land, 1)) (h : 0 ≤ x) (kk : Z p l e R s m args below meth c Γ nL cells slots Q (pc + 1) ls (zj (x % 2147483648) :: st) G) : Z p l e R s m args below meth c Γ nL cells slots Q pc ls (zj 2147483647 :: zj x :: st) G := by
  intro hG hl hs H locs rl hP hS hL
  refine lv_land C.1 C.2.1 d ?_
  rw [zl_andE h (zs_hd (zs_tl hs)).2]
  exact kk hG hl (zs_cons (v := zj (x % 2147483648)) ⟨by omega, by omega⟩ (zs_tl (zs_tl hs))) H locs rl hP hS hL
end Z8
theorem bc_n : ∀ v : Nat, v < 16 → bushr v 4 = 0 ∧ bushr v 8 = 0 ∧ bushr v 16 = 0 ∧ band v 252645135 = v ∧ band v 63 = v ∧ band v 858993459 = ((v % 4 : Nat) : Int) ∧ band (bushr v 2) 858993459 = ((v / 4 : Nat) : Int) ∧ band (bushr v 1) 1431655765 = ((v / 2 % 2 + 4 * (v / 8 % 2) : Nat) : Int) := by decide +kernel
theorem bc_u {v : Int} (h : 0 ≤ v ∧ v ≤ 15) : bushr v 4 = 0 ∧ bushr v 8 = 0 ∧ bushr v 16 = 0 ∧ band v 252645135 = v ∧ band v 63 = v ∧ band v 858993459 = v % 4 ∧ band (bushr v 2) 858993459 = v / 4 ∧ band (bushr v 1) 1431655765 = v / 2 % 2 + 4 * (v / 8 % 2) := by
  have q := bc_n v.toNat (by omega)
  rw [show ((v.toNat : Nat) : Int) = v by omega] at q
  obtain ⟨q1, q2, q3, q4, q5, q6, q7, q8⟩ := q
  exact ⟨q1, q2, q3, q4, q5, by rw [q6]; omega, by rw [q7]; omega, by rw [q8]; omega⟩
def pc4 (k : Int) : Int := k % 2 + k / 2 % 2 + k / 4 % 2 + k / 8 % 2
theorem bc_v {v : Int} (h : 0 ≤ v ∧ v ≤ 15) : 0 ≤ v - (v / 2 % 2 + 4 * (v / 8 % 2)) ∧ v - (v / 2 % 2 + 4 * (v / 8 % 2)) ≤ 10 ∧ (v - (v / 2 % 2 + 4 * (v / 8 % 2))) % 4 + (v - (v / 2 % 2 + 4 * (v / 8 % 2))) / 4 = pc4 v := by
  rcases (show v = 0 ∨ v = 1 ∨ v = 2 ∨ v = 3 ∨ v = 4 ∨ v = 5 ∨ v = 6 ∨ v = 7 ∨ v = 8 ∨ v = 9 ∨ v = 10 ∨ v = 11 ∨ v = 12 ∨ v = 13 ∨ v = 14 ∨ v = 15 by omega) with rfl | rfl | rfl | rfl | rfl | rfl | rfl | rfl | rfl | rfl | rfl | rfl | rfl | rfl | rfl | rfl <;> decide
theorem pc4_in {v : Int} (h : 0 ≤ v ∧ v ≤ 15) : 0 ≤ pc4 v ∧ pc4 v ≤ 4 := by unfold pc4; omega
theorem wPort_cg {A V W : aS} (h : V 19 0 = W 19 0) : wPort A V = wPort A W := by unfold wPort; rw [h]
theorem wPr_cg {V W : aS} {p : Int} (h : V 12 = W 12) : wPr V p = wPr W p := by unfold wPr; rw [h]
theorem wBits_cg {V W : aS} {p : Int} (h : V 12 = W 12) : wBits V p = wBits W p := by unfold wBits; rw [h]
theorem wLie_b {W V : aS} {p s k : Int} (h : V 10 k.toNat = wBits W p) (hp : 0 ≤ p ∧ p ≤ 4) (hs : 0 ≤ s ∧ s ≤ 3) : (wLie V k s = 0 ↔ 0 < wL W p s) ∧ (wLie V k s = 0 ∨ wLie V k s = 1) := by
  unfold wLie
  rw [h, wBits_bit W hp.1 hs]
  by_cases q : 0 < W 12 (p * 4 + s).toNat
  · rw [if_pos q]
    exact ⟨⟨fun _ => q, fun _ => by decide⟩, Or.inl (by decide)⟩
  · rw [if_neg q]
    exact ⟨⟨fun z => absurd z (by decide), fun z => absurd z q⟩, Or.inr (by decide)⟩
theorem up_up {A : aS} {f j : Nat} {u v : Int} : up (up A f j u) f j v = up A f j v := funext fun f' => funext fun j' => by
  unfold up
  by_cases q : f' = f ∧ j' = j
  · rw [if_pos q, if_pos q]
  · rw [if_neg q, if_neg q, if_neg q]
theorem wWorst_s {A W : aS} {p k : Int} (h : 0 ≤ k) : wWorst A (W 12) p (k + 1).toNat = if 0 < W 12 ((p * 4).toNat + k.toNat) ∧ (wWorst A (W 12) p k.toNat = -1 ∨ A 6 (wWorst A (W 12) p k.toNat).toNat < A 6 k.toNat) then k else wWorst A (W 12) p k.toNat := by
  rw [show (k + 1).toNat = k.toNat + 1 by omega, wWorst, show ((k.toNat : Nat) : Int) = k by omega]
theorem wFree_s {W : aS} {p k : Int} (h : 0 ≤ k) : wFree (W 12) p (k + 1).toNat = wFree (W 12) p k.toNat + (if 0 < W 12 ((p * 4).toNat + k.toNat) then 0 else 1) := by
  rw [show (k + 1).toNat = k.toNat + 1 by omega, wFree]
theorem wFind_s {W : aS} {p a k : Int} (h : 0 ≤ k) : wFind (W 12) p a (k + 1).toNat = if wFind (W 12) p a k.toNat ≠ -1 then wFind (W 12) p a k.toNat else if ¬ 0 < W 12 ((p * 4).toNat + k.toNat) ∧ wFree (W 12) p k.toNat = a then k else -1 := by
  rw [show (k + 1).toNat = k.toNat + 1 by omega, wFind, show ((k.toNat : Nat) : Int) = k by omega]
theorem wFind_st {W : aS} {p a : Int} {m : Nat} (h : wFind (W 12) p a m ≠ -1) : ∀ t, wFind (W 12) p a (m + t) = wFind (W 12) p a m
  | 0 => rfl
  | t + 1 => by
    show wFind (W 12) p a ((m + t) + 1) = _
    rw [wFind, wFind_st h t, if_pos h]
theorem wFind_hit {W : aS} {p a k n : Int} (h : 0 ≤ k ∧ k < n) (h1 : wFind (W 12) p a k.toNat = -1) (h2 : ¬ 0 < W 12 ((p * 4).toNat + k.toNat)) (h3 : wFree (W 12) p k.toNat = a) : wFind (W 12) p a n.toNat = k := by
  have e := wFind_s (W := W) (p := p) (a := a) h.1
  rw [if_neg (fun q => q h1), if_pos ⟨h2, h3⟩] at e
  have q := wFind_st (W := W) (p := p) (a := a) (m := (k + 1).toNat) (by rw [e]; omega) (n.toNat - (k + 1).toNat)
  rw [show (k + 1).toNat + (n.toNat - (k + 1).toNat) = n.toNat by omega] at q
  exact q.trans e
theorem wFree_in {F : Nat → Int} {p : Int} : ∀ m : Nat, 0 ≤ wFree F p m ∧ wFree F p m ≤ m
  | 0 => ⟨Int.le_refl 0, Int.le_refl 0⟩
  | m + 1 => by
    have h := wFree_in (F := F) (p := p) m
    rw [wFree]
    split <;> omega
theorem wFree_m {F : Nat → Int} {p : Int} {m : Nat} : ∀ d : Nat, wFree F p m ≤ wFree F p (m + d)
  | 0 => Int.le_refl _
  | d + 1 => by
    have h := wFree_m (F := F) (p := p) (m := m) d
    show _ ≤ wFree F p ((m + d) + 1)
    rw [wFree]
    split <;> omega
theorem wFree_mo {F : Nat → Int} {p m n : Int} (h : m ≤ n) : wFree F p m.toNat ≤ wFree F p n.toNat := by
  have q := wFree_m (F := F) (p := p) (m := m.toNat) (n.toNat - m.toNat)
  rwa [show m.toNat + (n.toNat - m.toNat) = n.toNat by omega] at q
theorem pc4_4 (a b c d : Prop) [Decidable a] [Decidable b] [Decidable c] [Decidable d] : pc4 ((if a then 1 else 0) + (if b then 2 else 0) + (if c then 4 else 0) + (if d then 8 else 0)) = (if a then 1 else 0) + (if b then 1 else 0) + (if c then 1 else 0) + (if d then 1 else 0) := by
  (repeat' split) <;> decide
/-- no more than told are LEFT, so the bits count the same -/
theorem wFree_bits {A W : aS} {p : Int} (hW : WI A W) (hT : TA A) (hp : 0 ≤ p ∧ p ≤ 4) : A 4 0 - pc4 (wBits W p) = wFree (W 12) p (A 4 0).toNat := by
  have hz : ∀ s : Int, 0 ≤ s → s ≤ 3 → ¬ s < A 4 0 → ¬ 0 < W 12 (p * 4 + s).toNat := fun s h0 h3 hs => by
    rcases hW.2.2.2.1 p.toNat s.toNat (by omega) (by omega) with q | q
    · omega
    · rw [show p.toNat * 4 + s.toNat = (p * 4 + s).toNat by omega] at q
      have := WI_L hW hp (s := s) ⟨h0, h3⟩
      omega
  have z0 := hz 0 (by decide) (by decide)
  have z1 := hz 1 (by decide) (by decide)
  have z2 := hz 2 (by decide) (by decide)
  have z3 := hz 3 (by decide) (by decide)
  rw [show (p * 4 + 0).toNat = (p * 4).toNat by omega] at z0
  rw [show (p * 4 + 1).toNat = (p * 4).toNat + 1 by omega] at z1
  rw [show (p * 4 + 2).toNat = (p * 4).toNat + 2 by omega] at z2
  rw [show (p * 4 + 3).toNat = (p * 4).toNat + 3 by omega] at z3
  have h9 := hT.1
  rw [wBits_e, pc4_4]
  clear hz hW hT
  rcases (show A 4 0 = 0 ∨ A 4 0 = 1 ∨ A 4 0 = 2 ∨ A 4 0 = 3 ∨ A 4 0 = 4 by omega) with h | h | h | h | h
  · rw [if_neg (z0 (by omega)), if_neg (z1 (by omega)), if_neg (z2 (by omega)), if_neg (z3 (by omega)), h]; rfl
  · rw [if_neg (z1 (by omega)), if_neg (z2 (by omega)), if_neg (z3 (by omega)), h]
    show 1 - _ = 0 + (if 0 < W 12 (p * 4).toNat then (0 : Int) else 1)
    split <;> rfl
  · rw [if_neg (z2 (by omega)), if_neg (z3 (by omega)), h]
    show 2 - _ = 0 + (if 0 < W 12 (p * 4).toNat then (0 : Int) else 1) + (if 0 < W 12 ((p * 4).toNat + 1) then (0 : Int) else 1)
    (repeat' split) <;> first | rfl | omega
  · rw [if_neg (z3 (by omega)), h]
    show 3 - _ = 0 + (if 0 < W 12 (p * 4).toNat then (0 : Int) else 1) + (if 0 < W 12 ((p * 4).toNat + 1) then (0 : Int) else 1) + (if 0 < W 12 ((p * 4).toNat + 2) then (0 : Int) else 1)
    (repeat' split) <;> first | rfl | omega
  · rw [h]
    show 4 - _ = 0 + (if 0 < W 12 (p * 4).toNat then (0 : Int) else 1) + (if 0 < W 12 ((p * 4).toNat + 1) then (0 : Int) else 1) + (if 0 < W 12 ((p * 4).toNat + 2) then (0 : Int) else 1) + (if 0 < W 12 ((p * 4).toNat + 3) then (0 : Int) else 1)
    (repeat' split) <;> first | rfl | omega
/-! the sack that a cake takes from -/
theorem wCo_in {F H : Nat → Int} {a : Int} : ∀ m : Nat, wCo F H a m = -1 ∨ (0 ≤ wCo F H a m ∧ wCo F H a m < m ∧ 0 < H (wCo F H a m).toNat ∧ a ≤ F (wCo F H a m).toNat)
  | 0 => Or.inl rfl
  | m + 1 => by
    have h := wCo_in (F := F) (H := H) (a := a) m
    rw [wCo]
    split
    · rename_i q
      exact Or.inr ⟨by omega, by omega, by rw [Int.toNat_natCast]; exact q.1, by rw [Int.toNat_natCast]; exact q.2.1⟩
    · rcases h with h | h
      · exact Or.inl h
      · exact Or.inr ⟨h.1, by omega, h.2.2⟩
theorem wTk0_s {W : aS} {c k : Int} (h : 0 ≤ k) (hc : 0 ≤ c) : wTk0 W c (k + 1).toNat = up (wTk0 W c k.toNat) 17 (c * 60 + k).toNat 0 := by
  rw [show (k + 1).toNat = k.toNat + 1 by omega, wTk0, show (c * 60).toNat + k.toNat = (c * 60 + k).toNat by omega]
theorem wTk0_f {W : aS} {c : Int} {f j : Nat} (h : f ≠ 17) : ∀ m, (wTk0 W c m) f j = W f j
  | 0 => rfl
  | m + 1 => by rw [wTk0, up_f h]; exact wTk0_f h m
/-- a sack is taken from -/
def wTs (a c : Int) (x : Int × aS) : Int × aS := (x.1 - min x.1 (x.2 5 (wCo (x.2 3) (x.2 5) a (x.2 0 0).toNat).toNat), up (up x.2 5 (wCo (x.2 3) (x.2 5) a (x.2 0 0).toNat).toNat (x.2 5 (wCo (x.2 3) (x.2 5) a (x.2 0 0).toNat).toNat - min x.1 (x.2 5 (wCo (x.2 3) (x.2 5) a (x.2 0 0).toNat).toNat))) 17 (c * 60 + wCo (x.2 3) (x.2 5) a (x.2 0 0).toNat).toNat (min x.1 (x.2 5 (wCo (x.2 3) (x.2 5) a (x.2 0 0).toNat).toNat)))
theorem wTk_s {a c k : Int} {x : Int × aS} (hk : 0 ≤ k ∧ k < 60) (h : 0 < x.1 ∧ wCo (x.2 3) (x.2 5) a (x.2 0 0).toNat ≠ -1) : wTk a c (60 - k).toNat x = wTk a c (60 - (k + 1)).toNat (wTs a c x) := by
  rw [show (60 - k).toNat = (60 - (k + 1)).toNat + 1 by omega, wTk, if_pos h]
  rfl
theorem wTk_e {a c : Int} {x : Int × aS} (h : ¬ (0 < x.1 ∧ wCo (x.2 3) (x.2 5) a (x.2 0 0).toNat ≠ -1)) : ∀ m : Nat, wTk a c m x = x
  | 0 => rfl
  | m + 1 => by rw [wTk, if_neg h]
theorem wUb_s {W : aS} {c k : Int} (h : 0 ≤ k) (hc : 0 ≤ c) : wUb W c (k + 1).toNat = up (wUb W c k.toNat) 5 k.toNat (W 5 k.toNat + W 17 (c * 60 + k).toNat) := by
  rw [show (k + 1).toNat = k.toNat + 1 by omega, wUb, show (c * 60).toNat + k.toNat = (c * 60 + k).toNat by omega]
theorem wUb_f {W : aS} {c : Int} {f j : Nat} : ∀ m, (f ≠ 5 ∨ m ≤ j) → (wUb W c m) f j = W f j
  | 0, _ => rfl
  | m + 1, h => by
    rw [wUb]
    by_cases q : f = 5
    · subst q
      rw [up_j (by omega)]
      exact wUb_f m (by omega)
    · rw [up_f q]
      exact wUb_f m (Or.inl q)
theorem wBd_s {A W : aS} {k : Int} (h : 0 ≤ k) : wBd A (k + 1).toNat W = if A 11 k.toNat = (wBd A k.toNat W) 18 0 then wBake A (wBd A k.toNat W) k else wBd A k.toNat W := by
  rw [show (k + 1).toNat = k.toNat + 1 by omega, wBd, show ((k.toNat : Nat) : Int) = k by omega]
theorem wBest_s {A W : aS} {t i k : Int} (h : 0 ≤ k) : wBest A W t i (k + 1).toNat = if (wBest A W t i k.toNat).2 < (if 0 < W 12 k.toNat then wUrge A W (k / 4) (k % 4) t i else 0) then (k, (if 0 < W 12 k.toNat then wUrge A W (k / 4) (k % 4) t i else 0)) else wBest A W t i k.toNat := by
  rw [show (k + 1).toNat = k.toNat + 1 by omega, wBest, show ((k.toNat : Nat) : Int) = k by omega, show ((k.toNat / 4 : Nat) : Int) = k / 4 by omega, show ((k.toNat % 4 : Nat) : Int) = k % 4 by omega]
theorem wBest_in {A W : aS} {t i : Int} : ∀ m : Nat, (wBest A W t i m).1 = -1 ∧ (wBest A W t i m).2 = 0 ∨ (0 ≤ (wBest A W t i m).1 ∧ (wBest A W t i m).1 < m ∧ 0 < W 12 (wBest A W t i m).1.toNat ∧ 0 < (wBest A W t i m).2)
  | 0 => Or.inl ⟨rfl, rfl⟩
  | m + 1 => by
    have h := wBest_in (A := A) (W := W) (t := t) (i := i) m
    rw [wBest]
    have hz : ¬ 0 < W 12 m → (if 0 < W 12 m then wUrge A W ((m / 4 : Nat) : Int) ((m % 4 : Nat) : Int) t i else 0) = 0 := fun z => if_neg z
    generalize (if 0 < W 12 m then wUrge A W ((m / 4 : Nat) : Int) ((m % 4 : Nat) : Int) t i else 0) = u at *
    by_cases q : (wBest A W t i m).2 < u
    · rw [if_pos q]
      refine Or.inr ⟨by show (0 : Int) ≤ (m : Int); omega, by show (m : Int) < _; omega, ?_, ?_⟩
      · show 0 < W 12 ((m : Nat) : Int).toNat
        rw [Int.toNat_natCast]
        by_cases z : 0 < W 12 m
        · exact z
        · have := hz z
          omega
      · show 0 < u
        omega
    · rw [if_neg q]
      rcases h with h | h
      · exact Or.inl h
      · exact Or.inr ⟨h.1, by omega, h.2.2⟩
theorem wBest_k {A W : aS} {t i k x3 x4 : Int} (h : 0 ≤ k) (hb : (x3, x4) = wBest A W t i k.toNat) : ∃ u : Int, (0 < W 12 k.toNat → u = wUrge A W (k / 4) (k % 4) t i) ∧ (¬ 0 < W 12 k.toNat → u = 0) ∧ (¬ x4 < u → (x3, x4) = wBest A W t i (k + 1).toNat) ∧ (x4 < u → (k, u) = wBest A W t i (k + 1).toNat) := by
  refine ⟨if 0 < W 12 k.toNat then wUrge A W (k / 4) (k % 4) t i else 0, fun q => if_pos q, fun q => if_neg q, ?_, ?_⟩
  · intro q
    rw [wBest_s h, ← hb, if_neg q]
  · intro q
    rw [wBest_s h, ← hb, if_pos q]
theorem wUrge_in {A W : aS} {p s t i : Int} (hT : TA A) (hp : 0 ≤ p) (hs : 0 ≤ s ∧ s < A 4 0) : -1000000000000 ≤ wUrge A W p s t i ∧ wUrge A W p s t i ≤ 1000000000000 := by
  have h1 := hT.2.1 s.toNat (by omega)
  unfold wUrge
  split
  · omega
  · split
    · omega
    · split
      · omega
      · split
        · omega
        · rename_i q3 q4
          have w := hT.2.2.2.2.2.2.2 2 (by decide) (by omega)
          rcases lV_in (sg := A 18) (pt := A 27) (ot := A 28) (nm := wNm A W p s) (f := A 16 2) (b := A 17 2) w.1 with z | z
          · exact absurd z q4
          · exact z
def wFt (A W : aS) (l : Int) (k : Int) : Prop := wFit A W l k.toNat
theorem wFt_s {A W : aS} {l k : Int} (h : 0 ≤ k) : wFt A W l (k + 1) ↔ wFt A W l k ∧ wThen A W k l (W 2 k.toNat) = W 3 k.toNat := by
  unfold wFt
  rw [show (k + 1).toNat = k.toNat + 1 by omega, wFit, show ((k.toNat : Nat) : Int) = k by omega]
theorem wFt_no {A W : aS} {l k n : Int} (h : 0 ≤ k ∧ k < n) (hn : ¬ wThen A W k l (W 2 k.toNat) = W 3 k.toNat) : ¬ wFt A W l n := by
  have q : ∀ d : Nat, ¬ wFt A W l (k + 1 + d) := fun d => by
    induction d with
    | zero => intro z; exact hn ((wFt_s h.1).mp (by simpa using z)).2
    | succ d ih => intro z; rw [show k + 1 + ((d + 1 : Nat) : Int) = (k + 1 + d) + 1 by omega] at z; exact ih ((wFt_s (by omega)).mp z).1
  have q2 := q (n - (k + 1)).toNat
  rwa [show k + 1 + ((n - (k + 1)).toNat : Int) = n by omega] at q2
theorem wTk_f {a c : Int} {f j : Nat} (h5 : f ≠ 5) (h17 : f ≠ 17) : ∀ (m : Nat) (x : Int × aS), (wTk a c m x).2 f j = x.2 f j
  | 0, _ => rfl
  | m + 1, x => by
    rw [wTk]
    split
    · rw [wTk_f h5 h17 m]
      show (up (up _ _ _ _) _ _ _) f j = _
      rw [up_f h17, up_f h5]
    · rfl
theorem wTk_5 {a c : Int} {j : Nat} : ∀ (m : Nat) (x : Int × aS), 0 ≤ x.2 5 j → 0 ≤ (wTk a c m x).2 5 j ∧ (wTk a c m x).2 5 j ≤ x.2 5 j
  | 0, _, h => ⟨h, Int.le_refl _⟩
  | m + 1, x, h => by
    rw [wTk]
    split
    · rename_i q
      have hc := wCo_in (F := x.2 3) (H := x.2 5) (a := a) (x.2 0 0).toNat
      have e : (wTs a c x).2 5 j = if j = (wCo (x.2 3) (x.2 5) a (x.2 0 0).toNat).toNat then x.2 5 j - min x.1 (x.2 5 j) else x.2 5 j := by
        unfold wTs
        dsimp only
        rw [up_f (by decide)]
        by_cases z : j = (wCo (x.2 3) (x.2 5) a (x.2 0 0).toNat).toNat
        · rw [if_pos z, ← z, up_eq]
        · rw [if_neg z, up_j z]
      have g : 0 ≤ (wTs a c x).2 5 j ∧ (wTs a c x).2 5 j ≤ x.2 5 j := by
        rw [e]
        split
        · omega
        · omega
      have r := wTk_5 (a := a) (c := c) (j := j) m (wTs a c x) g.1
      exact ⟨r.1, Int.le_trans r.2 g.2⟩
    · exact ⟨h, Int.le_refl _⟩
theorem WI_ps {A W : aS} (h : WI A W) {m : Int} (hm : 0 ≤ m ∧ m < 20) (hl : 0 < W 12 m.toNat) : m / 4 < A 4 1 ∧ m % 4 < A 4 0 := by
  have q := h.2.2.2.1 (m / 4).toNat (m % 4).toNat (by omega) (by omega)
  have e : (m / 4).toNat * 4 + (m % 4).toNat = m.toNat := by omega
  rw [e] at q
  have := h.2.2.1 m.toNat (by omega)
  rcases q with q | q
  · omega
  · omega
set_option maxRecDepth 100000 in
theorem WI_bake {A W : aS} (hT : TA A) (h : WI A W) {c : Int} (hc : 0 ≤ c ∧ c < A 4 2) : WI A (wBake A W c) ∧ (wBake A W c) 18 0 = W 18 0 := by
  unfold wBake
  split
  · have h0 := hT.1
    have ef : ∀ f j : Nat, f ≠ 5 → f ≠ 17 → f ≠ 16 → (up (wTk (A 9 c.toNat) c 60 (A 10 c.toNat, wTk0 W c 60)).2 16 c.toNat (W 18 0)) f j = W f j := fun f j h5 h17 h16 => by
      rw [up_f h16, wTk_f h5 h17]
      exact wTk0_f h17 60
    have e5 : ∀ k : Nat, 0 ≤ W 5 k → 0 ≤ (up (wTk (A 9 c.toNat) c 60 (A 10 c.toNat, wTk0 W c 60)).2 16 c.toNat (W 18 0)) 5 k ∧ (up (wTk (A 9 c.toNat) c 60 (A 10 c.toNat, wTk0 W c 60)).2 16 c.toNat (W 18 0)) 5 k ≤ W 5 k := fun k hk => by
      rw [up_f (by decide)]
      have e : (wTk0 W c 60) 5 k = W 5 k := wTk0_f (by decide) 60
      have q := wTk_5 (a := A 9 c.toNat) (c := c) (j := k) 60 (A 10 c.toNat, wTk0 W c 60) (by show 0 ≤ (wTk0 W c 60) 5 k; omega)
      have q2 : (wTk (A 9 c.toNat) c 60 (A 10 c.toNat, wTk0 W c 60)).2 5 k ≤ (wTk0 W c 60) 5 k := q.2
      omega
    have e16 : ∀ j : Nat, (up (wTk (A 9 c.toNat) c 60 (A 10 c.toNat, wTk0 W c 60)).2 16 c.toNat (W 18 0)) 16 j = if j = c.toNat then W 18 0 else W 16 j := fun j => by
      by_cases z : j = c.toNat
      · rw [if_pos z, z, up_eq]
      · rw [if_neg z, up_j z, wTk_f (by decide) (by decide)]
        show (wTk0 W c 60) 16 j = W 16 j
        exact wTk0_f (by decide) 60
    generalize up (wTk (A 9 c.toNat) c 60 (A 10 c.toNat, wTk0 W c 60)).2 16 c.toNat (W 18 0) = V at *
    obtain ⟨a0, a1, a2, a3, a4, a5, a6, a7, a8, a9⟩ := h
    refine ⟨⟨?_, fun k hk => ?_, fun j hj => ?_, fun p s hp hs => ?_, fun j hj => ?_, ?_, ?_, ?_, ?_, ?_⟩, ef 18 0 (by decide) (by decide) (by decide)⟩
    · rw [ef 0 0 (by decide) (by decide) (by decide)]; exact a0
    · rw [ef 0 0 (by decide) (by decide) (by decide)] at hk
      have q := a1 k hk
      have q5 := e5 k q.2.2.2.2.1.1
      rw [ef 1 k (by decide) (by decide) (by decide), ef 2 k (by decide) (by decide) (by decide), ef 3 k (by decide) (by decide) (by decide), ef 4 k (by decide) (by decide) (by decide), ef 6 k (by decide) (by decide) (by decide), ef 7 k (by decide) (by decide) (by decide), ef 8 k (by decide) (by decide) (by decide), ef 9 k (by decide) (by decide) (by decide), ef 10 k (by decide) (by decide) (by decide)]
      exact ⟨q.1, q.2.1, q.2.2.1, q.2.2.2.1, ⟨q5.1, Int.le_trans q5.2 q.2.2.2.2.1.2⟩, q.2.2.2.2.2⟩
    · rw [ef 12 j (by decide) (by decide) (by decide), ef 11 j (by decide) (by decide) (by decide)]; exact a2 j hj
    · rw [ef 11 _ (by decide) (by decide) (by decide)]; exact a3 p s hp hs
    · have q := a4 j hj
      rw [ef 14 j (by decide) (by decide) (by decide), ef 13 j (by decide) (by decide) (by decide), ef 0 0 (by decide) (by decide) (by decide), ef 15 j (by decide) (by decide) (by decide), ef 11 (j * 4) (by decide) (by decide) (by decide), ef 11 (j * 4 + 1) (by decide) (by decide) (by decide), ef 11 (j * 4 + 2) (by decide) (by decide) (by decide), ef 11 (j * 4 + 3) (by decide) (by decide) (by decide), e16 j]
      refine ⟨q.1, q.2.1, q.2.2.1, q.2.2.2.1, q.2.2.2.2.1, ?_, ?_⟩ <;> split <;> omega
    · rw [ef 18 0 (by decide) (by decide) (by decide)]; exact a5
    · rw [ef 19 0 (by decide) (by decide) (by decide)]; exact a6
    · rw [ef 20 0 (by decide) (by decide) (by decide)]; exact a7
    · rw [ef 21 0 (by decide) (by decide) (by decide)]; exact a8
    · rw [ef 22 0 (by decide) (by decide) (by decide)]; exact a9
  · exact ⟨h, rfl⟩
theorem WI_bd {A W : aS} (hT : TA A) (h : WI A W) : ∀ m : Nat, (m : Int) ≤ A 4 2 → WI A (wBd A m W) ∧ (wBd A m W) 18 0 = W 18 0
  | 0, _ => ⟨h, rfl⟩
  | m + 1, hm => by
    have q := WI_bd hT h m (by omega)
    rw [wBd]
    split
    · have q2 := WI_bake hT q.1 (c := (m : Int)) (by omega)
      exact ⟨q2.1, q2.2.trans q.2⟩
    · exact q
/-! works at other addresses stay -/
def OW (Γ : zΓ) (w : Nat) (G G1 : zH) : Prop := ∀ f a j : Nat, f < 23 → a ≠ wad Γ w f → G1.1 (wreg f) a j = G.1 (wreg f) a j
theorem OW_rf {Γ : zΓ} {w : Nat} {G : zH} : OW Γ w G G := fun _ _ _ _ _ => rfl
theorem OW_w {Γ : zΓ} {w f i : Nat} {x : Int} {G G1 : zH} (hf : f < 23) (h : OW Γ w G G1) : OW Γ w G (zuI G1 (wreg f) (wad Γ w f) i x) := fun f' a j hf' ha => by
  rw [zuI_1, if_neg (fun q => by have e := wreg_ij f' hf' f hf q.1; subst e; exact ha q.2.1)]
  exact h f' a j hf' ha
theorem OW_c {Γ : zΓ} {w f : Nat} {g : Nat → Int} {G G1 : zH} (hf : f < 23) (h : OW Γ w G G1) : OW Γ w G (zuC G1 (wreg f) (wad Γ w f) g) := fun f' a j hf' ha => by
  rw [zuC_1, if_neg (fun q => by have e := wreg_ij f' hf' f hf q.1; subst e; exact ha q.2)]
  exact h f' a j hf' ha
theorem OW_P {Γ : zΓ} {w r a b : Nat} {G G1 : zH} (h : OW Γ w G G1) : OW Γ w G (zuP G1 r a b) := h
theorem OW_t {Γ : zΓ} {w : Nat} {G G1 G2 : zH} (h2 : OW Γ w G1 G2) (h : OW Γ w G G1) : OW Γ w G G2 := fun f a j hf ha => (h2 f a j hf ha).trans (h f a j hf ha)
theorem OW_fl {Γ : zΓ} {w f : Nat} {G G1 G2 : zH} (hf : f < 23) (hs : zsm [wreg f] G1 G2) (ha2 : ∀ a2 j : Nat, a2 ≠ wad Γ w f → G2.1 (wreg f) a2 j = G1.1 (wreg f) a2 j) (h : OW Γ w G G1) : OW Γ w G G2 := fun f' a j hf' ha => by
  by_cases q : f' = f
  · subst q
    rw [ha2 a j ha]
    exact h f' a j hf' ha
  · rw [hs.1 _ (by simp only [List.mem_singleton]; exact fun z => q (wreg_ij f' hf' f hf z))]
    exact h f' a j hf' ha
theorem OW_n {Γ : zΓ} {w : Nat} {G G1 G2 : zH} {rs : List Nat} (hs : zsn rs G1 G2) (hr : ∀ r ∈ wLs, r ∉ rs) (h : OW Γ w G G1) : OW Γ w G G2 := fun f a j hf ha => by
  rw [hs _ (hr _ (wreg_in f hf))]
  exact h f a j hf ha

set_option maxHeartbeats 4000000 in
set_option maxRecDepth 100000 in
theorem c_J6_bitCount_0f7a4K {l : Launch} {Γ : zΓ} {G : zH} {k : Int} (hX : zXs Γ) (hk : 0 ≤ k ∧ k ≤ 15) : zMet l Γ yJ6_bitCount_0f7a4 cJ6_bitCount_0f7a4 1 (some .int) 0 [zi k] G (zpi (fun x G' => G' = G ∧ (x = pc4 k))) := by
  refine zMet_of RJ6 hX (by decide) rfl (Nat.le_of_ble_eq_true rfl) ?_
  intro p e s m args below meth c C hr hlk
  show Z p l e (zrm 0) s m args below meth c Γ 1 0 0 (MQ below (zQc Γ (zpi (fun x G' => G' = G ∧ (x = pc4 k)))) args s 0 0 (zA Γ)) 0 [some (zi k)] [] G
  refine zs_loc 0 rfl (fun ha0 hb0 => ?_)
  refine zs_iload_n (pc := 0) C dJ6_bitCount_0f7a4_0 rfl ?_
  refine zs_iload_n (pc := 1) C dJ6_bitCount_0f7a4_1 rfl ?_
  refine zs_iconst (pc := 2) C dJ6_bitCount_0f7a4_2 (by decide) ?_
  refine zs_iushrX (pc := 3) C dJ6_bitCount_0f7a4_3 (fun z3 ez3 hz31 hz32 => ?_)
  refine zs_ldcw (n := 1431655765) (pc := 4) C dJ6_bitCount_0f7a4_4 q_J6_265 (by decide) (by decide) ?_
  refine zs_iandX (pc := 7) C dJ6_bitCount_0f7a4_7 (fun z7 ez7 hz71 hz72 => ?_)
  have b7 : z7 = k / 2 % 2 + 4 * (k / 8 % 2) := by rw [ez7, ez3]; exact (bc_u hk).2.2.2.2.2.2.2
  have c7 := bc_v hk
  rw [← b7] at c7
  first | refine zs_isub (pc := 8) C dJ6_bitCount_0f7a4_8 (by omega) ?_ | refine zs_isubF (pc := 8) C dJ6_bitCount_0f7a4_8 (fun z8 hz81 hz82 => ?_)
  generalize hv1 : k - z7 = v1 at *
  clear b7 ez7
  refine zs_istore_n (pc := 9) C dJ6_bitCount_0f7a4_9 (by decide) ?_
  dsimp only [zset, zclr, znone]
  refine zs_iload_n (pc := 10) C dJ6_bitCount_0f7a4_10 rfl ?_
  refine zs_ldcw (n := 858993459) (pc := 11) C dJ6_bitCount_0f7a4_11 q_J6_266 (by decide) (by decide) ?_
  refine zs_iandX (pc := 14) C dJ6_bitCount_0f7a4_14 (fun z14 ez14 hz141 hz142 => ?_)
  have b14 : z14 = v1 % 4 := by rw [ez14]; exact (bc_u (by omega)).2.2.2.2.2.1
  refine zs_iload_n (pc := 15) C dJ6_bitCount_0f7a4_15 rfl ?_
  refine zs_iconst (pc := 16) C dJ6_bitCount_0f7a4_16 (by decide) ?_
  refine zs_iushrX (pc := 17) C dJ6_bitCount_0f7a4_17 (fun z17 ez17 hz171 hz172 => ?_)
  refine zs_ldcw (n := 858993459) (pc := 18) C dJ6_bitCount_0f7a4_18 q_J6_266 (by decide) (by decide) ?_
  refine zs_iandX (pc := 21) C dJ6_bitCount_0f7a4_21 (fun z21 ez21 hz211 hz212 => ?_)
  have b21 : z21 = v1 / 4 := by rw [ez21, ez17]; exact (bc_u (by omega)).2.2.2.2.2.2.1
  first | refine zs_iadd (pc := 22) C dJ6_bitCount_0f7a4_22 (by omega) ?_ | refine zs_iaddF (pc := 22) C dJ6_bitCount_0f7a4_22 (fun z22 hz221 hz222 => ?_)
  refine zs_istore_n (pc := 23) C dJ6_bitCount_0f7a4_23 (by decide) ?_
  dsimp only [zset, zclr, znone]
  refine zs_iload_n (pc := 24) C dJ6_bitCount_0f7a4_24 rfl ?_
  refine zs_iload_n (pc := 25) C dJ6_bitCount_0f7a4_25 rfl ?_
  refine zs_iconst (pc := 26) C dJ6_bitCount_0f7a4_26 (by decide) ?_
  refine zs_iushrX (pc := 27) C dJ6_bitCount_0f7a4_27 (fun z27 ez27 hz271 hz272 => ?_)
  have b27 : z27 = 0 := by rw [ez27]; exact (bc_u (by omega)).1
  first | refine zs_iadd (pc := 28) C dJ6_bitCount_0f7a4_28 (by omega) ?_ | refine zs_iaddF (pc := 28) C dJ6_bitCount_0f7a4_28 (fun z28 hz281 hz282 => ?_)
  refine zs_ldcw (n := 252645135) (pc := 29) C dJ6_bitCount_0f7a4_29 q_J6_267 (by decide) (by decide) ?_
  refine zs_iandX (pc := 32) C dJ6_bitCount_0f7a4_32 (fun z32 ez32 hz321 hz322 => ?_)
  have b32 : z32 = z14 + z21 + z27 := by rw [ez32]; exact (bc_u (by omega)).2.2.2.1
  refine zs_istore_n (pc := 33) C dJ6_bitCount_0f7a4_33 (by decide) ?_
  dsimp only [zset, zclr, znone]
  refine zs_iload_n (pc := 34) C dJ6_bitCount_0f7a4_34 rfl ?_
  refine zs_iload_n (pc := 35) C dJ6_bitCount_0f7a4_35 rfl ?_
  refine zs_bipush (pc := 36) C dJ6_bitCount_0f7a4_36 (by decide) (by decide) ?_
  refine zs_iushrX (pc := 38) C dJ6_bitCount_0f7a4_38 (fun z38 ez38 hz381 hz382 => ?_)
  have b38 : z38 = 0 := by rw [ez38]; exact (bc_u (by omega)).2.1
  first | refine zs_iadd (pc := 39) C dJ6_bitCount_0f7a4_39 (by omega) ?_ | refine zs_iaddF (pc := 39) C dJ6_bitCount_0f7a4_39 (fun z39 hz391 hz392 => ?_)
  refine zs_istore_n (pc := 40) C dJ6_bitCount_0f7a4_40 (by decide) ?_
  dsimp only [zset, zclr, znone]
  refine zs_iload_n (pc := 41) C dJ6_bitCount_0f7a4_41 rfl ?_
  refine zs_iload_n (pc := 42) C dJ6_bitCount_0f7a4_42 rfl ?_
  refine zs_bipush (pc := 43) C dJ6_bitCount_0f7a4_43 (by decide) (by decide) ?_
  refine zs_iushrX (pc := 45) C dJ6_bitCount_0f7a4_45 (fun z45 ez45 hz451 hz452 => ?_)
  have b45 : z45 = 0 := by rw [ez45]; exact (bc_u (by omega)).2.2.1
  first | refine zs_iadd (pc := 46) C dJ6_bitCount_0f7a4_46 (by omega) ?_ | refine zs_iaddF (pc := 46) C dJ6_bitCount_0f7a4_46 (fun z46 hz461 hz462 => ?_)
  refine zs_istore_n (pc := 47) C dJ6_bitCount_0f7a4_47 (by decide) ?_
  dsimp only [zset, zclr, znone]
  refine zs_iload_n (pc := 48) C dJ6_bitCount_0f7a4_48 rfl ?_
  refine zs_bipush (pc := 49) C dJ6_bitCount_0f7a4_49 (by decide) (by decide) ?_
  refine zs_iandX (pc := 51) C dJ6_bitCount_0f7a4_51 (fun z51 ez51 hz511 hz512 => ?_)
  have b51 : z51 = z32 + z38 + z45 := by rw [ez51]; exact (bc_u (by omega)).2.2.2.2.1
  exact zs_iret (pc := 52) C hr hlk dJ6_bitCount_0f7a4_52 ⟨rfl, by omega⟩

set_option maxHeartbeats 4000000 in
set_option maxRecDepth 100000 in
theorem c_X7_leftBitsOfK {l : Launch} {Γ : zΓ} {G : zH} {w t : Nat} {A W : aS} {p : Int} (hX : zXs Γ) (hZ : QQ Γ w t A W G) (hp : 0 ≤ p ∧ p ≤ 4)  : zMet l Γ yX7_leftBitsOf cX7_leftBitsOf 4 (some .int) 0 [zr 8 w, zi p] G (zpi (fun x G' => G' = G ∧ (x = wBits W p))) := by
  have hI := QQ_t hZ
  refine zMet_of RX7 hX (by decide) rfl (Nat.le_of_ble_eq_true rfl) ?_
  intro px9 e s m args below meth c C hr hlk
  show Z px9 l e (zrm 0) s m args below meth c Γ 4 0 0 (MQ below (zQc Γ (zpi (fun x G' => G' = G ∧ (x = wBits W p)))) args s 0 0 (zA Γ)) 0 [some (zr 8 w), some (zi p), none, none] [] G
  refine zs_loc 1 rfl (fun ha1 hb1 => ?_)
  refine zs_iconst (pc := 0) C dX7_leftBitsOf_0 (by decide) ?_
  refine zs_istore_n (pc := 1) C dX7_leftBitsOf_1 (by decide) ?_
  dsimp only [zset, zclr, znone]
  refine zs_iconst (pc := 2) C dX7_leftBitsOf_2 (by decide) ?_
  refine zs_istore_n (pc := 3) C dX7_leftBitsOf_3 (by decide) ?_
  dsimp only [zset, zclr, znone]
  have L4 : ∀ (nn : Nat) (x2 x3 : Int), (0 ≤ x3 ∧ x3 ≤ 4) → (x2 = wB (W 12) (p * 4).toNat x3.toNat) → (4 - x3).toNat < nn → Z px9 l e (zrm 0) s m args below meth c Γ 4 0 0 (MQ below (zQc Γ (zpi (fun x G' => G' = G ∧ (x = wBits W p)))) args s 0 0 (zA Γ)) 4 [some (zr 8 w), some (zi p), some (zi x2), some (zi x3)] [] G := by
    intro nn
    induction nn with
    | zero => intro x2 x3 h4_0 h4_1 hm; exact absurd hm (Nat.not_lt_zero _)
    | succ nn ih4 =>
      intro x2 x3 h4_0 h4_1 hm4
      refine zs_iload_n (pc := 4) C dX7_leftBitsOf_4 rfl ?_
      refine zs_iconst (pc := 5) C dX7_leftBitsOf_5 (by decide) ?_
      refine zs_icmp_ge (tgt := 38) (pc := 6) C dX7_leftBitsOf_6 (by decide) (fun h6 => ?_) (fun h6 => ?_)
      · skip
        have hx3 : x3 = 4 := by omega
        rw [hx3] at h4_1
        refine zs_iload_n (pc := 38) C dX7_leftBitsOf_38 rfl ?_
        exact zs_iret (pc := 39) C hr hlk dX7_leftBitsOf_39 ⟨rfl, h4_1⟩
      · skip
        refine zs_iload_n (pc := 9) C dX7_leftBitsOf_9 rfl ?_
        refine zs_aload_n (pc := 10) C dX7_leftBitsOf_10 rfl ?_
        refine zs_getf (pc := 11) C dX7_leftBitsOf_11 w_X7_22 f_8_3 (by decide) ?_
        refine zs_iload_n (pc := 14) C dX7_leftBitsOf_14 rfl ?_
        refine zs_iconst (pc := 15) C dX7_leftBitsOf_15 (by decide) ?_
        first | refine zs_imul (pc := 16) C dX7_leftBitsOf_16 (by omega) ?_ | refine zs_imulF (pc := 16) C dX7_leftBitsOf_16 (fun z16 hz161 hz162 => ?_)
        refine zs_iload_n (pc := 17) C dX7_leftBitsOf_17 rfl ?_
        first | refine zs_iadd (pc := 18) C dX7_leftBitsOf_18 (by omega) ?_ | refine zs_iaddF (pc := 18) C dX7_leftBitsOf_18 (fun z18 hz181 hz182 => ?_)
        refine zs_iald (r := 2049) (pc := 19) C dX7_leftBitsOf_19 a_49 (by decide) (by omega) rfl (r_2049 _) (fun v19 e19 l19 u19 => ?_)
        try simp only [QQ_2049 hZ] at e19
        try subst v19
        have hs := wB_s (f := W 12) (b := (p * 4).toNat) (k := x3) (by omega)
        rw [show (p * 4).toNat + x3.toNat = (p * 4 + x3).toNat by omega] at hs
        have hb := bor_i (k := x3) (x := x2) (by omega) (by have q := wB_in (f := W 12) (b := (p * 4).toNat) x3.toNat (by omega); omega)
        refine zs_if_le (tgt := 29) (pc := 20) C dX7_leftBitsOf_20 (by decide) (fun h20 => ?_) (fun h20 => ?_)
        · skip
          rw [if_neg (by omega)] at hs
          refine zs_iconst (pc := 29) C dX7_leftBitsOf_29 (by decide) ?_
          refine zs_iorX (pc := 30) C dX7_leftBitsOf_30 (fun z30 ez30 hz301 hz302 => ?_)
          have hz30 : z30 = wB (W 12) (p * 4).toNat (x3 + 1).toNat := by rw [ez30]; first | (rw [ez25]; omega) | omega
          refine zs_istore_n (pc := 31) C dX7_leftBitsOf_31 (by decide) ?_
          dsimp only [zset, zclr, znone]
          first | refine zs_iinc (pc := 32) C dX7_leftBitsOf_32 rfl (by decide) (by omega) ?_ | refine zs_iincF (pc := 32) C dX7_leftBitsOf_32 rfl (by decide) (fun z32 hz321 hz322 => ?_)
          dsimp only [zset, zclr, znone]
          refine zs_goto (tgt := 4) (pc := 35) C dX7_leftBitsOf_35 (by decide) ?_
          exact zs_wk (ih4 _ _ (by omega) hz30 (by first | omega | (simp only [zuI_1, zuI_2, zuJ_1, zuJ_2, zuJ_3, zuP_1, zuP_2, zuP_3, zuC_1, zuC_2, reduceIte, Nat.reduceEqDiff, false_and, and_false, true_and, and_true, and_self, or_true, true_or, or_false, false_or]; omega))) (zwk_s rfl (zwk_s rfl (zwk_s rfl (zwk_s rfl zwk_0))))
        · skip
          rw [if_pos (by omega)] at hs
          refine zs_iconst (pc := 23) C dX7_leftBitsOf_23 (by decide) ?_
          refine zs_iload_n (pc := 24) C dX7_leftBitsOf_24 rfl ?_
          refine zs_ishlX (pc := 25) C dX7_leftBitsOf_25 (fun z25 ez25 hz251 hz252 => ?_)
          refine zs_goto (tgt := 30) (pc := 26) C dX7_leftBitsOf_26 (by decide) ?_
          refine zs_iorX (pc := 30) C dX7_leftBitsOf_30 (fun z30 ez30 hz301 hz302 => ?_)
          have hz30 : z30 = wB (W 12) (p * 4).toNat (x3 + 1).toNat := by rw [ez30]; first | (rw [ez25]; omega) | omega
          refine zs_istore_n (pc := 31) C dX7_leftBitsOf_31 (by decide) ?_
          dsimp only [zset, zclr, znone]
          first | refine zs_iinc (pc := 32) C dX7_leftBitsOf_32 rfl (by decide) (by omega) ?_ | refine zs_iincF (pc := 32) C dX7_leftBitsOf_32 rfl (by decide) (fun z32 hz321 hz322 => ?_)
          dsimp only [zset, zclr, znone]
          refine zs_goto (tgt := 4) (pc := 35) C dX7_leftBitsOf_35 (by decide) ?_
          exact zs_wk (ih4 _ _ (by omega) hz30 (by first | omega | (simp only [zuI_1, zuI_2, zuJ_1, zuJ_2, zuJ_3, zuP_1, zuP_2, zuP_3, zuC_1, zuC_2, reduceIte, Nat.reduceEqDiff, false_and, and_false, true_and, and_true, and_self, or_true, true_or, or_false, false_or]; omega))) (zwk_s rfl (zwk_s rfl (zwk_s rfl (zwk_s rfl zwk_0))))
  exact zs_wk (L4 _ _ _ (by omega) (show (0 : Int) = _ from rfl) (Nat.lt_succ_self _)) (zwk_s rfl (zwk_s rfl (zwk_s rfl (zwk_s rfl zwk_0))))

set_option maxHeartbeats 4000000 in
set_option maxRecDepth 100000 in
theorem c_X7_worstLeftK {l : Launch} {Γ : zΓ} {G : zH} {w t : Nat} {A W : aS} {p : Int} (hX : zXs Γ) (hZ : QQ Γ w t A W G) (hp : 0 ≤ p ∧ p ≤ 4) (hT : TA A)  : zMet l Γ yX7_worstLeft cX7_worstLeft 4 (some .int) 1 [zr 8 w, zi p] G (zpi (fun x G' => G' = G ∧ (x = wWorst A (W 12) p (A 4 0).toNat ∧ -1 ≤ x ∧ x ≤ 3))) := by
  have hI := QQ_t hZ
  refine zMet_of RX7 hX (by decide) rfl (Nat.le_of_ble_eq_true rfl) ?_
  intro px9 e s m args below meth c C hr hlk
  show Z px9 l e (zrm 1) s m args below meth c Γ 4 0 0 (MQ below (zQc Γ (zpi (fun x G' => G' = G ∧ (x = wWorst A (W 12) p (A 4 0).toNat ∧ -1 ≤ x ∧ x ≤ 3)))) args s 0 0 (zA Γ)) 0 [some (zr 8 w), some (zi p), none, none] [] G
  refine zs_loc 1 rfl (fun ha1 hb1 => ?_)
  refine zs_iconst (pc := 0) C dX7_worstLeft_0 (by decide) ?_
  refine zs_istore_n (pc := 1) C dX7_worstLeft_1 (by decide) ?_
  dsimp only [zset, zclr, znone]
  refine zs_iconst (pc := 2) C dX7_worstLeft_2 (by decide) ?_
  refine zs_istore_n (pc := 3) C dX7_worstLeft_3 (by decide) ?_
  dsimp only [zset, zclr, znone]
  have L4 : ∀ (nn : Nat) (x2 x3 : Int), (0 ≤ x3 ∧ x3 ≤ A 4 0) → (x2 = wWorst A (W 12) p x3.toNat) → (-1 ≤ x2 ∧ x2 ≤ 3) → (4 - x3).toNat < nn → Z px9 l e (zrm 1) s m args below meth c Γ 4 0 0 (MQ below (zQc Γ (zpi (fun x G' => G' = G ∧ (x = wWorst A (W 12) p (A 4 0).toNat ∧ -1 ≤ x ∧ x ≤ 3)))) args s 0 0 (zA Γ)) 4 [some (zr 8 w), some (zi p), some (zi x2), some (zi x3)] [] G := by
    intro nn
    induction nn with
    | zero => intro x2 x3 h4_0 h4_1 h4_2 hm; exact absurd hm (Nat.not_lt_zero _)
    | succ nn ih4 =>
      intro x2 x3 h4_0 h4_1 h4_2 hm4
      refine zs_iload_n (pc := 4) C dX7_worstLeft_4 rfl ?_
      refine zs_aload_n (pc := 5) C dX7_worstLeft_5 rfl ?_
      refine zs_getd (r := 800) (pc := 6) C dX7_worstLeft_6 w_X7_40 f_8_0 (by decide) rfl (fun v6 e6 t6 => ?_)
      rw [hI] at e6
      subst v6
      refine zs_getf (pc := 9) C dX7_worstLeft_9 w_X7_95 f_6_2 (by decide) ?_
      refine zs_iconst (pc := 12) C dX7_worstLeft_12 (by decide) ?_
      refine zs_iald (r := 2037) (pc := 13) C dX7_worstLeft_13 a_37 (by decide) (by omega) rfl rfl (fun v13 e13 l13 u13 => ?_)
      try simp only [QQ_2037 hZ, Int.reduceToNat] at e13
      try subst v13
      have hz9 := hT.1
      refine zs_icmp_ge (tgt := 60) (pc := 14) C dX7_worstLeft_14 (by decide) (fun h14 => ?_) (fun h14 => ?_)
      · skip
        have hx3 : x3 = A 4 0 := by omega
        rw [hx3] at h4_1
        refine zs_iload_n (pc := 60) C dX7_worstLeft_60 rfl ?_
        exact zs_iret (pc := 61) C hr hlk dX7_worstLeft_61 ⟨rfl, ⟨h4_1, by omega, by omega⟩⟩
      · skip
        have hs := wWorst_s (A := A) (W := W) (p := p) (k := x3) (by omega)
        rw [show (p * 4).toNat + x3.toNat = (p * 4 + x3).toNat by omega, ← h4_1] at hs
        have hwl : wL W p x3 = W 12 (p * 4 + x3).toNat := rfl
        refine zs_aload_n (pc := 17) C dX7_worstLeft_17 rfl ?_
        refine zs_iload_n (pc := 18) C dX7_worstLeft_18 rfl ?_
        refine zs_iload_n (pc := 19) C dX7_worstLeft_19 rfl ?_
        have J54 : ∀ (y2 : Int), (y2 = wWorst A (W 12) p (x3 + 1).toNat ∧ -1 ≤ y2 ∧ y2 ≤ 3) → Z px9 l e (zrm 1) s m args below meth c Γ 4 0 0 (MQ below (zQc Γ (zpi (fun x G' => G' = G ∧ (x = wWorst A (W 12) p (A 4 0).toNat ∧ -1 ≤ x ∧ x ≤ 3)))) args s 0 0 (zA Γ)) 54 [some (zr 8 w), some (zi p), some (zi y2), some (zi x3)] [] G := by
          intro y2 h54_0
          first | refine zs_iinc (pc := 54) C dX7_worstLeft_54 rfl (by decide) (by omega) ?_ | refine zs_iincF (pc := 54) C dX7_worstLeft_54 rfl (by decide) (fun z54 hz541 hz542 => ?_)
          dsimp only [zset, zclr, znone]
          refine zs_goto (tgt := 4) (pc := 57) C dX7_worstLeft_57 (by decide) ?_
          exact zs_wk (ih4 _ _ (by omega) h54_0.1 h54_0.2 (by first | omega | (simp only [zuI_1, zuI_2, zuJ_1, zuJ_2, zuJ_3, zuP_1, zuP_2, zuP_3, zuC_1, zuC_2, reduceIte, Nat.reduceEqDiff, false_and, and_false, true_and, and_true, and_self, or_true, true_or, or_false, false_or]; omega))) (zwk_s rfl (zwk_s rfl (zwk_s rfl (zwk_s rfl zwk_0))))
        refine zVip2 (pc := 20) C dX7_worstLeft_20 v_X7_101 (c_X7_leftOfK hX (by repeat (first | assumption | apply QQw_510 | apply QQw_2026 | apply QQw_2027 | apply QQw_2028 | apply QQw_2029 | apply QQw_2030 | apply QQw_2031 | apply QQw_2032 | apply QQw_2033 | apply QQw_2034 | apply QQw_2035 | apply QQw_2048 | apply QQw_2049 | apply QQw_2050 | apply QQw_2051 | apply QQw_2052 | apply QQw_2053 | apply QQw_2054 | apply QQw_809 | apply QQw_810 | apply QQw_811 | apply QQw_812 | apply QQw_813 | apply QQ_J | refine QQ_n (by assumption) ?_ | refine QQ_sm (by assumption) (by decide) (by decide +kernel) ?_)) (by omega) (by omega)) (by decide) (by decide) ⟨Nat.zero_le _, Nat.zero_le _⟩ (Nat.le_of_ble_eq_true rfl) (fun x20 l20 u20 hp20 => ?_)
        have hq20 := hp20
        refine zs_if_le (tgt := 54) (pc := 23) C dX7_worstLeft_23 (by decide) (fun h23 => ?_) (fun h23 => ?_)
        · skip
          exact zs_wk (J54 _ (by first | (refine ⟨?_, by omega, by omega⟩; omega) | (refine ⟨?_, by omega, by omega⟩; rw [hs, if_neg (by rintro ⟨q1, q2⟩; rcases q2 with q2 | q2 <;> omega)]))) (zwk_s rfl (zwk_s rfl (zwk_s rfl (zwk_s rfl zwk_0))))
        · skip
          refine zs_iload_n (pc := 26) C dX7_worstLeft_26 rfl ?_
          refine zs_iconst (pc := 27) C dX7_worstLeft_27 (by decide) ?_
          refine zs_icmp_eq (tgt := 52) (pc := 28) C dX7_worstLeft_28 (by decide) (fun h28 => ?_) (fun h28 => ?_)
          · skip
            rw [if_pos (by first | exact ⟨by omega, Or.inl (by omega)⟩ | exact ⟨by omega, Or.inr (by omega)⟩)] at hs
            refine zs_iload_n (pc := 52) C dX7_worstLeft_52 rfl ?_
            refine zs_istore_n (pc := 53) C dX7_worstLeft_53 (by decide) ?_
            dsimp only [zset, zclr, znone]
            exact zs_wk (J54 _ (by first | (refine ⟨?_, by omega, by omega⟩; omega) | (refine ⟨?_, by omega, by omega⟩; rw [hs, if_neg (by rintro ⟨q1, q2⟩; rcases q2 with q2 | q2 <;> omega)]))) (zwk_s rfl (zwk_s rfl (zwk_s rfl (zwk_s rfl zwk_0))))
          · skip
            refine zs_aload_n (pc := 31) C dX7_worstLeft_31 rfl ?_
            refine zs_getd (r := 800) (pc := 32) C dX7_worstLeft_32 w_X7_40 f_8_0 (by decide) rfl (fun v32 e32 t32 => ?_)
            rw [hI] at e32
            subst v32
            refine zs_getf (pc := 35) C dX7_worstLeft_35 w_X7_98 f_6_3 (by decide) ?_
            refine zs_iload_n (pc := 38) C dX7_worstLeft_38 rfl ?_
            refine zs_iald (r := 2038) (pc := 39) C dX7_worstLeft_39 a_38 (by decide) (by omega) rfl (r_2038 _) (fun v39 e39 l39 u39 => ?_)
            try simp only [QQ_2038 hZ] at e39
            try subst v39
            refine zs_aload_n (pc := 40) C dX7_worstLeft_40 rfl ?_
            refine zs_getd (r := 800) (pc := 41) C dX7_worstLeft_41 w_X7_40 f_8_0 (by decide) rfl (fun v41 e41 t41 => ?_)
            rw [hI] at e41
            subst v41
            refine zs_getf (pc := 44) C dX7_worstLeft_44 w_X7_98 f_6_3 (by decide) ?_
            refine zs_iload_n (pc := 47) C dX7_worstLeft_47 rfl ?_
            refine zs_iald (r := 2038) (pc := 48) C dX7_worstLeft_48 a_38 (by decide) (by omega) rfl (r_2038 _) (fun v48 e48 l48 u48 => ?_)
            try simp only [QQ_2038 hZ] at e48
            try subst v48
            refine zs_icmp_le (tgt := 54) (pc := 49) C dX7_worstLeft_49 (by decide) (fun h49 => ?_) (fun h49 => ?_)
            · skip
              exact zs_wk (J54 _ (by first | (refine ⟨?_, by omega, by omega⟩; omega) | (refine ⟨?_, by omega, by omega⟩; rw [hs, if_neg (by rintro ⟨q1, q2⟩; rcases q2 with q2 | q2 <;> omega)]))) (zwk_s rfl (zwk_s rfl (zwk_s rfl (zwk_s rfl zwk_0))))
            · skip
              rw [if_pos (by first | exact ⟨by omega, Or.inl (by omega)⟩ | exact ⟨by omega, Or.inr (by omega)⟩)] at hs
              refine zs_iload_n (pc := 52) C dX7_worstLeft_52 rfl ?_
              refine zs_istore_n (pc := 53) C dX7_worstLeft_53 (by decide) ?_
              dsimp only [zset, zclr, znone]
              exact zs_wk (J54 _ (by first | (refine ⟨?_, by omega, by omega⟩; omega) | (refine ⟨?_, by omega, by omega⟩; rw [hs, if_neg (by rintro ⟨q1, q2⟩; rcases q2 with q2 | q2 <;> omega)]))) (zwk_s rfl (zwk_s rfl (zwk_s rfl (zwk_s rfl zwk_0))))
  exact zs_wk (L4 _ _ _ (by have := hT.1; omega) (show (-1 : Int) = _ from rfl) (by omega) (Nat.lt_succ_self _)) (zwk_s rfl (zwk_s rfl (zwk_s rfl (zwk_s rfl zwk_0))))

set_option maxHeartbeats 4000000 in
set_option maxRecDepth 100000 in
theorem c_X7_freeSinK {l : Launch} {Γ : zΓ} {G : zH} {w t : Nat} {A W : aS} {p k : Int} (hX : zXs Γ) (hZ : QQ Γ w t A W G) (hp : 0 ≤ p ∧ p ≤ 4) (hT : TA A)  : zMet l Γ yX7_freeSin cX7_freeSin 5 (some .int) 1 [zr 8 w, zi p, zi k] G (zpi (fun x G' => G' = G ∧ (x = wFind (W 12) p k (A 4 0).toNat ∧ -1 ≤ x ∧ x ≤ 3))) := by
  have hI := QQ_t hZ
  refine zMet_of RX7 hX (by decide) rfl (Nat.le_of_ble_eq_true rfl) ?_
  intro px9 e s m args below meth c C hr hlk
  show Z px9 l e (zrm 1) s m args below meth c Γ 5 0 0 (MQ below (zQc Γ (zpi (fun x G' => G' = G ∧ (x = wFind (W 12) p k (A 4 0).toNat ∧ -1 ≤ x ∧ x ≤ 3)))) args s 0 0 (zA Γ)) 0 [some (zr 8 w), some (zi p), some (zi k), none, none] [] G
  refine zs_loc 1 rfl (fun ha1 hb1 => ?_)
  refine zs_loc 2 rfl (fun ha2 hb2 => ?_)
  refine zs_iconst (pc := 0) C dX7_freeSin_0 (by decide) ?_
  refine zs_istore_n (pc := 1) C dX7_freeSin_1 (by decide) ?_
  dsimp only [zset, zclr, znone]
  refine zs_iconst (pc := 2) C dX7_freeSin_2 (by decide) ?_
  refine zs_istore (pc := 3) C dX7_freeSin_3 (by decide) ?_
  dsimp only [zset, zclr, znone]
  have L5 : ∀ (nn : Nat) (x3 x4 : Int), (0 ≤ x4 ∧ x4 ≤ A 4 0) → (x3 = wFree (W 12) p x4.toNat ∧ 0 ≤ x3 ∧ x3 ≤ x4) → (wFind (W 12) p k x4.toNat = -1) → (4 - x4).toNat < nn → Z px9 l e (zrm 1) s m args below meth c Γ 5 0 0 (MQ below (zQc Γ (zpi (fun x G' => G' = G ∧ (x = wFind (W 12) p k (A 4 0).toNat ∧ -1 ≤ x ∧ x ≤ 3)))) args s 0 0 (zA Γ)) 5 [some (zr 8 w), some (zi p), some (zi k), some (zi x3), some (zi x4)] [] G := by
    intro nn
    induction nn with
    | zero => intro x3 x4 h5_0 h5_1 h5_2 hm; exact absurd hm (Nat.not_lt_zero _)
    | succ nn ih5 =>
      intro x3 x4 h5_0 h5_1 h5_2 hm5
      refine zs_iload (pc := 5) C dX7_freeSin_5 rfl ?_
      refine zs_aload_n (pc := 7) C dX7_freeSin_7 rfl ?_
      refine zs_getd (r := 800) (pc := 8) C dX7_freeSin_8 w_X7_40 f_8_0 (by decide) rfl (fun v8 e8 t8 => ?_)
      rw [hI] at e8
      subst v8
      refine zs_getf (pc := 11) C dX7_freeSin_11 w_X7_95 f_6_2 (by decide) ?_
      refine zs_iconst (pc := 14) C dX7_freeSin_14 (by decide) ?_
      refine zs_iald (r := 2037) (pc := 15) C dX7_freeSin_15 a_37 (by decide) (by omega) rfl rfl (fun v15 e15 l15 u15 => ?_)
      try simp only [QQ_2037 hZ, Int.reduceToNat] at e15
      try subst v15
      have hz9 := hT.1
      refine zs_icmp_ge (tgt := 49) (pc := 16) C dX7_freeSin_16 (by decide) (fun h16 => ?_) (fun h16 => ?_)
      · skip
        have hx4 : x4 = A 4 0 := by omega
        rw [hx4] at h5_2
        refine zs_iconst (pc := 49) C dX7_freeSin_49 (by decide) ?_
        exact zs_iret (pc := 50) C hr hlk dX7_freeSin_50 ⟨rfl, ⟨h5_2.symm, by omega, by omega⟩⟩
      · skip
        have hs := wFree_s (W := W) (p := p) (k := x4) (by omega)
        have hf := wFind_s (W := W) (p := p) (a := k) (k := x4) (by omega)
        rw [if_neg (fun q => q h5_2)] at hf
        have hsp : (p * 4).toNat + x4.toNat = (p * 4 + x4).toNat := by omega
        have hwl : wL W p x4 = W 12 (p * 4 + x4).toNat := rfl
        refine zs_aload_n (pc := 19) C dX7_freeSin_19 rfl ?_
        refine zs_iload_n (pc := 20) C dX7_freeSin_20 rfl ?_
        refine zs_iload (pc := 21) C dX7_freeSin_21 rfl ?_
        refine zVip2 (pc := 23) C dX7_freeSin_23 v_X7_101 (c_X7_leftOfK hX (by repeat (first | assumption | apply QQw_510 | apply QQw_2026 | apply QQw_2027 | apply QQw_2028 | apply QQw_2029 | apply QQw_2030 | apply QQw_2031 | apply QQw_2032 | apply QQw_2033 | apply QQw_2034 | apply QQw_2035 | apply QQw_2048 | apply QQw_2049 | apply QQw_2050 | apply QQw_2051 | apply QQw_2052 | apply QQw_2053 | apply QQw_2054 | apply QQw_809 | apply QQw_810 | apply QQw_811 | apply QQw_812 | apply QQw_813 | apply QQ_J | refine QQ_n (by assumption) ?_ | refine QQ_sm (by assumption) (by decide) (by decide +kernel) ?_)) (by omega) (by omega)) (by decide) (by decide) ⟨Nat.zero_le _, Nat.zero_le _⟩ (Nat.le_of_ble_eq_true rfl) (fun x23 l23 u23 hp23 => ?_)
        have hq23 := hp23
        refine zs_if_le (tgt := 32) (pc := 26) C dX7_freeSin_26 (by decide) (fun h26 => ?_) (fun h26 => ?_)
        · skip
          rw [hsp] at hs
          rw [if_neg (by omega)] at hs
          refine zs_iload_n (pc := 32) C dX7_freeSin_32 rfl ?_
          refine zs_iload_n (pc := 33) C dX7_freeSin_33 rfl ?_
          refine zs_icmp_ne (tgt := 40) (pc := 34) C dX7_freeSin_34 (by decide) (fun h34 => ?_) (fun h34 => ?_)
          · skip
            rw [hsp] at hf
            rw [if_neg (fun q => by have := q.2; omega)] at hf
            first | refine zs_iinc (pc := 40) C dX7_freeSin_40 rfl (by decide) (by omega) ?_ | refine zs_iincF (pc := 40) C dX7_freeSin_40 rfl (by decide) (fun z40 hz401 hz402 => ?_)
            dsimp only [zset, zclr, znone]
            first | refine zs_iinc (pc := 43) C dX7_freeSin_43 rfl (by decide) (by omega) ?_ | refine zs_iincF (pc := 43) C dX7_freeSin_43 rfl (by decide) (fun z43 hz431 hz432 => ?_)
            dsimp only [zset, zclr, znone]
            refine zs_goto (tgt := 5) (pc := 46) C dX7_freeSin_46 (by decide) ?_
            exact zs_wk (ih5 _ _ (by omega) (by omega) hf (by first | omega | (simp only [zuI_1, zuI_2, zuJ_1, zuJ_2, zuJ_3, zuP_1, zuP_2, zuP_3, zuC_1, zuC_2, reduceIte, Nat.reduceEqDiff, false_and, and_false, true_and, and_true, and_self, or_true, true_or, or_false, false_or]; omega))) (zwk_s rfl (zwk_s rfl (zwk_s rfl (zwk_s rfl (zwk_s rfl zwk_0)))))
          · skip
            have hh := wFind_hit (W := W) (p := p) (a := k) (k := x4) (n := A 4 0) (by omega) h5_2 (by rw [hsp]; omega) (by omega)
            refine zs_iload (pc := 37) C dX7_freeSin_37 rfl ?_
            exact zs_iret (pc := 39) C hr hlk dX7_freeSin_39 ⟨rfl, ⟨hh.symm, by omega, by omega⟩⟩
        · skip
          rw [hsp] at hs hf
          rw [if_pos (by omega)] at hs
          rw [if_neg (fun q => q.1 (by omega))] at hf
          refine zs_goto (tgt := 43) (pc := 29) C dX7_freeSin_29 (by decide) ?_
          first | refine zs_iinc (pc := 43) C dX7_freeSin_43 rfl (by decide) (by omega) ?_ | refine zs_iincF (pc := 43) C dX7_freeSin_43 rfl (by decide) (fun z43 hz431 hz432 => ?_)
          dsimp only [zset, zclr, znone]
          refine zs_goto (tgt := 5) (pc := 46) C dX7_freeSin_46 (by decide) ?_
          exact zs_wk (ih5 _ _ (by omega) (by omega) hf (by first | omega | (simp only [zuI_1, zuI_2, zuJ_1, zuJ_2, zuJ_3, zuP_1, zuP_2, zuP_3, zuC_1, zuC_2, reduceIte, Nat.reduceEqDiff, false_and, and_false, true_and, and_true, and_self, or_true, true_or, or_false, false_or]; omega))) (zwk_s rfl (zwk_s rfl (zwk_s rfl (zwk_s rfl (zwk_s rfl zwk_0)))))
  exact zs_wk (L5 _ _ _ (by have := hT.1; omega) ⟨(show (0 : Int) = _ from rfl), by omega, by omega⟩ rfl (Nat.lt_succ_self _)) (zwk_s rfl (zwk_s rfl (zwk_s rfl (zwk_s rfl (zwk_s rfl zwk_0)))))
