/-! the value of a law: each knot's from the values of the knots it joins -/
def jV (k a b : Int) : Int :=
  if k = 2 then (if a ≠ 0 ∨ b ≠ 0 then 1 else 0)
  else if k = 3 then (if a ≠ 0 ∧ b ≠ 0 then 1 else 0)
  else if k = 5 then (if a < b then 1 else 0)
  else if k = 6 then (if a ≤ b then 1 else 0)
  else if k = 7 then (if a = b then 1 else 0)
  else if k = 8 then (if a ≠ b then 1 else 0)
  else if k = 9 then (if b ≤ a then 1 else 0)
  else if k = 10 then (if b < a then 1 else 0)
  else if k = 11 then a + b
  else if k = 12 then a - b
  else if k = 14 then (if b = 0 then 1000000000001 else Int.tdiv a b)
  else a * b
abbrev inb (x : Int) : Prop := -1000000000000 ≤ x ∧ x ≤ 1000000000000
theorem inb_1 {p : Prop} [Decidable p] : inb (if p then 1 else 0) := by unfold inb; split <;> omega
def kV (sg pt ot nm V : Nat → Int) (i : Nat) : Int :=
  if sg i = 0 then pt i else if sg i = 1 then nm (pt i).toNat else if sg i = 4 then (if V (pt i).toNat = 0 then 1 else 0) else jV (sg i) (V (pt i).toNat) (V (ot i).toNat)
def vN (sg pt ot nm : Nat → Int) (s0 : Nat) : Nat → Nat → Int
  | 0 => fun _ => 0
  | m + 1 => fun j => if j = s0 + m then kV sg pt ot nm (vN sg pt ot nm s0 m) (s0 + m) else vN sg pt ot nm s0 m j
def vG (sg pt ot nm : Nat → Int) (s0 : Nat) : Nat → Int
  | 0 => 1
  | m + 1 => if vG sg pt ot nm s0 m = 1 ∧ inb (kV sg pt ot nm (vN sg pt ot nm s0 m) (s0 + m)) then 1 else 0
/-- the value; the least long: none can be told -/
def lV (sg pt ot nm : Nat → Int) (f b : Int) : Int := if f < b ∧ vG sg pt ot nm f.toNat (b - f).toNat = 1 then vN sg pt ot nm f.toNat (b - f).toNat (b - 1).toNat else -9223372036854775808
theorem vN_lt {sg pt ot nm : Nat → Int} {s0 m j : Nat} (h : j < s0 + m) : ∀ t, vN sg pt ot nm s0 (m + t) j = vN sg pt ot nm s0 m j
  | 0 => rfl
  | t + 1 => by
    show (if j = s0 + (m + t) then _ else _) = _
    rw [if_neg (by omega)]
    exact vN_lt h t
theorem vG_le {sg pt ot nm : Nat → Int} {s0 m : Nat} (h : ¬ vG sg pt ot nm s0 m = 1) : ∀ t, ¬ vG sg pt ot nm s0 (m + t) = 1
  | 0 => h
  | t + 1 => by
    show ¬ (if vG sg pt ot nm s0 (m + t) = 1 ∧ _ then (1 : Int) else 0) = 1
    rw [if_neg (fun q => vG_le h t q.1)]
    decide
theorem vG_in {sg pt ot nm : Nat → Int} {s0 : Nat} : ∀ {m : Nat}, vG sg pt ot nm s0 m = 1 → ∀ j, s0 ≤ j → j < s0 + m → inb (vN sg pt ot nm s0 m j)
  | 0, _, j, h1, h2 => absurd h2 (by omega)
  | m + 1, h, j, h1, h2 => by
    have h' : (if vG sg pt ot nm s0 m = 1 ∧ inb (kV sg pt ot nm (vN sg pt ot nm s0 m) (s0 + m)) then (1 : Int) else 0) = 1 := h
    by_cases q : vG sg pt ot nm s0 m = 1 ∧ inb (kV sg pt ot nm (vN sg pt ot nm s0 m) (s0 + m))
    · show inb (if j = s0 + m then _ else _)
      by_cases z : j = s0 + m
      · rw [if_pos z]; exact q.2
      · rw [if_neg z]; exact vG_in q.1 j h1 (by omega)
    · rw [if_neg q] at h'
      exact absurd h' (by decide)
/-- the stack holds knots that were met, and no more than were met -/
theorem sm_in {sg nb pt ot : Nat → Int} {s0 n : Nat} (h : smO sg nb pt ot s0 n) : ∀ m : Nat, m ≤ n → 0 ≤ (smH sg s0 m).1 ∧ (smH sg s0 m).1 ≤ m ∧ ∀ j : Nat, (j : Int) < (smH sg s0 m).1 → (s0 : Int) ≤ (smH sg s0 m).2 j ∧ (smH sg s0 m).2 j < s0 + m
  | 0, _ => ⟨Int.le_refl 0, Int.le_refl 0, fun j hj => absurd hj (by show ¬ (j : Int) < 0; omega)⟩
  | m + 1, hm => by
    obtain ⟨h1, h2, h3⟩ := sm_in h m (by omega)
    obtain ⟨k1, k2, k3⟩ := h m (by omega)
    rw [smH]
    by_cases q : sg (s0 + m) ≤ 1
    · rw [if_pos q]
      refine ⟨?_, ?_, fun j hj => ?_⟩
      · show 0 ≤ (smH sg s0 m).1 + 1; omega
      · show (smH sg s0 m).1 + 1 ≤ _; omega
      · have hj' : (j : Int) < (smH sg s0 m).1 + 1 := hj
        show _ ≤ (if j = (smH sg s0 m).1.toNat then _ else _) ∧ (if j = (smH sg s0 m).1.toNat then _ else _) < _
        by_cases z : j = (smH sg s0 m).1.toNat
        · rw [if_pos z]; omega
        · rw [if_neg z]
          have := h3 j (by omega)
          omega
    · rw [if_neg q]
      by_cases q2 : sg (s0 + m) = 4
      · rw [if_pos q2]
        have hh := k2 q2
        refine ⟨?_, ?_, fun j hj => ?_⟩
        · show 0 ≤ (smH sg s0 m).1; omega
        · show (smH sg s0 m).1 ≤ _; omega
        · have hj' : (j : Int) < (smH sg s0 m).1 := hj
          show _ ≤ (if j = ((smH sg s0 m).1 - 1).toNat then _ else _) ∧ (if j = ((smH sg s0 m).1 - 1).toNat then _ else _) < _
          by_cases z : j = ((smH sg s0 m).1 - 1).toNat
          · rw [if_pos z]; omega
          · rw [if_neg z]
            have := h3 j (by omega)
            omega
      · rw [if_neg q2]
        have hh := k3 (by omega) q2
        refine ⟨?_, ?_, fun j hj => ?_⟩
        · show 0 ≤ (smH sg s0 m).1 - 1; omega
        · show (smH sg s0 m).1 - 1 ≤ _; omega
        · have hj' : (j : Int) < (smH sg s0 m).1 - 1 := hj
          show _ ≤ (if j = ((smH sg s0 m).1 - 2).toNat then _ else _) ∧ (if j = ((smH sg s0 m).1 - 2).toNat then _ else _) < _
          by_cases z : j = ((smH sg s0 m).1 - 2).toNat
          · rw [if_pos z]; omega
          · rw [if_neg z]
            have := h3 j (by omega)
            omega
theorem sm_top {sg nb pt ot : Nat → Int} {s0 n m : Nat} (h : smO sg nb pt ot s0 n) (hm : m + 1 ≤ n) : 1 ≤ (smH sg s0 (m + 1)).1 ∧ (smH sg s0 (m + 1)).2 ((smH sg s0 (m + 1)).1 - 1).toNat = ((s0 + m : Nat) : Int) := by
  obtain ⟨h1, h2, h3⟩ := sm_in h m (by omega)
  obtain ⟨k1, k2, k3⟩ := h m (by omega)
  rw [smH]
  by_cases q : sg (s0 + m) ≤ 1
  · rw [if_pos q]
    refine ⟨by show 1 ≤ (smH sg s0 m).1 + 1; omega, ?_⟩
    show (if ((smH sg s0 m).1 + 1 - 1).toNat = (smH sg s0 m).1.toNat then _ else _) = _
    rw [if_pos (by omega)]
  · rw [if_neg q]
    by_cases q2 : sg (s0 + m) = 4
    · rw [if_pos q2]
      refine ⟨(k2 q2).1, ?_⟩
      show (if ((smH sg s0 m).1 - 1).toNat = ((smH sg s0 m).1 - 1).toNat then _ else _) = _
      rw [if_pos rfl]
    · rw [if_neg q2]
      have hh := k3 (by omega) q2
      refine ⟨by show 1 ≤ (smH sg s0 m).1 - 1; omega, ?_⟩
      show (if ((smH sg s0 m).1 - 1 - 1).toNat = ((smH sg s0 m).1 - 2).toNat then _ else _) = _
      rw [if_pos (by omega)]
/-- a stack machine amid a law: height x2, at x3, sides S -/
def VI (sg pt ot nm : Nat → Int) (f x2 x3 : Int) (S : Nat → Int) : Prop := x2 = (smH sg f.toNat (x3 - f).toNat).1 ∧ (∀ j : Nat, (j : Int) < x2 → S j = vN sg pt ot nm f.toNat (x3 - f).toNat ((smH sg f.toNat (x3 - f).toNat).2 j).toNat) ∧ vG sg pt ot nm f.toNat (x3 - f).toNat = 1
theorem VI_0 {sg pt ot nm : Nat → Int} {f : Int} {S : Nat → Int} : VI sg pt ot nm f 0 f S := by
  unfold VI
  rw [show (f - f).toNat = 0 by omega]
  exact ⟨rfl, fun j hj => absurd hj (by omega), rfl⟩
theorem VI_x2 {sg nb pt ot nm : Nat → Int} {f b x2 x3 : Int} {S : Nat → Int} (h : VI sg pt ot nm f x2 x3 S) (hO : smO sg nb pt ot f.toNat (b - f).toNat) (hx : f ≤ x3 ∧ x3 ≤ b) : 0 ≤ x2 ∧ x2 ≤ x3 - f := by
  have q := sm_in hO (x3 - f).toNat (by omega)
  have := h.1
  omega
theorem VI_bd {sg nb pt ot nm : Nat → Int} {f b x2 x3 : Int} {S : Nat → Int} (h : VI sg pt ot nm f x2 x3 S) (hO : smO sg nb pt ot f.toNat (b - f).toNat) (hf : 0 ≤ f) (hx : f ≤ x3 ∧ x3 ≤ b) (j : Nat) (hj : (j : Int) < x2) : inb (S j) := by
  obtain ⟨h1, h2, h3⟩ := h
  rw [h2 j hj]
  have q := (sm_in hO (x3 - f).toNat (by omega)).2.2 j (by omega)
  exact vG_in h3 _ (by omega) (by omega)
theorem VI_up {sg nb pt ot nm : Nat → Int} {f b x2 x3 y2 : Int} {S S' : Nat → Int} {d : Nat} (h : VI sg pt ot nm f x2 x3 S) (hO : smO sg nb pt ot f.toNat (b - f).toNat) (hf : 0 ≤ f) (hx : f ≤ x3 ∧ x3 < b)
    (e1 : (smH sg f.toNat ((x3 - f).toNat + 1)).1 = y2) (e2 : ∀ j, (smH sg f.toNat ((x3 - f).toNat + 1)).2 j = if j = d then ((f.toNat + (x3 - f).toNat : Nat) : Int) else (smH sg f.toNat (x3 - f).toNat).2 j) (hd : ∀ j : Nat, (j : Int) < y2 → j ≠ d → (j : Int) < x2)
    (hi : inb (kV sg pt ot nm (vN sg pt ot nm f.toNat (x3 - f).toNat) (f.toNat + (x3 - f).toNat))) (hS : ∀ j, S' j = if j = d then kV sg pt ot nm (vN sg pt ot nm f.toNat (x3 - f).toNat) (f.toNat + (x3 - f).toNat) else S j) : VI sg pt ot nm f y2 (x3 + 1) S' := by
  obtain ⟨h1, h2, h3⟩ := h
  have q := (sm_in hO (x3 - f).toNat (by omega)).2.2
  unfold VI
  rw [show (x3 + 1 - f).toNat = (x3 - f).toNat + 1 by omega]
  refine ⟨e1.symm, fun j hj => ?_, ?_⟩
  · rw [hS j, e2 j]
    by_cases z : j = d
    · rw [if_pos z, if_pos z, Int.toNat_natCast]
      show _ = (if f.toNat + (x3 - f).toNat = f.toNat + (x3 - f).toNat then _ else _)
      rw [if_pos rfl]
    · rw [if_neg z, if_neg z, h2 j (hd j hj z)]
      have q2 := q j (by have := hd j hj z; omega)
      show _ = (if _ = f.toNat + (x3 - f).toNat then _ else _)
      rw [if_neg (by omega)]
  · show (if vG sg pt ot nm f.toNat (x3 - f).toNat = 1 ∧ _ then (1 : Int) else 0) = 1
    rw [if_pos ⟨h3, hi⟩]
theorem VI_at {f x3 : Int} (hf : 0 ≤ f) (hx : f ≤ x3) : f.toNat + (x3 - f).toNat = x3.toNat := by omega
theorem VI_leaf {sg nb pt ot nm : Nat → Int} {f b x2 x3 v : Int} {S S' : Nat → Int} (h : VI sg pt ot nm f x2 x3 S) (hO : smO sg nb pt ot f.toNat (b - f).toNat) (hf : 0 ≤ f) (hx : f ≤ x3 ∧ x3 < b) (hk : sg x3.toNat ≤ 1) (hn : ∀ j : Nat, j < 7 → -2147483648 ≤ nm j ∧ nm j ≤ 2147483647)
    (hv : v = if sg x3.toNat = 1 then nm (nb x3.toNat).toNat else nb x3.toNat) (hS : ∀ j, S' j = if j = x2.toNat then v else S j) : VI sg pt ot nm f (x2 + 1) (x3 + 1) S' := by
  have ea := VI_at hf hx.1
  obtain ⟨k1, -, -⟩ := hO (x3 - f).toNat (by omega)
  rw [ea] at k1
  obtain ⟨c1, c2, c3, c4, c5⟩ := k1 hk
  have ek : kV sg pt ot nm (vN sg pt ot nm f.toNat (x3 - f).toNat) (f.toNat + (x3 - f).toNat) = v := by
    rw [ea, hv]
    unfold kV
    by_cases z : sg x3.toNat = 0
    · rw [if_pos z, if_neg (by omega), c2]
    · rw [if_neg z, if_pos (by omega), if_pos (by omega), c2]
  have h9 := h.1
  have hb := VI_x2 h hO ⟨hx.1, by omega⟩
  refine VI_up (d := x2.toNat) h hO hf hx ?_ (fun j => ?_) (fun j hj hd => by omega) ?_ (fun j => ?_)
  · rw [smH, ea, if_pos hk]
    show _ + 1 = x2 + 1
    omega
  · rw [smH, ea, if_pos hk, ← h9]
  · rw [ek, hv]
    unfold inb
    by_cases z : sg x3.toNat = 1
    · rw [if_pos z]
      have := hn (nb x3.toNat).toNat (by have := c5 z; omega)
      omega
    · rw [if_neg z]; omega
  · rw [ek]; exact hS j
theorem VI_not {sg nb pt ot nm : Nat → Int} {f b x2 x3 : Int} {S : Nat → Int} (h : VI sg pt ot nm f x2 x3 S) (hO : smO sg nb pt ot f.toNat (b - f).toNat) (hf : 0 ≤ f) (hx : f ≤ x3 ∧ x3 < b) (hk : sg x3.toNat = 4) : 1 ≤ x2 ∧ ∀ S' : Nat → Int, (∀ j, S' j = if j = (x2 - 1).toNat then (if S (x2 - 1).toNat = 0 then 1 else 0) else S j) → VI sg pt ot nm f x2 (x3 + 1) S' := by
  have ea := VI_at hf hx.1
  obtain ⟨-, k2, -⟩ := hO (x3 - f).toNat (by omega)
  rw [ea] at k2
  obtain ⟨c1, c2⟩ := k2 hk
  have h9 := h.1
  have hb := VI_x2 h hO ⟨hx.1, by omega⟩
  refine ⟨by omega, fun S' hS => ?_⟩
  have eS : S (x2 - 1).toNat = vN sg pt ot nm f.toNat (x3 - f).toNat (pt x3.toNat).toNat := by
    rw [h.2.1 (x2 - 1).toNat (by omega), c2, ← h9]
  have ek : kV sg pt ot nm (vN sg pt ot nm f.toNat (x3 - f).toNat) (f.toNat + (x3 - f).toNat) = (if S (x2 - 1).toNat = 0 then 1 else 0) := by
    rw [ea]
    unfold kV
    rw [if_neg (by omega), if_neg (by omega), if_pos hk, eS]
  refine VI_up (d := (x2 - 1).toNat) h hO hf hx ?_ (fun j => ?_) (fun j hj hd => by omega) ?_ (fun j => ?_)
  · rw [smH, ea, if_neg (by omega), if_pos hk]
    exact h9.symm
  · rw [smH, ea, if_neg (by omega), if_pos hk, ← h9]
  · rw [ek]; exact inb_1
  · rw [ek]; exact hS j
theorem VI_join {sg nb pt ot nm : Nat → Int} {f b x2 x3 : Int} {S : Nat → Int} (h : VI sg pt ot nm f x2 x3 S) (hO : smO sg nb pt ot f.toNat (b - f).toNat) (hf : 0 ≤ f) (hx : f ≤ x3 ∧ x3 < b) (hk : 1 < sg x3.toNat) (hk4 : sg x3.toNat ≠ 4) : (2 ≤ x2 ∧ sg x3.toNat ≤ 14) ∧ (¬ inb (jV (sg x3.toNat) (S (x2 - 2).toNat) (S (x2 - 1).toNat)) → ¬ vG sg pt ot nm f.toNat (b - f).toNat = 1) ∧ (inb (jV (sg x3.toNat) (S (x2 - 2).toNat) (S (x2 - 1).toNat)) → ∀ S' : Nat → Int, (∀ j, S' j = if j = (x2 - 2).toNat then jV (sg x3.toNat) (S (x2 - 2).toNat) (S (x2 - 1).toNat) else S j) → VI sg pt ot nm f (x2 - 1) (x3 + 1) S') := by
  have ea := VI_at hf hx.1
  obtain ⟨-, -, k3⟩ := hO (x3 - f).toNat (by omega)
  rw [ea] at k3
  obtain ⟨c0, c1, c2, c3⟩ := k3 hk hk4
  have h9 := h.1
  have hb := VI_x2 h hO ⟨hx.1, by omega⟩
  have eS : S (x2 - 2).toNat = vN sg pt ot nm f.toNat (x3 - f).toNat (pt x3.toNat).toNat := by
    rw [h.2.1 (x2 - 2).toNat (by omega), c2, ← h9]
  have eT : S (x2 - 1).toNat = vN sg pt ot nm f.toNat (x3 - f).toNat (ot x3.toNat).toNat := by
    rw [h.2.1 (x2 - 1).toNat (by omega), c3, ← h9]
  have ek : kV sg pt ot nm (vN sg pt ot nm f.toNat (x3 - f).toNat) (f.toNat + (x3 - f).toNat) = jV (sg x3.toNat) (S (x2 - 2).toNat) (S (x2 - 1).toNat) := by
    rw [ea]
    unfold kV
    rw [if_neg (by omega), if_neg (by omega), if_neg hk4, eS, eT]
  refine ⟨⟨by omega, c0⟩, fun hn => ?_, fun hi S' hS => ?_⟩
  · have q : ¬ vG sg pt ot nm f.toNat ((x3 - f).toNat + 1) = 1 := by
      show ¬ (if vG sg pt ot nm f.toNat (x3 - f).toNat = 1 ∧ inb (kV sg pt ot nm (vN sg pt ot nm f.toNat (x3 - f).toNat) (f.toNat + (x3 - f).toNat)) then (1 : Int) else 0) = 1
      rw [if_neg (fun z => hn (by have := z.2; rwa [ek] at this))]
      decide
    have q2 := vG_le q ((b - f).toNat - ((x3 - f).toNat + 1))
    rwa [show (x3 - f).toNat + 1 + ((b - f).toNat - ((x3 - f).toNat + 1)) = (b - f).toNat by omega] at q2
  · refine VI_up (d := (x2 - 2).toNat) h hO hf hx ?_ (fun j => ?_) (fun j hj hd => by omega) (by rw [ek]; exact hi) (fun j => by rw [ek]; exact hS j)
    · rw [smH, ea, if_neg (by omega), if_neg hk4]
      show _ - 1 = x2 - 1
      omega
    · rw [smH, ea, if_neg (by omega), if_neg hk4, ← h9]
theorem VI_end {sg nb pt ot nm : Nat → Int} {f b x2 : Int} {S : Nat → Int} (h : VI sg pt ot nm f x2 b S) (hO : smO sg nb pt ot f.toNat (b - f).toNat) (hf : 0 ≤ f) (hx : f < b) (h1 : (smH sg f.toNat (b - f).toNat).1 = 1) : S 0 = lV sg pt ot nm f b := by
  obtain ⟨a1, a2, a3⟩ := h
  unfold lV
  rw [if_pos ⟨hx, a3⟩, a2 0 (by omega)]
  have q := (sm_top (m := (b - f).toNat - 1) hO (by omega)).2
  rw [show (b - f).toNat - 1 + 1 = (b - f).toNat by omega, h1] at q
  have q2 : (smH sg f.toNat (b - f).toNat).2 0 = ((f.toNat + ((b - f).toNat - 1) : Nat) : Int) := q
  rw [q2, show ((f.toNat + ((b - f).toNat - 1) : Nat) : Int).toNat = (b - 1).toNat by omega]
theorem lV_no {sg pt ot nm : Nat → Int} {f b : Int} (h : ¬ (f < b ∧ vG sg pt ot nm f.toNat (b - f).toNat = 1)) : lV sg pt ot nm f b = -9223372036854775808 := by
  unfold lV
  rw [if_neg h]
theorem lV_in {sg pt ot nm : Nat → Int} {f b : Int} (hf : 0 ≤ f) : lV sg pt ot nm f b = -9223372036854775808 ∨ inb (lV sg pt ot nm f b) := by
  unfold lV
  by_cases q : f < b ∧ vG sg pt ot nm f.toNat (b - f).toNat = 1
  · rw [if_pos q]
    exact Or.inr (vG_in q.2 _ (by omega) (by omega))
  · rw [if_neg q]
    exact Or.inl rfl
/-! products and quotients within bounds -/
theorem pr_bd {a c : Int} (hc : 0 < c) : (a ≤ 1000000000000 / c ↔ a * c ≤ 1000000000000) := Int.le_ediv_iff_mul_le hc
theorem pr_in {a b : Int} (hb : b ≠ 0) : (-(1000000000000 / (if b < 0 then -b else b)) ≤ a ∧ a ≤ 1000000000000 / (if b < 0 then -b else b)) ↔ inb (a * b) := by
  unfold inb
  by_cases q : b < 0
  · rw [if_pos q]
    have h1 := pr_bd (a := a) (c := -b) (by omega)
    have h2 := pr_bd (a := -a) (c := -b) (by omega)
    rw [Int.mul_neg] at h1 h2
    rw [Int.neg_mul] at h2
    omega
  · rw [if_neg q]
    have h1 := pr_bd (a := a) (c := b) (by omega)
    have h2 := pr_bd (a := -a) (c := b) (by omega)
    rw [Int.neg_mul] at h2
    omega
theorem pr_in2 {a b : Int} (ha : a ≠ 0) : (-(1000000000000 / (if a < 0 then -a else a)) ≤ b ∧ b ≤ 1000000000000 / (if a < 0 then -a else a)) ↔ inb (a * b) := by
  rw [Int.mul_comm]
  exact pr_in ha
theorem pr_ab {a b : Int} (ha : a ≠ 0) : ((if b < 0 then -b else b) ≤ 1000000000000 / (if a < 0 then -a else a)) ↔ inb (a * b) := by
  rw [← pr_in2 ha]
  by_cases q : b < 0
  · rw [if_pos q]
    have : 0 ≤ 1000000000000 / (if a < 0 then -a else a) := Int.ediv_nonneg (by decide) (by split <;> omega)
    omega
  · rw [if_neg q]
    have : 0 ≤ 1000000000000 / (if a < 0 then -a else a) := Int.ediv_nonneg (by decide) (by split <;> omega)
    omega
theorem td_in {a b : Int} (ha : inb a) : inb (Int.tdiv a b) := by
  have h : (Int.tdiv a b).natAbs ≤ a.natAbs := by rw [Int.natAbs_tdiv]; exact Nat.div_le_self _ _
  unfold inb at *
  omega
theorem jV_x {k a b : Int} (h : k = 13) : jV k a b = a * b := by subst h; rfl

section Z9
variable {p : Program} {l : Launch} {e : Env} {R : Room} {s : State} {m : MethodId} {args : Array Value} {below : List Frame} {meth : Method} {c : Code} {Γ : zΓ} {cc : ByteArray} {nL : Nat} {own : String} {cells slots : Nat} {Q : State → Prop} {pc : Nat} {ls : List (Option zV)} {st : List zV} {G : zH}
theorem zs_laddE (C : zCx p s m args c Γ cc nL own) {x y : Int} (d : decode cc pc = .ok (.ladd, 1)) (h : -9223372036854775808 ≤ x + y ∧ x + y ≤ 9223372036854775807) (kk : Z p l e R s m args below meth c Γ nL cells slots Q (pc + 1) ls (zj (x + y) :: st) G) : Z p l e R s m args below meth c Γ nL cells slots Q pc ls (zj y :: zj x :: st) G := by
  intro hG hl hs H locs rl hP hS hL
  refine lv_ladd C.1 C.2.1 d ?_
  rw [← Int64.ofInt_add]
  exact kk hG hl (zs_cons (v := zj (x + y)) h (zs_tl (zs_tl hs))) H locs rl hP hS hL
theorem zs_lsubE (C : zCx p s m args c Γ cc nL own) {x y : Int} (d : decode cc pc = .ok (.lsub, 1)) (h : -9223372036854775808 ≤ x - y ∧ x - y ≤ 9223372036854775807) (kk : Z p l e R s m args below meth c Γ nL cells slots Q (pc + 1) ls (zj (x - y) :: st) G) : Z p l e R s m args below meth c Γ nL cells slots Q pc ls (zj y :: zj x :: st) G := by
  intro hG hl hs H locs rl hP hS hL
  refine lv_lsub C.1 C.2.1 d ?_
  rw [← Int64.ofInt_sub]
  exact kk hG hl (zs_cons (v := zj (x - y)) h (zs_tl (zs_tl hs))) H locs rl hP hS hL
theorem zs_lmulE (C : zCx p s m args c Γ cc nL own) {x y : Int} (d : decode cc pc = .ok (.lmul, 1)) (h : -9223372036854775808 ≤ x * y ∧ x * y ≤ 9223372036854775807) (kk : Z p l e R s m args below meth c Γ nL cells slots Q (pc + 1) ls (zj (x * y) :: st) G) : Z p l e R s m args below meth c Γ nL cells slots Q pc ls (zj y :: zj x :: st) G := by
  intro hG hl hs H locs rl hP hS hL
  refine lv_lmul C.1 C.2.1 d ?_
  rw [← Int64.ofInt_mul]
  exact kk hG hl (zs_cons (v := zj (x * y)) h (zs_tl (zs_tl hs))) H locs rl hP hS hL
theorem zs_lnegE (C : zCx p s m args c Γ cc nL own) {x : Int} (d : decode cc pc = .ok (.lneg, 1)) (h : -9223372036854775808 ≤ -x ∧ -x ≤ 9223372036854775807) (kk : Z p l e R s m args below meth c Γ nL cells slots Q (pc + 1) ls (zj (-x) :: st) G) : Z p l e R s m args below meth c Γ nL cells slots Q pc ls (zj x :: st) G := by
  intro hG hl hs H locs rl hP hS hL
  refine lv_lneg C.1 C.2.1 d ?_
  rw [← Int64.ofInt_neg]
  exact kk hG hl (zs_cons (v := zj (-x)) h (zs_tl hs)) H locs rl hP hS hL
theorem zl_tdiv {x y : Int} (hx : -1000000000000 ≤ x ∧ x ≤ 1000000000000) (hy : -1000000000000 ≤ y ∧ y ≤ 1000000000000) : Int64.ofInt x / Int64.ofInt y = Int64.ofInt (Int.tdiv x y) := by
  apply Int64.toInt_inj.mp
  rw [Int64.toInt_div, Int64.toInt_ofInt_of_le (by omega) (by omega), Int64.toInt_ofInt_of_le (by omega) (by omega), Int64.toInt_ofInt]
theorem zs_ldivT (C : zCx p s m args c Γ cc nL own) {x y : Int} (d : decode cc pc = .ok (.ldiv, 1)) (h1 : (-1000000000000 ≤ x ∧ x ≤ 1000000000000) ∧ -1000000000000 ≤ y ∧ y ≤ 1000000000000) (hy : y ≠ 0) (kk : Z p l e R s m args below meth c Γ nL cells slots Q (pc + 1) ls (zj (Int.tdiv x y) :: st) G) : Z p l e R s m args below meth c Γ nL cells slots Q pc ls (zj y :: zj x :: st) G := by
  intro hG hl hs H locs rl hP hS hL
  refine lv_ldiv C.1 C.2.1 d (fun h => hy ?_) ?_
  · exact (zl_eq (zs_hd hs) (by omega)).mp (h.trans (by rfl))
  · rw [zl_tdiv h1.1 h1.2]
    have q := td_in (a := x) (b := y) h1.1
    unfold inb at q
    exact kk hG hl (zs_cons (v := zj (Int.tdiv x y)) ⟨by omega, by omega⟩ (zs_tl (zs_tl hs))) H locs rl hP hS hL
end Z9
theorem zuJ_at {G : zH} {r a i : Nat} {x : Int} (j : Nat) : (zuJ G r a i x).2.1 r a j = if j = i then x else G.2.1 r a j := by
  rw [zuJ_2]
  simp
theorem jvC {k a b x : Int} (hx : jV k a b = x) : (inb (jV k a b) → x = jV k a b) ∧ (¬ inb (jV k a b) → x < -1000000000000 ∨ 1000000000000 < x) := ⟨fun _ => hx.symm, fun q => by rw [hx] at q; unfold inb at q; omega⟩
theorem jvD {k a b x : Int} (hn : ¬ inb (jV k a b)) (hx : x < -1000000000000) : (inb (jV k a b) → x = jV k a b) ∧ (¬ inb (jV k a b) → x < -1000000000000 ∨ 1000000000000 < x) := ⟨fun q => absurd q hn, fun _ => Or.inl hx⟩
theorem jV_13 {k a b : Int} (h : k = 13) : jV k a b = a * b := by subst h; rfl
theorem jV_n14 {a b : Int} (h : b = 0) : ¬ inb (jV 14 a b) := by
  subst h
  show ¬ inb 1000000000001
  decide
theorem kn_u {p q : Prop} [Decidable p] {x : Int} (h : p) : (if p then x else 0) = x := if_pos h
theorem jV_2 (a b : Int) : jV 2 a b = if a ≠ 0 ∨ b ≠ 0 then 1 else 0 := rfl
theorem jV_3 (a b : Int) : jV 3 a b = if a ≠ 0 ∧ b ≠ 0 then 1 else 0 := rfl
theorem jV_5 (a b : Int) : jV 5 a b = if a < b then 1 else 0 := rfl
theorem jV_6 (a b : Int) : jV 6 a b = if a ≤ b then 1 else 0 := rfl
theorem jV_7 (a b : Int) : jV 7 a b = if a = b then 1 else 0 := rfl
theorem jV_8 (a b : Int) : jV 8 a b = if a ≠ b then 1 else 0 := rfl
theorem jV_9 (a b : Int) : jV 9 a b = if b ≤ a then 1 else 0 := rfl
theorem jV_10 (a b : Int) : jV 10 a b = if b < a then 1 else 0 := rfl
theorem jV_11 (a b : Int) : jV 11 a b = a + b := rfl
theorem jV_12 (a b : Int) : jV 12 a b = a - b := rfl
theorem jV_14 (a b : Int) : jV 14 a b = if b = 0 then 1000000000001 else Int.tdiv a b := rfl
/-- a value within bounds, or what there is without one -/
def bV (v d m : Int) : Int := if v = -9223372036854775808 then d else if v < 0 then 0 else if m < v then m else v
theorem bV_in {v d m : Int} (hd : 0 ≤ d ∧ d ≤ m) (hm : 0 ≤ m) : 0 ≤ bV v d m ∧ bV v d m ≤ m := by
  unfold bV
  (repeat' split) <;> omega

theorem TV_2037 {Γ : zΓ} {t : Nat} {A : aS} {G : zH} (h : TV Γ t A G) (j : Nat) : G.1 2037 (Γ.2.1 t 2) j = A 4 j := h 4 j (by decide) (by decide)
theorem TV_2036 {Γ : zΓ} {t : Nat} {A : aS} {G : zH} (h : TV Γ t A G) (j : Nat) : G.1 2036 (Γ.2.1 t 1) j = A 5 j := h 5 j (by decide) (by decide)
theorem TV_2038 {Γ : zΓ} {t : Nat} {A : aS} {G : zH} (h : TV Γ t A G) (j : Nat) : G.1 2038 (Γ.2.1 t 3) j = A 6 j := h 6 j (by decide) (by decide)
theorem TV_2039 {Γ : zΓ} {t : Nat} {A : aS} {G : zH} (h : TV Γ t A G) (j : Nat) : G.1 2039 (Γ.2.1 t 4) j = A 7 j := h 7 j (by decide) (by decide)
theorem TV_2040 {Γ : zΓ} {t : Nat} {A : aS} {G : zH} (h : TV Γ t A G) (j : Nat) : G.1 2040 (Γ.2.1 t 5) j = A 8 j := h 8 j (by decide) (by decide)
theorem TV_2041 {Γ : zΓ} {t : Nat} {A : aS} {G : zH} (h : TV Γ t A G) (j : Nat) : G.1 2041 (Γ.2.1 t 6) j = A 9 j := h 9 j (by decide) (by decide)
theorem TV_2042 {Γ : zΓ} {t : Nat} {A : aS} {G : zH} (h : TV Γ t A G) (j : Nat) : G.1 2042 (Γ.2.1 t 7) j = A 10 j := h 10 j (by decide) (by decide)
theorem TV_2043 {Γ : zΓ} {t : Nat} {A : aS} {G : zH} (h : TV Γ t A G) (j : Nat) : G.1 2043 (Γ.2.1 t 8) j = A 11 j := h 11 j (by decide) (by decide)
theorem TV_609 {Γ : zΓ} {t : Nat} {A : aS} {G : zH} (h : TV Γ t A G) : G.1 609 t 0 = A 12 0 := h 12 0 (by decide) (by decide)
theorem TV_610 {Γ : zΓ} {t : Nat} {A : aS} {G : zH} (h : TV Γ t A G) : G.1 610 t 0 = A 13 0 := h 13 0 (by decide) (by decide)
theorem TV_611 {Γ : zΓ} {t : Nat} {A : aS} {G : zH} (h : TV Γ t A G) : G.1 611 t 0 = A 14 0 := h 14 0 (by decide) (by decide)
theorem TV_612 {Γ : zΓ} {t : Nat} {A : aS} {G : zH} (h : TV Γ t A G) : G.1 612 t 0 = A 15 0 := h 15 0 (by decide) (by decide)
theorem TV_2016 {Γ : zΓ} {t : Nat} {A : aS} {G : zH} (h : TV Γ t A G) (j : Nat) : G.1 2016 (Γ.2.1 (Γ.2.1 t 0) 2) j = A 16 j := h 16 j (by decide) (by decide)
theorem TV_2017 {Γ : zΓ} {t : Nat} {A : aS} {G : zH} (h : TV Γ t A G) (j : Nat) : G.1 2017 (Γ.2.1 (Γ.2.1 t 0) 3) j = A 17 j := h 17 j (by decide) (by decide)
theorem TV_2014 {Γ : zΓ} {t : Nat} {A : aS} {G : zH} (h : TV Γ t A G) (j : Nat) : G.1 2014 (Γ.2.1 (Γ.2.1 t 0) 0) j = A 18 j := h 18 j (by decide) (by decide)
theorem TV_2015 {Γ : zΓ} {t : Nat} {A : aS} {G : zH} (h : TV Γ t A G) (j : Nat) : G.1 2015 (Γ.2.1 (Γ.2.1 t 0) 1) j = A 19 j := h 19 j (by decide) (by decide)
theorem TV_206 {Γ : zΓ} {t : Nat} {A : aS} {G : zH} (h : TV Γ t A G) : G.1 206 (Γ.2.1 t 0) 0 = A 20 0 := h 20 0 (by decide) (by decide)
theorem TV_207 {Γ : zΓ} {t : Nat} {A : aS} {G : zH} (h : TV Γ t A G) : G.1 207 (Γ.2.1 t 0) 0 = A 21 0 := h 21 0 (by decide) (by decide)
theorem TV_m {Γ : zΓ} {t : Nat} {A : aS} {G G1 : zH} {rs : List Nat} (hs : zsm rs G G1) (hr : ∀ f : Nat, f < 22 → 4 ≤ f → creg f ∉ rs) (h : TV Γ t A G) : TV Γ t A G1 := TV_n hs.1 hr h

set_option maxHeartbeats 4000000 in
set_option maxRecDepth 100000 in
theorem c_X1_isToldK {l : Launch} {Γ : zΓ} {G : zH} {t : Nat} {k : Int} {A : aS} (hX : zXs Γ) (hZ : TV Γ t A G) : zMet l Γ yX1_isTold cX1_isTold 2 (some .boolean) 0 [zr 2 (Γ.2.1 t 0), zi k] G (zpi (fun x G' => G' = G ∧ ((x = 0 ∨ x = 1) ∧ (x = 1 ↔ 0 ≤ k ∧ k < 7 ∧ (A 16 k.toNat) < (A 17 k.toNat))))) := by
  refine zMet_of RX1 hX (by decide) rfl (Nat.le_of_ble_eq_true rfl) ?_
  intro p e s m args below meth c C hr hlk
  show Z p l e (zrm 0) s m args below meth c Γ 2 0 0 (MQ below (zQc Γ (zpi (fun x G' => G' = G ∧ ((x = 0 ∨ x = 1) ∧ (x = 1 ↔ 0 ≤ k ∧ k < 7 ∧ (A 16 k.toNat) < (A 17 k.toNat)))))) args s 0 0 (zA Γ)) 0 [some (zr 2 (Γ.2.1 t 0)), some (zi k)] [] G
  refine zs_loc 1 rfl (fun ha1 hb1 => ?_)
  refine zs_iload_n (pc := 0) C dX1_isTold_0 rfl ?_
  refine zs_if_lt (tgt := 29) (pc := 1) C dX1_isTold_1 (by decide) (fun h1 => ?_) (fun h1 => ?_)
  · skip
    refine zs_iconst (pc := 29) C dX1_isTold_29 (by decide) ?_
    exact zs_zret (pc := 30) C hr hlk dX1_isTold_30 (by omega) ⟨rfl, (by refine ⟨by omega, ?_⟩; constructor <;> intro hq <;> omega)⟩
  · skip
    refine zs_iload_n (pc := 4) C dX1_isTold_4 rfl ?_
    refine zs_bipush (pc := 5) C dX1_isTold_5 (by decide) (by decide) ?_
    refine zs_icmp_ge (tgt := 29) (pc := 7) C dX1_isTold_7 (by decide) (fun h7 => ?_) (fun h7 => ?_)
    · skip
      refine zs_iconst (pc := 29) C dX1_isTold_29 (by decide) ?_
      exact zs_zret (pc := 30) C hr hlk dX1_isTold_30 (by omega) ⟨rfl, (by refine ⟨by omega, ?_⟩; constructor <;> intro hq <;> omega)⟩
    · skip
      refine zs_aload_n (pc := 10) C dX1_isTold_10 rfl ?_
      refine zs_getf (pc := 11) C dX1_isTold_11 w_X1_21 f_2_3 (by decide) ?_
      refine zs_iload_n (pc := 14) C dX1_isTold_14 rfl ?_
      refine zs_iald (r := 2017) (pc := 15) C dX1_isTold_15 a_17 (by decide) (by omega) rfl (r_2017 _) (fun v15 e15 l15 u15 => ?_)
      try simp only [TV_2017 hZ] at e15
      try subst v15
      refine zs_aload_n (pc := 16) C dX1_isTold_16 rfl ?_
      refine zs_getf (pc := 17) C dX1_isTold_17 w_X1_18 f_2_2 (by decide) ?_
      refine zs_iload_n (pc := 20) C dX1_isTold_20 rfl ?_
      refine zs_iald (r := 2016) (pc := 21) C dX1_isTold_21 a_16 (by decide) (by omega) rfl (r_2016 _) (fun v21 e21 l21 u21 => ?_)
      try simp only [TV_2016 hZ] at e21
      try subst v21
      refine zs_icmp_le (tgt := 29) (pc := 22) C dX1_isTold_22 (by decide) (fun h22 => ?_) (fun h22 => ?_)
      · skip
        refine zs_iconst (pc := 29) C dX1_isTold_29 (by decide) ?_
        exact zs_zret (pc := 30) C hr hlk dX1_isTold_30 (by omega) ⟨rfl, (by refine ⟨by omega, ?_⟩; constructor <;> intro hq <;> omega)⟩
      · skip
        refine zs_iconst (pc := 25) C dX1_isTold_25 (by decide) ?_
        refine zs_goto (tgt := 30) (pc := 26) C dX1_isTold_26 (by decide) ?_
        exact zs_zret (pc := 30) C hr hlk dX1_isTold_30 (by omega) ⟨rfl, (by refine ⟨by omega, ?_⟩; constructor <;> intro hq <;> omega)⟩

set_option maxHeartbeats 4000000 in
set_option maxRecDepth 100000 in
theorem c_X1_setNamesK {l : Launch} {Γ : zΓ} {G : zH} {w : Nat} {q1 q2 q3 q4 q5 q6 q7 : Int} (hX : zXs Γ)  : zMet l Γ yX1_setNames cX1_setNames 8 none 0 [zr 2 w, zi q1, zi q2, zi q3, zi q4, zi q5, zi q6, zi q7] G (zpv (fun G' => zsm [] G G' ∧ (∀ j : Nat, j < 7 → G'.2.1 2018 (Γ.2.1 w 4) j = if j = 0 then q1 else if j = 1 then q2 else if j = 2 then q3 else if j = 3 then q4 else if j = 4 then q5 else if j = 5 then q6 else q7))) := by
  refine zMet_of RX1 hX (by decide) rfl (Nat.le_of_ble_eq_true rfl) ?_
  intro p e s m args below meth c C hr hlk
  show Z p l e (zrm 0) s m args below meth c Γ 8 0 0 (MQ below (zQc Γ (zpv (fun G' => zsm [] G G' ∧ (∀ j : Nat, j < 7 → G'.2.1 2018 (Γ.2.1 w 4) j = if j = 0 then q1 else if j = 1 then q2 else if j = 2 then q3 else if j = 3 then q4 else if j = 4 then q5 else if j = 5 then q6 else q7)))) args s 0 0 (zA Γ)) 0 [some (zr 2 w), some (zi q1), some (zi q2), some (zi q3), some (zi q4), some (zi q5), some (zi q6), some (zi q7)] [] G
  refine zs_loc 1 rfl (fun ha1 hb1 => ?_)
  refine zs_loc 2 rfl (fun ha2 hb2 => ?_)
  refine zs_loc 3 rfl (fun ha3 hb3 => ?_)
  refine zs_loc 4 rfl (fun ha4 hb4 => ?_)
  refine zs_loc 5 rfl (fun ha5 hb5 => ?_)
  refine zs_loc 6 rfl (fun ha6 hb6 => ?_)
  refine zs_loc 7 rfl (fun ha7 hb7 => ?_)
  refine zs_aload_n (pc := 0) C dX1_setNames_0 rfl ?_
  refine zs_getf (pc := 1) C dX1_setNames_1 w_X1_24 f_2_4 (by decide) ?_
  refine zs_iconst (pc := 4) C dX1_setNames_4 (by decide) ?_
  refine zs_iload_n (pc := 5) C dX1_setNames_5 rfl ?_
  refine zs_i2l (pc := 6) C dX1_setNames_6 ?_
  refine zs_last (r := 2018) (pc := 7) C dX1_setNames_7 a_18 (by decide) (by omega) rfl ?_
  refine zs_aload_n (pc := 8) C dX1_setNames_8 rfl ?_
  refine zs_getf (pc := 9) C dX1_setNames_9 w_X1_24 f_2_4 (by decide) ?_
  refine zs_iconst (pc := 12) C dX1_setNames_12 (by decide) ?_
  refine zs_iload_n (pc := 13) C dX1_setNames_13 rfl ?_
  refine zs_i2l (pc := 14) C dX1_setNames_14 ?_
  refine zs_last (r := 2018) (pc := 15) C dX1_setNames_15 a_18 (by decide) (by omega) rfl ?_
  refine zs_aload_n (pc := 16) C dX1_setNames_16 rfl ?_
  refine zs_getf (pc := 17) C dX1_setNames_17 w_X1_24 f_2_4 (by decide) ?_
  refine zs_iconst (pc := 20) C dX1_setNames_20 (by decide) ?_
  refine zs_iload_n (pc := 21) C dX1_setNames_21 rfl ?_
  refine zs_i2l (pc := 22) C dX1_setNames_22 ?_
  refine zs_last (r := 2018) (pc := 23) C dX1_setNames_23 a_18 (by decide) (by omega) rfl ?_
  refine zs_aload_n (pc := 24) C dX1_setNames_24 rfl ?_
  refine zs_getf (pc := 25) C dX1_setNames_25 w_X1_24 f_2_4 (by decide) ?_
  refine zs_iconst (pc := 28) C dX1_setNames_28 (by decide) ?_
  refine zs_iload (pc := 29) C dX1_setNames_29 rfl ?_
  refine zs_i2l (pc := 31) C dX1_setNames_31 ?_
  refine zs_last (r := 2018) (pc := 32) C dX1_setNames_32 a_18 (by decide) (by omega) rfl ?_
  refine zs_aload_n (pc := 33) C dX1_setNames_33 rfl ?_
  refine zs_getf (pc := 34) C dX1_setNames_34 w_X1_24 f_2_4 (by decide) ?_
  refine zs_iconst (pc := 37) C dX1_setNames_37 (by decide) ?_
  refine zs_iload (pc := 38) C dX1_setNames_38 rfl ?_
  refine zs_i2l (pc := 40) C dX1_setNames_40 ?_
  refine zs_last (r := 2018) (pc := 41) C dX1_setNames_41 a_18 (by decide) (by omega) rfl ?_
  refine zs_aload_n (pc := 42) C dX1_setNames_42 rfl ?_
  refine zs_getf (pc := 43) C dX1_setNames_43 w_X1_24 f_2_4 (by decide) ?_
  refine zs_iconst (pc := 46) C dX1_setNames_46 (by decide) ?_
  refine zs_iload (pc := 47) C dX1_setNames_47 rfl ?_
  refine zs_i2l (pc := 49) C dX1_setNames_49 ?_
  refine zs_last (r := 2018) (pc := 50) C dX1_setNames_50 a_18 (by decide) (by omega) rfl ?_
  refine zs_aload_n (pc := 51) C dX1_setNames_51 rfl ?_
  refine zs_getf (pc := 52) C dX1_setNames_52 w_X1_24 f_2_4 (by decide) ?_
  refine zs_bipush (pc := 55) C dX1_setNames_55 (by decide) (by decide) ?_
  refine zs_iload (pc := 57) C dX1_setNames_57 rfl ?_
  refine zs_i2l (pc := 59) C dX1_setNames_59 ?_
  refine zs_last (r := 2018) (pc := 60) C dX1_setNames_60 a_18 (by decide) (by omega) rfl ?_
  exact zs_vret (pc := 61) C hr hlk dX1_setNames_61 ⟨by repeat (first | exact zsm_rf | assumption | refine zsm_C (by decide) ?_ | refine zsm_I (by decide) ?_ | refine zsm_J ?_ | refine zsm_c (by assumption) (by decide) ?_), (fun j hj => by rcases (show j = 0 ∨ j = 1 ∨ j = 2 ∨ j = 3 ∨ j = 4 ∨ j = 5 ∨ j = 6 by omega) with rfl | rfl | rfl | rfl | rfl | rfl | rfl <;> simp [zuJ_2])⟩

set_option maxHeartbeats 4000000 in
set_option maxRecDepth 100000 in
theorem c_X1_joinK {l : Launch} {Γ : zΓ} {G : zH} {k a b : Int} (hX : zXs Γ) (hk : 2 ≤ k ∧ k ≤ 14 ∧ k ≠ 4) (hu1 : -1000000000000 ≤ a ∧ a ≤ 1000000000000) (hu2 : -1000000000000 ≤ b ∧ b ≤ 1000000000000) : zMet l Γ yX1_join cX1_join 7 (some .long) 0 [zi k, zj a, zj b] G (zpj (fun x G' => G' = G ∧ ((inb (jV k a b) → x = jV k a b) ∧ (¬ inb (jV k a b) → x < -1000000000000 ∨ 1000000000000 < x)))) := by
  refine zMet_of RX1 hX (by decide) rfl (Nat.le_of_ble_eq_true rfl) ?_
  intro p e s m args below meth c C hr hlk
  show Z p l e (zrm 0) s m args below meth c Γ 7 0 0 (MQ below (zQc Γ (zpj (fun x G' => G' = G ∧ ((inb (jV k a b) → x = jV k a b) ∧ (¬ inb (jV k a b) → x < -1000000000000 ∨ 1000000000000 < x))))) args s 0 0 (zA Γ)) 0 [some (zi k), some (zj a), none, some (zj b), none, none, none] [] G
  refine zs_loc 0 rfl (fun ha0 hb0 => ?_)
  refine zs_iload_n (pc := 0) C dX1_join_0 rfl ?_
  refine zs_name (fun y1 ey1 => ?_)
  rcases (show y1 = 2 ∨ y1 = 3 ∨ y1 = 4 ∨ y1 = 5 ∨ y1 = 6 ∨ y1 = 7 ∨ y1 = 8 ∨ y1 = 9 ∨ y1 = 10 ∨ y1 = 11 ∨ y1 = 12 ∨ y1 = 13 ∨ y1 = 14 ∨ (y1 < 2 ∨ 14 < y1) by omega) with h1 | h1 | h1 | h1 | h1 | h1 | h1 | h1 | h1 | h1 | h1 | h1 | h1 | h1
  · skip
    refine zs_tabIn (pc := 1) (tgt := 68) C 2 dX1_join_1 h1 (by decide) rfl (by decide) ?_
    refine zs_lload_n (pc := 68) C dX1_join_68 rfl ?_
    refine zs_lconst (n := 0) (pc := 69) C dX1_join_69 rfl (by decide) ?_
    refine zs_lcmp (pc := 70) C dX1_join_70 (fun z70 hz70 => ?_)
    refine zs_if_ne (tgt := 80) (pc := 71) C dX1_join_71 (by decide) (fun h71 => ?_) (fun h71 => ?_)
    · skip
      refine zs_lconst (n := 1) (pc := 80) C dX1_join_80 rfl (by decide) ?_
      refine zs_goto (tgt := 85) (pc := 81) C dX1_join_81 (by decide) ?_
      exact zs_lret (pc := 85) C hr hlk dX1_join_85 ⟨rfl, jvC (by rw [show k = 2 by omega, jV_2]; first | rw [if_pos (by omega)] | rw [if_neg (by omega)])⟩
    · skip
      refine zs_lload_n (pc := 74) C dX1_join_74 rfl ?_
      refine zs_lconst (n := 0) (pc := 75) C dX1_join_75 rfl (by decide) ?_
      refine zs_lcmp (pc := 76) C dX1_join_76 (fun z76 hz76 => ?_)
      refine zs_if_eq (tgt := 84) (pc := 77) C dX1_join_77 (by decide) (fun h77 => ?_) (fun h77 => ?_)
      · skip
        refine zs_lconst (n := 0) (pc := 84) C dX1_join_84 rfl (by decide) ?_
        exact zs_lret (pc := 85) C hr hlk dX1_join_85 ⟨rfl, jvC (by rw [show k = 2 by omega, jV_2]; first | rw [if_pos (by omega)] | rw [if_neg (by omega)])⟩
      · skip
        refine zs_lconst (n := 1) (pc := 80) C dX1_join_80 rfl (by decide) ?_
        refine zs_goto (tgt := 85) (pc := 81) C dX1_join_81 (by decide) ?_
        exact zs_lret (pc := 85) C hr hlk dX1_join_85 ⟨rfl, jvC (by rw [show k = 2 by omega, jV_2]; first | rw [if_pos (by omega)] | rw [if_neg (by omega)])⟩
  · skip
    refine zs_tabIn (pc := 1) (tgt := 86) C 3 dX1_join_1 h1 (by decide) rfl (by decide) ?_
    refine zs_lload_n (pc := 86) C dX1_join_86 rfl ?_
    refine zs_lconst (n := 0) (pc := 87) C dX1_join_87 rfl (by decide) ?_
    refine zs_lcmp (pc := 88) C dX1_join_88 (fun z88 hz88 => ?_)
    refine zs_if_eq (tgt := 102) (pc := 89) C dX1_join_89 (by decide) (fun h89 => ?_) (fun h89 => ?_)
    · skip
      refine zs_lconst (n := 0) (pc := 102) C dX1_join_102 rfl (by decide) ?_
      exact zs_lret (pc := 103) C hr hlk dX1_join_103 ⟨rfl, jvC (by rw [show k = 3 by omega, jV_3]; first | rw [if_pos (by omega)] | rw [if_neg (by omega)])⟩
    · skip
      refine zs_lload_n (pc := 92) C dX1_join_92 rfl ?_
      refine zs_lconst (n := 0) (pc := 93) C dX1_join_93 rfl (by decide) ?_
      refine zs_lcmp (pc := 94) C dX1_join_94 (fun z94 hz94 => ?_)
      refine zs_if_eq (tgt := 102) (pc := 95) C dX1_join_95 (by decide) (fun h95 => ?_) (fun h95 => ?_)
      · skip
        refine zs_lconst (n := 0) (pc := 102) C dX1_join_102 rfl (by decide) ?_
        exact zs_lret (pc := 103) C hr hlk dX1_join_103 ⟨rfl, jvC (by rw [show k = 3 by omega, jV_3]; first | rw [if_pos (by omega)] | rw [if_neg (by omega)])⟩
      · skip
        refine zs_lconst (n := 1) (pc := 98) C dX1_join_98 rfl (by decide) ?_
        refine zs_goto (tgt := 103) (pc := 99) C dX1_join_99 (by decide) ?_
        exact zs_lret (pc := 103) C hr hlk dX1_join_103 ⟨rfl, jvC (by rw [show k = 3 by omega, jV_3]; first | rw [if_pos (by omega)] | rw [if_neg (by omega)])⟩
  · skip
    refine zs_tabIn (pc := 1) (tgt := 200) C 4 dX1_join_1 h1 (by decide) rfl (by decide) ?_
    have hk13 : k = 13 := by omega
    refine zs_lload_n (pc := 200) C dX1_join_200 rfl ?_
    refine zs_lconst (n := 0) (pc := 201) C dX1_join_201 rfl (by decide) ?_
    refine zs_lcmp (pc := 202) C dX1_join_202 (fun z202 hz202 => ?_)
    refine zs_if_ne (tgt := 212) (pc := 203) C dX1_join_203 (by decide) (fun h203 => ?_) (fun h203 => ?_)
    · skip
      refine zs_ldc2 (n := 1000000000000) (pc := 212) C dX1_join_212 q_X1_54 (by decide) (by decide) ?_
      refine zs_lload_n (pc := 215) C dX1_join_215 rfl ?_
      refine zs_lconst (n := 0) (pc := 216) C dX1_join_216 rfl (by decide) ?_
      refine zs_lcmp (pc := 217) C dX1_join_217 (fun z217 hz217 => ?_)
      refine zs_if_ge (tgt := 226) (pc := 218) C dX1_join_218 (by decide) (fun h218 => ?_) (fun h218 => ?_)
      · skip
        have hmb := pr_in (a := a) (b := b) (by omega)
        rw [if_neg (by omega)] at hmb
        refine zs_lload_n (pc := 226) C dX1_join_226 rfl ?_
        refine zs_ldivP (pc := 227) C dX1_join_227 (by omega) (by omega) (fun hz2271 hz2272 => ?_)
        refine zs_lstore (pc := 228) C dX1_join_228 (by decide) ?_
        dsimp only [zset, zclr, znone]
        refine zs_lload_n (pc := 230) C dX1_join_230 rfl ?_
        refine zs_lload (pc := 231) C dX1_join_231 rfl ?_
        refine zs_lcmp (pc := 233) C dX1_join_233 (fun z233 hz233 => ?_)
        refine zs_if_gt (tgt := 245) (pc := 234) C dX1_join_234 (by decide) (fun h234 => ?_) (fun h234 => ?_)
        · skip
          refine zs_ldc2 (n := -9223372036854775808) (pc := 245) C dX1_join_245 q_X1_48 (by decide) (by decide) ?_
          refine zs_goto (tgt := 254) (pc := 248) C dX1_join_248 (by decide) ?_
          exact zs_lret (pc := 254) C hr hlk dX1_join_254 ⟨rfl, by first | exact jvC (jV_13 hk13) | (rw [jV_13 hk13]; exact ⟨fun q => absurd (hmb.mpr q) (by omega), fun _ => Or.inl (by omega)⟩)⟩
        · skip
          refine zs_lload_n (pc := 237) C dX1_join_237 rfl ?_
          refine zs_lload (pc := 238) C dX1_join_238 rfl ?_
          refine zs_lnegE (pc := 240) C dX1_join_240 (by omega) ?_
          refine zs_lcmp (pc := 241) C dX1_join_241 (fun z241 hz241 => ?_)
          refine zs_if_ge (tgt := 251) (pc := 242) C dX1_join_242 (by decide) (fun h242 => ?_) (fun h242 => ?_)
          · skip
            have hmi := hmb.mp (by omega)
            unfold inb at hmi
            refine zs_lload_n (pc := 251) C dX1_join_251 rfl ?_
            refine zs_lload_n (pc := 252) C dX1_join_252 rfl ?_
            refine zs_lmulE (pc := 253) C dX1_join_253 (by omega) ?_
            exact zs_lret (pc := 254) C hr hlk dX1_join_254 ⟨rfl, by first | exact jvC (jV_13 hk13) | (rw [jV_13 hk13]; exact ⟨fun q => absurd (hmb.mpr q) (by omega), fun _ => Or.inl (by omega)⟩)⟩
          · skip
            refine zs_ldc2 (n := -9223372036854775808) (pc := 245) C dX1_join_245 q_X1_48 (by decide) (by decide) ?_
            refine zs_goto (tgt := 254) (pc := 248) C dX1_join_248 (by decide) ?_
            exact zs_lret (pc := 254) C hr hlk dX1_join_254 ⟨rfl, by first | exact jvC (jV_13 hk13) | (rw [jV_13 hk13]; exact ⟨fun q => absurd (hmb.mpr q) (by omega), fun _ => Or.inl (by omega)⟩)⟩
      · skip
        have hmb := pr_in (a := a) (b := b) (by omega)
        rw [if_pos (by omega)] at hmb
        refine zs_lload_n (pc := 221) C dX1_join_221 rfl ?_
        refine zs_lnegE (pc := 222) C dX1_join_222 (by omega) ?_
        refine zs_goto (tgt := 227) (pc := 223) C dX1_join_223 (by decide) ?_
        refine zs_ldivP (pc := 227) C dX1_join_227 (by omega) (by omega) (fun hz2271 hz2272 => ?_)
        refine zs_lstore (pc := 228) C dX1_join_228 (by decide) ?_
        dsimp only [zset, zclr, znone]
        refine zs_lload_n (pc := 230) C dX1_join_230 rfl ?_
        refine zs_lload (pc := 231) C dX1_join_231 rfl ?_
        refine zs_lcmp (pc := 233) C dX1_join_233 (fun z233 hz233 => ?_)
        refine zs_if_gt (tgt := 245) (pc := 234) C dX1_join_234 (by decide) (fun h234 => ?_) (fun h234 => ?_)
        · skip
          refine zs_ldc2 (n := -9223372036854775808) (pc := 245) C dX1_join_245 q_X1_48 (by decide) (by decide) ?_
          refine zs_goto (tgt := 254) (pc := 248) C dX1_join_248 (by decide) ?_
          exact zs_lret (pc := 254) C hr hlk dX1_join_254 ⟨rfl, by first | exact jvC (jV_13 hk13) | (rw [jV_13 hk13]; exact ⟨fun q => absurd (hmb.mpr q) (by omega), fun _ => Or.inl (by omega)⟩)⟩
        · skip
          refine zs_lload_n (pc := 237) C dX1_join_237 rfl ?_
          refine zs_lload (pc := 238) C dX1_join_238 rfl ?_
          refine zs_lnegE (pc := 240) C dX1_join_240 (by omega) ?_
          refine zs_lcmp (pc := 241) C dX1_join_241 (fun z241 hz241 => ?_)
          refine zs_if_ge (tgt := 251) (pc := 242) C dX1_join_242 (by decide) (fun h242 => ?_) (fun h242 => ?_)
          · skip
            have hmi := hmb.mp (by omega)
            unfold inb at hmi
            refine zs_lload_n (pc := 251) C dX1_join_251 rfl ?_
            refine zs_lload_n (pc := 252) C dX1_join_252 rfl ?_
            refine zs_lmulE (pc := 253) C dX1_join_253 (by omega) ?_
            exact zs_lret (pc := 254) C hr hlk dX1_join_254 ⟨rfl, by first | exact jvC (jV_13 hk13) | (rw [jV_13 hk13]; exact ⟨fun q => absurd (hmb.mpr q) (by omega), fun _ => Or.inl (by omega)⟩)⟩
          · skip
            refine zs_ldc2 (n := -9223372036854775808) (pc := 245) C dX1_join_245 q_X1_48 (by decide) (by decide) ?_
            refine zs_goto (tgt := 254) (pc := 248) C dX1_join_248 (by decide) ?_
            exact zs_lret (pc := 254) C hr hlk dX1_join_254 ⟨rfl, by first | exact jvC (jV_13 hk13) | (rw [jV_13 hk13]; exact ⟨fun q => absurd (hmb.mpr q) (by omega), fun _ => Or.inl (by omega)⟩)⟩
    · skip
      have hb0 : b = 0 := by omega
      have hmb : (-1000000000000 ≤ a ∧ a ≤ 1000000000000) ↔ inb (a * b) := by subst hb0; rw [Int.mul_zero]; exact ⟨fun _ => by decide, fun _ => hu1⟩
      refine zs_ldc2 (n := 1000000000000) (pc := 206) C dX1_join_206 q_X1_54 (by decide) (by decide) ?_
      refine zs_goto (tgt := 228) (pc := 209) C dX1_join_209 (by decide) ?_
      refine zs_lstore (pc := 228) C dX1_join_228 (by decide) ?_
      dsimp only [zset, zclr, znone]
      refine zs_lload_n (pc := 230) C dX1_join_230 rfl ?_
      refine zs_lload (pc := 231) C dX1_join_231 rfl ?_
      refine zs_lcmp (pc := 233) C dX1_join_233 (fun z233 hz233 => ?_)
      refine zs_if_gt (tgt := 245) (pc := 234) C dX1_join_234 (by decide) (fun h234 => ?_) (fun h234 => ?_)
      · skip
        refine zs_ldc2 (n := -9223372036854775808) (pc := 245) C dX1_join_245 q_X1_48 (by decide) (by decide) ?_
        refine zs_goto (tgt := 254) (pc := 248) C dX1_join_248 (by decide) ?_
        exact zs_lret (pc := 254) C hr hlk dX1_join_254 ⟨rfl, by first | exact jvC (jV_13 hk13) | (rw [jV_13 hk13]; exact ⟨fun q => absurd (hmb.mpr q) (by omega), fun _ => Or.inl (by omega)⟩)⟩
      · skip
        refine zs_lload_n (pc := 237) C dX1_join_237 rfl ?_
        refine zs_lload (pc := 238) C dX1_join_238 rfl ?_
        refine zs_lnegE (pc := 240) C dX1_join_240 (by omega) ?_
        refine zs_lcmp (pc := 241) C dX1_join_241 (fun z241 hz241 => ?_)
        refine zs_if_ge (tgt := 251) (pc := 242) C dX1_join_242 (by decide) (fun h242 => ?_) (fun h242 => ?_)
        · skip
          have hmi := hmb.mp (by omega)
          unfold inb at hmi
          refine zs_lload_n (pc := 251) C dX1_join_251 rfl ?_
          refine zs_lload_n (pc := 252) C dX1_join_252 rfl ?_
          refine zs_lmulE (pc := 253) C dX1_join_253 (by omega) ?_
          exact zs_lret (pc := 254) C hr hlk dX1_join_254 ⟨rfl, by first | exact jvC (jV_13 hk13) | (rw [jV_13 hk13]; exact ⟨fun q => absurd (hmb.mpr q) (by omega), fun _ => Or.inl (by omega)⟩)⟩
        · skip
          refine zs_ldc2 (n := -9223372036854775808) (pc := 245) C dX1_join_245 q_X1_48 (by decide) (by decide) ?_
          refine zs_goto (tgt := 254) (pc := 248) C dX1_join_248 (by decide) ?_
          exact zs_lret (pc := 254) C hr hlk dX1_join_254 ⟨rfl, by first | exact jvC (jV_13 hk13) | (rw [jV_13 hk13]; exact ⟨fun q => absurd (hmb.mpr q) (by omega), fun _ => Or.inl (by omega)⟩)⟩
  · skip
    refine zs_tabIn (pc := 1) (tgt := 104) C 5 dX1_join_1 h1 (by decide) rfl (by decide) ?_
    refine zs_lload_n (pc := 104) C dX1_join_104 rfl ?_
    refine zs_lload_n (pc := 105) C dX1_join_105 rfl ?_
    refine zs_lcmp (pc := 106) C dX1_join_106 (fun z106 hz106 => ?_)
    refine zs_if_ge (tgt := 114) (pc := 107) C dX1_join_107 (by decide) (fun h107 => ?_) (fun h107 => ?_)
    · skip
      refine zs_lconst (n := 0) (pc := 114) C dX1_join_114 rfl (by decide) ?_
      exact zs_lret (pc := 115) C hr hlk dX1_join_115 ⟨rfl, jvC (by rw [show k = 5 by omega, jV_5]; first | rw [if_pos (by omega)] | rw [if_neg (by omega)])⟩
    · skip
      refine zs_lconst (n := 1) (pc := 110) C dX1_join_110 rfl (by decide) ?_
      refine zs_goto (tgt := 115) (pc := 111) C dX1_join_111 (by decide) ?_
      exact zs_lret (pc := 115) C hr hlk dX1_join_115 ⟨rfl, jvC (by rw [show k = 5 by omega, jV_5]; first | rw [if_pos (by omega)] | rw [if_neg (by omega)])⟩
  · skip
    refine zs_tabIn (pc := 1) (tgt := 116) C 6 dX1_join_1 h1 (by decide) rfl (by decide) ?_
    refine zs_lload_n (pc := 116) C dX1_join_116 rfl ?_
    refine zs_lload_n (pc := 117) C dX1_join_117 rfl ?_
    refine zs_lcmp (pc := 118) C dX1_join_118 (fun z118 hz118 => ?_)
    refine zs_if_gt (tgt := 126) (pc := 119) C dX1_join_119 (by decide) (fun h119 => ?_) (fun h119 => ?_)
    · skip
      refine zs_lconst (n := 0) (pc := 126) C dX1_join_126 rfl (by decide) ?_
      exact zs_lret (pc := 127) C hr hlk dX1_join_127 ⟨rfl, jvC (by rw [show k = 6 by omega, jV_6]; first | rw [if_pos (by omega)] | rw [if_neg (by omega)])⟩
    · skip
      refine zs_lconst (n := 1) (pc := 122) C dX1_join_122 rfl (by decide) ?_
      refine zs_goto (tgt := 127) (pc := 123) C dX1_join_123 (by decide) ?_
      exact zs_lret (pc := 127) C hr hlk dX1_join_127 ⟨rfl, jvC (by rw [show k = 6 by omega, jV_6]; first | rw [if_pos (by omega)] | rw [if_neg (by omega)])⟩
  · skip
    refine zs_tabIn (pc := 1) (tgt := 128) C 7 dX1_join_1 h1 (by decide) rfl (by decide) ?_
    refine zs_lload_n (pc := 128) C dX1_join_128 rfl ?_
    refine zs_lload_n (pc := 129) C dX1_join_129 rfl ?_
    refine zs_lcmp (pc := 130) C dX1_join_130 (fun z130 hz130 => ?_)
    refine zs_if_ne (tgt := 138) (pc := 131) C dX1_join_131 (by decide) (fun h131 => ?_) (fun h131 => ?_)
    · skip
      refine zs_lconst (n := 0) (pc := 138) C dX1_join_138 rfl (by decide) ?_
      exact zs_lret (pc := 139) C hr hlk dX1_join_139 ⟨rfl, jvC (by rw [show k = 7 by omega, jV_7]; first | rw [if_pos (by omega)] | rw [if_neg (by omega)])⟩
    · skip
      refine zs_lconst (n := 1) (pc := 134) C dX1_join_134 rfl (by decide) ?_
      refine zs_goto (tgt := 139) (pc := 135) C dX1_join_135 (by decide) ?_
      exact zs_lret (pc := 139) C hr hlk dX1_join_139 ⟨rfl, jvC (by rw [show k = 7 by omega, jV_7]; first | rw [if_pos (by omega)] | rw [if_neg (by omega)])⟩
  · skip
    refine zs_tabIn (pc := 1) (tgt := 140) C 8 dX1_join_1 h1 (by decide) rfl (by decide) ?_
    refine zs_lload_n (pc := 140) C dX1_join_140 rfl ?_
    refine zs_lload_n (pc := 141) C dX1_join_141 rfl ?_
    refine zs_lcmp (pc := 142) C dX1_join_142 (fun z142 hz142 => ?_)
    refine zs_if_eq (tgt := 150) (pc := 143) C dX1_join_143 (by decide) (fun h143 => ?_) (fun h143 => ?_)
    · skip
      refine zs_lconst (n := 0) (pc := 150) C dX1_join_150 rfl (by decide) ?_
      exact zs_lret (pc := 151) C hr hlk dX1_join_151 ⟨rfl, jvC (by rw [show k = 8 by omega, jV_8]; first | rw [if_pos (by omega)] | rw [if_neg (by omega)])⟩
    · skip
      refine zs_lconst (n := 1) (pc := 146) C dX1_join_146 rfl (by decide) ?_
      refine zs_goto (tgt := 151) (pc := 147) C dX1_join_147 (by decide) ?_
      exact zs_lret (pc := 151) C hr hlk dX1_join_151 ⟨rfl, jvC (by rw [show k = 8 by omega, jV_8]; first | rw [if_pos (by omega)] | rw [if_neg (by omega)])⟩
  · skip
    refine zs_tabIn (pc := 1) (tgt := 152) C 9 dX1_join_1 h1 (by decide) rfl (by decide) ?_
    refine zs_lload_n (pc := 152) C dX1_join_152 rfl ?_
    refine zs_lload_n (pc := 153) C dX1_join_153 rfl ?_
    refine zs_lcmp (pc := 154) C dX1_join_154 (fun z154 hz154 => ?_)
    refine zs_if_lt (tgt := 162) (pc := 155) C dX1_join_155 (by decide) (fun h155 => ?_) (fun h155 => ?_)
    · skip
      refine zs_lconst (n := 0) (pc := 162) C dX1_join_162 rfl (by decide) ?_
      exact zs_lret (pc := 163) C hr hlk dX1_join_163 ⟨rfl, jvC (by rw [show k = 9 by omega, jV_9]; first | rw [if_pos (by omega)] | rw [if_neg (by omega)])⟩
    · skip
      refine zs_lconst (n := 1) (pc := 158) C dX1_join_158 rfl (by decide) ?_
      refine zs_goto (tgt := 163) (pc := 159) C dX1_join_159 (by decide) ?_
      exact zs_lret (pc := 163) C hr hlk dX1_join_163 ⟨rfl, jvC (by rw [show k = 9 by omega, jV_9]; first | rw [if_pos (by omega)] | rw [if_neg (by omega)])⟩
  · skip
    refine zs_tabIn (pc := 1) (tgt := 164) C 10 dX1_join_1 h1 (by decide) rfl (by decide) ?_
    refine zs_lload_n (pc := 164) C dX1_join_164 rfl ?_
    refine zs_lload_n (pc := 165) C dX1_join_165 rfl ?_
    refine zs_lcmp (pc := 166) C dX1_join_166 (fun z166 hz166 => ?_)
    refine zs_if_le (tgt := 174) (pc := 167) C dX1_join_167 (by decide) (fun h167 => ?_) (fun h167 => ?_)
    · skip
      refine zs_lconst (n := 0) (pc := 174) C dX1_join_174 rfl (by decide) ?_
      exact zs_lret (pc := 175) C hr hlk dX1_join_175 ⟨rfl, jvC (by rw [show k = 10 by omega, jV_10]; first | rw [if_pos (by omega)] | rw [if_neg (by omega)])⟩
    · skip
      refine zs_lconst (n := 1) (pc := 170) C dX1_join_170 rfl (by decide) ?_
      refine zs_goto (tgt := 175) (pc := 171) C dX1_join_171 (by decide) ?_
      exact zs_lret (pc := 175) C hr hlk dX1_join_175 ⟨rfl, jvC (by rw [show k = 10 by omega, jV_10]; first | rw [if_pos (by omega)] | rw [if_neg (by omega)])⟩
  · skip
    refine zs_tabIn (pc := 1) (tgt := 176) C 11 dX1_join_1 h1 (by decide) rfl (by decide) ?_
    refine zs_lload_n (pc := 176) C dX1_join_176 rfl ?_
    refine zs_lload_n (pc := 177) C dX1_join_177 rfl ?_
    refine zs_laddE (pc := 178) C dX1_join_178 (by omega) ?_
    exact zs_lret (pc := 179) C hr hlk dX1_join_179 ⟨rfl, jvC (by rw [show k = 11 by omega, jV_11])⟩
  · skip
    refine zs_tabIn (pc := 1) (tgt := 180) C 12 dX1_join_1 h1 (by decide) rfl (by decide) ?_
    refine zs_lload_n (pc := 180) C dX1_join_180 rfl ?_
    refine zs_lload_n (pc := 181) C dX1_join_181 rfl ?_
    refine zs_lsubE (pc := 182) C dX1_join_182 (by omega) ?_
    exact zs_lret (pc := 183) C hr hlk dX1_join_183 ⟨rfl, jvC (by rw [show k = 12 by omega, jV_12])⟩
  · skip
    refine zs_tabIn (pc := 1) (tgt := 200) C 13 dX1_join_1 h1 (by decide) rfl (by decide) ?_
    have hk13 : k = 13 := by omega
    refine zs_lload_n (pc := 200) C dX1_join_200 rfl ?_
    refine zs_lconst (n := 0) (pc := 201) C dX1_join_201 rfl (by decide) ?_
    refine zs_lcmp (pc := 202) C dX1_join_202 (fun z202 hz202 => ?_)
    refine zs_if_ne (tgt := 212) (pc := 203) C dX1_join_203 (by decide) (fun h203 => ?_) (fun h203 => ?_)
    · skip
      refine zs_ldc2 (n := 1000000000000) (pc := 212) C dX1_join_212 q_X1_54 (by decide) (by decide) ?_
      refine zs_lload_n (pc := 215) C dX1_join_215 rfl ?_
      refine zs_lconst (n := 0) (pc := 216) C dX1_join_216 rfl (by decide) ?_
      refine zs_lcmp (pc := 217) C dX1_join_217 (fun z217 hz217 => ?_)
      refine zs_if_ge (tgt := 226) (pc := 218) C dX1_join_218 (by decide) (fun h218 => ?_) (fun h218 => ?_)
      · skip
        have hmb := pr_in (a := a) (b := b) (by omega)
        rw [if_neg (by omega)] at hmb
        refine zs_lload_n (pc := 226) C dX1_join_226 rfl ?_
        refine zs_ldivP (pc := 227) C dX1_join_227 (by omega) (by omega) (fun hz2271 hz2272 => ?_)
        refine zs_lstore (pc := 228) C dX1_join_228 (by decide) ?_
        dsimp only [zset, zclr, znone]
        refine zs_lload_n (pc := 230) C dX1_join_230 rfl ?_
        refine zs_lload (pc := 231) C dX1_join_231 rfl ?_
        refine zs_lcmp (pc := 233) C dX1_join_233 (fun z233 hz233 => ?_)
        refine zs_if_gt (tgt := 245) (pc := 234) C dX1_join_234 (by decide) (fun h234 => ?_) (fun h234 => ?_)
        · skip
          refine zs_ldc2 (n := -9223372036854775808) (pc := 245) C dX1_join_245 q_X1_48 (by decide) (by decide) ?_
          refine zs_goto (tgt := 254) (pc := 248) C dX1_join_248 (by decide) ?_
          exact zs_lret (pc := 254) C hr hlk dX1_join_254 ⟨rfl, by first | exact jvC (jV_13 hk13) | (rw [jV_13 hk13]; exact ⟨fun q => absurd (hmb.mpr q) (by omega), fun _ => Or.inl (by omega)⟩)⟩
        · skip
          refine zs_lload_n (pc := 237) C dX1_join_237 rfl ?_
          refine zs_lload (pc := 238) C dX1_join_238 rfl ?_
          refine zs_lnegE (pc := 240) C dX1_join_240 (by omega) ?_
          refine zs_lcmp (pc := 241) C dX1_join_241 (fun z241 hz241 => ?_)
          refine zs_if_ge (tgt := 251) (pc := 242) C dX1_join_242 (by decide) (fun h242 => ?_) (fun h242 => ?_)
          · skip
            have hmi := hmb.mp (by omega)
            unfold inb at hmi
            refine zs_lload_n (pc := 251) C dX1_join_251 rfl ?_
            refine zs_lload_n (pc := 252) C dX1_join_252 rfl ?_
            refine zs_lmulE (pc := 253) C dX1_join_253 (by omega) ?_
            exact zs_lret (pc := 254) C hr hlk dX1_join_254 ⟨rfl, by first | exact jvC (jV_13 hk13) | (rw [jV_13 hk13]; exact ⟨fun q => absurd (hmb.mpr q) (by omega), fun _ => Or.inl (by omega)⟩)⟩
          · skip
            refine zs_ldc2 (n := -9223372036854775808) (pc := 245) C dX1_join_245 q_X1_48 (by decide) (by decide) ?_
            refine zs_goto (tgt := 254) (pc := 248) C dX1_join_248 (by decide) ?_
            exact zs_lret (pc := 254) C hr hlk dX1_join_254 ⟨rfl, by first | exact jvC (jV_13 hk13) | (rw [jV_13 hk13]; exact ⟨fun q => absurd (hmb.mpr q) (by omega), fun _ => Or.inl (by omega)⟩)⟩
      · skip
        have hmb := pr_in (a := a) (b := b) (by omega)
        rw [if_pos (by omega)] at hmb
        refine zs_lload_n (pc := 221) C dX1_join_221 rfl ?_
        refine zs_lnegE (pc := 222) C dX1_join_222 (by omega) ?_
        refine zs_goto (tgt := 227) (pc := 223) C dX1_join_223 (by decide) ?_
        refine zs_ldivP (pc := 227) C dX1_join_227 (by omega) (by omega) (fun hz2271 hz2272 => ?_)
        refine zs_lstore (pc := 228) C dX1_join_228 (by decide) ?_
        dsimp only [zset, zclr, znone]
        refine zs_lload_n (pc := 230) C dX1_join_230 rfl ?_
        refine zs_lload (pc := 231) C dX1_join_231 rfl ?_
        refine zs_lcmp (pc := 233) C dX1_join_233 (fun z233 hz233 => ?_)
        refine zs_if_gt (tgt := 245) (pc := 234) C dX1_join_234 (by decide) (fun h234 => ?_) (fun h234 => ?_)
        · skip
          refine zs_ldc2 (n := -9223372036854775808) (pc := 245) C dX1_join_245 q_X1_48 (by decide) (by decide) ?_
          refine zs_goto (tgt := 254) (pc := 248) C dX1_join_248 (by decide) ?_
          exact zs_lret (pc := 254) C hr hlk dX1_join_254 ⟨rfl, by first | exact jvC (jV_13 hk13) | (rw [jV_13 hk13]; exact ⟨fun q => absurd (hmb.mpr q) (by omega), fun _ => Or.inl (by omega)⟩)⟩
        · skip
          refine zs_lload_n (pc := 237) C dX1_join_237 rfl ?_
          refine zs_lload (pc := 238) C dX1_join_238 rfl ?_
          refine zs_lnegE (pc := 240) C dX1_join_240 (by omega) ?_
          refine zs_lcmp (pc := 241) C dX1_join_241 (fun z241 hz241 => ?_)
          refine zs_if_ge (tgt := 251) (pc := 242) C dX1_join_242 (by decide) (fun h242 => ?_) (fun h242 => ?_)
          · skip
            have hmi := hmb.mp (by omega)
            unfold inb at hmi
            refine zs_lload_n (pc := 251) C dX1_join_251 rfl ?_
            refine zs_lload_n (pc := 252) C dX1_join_252 rfl ?_
            refine zs_lmulE (pc := 253) C dX1_join_253 (by omega) ?_
            exact zs_lret (pc := 254) C hr hlk dX1_join_254 ⟨rfl, by first | exact jvC (jV_13 hk13) | (rw [jV_13 hk13]; exact ⟨fun q => absurd (hmb.mpr q) (by omega), fun _ => Or.inl (by omega)⟩)⟩
          · skip
            refine zs_ldc2 (n := -9223372036854775808) (pc := 245) C dX1_join_245 q_X1_48 (by decide) (by decide) ?_
            refine zs_goto (tgt := 254) (pc := 248) C dX1_join_248 (by decide) ?_
            exact zs_lret (pc := 254) C hr hlk dX1_join_254 ⟨rfl, by first | exact jvC (jV_13 hk13) | (rw [jV_13 hk13]; exact ⟨fun q => absurd (hmb.mpr q) (by omega), fun _ => Or.inl (by omega)⟩)⟩
    · skip
      have hb0 : b = 0 := by omega
      have hmb : (-1000000000000 ≤ a ∧ a ≤ 1000000000000) ↔ inb (a * b) := by subst hb0; rw [Int.mul_zero]; exact ⟨fun _ => by decide, fun _ => hu1⟩
      refine zs_ldc2 (n := 1000000000000) (pc := 206) C dX1_join_206 q_X1_54 (by decide) (by decide) ?_
      refine zs_goto (tgt := 228) (pc := 209) C dX1_join_209 (by decide) ?_
      refine zs_lstore (pc := 228) C dX1_join_228 (by decide) ?_
      dsimp only [zset, zclr, znone]
      refine zs_lload_n (pc := 230) C dX1_join_230 rfl ?_
      refine zs_lload (pc := 231) C dX1_join_231 rfl ?_
      refine zs_lcmp (pc := 233) C dX1_join_233 (fun z233 hz233 => ?_)
      refine zs_if_gt (tgt := 245) (pc := 234) C dX1_join_234 (by decide) (fun h234 => ?_) (fun h234 => ?_)
      · skip
        refine zs_ldc2 (n := -9223372036854775808) (pc := 245) C dX1_join_245 q_X1_48 (by decide) (by decide) ?_
        refine zs_goto (tgt := 254) (pc := 248) C dX1_join_248 (by decide) ?_
        exact zs_lret (pc := 254) C hr hlk dX1_join_254 ⟨rfl, by first | exact jvC (jV_13 hk13) | (rw [jV_13 hk13]; exact ⟨fun q => absurd (hmb.mpr q) (by omega), fun _ => Or.inl (by omega)⟩)⟩
      · skip
        refine zs_lload_n (pc := 237) C dX1_join_237 rfl ?_
        refine zs_lload (pc := 238) C dX1_join_238 rfl ?_
        refine zs_lnegE (pc := 240) C dX1_join_240 (by omega) ?_
        refine zs_lcmp (pc := 241) C dX1_join_241 (fun z241 hz241 => ?_)
        refine zs_if_ge (tgt := 251) (pc := 242) C dX1_join_242 (by decide) (fun h242 => ?_) (fun h242 => ?_)
        · skip
          have hmi := hmb.mp (by omega)
          unfold inb at hmi
          refine zs_lload_n (pc := 251) C dX1_join_251 rfl ?_
          refine zs_lload_n (pc := 252) C dX1_join_252 rfl ?_
          refine zs_lmulE (pc := 253) C dX1_join_253 (by omega) ?_
          exact zs_lret (pc := 254) C hr hlk dX1_join_254 ⟨rfl, by first | exact jvC (jV_13 hk13) | (rw [jV_13 hk13]; exact ⟨fun q => absurd (hmb.mpr q) (by omega), fun _ => Or.inl (by omega)⟩)⟩
        · skip
          refine zs_ldc2 (n := -9223372036854775808) (pc := 245) C dX1_join_245 q_X1_48 (by decide) (by decide) ?_
          refine zs_goto (tgt := 254) (pc := 248) C dX1_join_248 (by decide) ?_
          exact zs_lret (pc := 254) C hr hlk dX1_join_254 ⟨rfl, by first | exact jvC (jV_13 hk13) | (rw [jV_13 hk13]; exact ⟨fun q => absurd (hmb.mpr q) (by omega), fun _ => Or.inl (by omega)⟩)⟩
  · skip
    refine zs_tabIn (pc := 1) (tgt := 184) C 14 dX1_join_1 h1 (by decide) rfl (by decide) ?_
    refine zs_lload_n (pc := 184) C dX1_join_184 rfl ?_
    refine zs_lconst (n := 0) (pc := 185) C dX1_join_185 rfl (by decide) ?_
    refine zs_lcmp (pc := 186) C dX1_join_186 (fun z186 hz186 => ?_)
    refine zs_if_ne (tgt := 196) (pc := 187) C dX1_join_187 (by decide) (fun h187 => ?_) (fun h187 => ?_)
    · skip
      refine zs_lload_n (pc := 196) C dX1_join_196 rfl ?_
      refine zs_lload_n (pc := 197) C dX1_join_197 rfl ?_
      refine zs_ldivT (pc := 198) C dX1_join_198 (by omega) (by omega) ?_
      exact zs_lret (pc := 199) C hr hlk dX1_join_199 ⟨rfl, by first | (rw [show k = 14 by omega]; exact jvD (jV_n14 (by omega)) (by omega)) | (exact jvC (by rw [show k = 14 by omega, jV_14, if_neg (by omega)]))⟩
    · skip
      refine zs_ldc2 (n := -9223372036854775808) (pc := 190) C dX1_join_190 q_X1_48 (by decide) (by decide) ?_
      refine zs_goto (tgt := 199) (pc := 193) C dX1_join_193 (by decide) ?_
      exact zs_lret (pc := 199) C hr hlk dX1_join_199 ⟨rfl, by first | (rw [show k = 14 by omega]; exact jvD (jV_n14 (by omega)) (by omega)) | (exact jvC (by rw [show k = 14 by omega, jV_14, if_neg (by omega)]))⟩
  · skip
    refine zs_tabOut (tgt := 200) (pc := 1) C dX1_join_1 h1 (by decide) ?_
    have hk13 : k = 13 := by omega
    refine zs_lload_n (pc := 200) C dX1_join_200 rfl ?_
    refine zs_lconst (n := 0) (pc := 201) C dX1_join_201 rfl (by decide) ?_
    refine zs_lcmp (pc := 202) C dX1_join_202 (fun z202 hz202 => ?_)
    refine zs_if_ne (tgt := 212) (pc := 203) C dX1_join_203 (by decide) (fun h203 => ?_) (fun h203 => ?_)
    · skip
      refine zs_ldc2 (n := 1000000000000) (pc := 212) C dX1_join_212 q_X1_54 (by decide) (by decide) ?_
      refine zs_lload_n (pc := 215) C dX1_join_215 rfl ?_
      refine zs_lconst (n := 0) (pc := 216) C dX1_join_216 rfl (by decide) ?_
      refine zs_lcmp (pc := 217) C dX1_join_217 (fun z217 hz217 => ?_)
      refine zs_if_ge (tgt := 226) (pc := 218) C dX1_join_218 (by decide) (fun h218 => ?_) (fun h218 => ?_)
      · skip
        have hmb := pr_in (a := a) (b := b) (by omega)
        rw [if_neg (by omega)] at hmb
        refine zs_lload_n (pc := 226) C dX1_join_226 rfl ?_
        refine zs_ldivP (pc := 227) C dX1_join_227 (by omega) (by omega) (fun hz2271 hz2272 => ?_)
        refine zs_lstore (pc := 228) C dX1_join_228 (by decide) ?_
        dsimp only [zset, zclr, znone]
        refine zs_lload_n (pc := 230) C dX1_join_230 rfl ?_
        refine zs_lload (pc := 231) C dX1_join_231 rfl ?_
        refine zs_lcmp (pc := 233) C dX1_join_233 (fun z233 hz233 => ?_)
        refine zs_if_gt (tgt := 245) (pc := 234) C dX1_join_234 (by decide) (fun h234 => ?_) (fun h234 => ?_)
        · skip
          refine zs_ldc2 (n := -9223372036854775808) (pc := 245) C dX1_join_245 q_X1_48 (by decide) (by decide) ?_
          refine zs_goto (tgt := 254) (pc := 248) C dX1_join_248 (by decide) ?_
          exact zs_lret (pc := 254) C hr hlk dX1_join_254 ⟨rfl, by first | exact jvC (jV_13 hk13) | (rw [jV_13 hk13]; exact ⟨fun q => absurd (hmb.mpr q) (by omega), fun _ => Or.inl (by omega)⟩)⟩
        · skip
          refine zs_lload_n (pc := 237) C dX1_join_237 rfl ?_
          refine zs_lload (pc := 238) C dX1_join_238 rfl ?_
          refine zs_lnegE (pc := 240) C dX1_join_240 (by omega) ?_
          refine zs_lcmp (pc := 241) C dX1_join_241 (fun z241 hz241 => ?_)
          refine zs_if_ge (tgt := 251) (pc := 242) C dX1_join_242 (by decide) (fun h242 => ?_) (fun h242 => ?_)
          · skip
            have hmi := hmb.mp (by omega)
            unfold inb at hmi
            refine zs_lload_n (pc := 251) C dX1_join_251 rfl ?_
            refine zs_lload_n (pc := 252) C dX1_join_252 rfl ?_
            refine zs_lmulE (pc := 253) C dX1_join_253 (by omega) ?_
            exact zs_lret (pc := 254) C hr hlk dX1_join_254 ⟨rfl, by first | exact jvC (jV_13 hk13) | (rw [jV_13 hk13]; exact ⟨fun q => absurd (hmb.mpr q) (by omega), fun _ => Or.inl (by omega)⟩)⟩
          · skip
            refine zs_ldc2 (n := -9223372036854775808) (pc := 245) C dX1_join_245 q_X1_48 (by decide) (by decide) ?_
            refine zs_goto (tgt := 254) (pc := 248) C dX1_join_248 (by decide) ?_
            exact zs_lret (pc := 254) C hr hlk dX1_join_254 ⟨rfl, by first | exact jvC (jV_13 hk13) | (rw [jV_13 hk13]; exact ⟨fun q => absurd (hmb.mpr q) (by omega), fun _ => Or.inl (by omega)⟩)⟩
      · skip
        have hmb := pr_in (a := a) (b := b) (by omega)
        rw [if_pos (by omega)] at hmb
        refine zs_lload_n (pc := 221) C dX1_join_221 rfl ?_
        refine zs_lnegE (pc := 222) C dX1_join_222 (by omega) ?_
        refine zs_goto (tgt := 227) (pc := 223) C dX1_join_223 (by decide) ?_
        refine zs_ldivP (pc := 227) C dX1_join_227 (by omega) (by omega) (fun hz2271 hz2272 => ?_)
        refine zs_lstore (pc := 228) C dX1_join_228 (by decide) ?_
        dsimp only [zset, zclr, znone]
        refine zs_lload_n (pc := 230) C dX1_join_230 rfl ?_
        refine zs_lload (pc := 231) C dX1_join_231 rfl ?_
        refine zs_lcmp (pc := 233) C dX1_join_233 (fun z233 hz233 => ?_)
        refine zs_if_gt (tgt := 245) (pc := 234) C dX1_join_234 (by decide) (fun h234 => ?_) (fun h234 => ?_)
        · skip
          refine zs_ldc2 (n := -9223372036854775808) (pc := 245) C dX1_join_245 q_X1_48 (by decide) (by decide) ?_
          refine zs_goto (tgt := 254) (pc := 248) C dX1_join_248 (by decide) ?_
          exact zs_lret (pc := 254) C hr hlk dX1_join_254 ⟨rfl, by first | exact jvC (jV_13 hk13) | (rw [jV_13 hk13]; exact ⟨fun q => absurd (hmb.mpr q) (by omega), fun _ => Or.inl (by omega)⟩)⟩
        · skip
          refine zs_lload_n (pc := 237) C dX1_join_237 rfl ?_
          refine zs_lload (pc := 238) C dX1_join_238 rfl ?_
          refine zs_lnegE (pc := 240) C dX1_join_240 (by omega) ?_
          refine zs_lcmp (pc := 241) C dX1_join_241 (fun z241 hz241 => ?_)
          refine zs_if_ge (tgt := 251) (pc := 242) C dX1_join_242 (by decide) (fun h242 => ?_) (fun h242 => ?_)
          · skip
            have hmi := hmb.mp (by omega)
            unfold inb at hmi
            refine zs_lload_n (pc := 251) C dX1_join_251 rfl ?_
            refine zs_lload_n (pc := 252) C dX1_join_252 rfl ?_
            refine zs_lmulE (pc := 253) C dX1_join_253 (by omega) ?_
            exact zs_lret (pc := 254) C hr hlk dX1_join_254 ⟨rfl, by first | exact jvC (jV_13 hk13) | (rw [jV_13 hk13]; exact ⟨fun q => absurd (hmb.mpr q) (by omega), fun _ => Or.inl (by omega)⟩)⟩
          · skip
            refine zs_ldc2 (n := -9223372036854775808) (pc := 245) C dX1_join_245 q_X1_48 (by decide) (by decide) ?_
            refine zs_goto (tgt := 254) (pc := 248) C dX1_join_248 (by decide) ?_
            exact zs_lret (pc := 254) C hr hlk dX1_join_254 ⟨rfl, by first | exact jvC (jV_13 hk13) | (rw [jV_13 hk13]; exact ⟨fun q => absurd (hmb.mpr q) (by omega), fun _ => Or.inl (by omega)⟩)⟩
    · skip
      have hb0 : b = 0 := by omega
      have hmb : (-1000000000000 ≤ a ∧ a ≤ 1000000000000) ↔ inb (a * b) := by subst hb0; rw [Int.mul_zero]; exact ⟨fun _ => by decide, fun _ => hu1⟩
      refine zs_ldc2 (n := 1000000000000) (pc := 206) C dX1_join_206 q_X1_54 (by decide) (by decide) ?_
      refine zs_goto (tgt := 228) (pc := 209) C dX1_join_209 (by decide) ?_
      refine zs_lstore (pc := 228) C dX1_join_228 (by decide) ?_
      dsimp only [zset, zclr, znone]
      refine zs_lload_n (pc := 230) C dX1_join_230 rfl ?_
      refine zs_lload (pc := 231) C dX1_join_231 rfl ?_
      refine zs_lcmp (pc := 233) C dX1_join_233 (fun z233 hz233 => ?_)
      refine zs_if_gt (tgt := 245) (pc := 234) C dX1_join_234 (by decide) (fun h234 => ?_) (fun h234 => ?_)
      · skip
        refine zs_ldc2 (n := -9223372036854775808) (pc := 245) C dX1_join_245 q_X1_48 (by decide) (by decide) ?_
        refine zs_goto (tgt := 254) (pc := 248) C dX1_join_248 (by decide) ?_
        exact zs_lret (pc := 254) C hr hlk dX1_join_254 ⟨rfl, by first | exact jvC (jV_13 hk13) | (rw [jV_13 hk13]; exact ⟨fun q => absurd (hmb.mpr q) (by omega), fun _ => Or.inl (by omega)⟩)⟩
      · skip
        refine zs_lload_n (pc := 237) C dX1_join_237 rfl ?_
        refine zs_lload (pc := 238) C dX1_join_238 rfl ?_
        refine zs_lnegE (pc := 240) C dX1_join_240 (by omega) ?_
        refine zs_lcmp (pc := 241) C dX1_join_241 (fun z241 hz241 => ?_)
        refine zs_if_ge (tgt := 251) (pc := 242) C dX1_join_242 (by decide) (fun h242 => ?_) (fun h242 => ?_)
        · skip
          have hmi := hmb.mp (by omega)
          unfold inb at hmi
          refine zs_lload_n (pc := 251) C dX1_join_251 rfl ?_
          refine zs_lload_n (pc := 252) C dX1_join_252 rfl ?_
          refine zs_lmulE (pc := 253) C dX1_join_253 (by omega) ?_
          exact zs_lret (pc := 254) C hr hlk dX1_join_254 ⟨rfl, by first | exact jvC (jV_13 hk13) | (rw [jV_13 hk13]; exact ⟨fun q => absurd (hmb.mpr q) (by omega), fun _ => Or.inl (by omega)⟩)⟩
        · skip
          refine zs_ldc2 (n := -9223372036854775808) (pc := 245) C dX1_join_245 q_X1_48 (by decide) (by decide) ?_
          refine zs_goto (tgt := 254) (pc := 248) C dX1_join_248 (by decide) ?_
          exact zs_lret (pc := 254) C hr hlk dX1_join_254 ⟨rfl, by first | exact jvC (jV_13 hk13) | (rw [jV_13 hk13]; exact ⟨fun q => absurd (hmb.mpr q) (by omega), fun _ => Or.inl (by omega)⟩)⟩

set_option maxHeartbeats 4000000 in
set_option maxRecDepth 100000 in
theorem c_X1_valueK {l : Launch} {Γ : zΓ} {G : zH} {t : Nat} {k : Int} {A : aS} {nm : Nat → Int} (hX : zXs Γ) (hZ : TV Γ t A G) (hA : WFA A) (hk : 0 ≤ k ∧ k < 7) (hn : ∀ j : Nat, j < 7 → (G.2.1 2018 (Γ.2.1 (Γ.2.1 t 0) 4)) j = nm j) (hb : ∀ j : Nat, j < 7 → -2147483648 ≤ nm j ∧ nm j ≤ 2147483647) : zMet l Γ yX1_value cX1_value 8 (some .long) 1 [zr 2 (Γ.2.1 t 0), zi k] G (zpj (fun x G' => zsm [] G G' ∧ (x = lV (A 18) (A 27) (A 28) nm (A 16 k.toNat) (A 17 k.toNat) ∧ ∀ a j : Nat, G'.2.1 2018 a j = G.2.1 2018 a j))) := by
  refine zMet_of RX1 hX (by decide) rfl (Nat.le_of_ble_eq_true rfl) ?_
  intro p e s m args below meth c C hr hlk
  show Z p l e (zrm 1) s m args below meth c Γ 8 0 0 (MQ below (zQc Γ (zpj (fun x G' => zsm [] G G' ∧ (x = lV (A 18) (A 27) (A 28) nm (A 16 k.toNat) (A 17 k.toNat) ∧ ∀ a j : Nat, G'.2.1 2018 a j = G.2.1 2018 a j)))) args s 0 0 (zA Γ)) 0 [some (zr 2 (Γ.2.1 t 0)), some (zi k), none, none, none, none, none, none] [] G
  refine zs_loc 1 rfl (fun ha1 hb1 => ?_)
  refine zs_aload_n (pc := 0) C dX1_value_0 rfl ?_
  refine zs_iload_n (pc := 1) C dX1_value_1 rfl ?_
  refine zVip1 (pc := 2) C dX1_value_2 v_X1_44 (c_X1_isToldK hX hZ) (by decide) (by decide) ⟨Nat.zero_le _, Nat.zero_le _⟩ (Nat.le_of_ble_eq_true rfl) (fun x2 l2 u2 hp2 => ?_)
  have hq2 := hp2
  refine zs_if_ne (tgt := 12) (pc := 5) C dX1_value_5 (by decide) (fun h5 => ?_) (fun h5 => ?_)
  · skip
    have hFB : (A 16 k.toNat) < (A 17 k.toNat) := (hq2.2.mp (by omega)).2.2
    have w9 := hA.2 k.toNat (by omega) hFB
    obtain ⟨w1, w2, w3, w4⟩ := w9
    have w5 := hA.1
    refine zs_iconst (pc := 12) C dX1_value_12 (by decide) ?_
    refine zs_istore_n (pc := 13) C dX1_value_13 (by decide) ?_
    dsimp only [zset, zclr, znone]
    refine zs_aload_n (pc := 14) C dX1_value_14 rfl ?_
    refine zs_getf (pc := 15) C dX1_value_15 w_X1_18 f_2_2 (by decide) ?_
    refine zs_iload_n (pc := 18) C dX1_value_18 rfl ?_
    refine zs_iald (r := 2016) (pc := 19) C dX1_value_19 a_16 (by decide) (by omega) rfl (r_2016 _) (fun v19 e19 l19 u19 => ?_)
    try simp only [TV_2016 hZ] at e19
    try subst v19
    refine zs_istore_n (pc := 20) C dX1_value_20 (by decide) ?_
    dsimp only [zset, zclr, znone]
    have L21 : ∀ (nn : Nat) (y2 y3 : Int) (G1 : zH), (0 ≤ y2 ∧ y2 ≤ 64) → ((A 16 k.toNat) ≤ y3 ∧ y3 ≤ (A 17 k.toNat)) → (zsm [] G G1) → (VI (A 18) (A 27) (A 28) nm (A 16 k.toNat) y2 y3 (G1.2.1 2019 (Γ.2.1 (Γ.2.1 t 0) 5))) → (∀ a j : Nat, G1.2.1 2018 a j = G.2.1 2018 a j) → (64 - y3).toNat < nn → Z p l e (zrm 1) s m args below meth c Γ 8 0 0 (MQ below (zQc Γ (zpj (fun x G' => zsm [] G G' ∧ (x = lV (A 18) (A 27) (A 28) nm (A 16 k.toNat) (A 17 k.toNat) ∧ ∀ a j : Nat, G'.2.1 2018 a j = G.2.1 2018 a j)))) args s 0 0 (zA Γ)) 21 [some (zr 2 (Γ.2.1 t 0)), some (zi k), some (zi y2), some (zi y3), none, none, none, none] [] G1 := by
      intro nn
      induction nn with
      | zero => intro y2 y3 G1 h21_0 h21_1 h21_2 h21_3 h21_4 hm; exact absurd hm (Nat.not_lt_zero _)
      | succ nn ih21 =>
        intro y2 y3 G1 h21_0 h21_1 h21_2 h21_3 h21_4 hm21
        have hZ1 := TV_m h21_2 (by decide +kernel) hZ
        refine zs_iload_n (pc := 21) C dX1_value_21 rfl ?_
        refine zs_aload_n (pc := 22) C dX1_value_22 rfl ?_
        refine zs_getf (pc := 23) C dX1_value_23 w_X1_21 f_2_3 (by decide) ?_
        refine zs_iload_n (pc := 26) C dX1_value_26 rfl ?_
        refine zs_iald (r := 2017) (pc := 27) C dX1_value_27 a_17 (by decide) (by omega) rfl (r_2017 _) (fun v27 e27 l27 u27 => ?_)
        try simp only [TV_2017 hZ1] at e27
        try subst v27
        refine zs_icmp_ge (tgt := 215) (pc := 28) C dX1_value_28 (by decide) (fun h28 => ?_) (fun h28 => ?_)
        · skip
          refine zs_aload_n (pc := 215) C dX1_value_215 rfl ?_
          refine zs_getf (pc := 216) C dX1_value_216 w_X1_28 f_2_5 (by decide) ?_
          refine zs_iconst (pc := 219) C dX1_value_219 (by decide) ?_
          refine zs_lald (r := 2019) (pc := 220) C dX1_value_220 a_19 (by decide) (by omega) rfl (fun v220 e220 l220 u220 => ?_)
          exact zs_lret (pc := 221) C hr hlk dX1_value_221 ⟨h21_2, ⟨by rw [e220]; have hy : y3 = (A 17 k.toNat) := (by omega); rw [hy] at h21_3; exact VI_end h21_3 w3 w1 hFB w4, h21_4⟩⟩
        · skip
          refine zs_iload_n (pc := 31) C dX1_value_31 rfl ?_
          refine zs_bipush (pc := 32) C dX1_value_32 (by decide) (by decide) ?_
          refine zs_icmp_ge (tgt := 215) (pc := 34) C dX1_value_34 (by decide) (fun h34 => ?_) (fun h34 => ?_)
          · skip
            exfalso; omega
          · skip
            refine zs_aload_n (pc := 37) C dX1_value_37 rfl ?_
            refine zs_getf (pc := 38) C dX1_value_38 w_X1_11 f_2_0 (by decide) ?_
            refine zs_iload_n (pc := 41) C dX1_value_41 rfl ?_
            refine zs_iald (r := 2014) (pc := 42) C dX1_value_42 a_14 (by decide) (by omega) rfl (r_2014 _) (fun v42 e42 l42 u42 => ?_)
            try simp only [TV_2014 hZ1] at e42
            try subst v42
            refine zs_istore (pc := 43) C dX1_value_43 (by decide) ?_
            dsimp only [zset, zclr, znone]
            refine zs_aload_n (pc := 45) C dX1_value_45 rfl ?_
            refine zs_getf (pc := 46) C dX1_value_46 w_X1_15 f_2_1 (by decide) ?_
            refine zs_iload_n (pc := 49) C dX1_value_49 rfl ?_
            refine zs_iald (r := 2015) (pc := 50) C dX1_value_50 a_15 (by decide) (by omega) rfl (r_2015 _) (fun v50 e50 l50 u50 => ?_)
            try simp only [TV_2015 hZ1] at e50
            try subst v50
            refine zs_istore (pc := 51) C dX1_value_51 (by decide) ?_
            dsimp only [zset, zclr, znone]
            have hx2 := VI_x2 h21_3 w3 ⟨by omega, by omega⟩
            obtain ⟨k1, -, -⟩ := w3 (y3 - (A 16 k.toNat)).toNat (by omega)
            rw [VI_at w1 (by omega)] at k1
            refine zs_iload (pc := 53) C dX1_value_53 rfl ?_
            refine zs_iconst (pc := 55) C dX1_value_55 (by decide) ?_
            refine zs_icmp_gt (tgt := 108) (pc := 56) C dX1_value_56 (by decide) (fun h56 => ?_) (fun h56 => ?_)
            · skip
              clear k1
              refine zs_iload (pc := 108) C dX1_value_108 rfl ?_
              refine zs_iconst (pc := 110) C dX1_value_110 (by decide) ?_
              refine zs_icmp_ne (tgt := 148) (pc := 111) C dX1_value_111 (by decide) (fun h111 => ?_) (fun h111 => ?_)
              · skip
                obtain ⟨⟨o1, o14⟩, oB, oG⟩ := VI_join h21_3 w3 w1 ⟨by omega, by omega⟩ (by omega) (by omega)
                refine zs_iload_n (pc := 148) C dX1_value_148 rfl ?_
                refine zs_iconst (pc := 149) C dX1_value_149 (by decide) ?_
                refine zs_icmp_lt (tgt := 209) (pc := 150) C dX1_value_150 (by decide) (fun h150 => ?_) (fun h150 => ?_)
                · skip
                  exfalso; omega
                · skip
                  first | refine zs_iinc (pc := 153) C dX1_value_153 rfl (by decide) (by omega) ?_ | refine zs_iincF (pc := 153) C dX1_value_153 rfl (by decide) (fun z153 hz1531 hz1532 => ?_)
                  dsimp only [zset, zclr, znone]
                  refine zs_iload (pc := 156) C dX1_value_156 rfl ?_
                  refine zs_aload_n (pc := 158) C dX1_value_158 rfl ?_
                  refine zs_getf (pc := 159) C dX1_value_159 w_X1_28 f_2_5 (by decide) ?_
                  refine zs_iload_n (pc := 162) C dX1_value_162 rfl ?_
                  refine zs_iconst (pc := 163) C dX1_value_163 (by decide) ?_
                  first | refine zs_isub (pc := 164) C dX1_value_164 (by omega) ?_ | refine zs_isubF (pc := 164) C dX1_value_164 (fun z164 hz1641 hz1642 => ?_)
                  refine zs_lald (r := 2019) (pc := 165) C dX1_value_165 a_19 (by decide) (by omega) rfl (fun v165 e165 l165 u165 => ?_)
                  refine zs_aload_n (pc := 166) C dX1_value_166 rfl ?_
                  refine zs_getf (pc := 167) C dX1_value_167 w_X1_28 f_2_5 (by decide) ?_
                  refine zs_iload_n (pc := 170) C dX1_value_170 rfl ?_
                  refine zs_lald (r := 2019) (pc := 171) C dX1_value_171 a_19 (by decide) (by omega) rfl (fun v171 e171 l171 u171 => ?_)
                  have t1 : (y2 + -1 - 1).toNat = (y2 - 2).toNat := by omega
                  have t2 : (y2 + -1).toNat = (y2 - 1).toNat := by omega
                  rw [t1] at e165
                  rw [t2] at e171
                  rw [← e165, ← e171] at oB oG
                  have d1 := VI_bd h21_3 w3 w1 ⟨by omega, by omega⟩ (y2 - 2).toNat (by omega)
                  rw [← e165] at d1
                  have d2 := VI_bd h21_3 w3 w1 ⟨by omega, by omega⟩ (y2 - 1).toNat (by omega)
                  rw [← e171] at d2
                  unfold inb at d1 d2
                  refine zSjp3 (pc := 172) C dX1_value_172 s_X1_50 (c_X1_joinK hX (by omega) (by omega) (by omega)) (by decide) ⟨Nat.zero_le _, Nat.zero_le _⟩ (Nat.le_of_ble_eq_true rfl) (fun x172 l172 u172 hp172 => ?_)
                  have hq172 := hp172
                  refine zs_lstore (pc := 175) C dX1_value_175 (by decide) ?_
                  dsimp only [zset, zclr, znone]
                  refine zs_lload (pc := 177) C dX1_value_177 rfl ?_
                  refine zs_ldc2 (n := 1000000000000) (pc := 179) C dX1_value_179 q_X1_54 (by decide) (by decide) ?_
                  refine zs_lcmp (pc := 182) C dX1_value_182 (fun z182 hz182 => ?_)
                  refine zs_if_gt (tgt := 195) (pc := 183) C dX1_value_183 (by decide) (fun h183 => ?_) (fun h183 => ?_)
                  · skip
                    refine zs_ldc2 (n := -9223372036854775808) (pc := 195) C dX1_value_195 q_X1_48 (by decide) (by decide) ?_
                    exact zs_lret (pc := 198) C hr hlk dX1_value_198 ⟨h21_2, ⟨by rw [lV_no (fun q => oB (fun i => by have := hq172.1 i; unfold inb at i; omega) q.2)], h21_4⟩⟩
                  · skip
                    refine zs_lload (pc := 186) C dX1_value_186 rfl ?_
                    refine zs_ldc2 (n := -1000000000000) (pc := 188) C dX1_value_188 q_X1_56 (by decide) (by decide) ?_
                    refine zs_lcmp (pc := 191) C dX1_value_191 (fun z191 hz191 => ?_)
                    refine zs_if_ge (tgt := 199) (pc := 192) C dX1_value_192 (by decide) (fun h192 => ?_) (fun h192 => ?_)
                    · skip
                      have hi : inb (jV (A 18 y3.toNat) v165 v171) := (Decidable.em _).elim id (fun i => by have := hq172.2 i; exfalso; omega)
                      have ex := hq172.1 hi
                      refine zs_aload_n (pc := 199) C dX1_value_199 rfl ?_
                      refine zs_getf (pc := 200) C dX1_value_200 w_X1_28 f_2_5 (by decide) ?_
                      refine zs_iload_n (pc := 203) C dX1_value_203 rfl ?_
                      refine zs_iconst (pc := 204) C dX1_value_204 (by decide) ?_
                      first | refine zs_isub (pc := 205) C dX1_value_205 (by omega) ?_ | refine zs_isubF (pc := 205) C dX1_value_205 (fun z205 hz2051 hz2052 => ?_)
                      refine zs_lload (pc := 206) C dX1_value_206 rfl ?_
                      refine zs_last (r := 2019) (pc := 208) C dX1_value_208 a_19 (by decide) (by omega) rfl ?_
                      first | refine zs_iinc (pc := 209) C dX1_value_209 rfl (by decide) (by omega) ?_ | refine zs_iincF (pc := 209) C dX1_value_209 rfl (by decide) (fun z209 hz2091 hz2092 => ?_)
                      dsimp only [zset, zclr, znone]
                      refine zs_goto (tgt := 21) (pc := 212) C dX1_value_212 (by decide) ?_
                      exact zs_wk (ih21 _ _ _ (by omega) (by omega) (by repeat (first | exact zsm_rf | assumption | refine zsm_C (by decide) ?_ | refine zsm_I (by decide) ?_ | refine zsm_J ?_ | refine zsm_c (by assumption) (by decide) ?_)) (by first | exact VI_leaf h21_3 w3 w1 ⟨by omega, by omega⟩ (by omega) hb (by first | (rw [if_pos (by omega), e94, h21_4]; exact hn _ (by omega)) | rw [if_neg (by omega)]) (fun j => zuJ_at j) | exact oN _ (fun j => by rw [zuJ_at, ← e133]; first | rw [if_pos (show v133 = 0 by omega)] | rw [if_neg (show ¬ v133 = 0 by omega)]) | (rw [show y2 + -1 = y2 - 1 by omega]; exact oG hi _ (fun j => by rw [zuJ_at, show (y2 - 1 - 1).toNat = (y2 - 2).toNat by omega, ex]))) (fun a j => by first | exact h21_4 a j | (rw [zuJ_2, if_neg (fun q => absurd q.1 (by decide))]; exact h21_4 a j)) (by first | omega | (simp only [zuI_1, zuI_2, zuJ_1, zuJ_2, zuJ_3, zuP_1, zuP_2, zuP_3, zuC_1, zuC_2, reduceIte, Nat.reduceEqDiff, false_and, and_false, true_and, and_true, and_self, or_true, true_or, or_false, false_or]; omega))) (zwk_s rfl (zwk_s rfl (zwk_s rfl (zwk_s rfl (zwk_n (zwk_n (zwk_n (zwk_n zwk_0))))))))
                    · skip
                      refine zs_ldc2 (n := -9223372036854775808) (pc := 195) C dX1_value_195 q_X1_48 (by decide) (by decide) ?_
                      exact zs_lret (pc := 198) C hr hlk dX1_value_198 ⟨h21_2, ⟨by rw [lV_no (fun q => oB (fun i => by have := hq172.1 i; unfold inb at i; omega) q.2)], h21_4⟩⟩
              · skip
                obtain ⟨o1, oN⟩ := VI_not h21_3 w3 w1 ⟨by omega, by omega⟩ (by omega)
                refine zs_iload_n (pc := 114) C dX1_value_114 rfl ?_
                refine zs_iconst (pc := 115) C dX1_value_115 (by decide) ?_
                refine zs_icmp_lt (tgt := 148) (pc := 116) C dX1_value_116 (by decide) (fun h116 => ?_) (fun h116 => ?_)
                · skip
                  exfalso; omega
                · skip
                  refine zs_aload_n (pc := 119) C dX1_value_119 rfl ?_
                  refine zs_getf (pc := 120) C dX1_value_120 w_X1_28 f_2_5 (by decide) ?_
                  refine zs_iload_n (pc := 123) C dX1_value_123 rfl ?_
                  refine zs_iconst (pc := 124) C dX1_value_124 (by decide) ?_
                  first | refine zs_isub (pc := 125) C dX1_value_125 (by omega) ?_ | refine zs_isubF (pc := 125) C dX1_value_125 (fun z125 hz1251 hz1252 => ?_)
                  refine zs_aload_n (pc := 126) C dX1_value_126 rfl ?_
                  refine zs_getf (pc := 127) C dX1_value_127 w_X1_28 f_2_5 (by decide) ?_
                  refine zs_iload_n (pc := 130) C dX1_value_130 rfl ?_
                  refine zs_iconst (pc := 131) C dX1_value_131 (by decide) ?_
                  first | refine zs_isub (pc := 132) C dX1_value_132 (by omega) ?_ | refine zs_isubF (pc := 132) C dX1_value_132 (fun z132 hz1321 hz1322 => ?_)
                  refine zs_lald (r := 2019) (pc := 133) C dX1_value_133 a_19 (by decide) (by omega) rfl (fun v133 e133 l133 u133 => ?_)
                  refine zs_lconst (n := 0) (pc := 134) C dX1_value_134 rfl (by decide) ?_
                  refine zs_lcmp (pc := 135) C dX1_value_135 (fun z135 hz135 => ?_)
                  refine zs_if_ne (tgt := 143) (pc := 136) C dX1_value_136 (by decide) (fun h136 => ?_) (fun h136 => ?_)
                  · skip
                    refine zs_lconst (n := 0) (pc := 143) C dX1_value_143 rfl (by decide) ?_
                    refine zs_last (r := 2019) (pc := 144) C dX1_value_144 a_19 (by decide) (by omega) rfl ?_
                    refine zs_goto (tgt := 209) (pc := 145) C dX1_value_145 (by decide) ?_
                    first | refine zs_iinc (pc := 209) C dX1_value_209 rfl (by decide) (by omega) ?_ | refine zs_iincF (pc := 209) C dX1_value_209 rfl (by decide) (fun z209 hz2091 hz2092 => ?_)
                    dsimp only [zset, zclr, znone]
                    refine zs_goto (tgt := 21) (pc := 212) C dX1_value_212 (by decide) ?_
                    exact zs_wk (ih21 _ _ _ (by omega) (by omega) (by repeat (first | exact zsm_rf | assumption | refine zsm_C (by decide) ?_ | refine zsm_I (by decide) ?_ | refine zsm_J ?_ | refine zsm_c (by assumption) (by decide) ?_)) (by first | exact VI_leaf h21_3 w3 w1 ⟨by omega, by omega⟩ (by omega) hb (by first | (rw [if_pos (by omega), e94, h21_4]; exact hn _ (by omega)) | rw [if_neg (by omega)]) (fun j => zuJ_at j) | exact oN _ (fun j => by rw [zuJ_at, ← e133]; first | rw [if_pos (show v133 = 0 by omega)] | rw [if_neg (show ¬ v133 = 0 by omega)]) | (rw [show y2 + -1 = y2 - 1 by omega]; exact oG hi _ (fun j => by rw [zuJ_at, show (y2 - 1 - 1).toNat = (y2 - 2).toNat by omega, ex]))) (fun a j => by first | exact h21_4 a j | (rw [zuJ_2, if_neg (fun q => absurd q.1 (by decide))]; exact h21_4 a j)) (by first | omega | (simp only [zuI_1, zuI_2, zuJ_1, zuJ_2, zuJ_3, zuP_1, zuP_2, zuP_3, zuC_1, zuC_2, reduceIte, Nat.reduceEqDiff, false_and, and_false, true_and, and_true, and_self, or_true, true_or, or_false, false_or]; omega))) (zwk_s rfl (zwk_s rfl (zwk_s rfl (zwk_s rfl (zwk_n (zwk_n (zwk_n (zwk_n zwk_0))))))))
                  · skip
                    refine zs_lconst (n := 1) (pc := 139) C dX1_value_139 rfl (by decide) ?_
                    refine zs_goto (tgt := 144) (pc := 140) C dX1_value_140 (by decide) ?_
                    refine zs_last (r := 2019) (pc := 144) C dX1_value_144 a_19 (by decide) (by omega) rfl ?_
                    refine zs_goto (tgt := 209) (pc := 145) C dX1_value_145 (by decide) ?_
                    first | refine zs_iinc (pc := 209) C dX1_value_209 rfl (by decide) (by omega) ?_ | refine zs_iincF (pc := 209) C dX1_value_209 rfl (by decide) (fun z209 hz2091 hz2092 => ?_)
                    dsimp only [zset, zclr, znone]
                    refine zs_goto (tgt := 21) (pc := 212) C dX1_value_212 (by decide) ?_
                    exact zs_wk (ih21 _ _ _ (by omega) (by omega) (by repeat (first | exact zsm_rf | assumption | refine zsm_C (by decide) ?_ | refine zsm_I (by decide) ?_ | refine zsm_J ?_ | refine zsm_c (by assumption) (by decide) ?_)) (by first | exact VI_leaf h21_3 w3 w1 ⟨by omega, by omega⟩ (by omega) hb (by first | (rw [if_pos (by omega), e94, h21_4]; exact hn _ (by omega)) | rw [if_neg (by omega)]) (fun j => zuJ_at j) | exact oN _ (fun j => by rw [zuJ_at, ← e133]; first | rw [if_pos (show v133 = 0 by omega)] | rw [if_neg (show ¬ v133 = 0 by omega)]) | (rw [show y2 + -1 = y2 - 1 by omega]; exact oG hi _ (fun j => by rw [zuJ_at, show (y2 - 1 - 1).toNat = (y2 - 2).toNat by omega, ex]))) (fun a j => by first | exact h21_4 a j | (rw [zuJ_2, if_neg (fun q => absurd q.1 (by decide))]; exact h21_4 a j)) (by first | omega | (simp only [zuI_1, zuI_2, zuJ_1, zuJ_2, zuJ_3, zuP_1, zuP_2, zuP_3, zuC_1, zuC_2, reduceIte, Nat.reduceEqDiff, false_and, and_false, true_and, and_true, and_self, or_true, true_or, or_false, false_or]; omega))) (zwk_s rfl (zwk_s rfl (zwk_s rfl (zwk_s rfl (zwk_n (zwk_n (zwk_n (zwk_n zwk_0))))))))
            · skip
              refine zs_iload_n (pc := 59) C dX1_value_59 rfl ?_
              refine zs_bipush (pc := 60) C dX1_value_60 (by decide) (by decide) ?_
              refine zs_icmp_ge (tgt := 108) (pc := 62) C dX1_value_62 (by decide) (fun h62 => ?_) (fun h62 => ?_)
              · skip
                exfalso; omega
              · skip
                obtain ⟨-, -, c3, -, c5⟩ := k1 (by omega)
                clear k1
                refine zs_aload_n (pc := 65) C dX1_value_65 rfl ?_
                refine zs_getf (pc := 66) C dX1_value_66 w_X1_28 f_2_5 (by decide) ?_
                refine zs_iload_n (pc := 69) C dX1_value_69 rfl ?_
                refine zs_iload (pc := 70) C dX1_value_70 rfl ?_
                refine zs_iconst (pc := 72) C dX1_value_72 (by decide) ?_
                refine zs_icmp_ne (tgt := 98) (pc := 73) C dX1_value_73 (by decide) (fun h73 => ?_) (fun h73 => ?_)
                · skip
                  refine zs_iload (pc := 98) C dX1_value_98 rfl ?_
                  refine zs_i2l (pc := 100) C dX1_value_100 ?_
                  refine zs_last (r := 2019) (pc := 101) C dX1_value_101 a_19 (by decide) (by omega) rfl ?_
                  first | refine zs_iinc (pc := 102) C dX1_value_102 rfl (by decide) (by omega) ?_ | refine zs_iincF (pc := 102) C dX1_value_102 rfl (by decide) (fun z102 hz1021 hz1022 => ?_)
                  dsimp only [zset, zclr, znone]
                  refine zs_goto (tgt := 209) (pc := 105) C dX1_value_105 (by decide) ?_
                  first | refine zs_iinc (pc := 209) C dX1_value_209 rfl (by decide) (by omega) ?_ | refine zs_iincF (pc := 209) C dX1_value_209 rfl (by decide) (fun z209 hz2091 hz2092 => ?_)
                  dsimp only [zset, zclr, znone]
                  refine zs_goto (tgt := 21) (pc := 212) C dX1_value_212 (by decide) ?_
                  exact zs_wk (ih21 _ _ _ (by omega) (by omega) (by repeat (first | exact zsm_rf | assumption | refine zsm_C (by decide) ?_ | refine zsm_I (by decide) ?_ | refine zsm_J ?_ | refine zsm_c (by assumption) (by decide) ?_)) (by first | exact VI_leaf h21_3 w3 w1 ⟨by omega, by omega⟩ (by omega) hb (by first | (rw [if_pos (by omega), e94, h21_4]; exact hn _ (by omega)) | rw [if_neg (by omega)]) (fun j => zuJ_at j) | exact oN _ (fun j => by rw [zuJ_at, ← e133]; first | rw [if_pos (show v133 = 0 by omega)] | rw [if_neg (show ¬ v133 = 0 by omega)]) | (rw [show y2 + -1 = y2 - 1 by omega]; exact oG hi _ (fun j => by rw [zuJ_at, show (y2 - 1 - 1).toNat = (y2 - 2).toNat by omega, ex]))) (fun a j => by first | exact h21_4 a j | (rw [zuJ_2, if_neg (fun q => absurd q.1 (by decide))]; exact h21_4 a j)) (by first | omega | (simp only [zuI_1, zuI_2, zuJ_1, zuJ_2, zuJ_3, zuP_1, zuP_2, zuP_3, zuC_1, zuC_2, reduceIte, Nat.reduceEqDiff, false_and, and_false, true_and, and_true, and_self, or_true, true_or, or_false, false_or]; omega))) (zwk_s rfl (zwk_s rfl (zwk_s rfl (zwk_s rfl (zwk_n (zwk_n (zwk_n (zwk_n zwk_0))))))))
                · skip
                  refine zs_iload (pc := 76) C dX1_value_76 rfl ?_
                  refine zs_if_lt (tgt := 98) (pc := 78) C dX1_value_78 (by decide) (fun h78 => ?_) (fun h78 => ?_)
                  · skip
                    exfalso; omega
                  · skip
                    have c6 := c5 (by omega)
                    refine zs_iload (pc := 81) C dX1_value_81 rfl ?_
                    refine zs_bipush (pc := 83) C dX1_value_83 (by decide) (by decide) ?_
                    refine zs_icmp_ge (tgt := 98) (pc := 85) C dX1_value_85 (by decide) (fun h85 => ?_) (fun h85 => ?_)
                    · skip
                      exfalso; omega
                    · skip
                      refine zs_aload_n (pc := 88) C dX1_value_88 rfl ?_
                      refine zs_getf (pc := 89) C dX1_value_89 w_X1_24 f_2_4 (by decide) ?_
                      refine zs_iload (pc := 92) C dX1_value_92 rfl ?_
                      refine zs_lald (r := 2018) (pc := 94) C dX1_value_94 a_18 (by decide) (by omega) rfl (fun v94 e94 l94 u94 => ?_)
                      refine zs_goto (tgt := 101) (pc := 95) C dX1_value_95 (by decide) ?_
                      refine zs_last (r := 2019) (pc := 101) C dX1_value_101 a_19 (by decide) (by omega) rfl ?_
                      first | refine zs_iinc (pc := 102) C dX1_value_102 rfl (by decide) (by omega) ?_ | refine zs_iincF (pc := 102) C dX1_value_102 rfl (by decide) (fun z102 hz1021 hz1022 => ?_)
                      dsimp only [zset, zclr, znone]
                      refine zs_goto (tgt := 209) (pc := 105) C dX1_value_105 (by decide) ?_
                      first | refine zs_iinc (pc := 209) C dX1_value_209 rfl (by decide) (by omega) ?_ | refine zs_iincF (pc := 209) C dX1_value_209 rfl (by decide) (fun z209 hz2091 hz2092 => ?_)
                      dsimp only [zset, zclr, znone]
                      refine zs_goto (tgt := 21) (pc := 212) C dX1_value_212 (by decide) ?_
                      exact zs_wk (ih21 _ _ _ (by omega) (by omega) (by repeat (first | exact zsm_rf | assumption | refine zsm_C (by decide) ?_ | refine zsm_I (by decide) ?_ | refine zsm_J ?_ | refine zsm_c (by assumption) (by decide) ?_)) (by first | exact VI_leaf h21_3 w3 w1 ⟨by omega, by omega⟩ (by omega) hb (by first | (rw [if_pos (by omega), e94, h21_4]; exact hn _ (by omega)) | rw [if_neg (by omega)]) (fun j => zuJ_at j) | exact oN _ (fun j => by rw [zuJ_at, ← e133]; first | rw [if_pos (show v133 = 0 by omega)] | rw [if_neg (show ¬ v133 = 0 by omega)]) | (rw [show y2 + -1 = y2 - 1 by omega]; exact oG hi _ (fun j => by rw [zuJ_at, show (y2 - 1 - 1).toNat = (y2 - 2).toNat by omega, ex]))) (fun a j => by first | exact h21_4 a j | (rw [zuJ_2, if_neg (fun q => absurd q.1 (by decide))]; exact h21_4 a j)) (by first | omega | (simp only [zuI_1, zuI_2, zuJ_1, zuJ_2, zuJ_3, zuP_1, zuP_2, zuP_3, zuC_1, zuC_2, reduceIte, Nat.reduceEqDiff, false_and, and_false, true_and, and_true, and_self, or_true, true_or, or_false, false_or]; omega))) (zwk_s rfl (zwk_s rfl (zwk_s rfl (zwk_s rfl (zwk_n (zwk_n (zwk_n (zwk_n zwk_0))))))))
    exact zs_wk (L21 _ _ _ _ (by omega) (by omega) zsm_rf VI_0 (fun _ _ => rfl) (Nat.lt_succ_self _)) (zwk_s rfl (zwk_s rfl (zwk_s rfl (zwk_s rfl (zwk_n (zwk_n (zwk_n (zwk_n zwk_0))))))))
  · skip
    refine zs_ldc2 (n := -9223372036854775808) (pc := 8) C dX1_value_8 q_X1_48 (by decide) (by decide) ?_
    exact zs_lret (pc := 11) C hr hlk dX1_value_11 ⟨zsm_rf, ⟨by rw [lV_no (fun q => by have := hq2.2.mpr ⟨hk.1, hk.2, q.1⟩; omega)], fun _ _ => rfl⟩⟩

set_option maxHeartbeats 4000000 in
set_option maxRecDepth 100000 in
theorem c_X5_finenessK {l : Launch} {Γ : zΓ} {G : zH} {t : Nat} {k s : Int} {A : aS} {nm : Nat → Int} (hX : zXs Γ) (hZ : TV Γ t A G) (hA : WFA A) (hk : 0 ≤ k ∧ k < 7) (hn : ∀ j : Nat, j < 7 → (G.2.1 2018 (Γ.2.1 (Γ.2.1 t 0) 4)) j = nm j) (hb : ∀ j : Nat, j < 7 → -2147483648 ≤ nm j ∧ nm j ≤ 2147483647) (hs : 0 ≤ s ∧ s ≤ 3) : zMet l Γ yX5_fineness cX5_fineness 5 (some .int) 2 [zr 6 t, zi k, zi s] G (zpi (fun x G' => zsm [] G G' ∧ (x = bV (lV (A 18) (A 27) (A 28) nm (A 16 k.toNat) (A 17 k.toNat)) (A 6 s.toNat) 999 ∧ ∀ a j : Nat, G'.2.1 2018 a j = G.2.1 2018 a j))) := by
  refine zMet_of RX5 hX (by decide) rfl (Nat.le_of_ble_eq_true rfl) ?_
  intro p e sx9 m args below meth c C hr hlk
  show Z p l e (zrm 2) sx9 m args below meth c Γ 5 0 0 (MQ below (zQc Γ (zpi (fun x G' => zsm [] G G' ∧ (x = bV (lV (A 18) (A 27) (A 28) nm (A 16 k.toNat) (A 17 k.toNat)) (A 6 s.toNat) 999 ∧ ∀ a j : Nat, G'.2.1 2018 a j = G.2.1 2018 a j)))) args sx9 0 0 (zA Γ)) 0 [some (zr 6 t), some (zi k), some (zi s), none, none] [] G
  refine zs_loc 1 rfl (fun ha1 hb1 => ?_)
  refine zs_loc 2 rfl (fun ha2 hb2 => ?_)
  refine zs_aload_n (pc := 0) C dX5_fineness_0 rfl ?_
  refine zs_getf (pc := 1) C dX5_fineness_1 w_X5_12 f_6_0 (by decide) ?_
  refine zs_iload_n (pc := 4) C dX5_fineness_4 rfl ?_
  refine zVj1 (pc := 5) C dX5_fineness_5 v_X5_76 (c_X1_valueK hX hZ hA hk hn hb) (by decide) (by decide) ⟨Nat.zero_le _, Nat.zero_le _⟩ (Nat.le_of_ble_eq_true rfl) (fun x5 G5 l5 u5 hp5 => ?_)
  obtain ⟨hz5, hq5⟩ := hp5
  obtain ⟨hv5, hN5⟩ := hq5
  have hZ5 := TV_m hz5 (by decide +kernel) hZ
  refine zs_lstore_n (pc := 8) C dX5_fineness_8 (by decide) ?_
  dsimp only [zset, zclr, znone]
  refine zs_lload_n (pc := 9) C dX5_fineness_9 rfl ?_
  refine zs_ldc2 (n := -9223372036854775808) (pc := 10) C dX5_fineness_10 q_X5_80 (by decide) (by decide) ?_
  refine zs_lcmp (pc := 13) C dX5_fineness_13 (fun z13 hz13 => ?_)
  refine zs_if_ne (tgt := 26) (pc := 14) C dX5_fineness_14 (by decide) (fun h14 => ?_) (fun h14 => ?_)
  · skip
    refine zs_lconst (n := 0) (pc := 26) C dX5_fineness_26 rfl (by decide) ?_
    refine zs_ldc2 (n := 999) (pc := 27) C dX5_fineness_27 q_X5_82 (by decide) (by decide) ?_
    refine zs_lload_n (pc := 30) C dX5_fineness_30 rfl ?_
    refine zs_minL (pc := 31) C dX5_fineness_31 s_X5_84 (by decide) (Nat.le_of_ble_eq_true rfl) ⟨Nat.zero_le _, Nat.zero_le _⟩ (fun z31 hz31 => ?_)
    refine zs_maxL (pc := 34) C dX5_fineness_34 s_X5_90 (by decide) (Nat.le_of_ble_eq_true rfl) ⟨Nat.zero_le _, Nat.zero_le _⟩ (fun z34 hz34 => ?_)
    first | refine zs_l2i (pc := 37) C dX5_fineness_37 (by omega) ?_ | refine zs_l2iF (pc := 37) C dX5_fineness_37 (fun z37 hz371 hz372 => ?_)
    exact zs_iret (pc := 38) C hr hlk dX5_fineness_38 ⟨hz5, ⟨by first | (unfold bV; rw [← hv5, if_pos (by omega)]) | (unfold bV; rw [← hv5, if_neg (by omega)]; (repeat' split) <;> omega), hN5⟩⟩
  · skip
    have hZ := hZ5
    refine zs_aload_n (pc := 17) C dX5_fineness_17 rfl ?_
    refine zs_getf (pc := 18) C dX5_fineness_18 w_X5_25 f_6_3 (by decide) ?_
    refine zs_iload_n (pc := 21) C dX5_fineness_21 rfl ?_
    refine zs_iald (r := 2038) (pc := 22) C dX5_fineness_22 a_38 (by decide) (by omega) rfl (r_2038 _) (fun v22 e22 l22 u22 => ?_)
    try simp only [TV_2038 hZ] at e22
    try subst v22
    refine zs_goto (tgt := 38) (pc := 23) C dX5_fineness_23 (by decide) ?_
    exact zs_iret (pc := 38) C hr hlk dX5_fineness_38 ⟨hz5, ⟨by first | (unfold bV; rw [← hv5, if_pos (by omega)]) | (unfold bV; rw [← hv5, if_neg (by omega)]; (repeat' split) <;> omega), hN5⟩⟩
