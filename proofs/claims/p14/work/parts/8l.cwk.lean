/-! the works as numbers: 0 size, 1 .. 10 sacks (person sin fine ground held times worn pride day leftBits), 11 done, 12 left, 13 times, 14 invented, 15 falls, 16 bakedOn, 17 taken, 18 day, 19 grain, 20 worn, 21 drawn, 22 known -/
def sM (f : Nat → Int) (b : Nat) : Nat → Int
  | 0 => 0
  | m + 1 => sM f b m + f (b + m)
def wL (W : aS) (p s : Int) : Int := W 12 (p * 4 + s).toNat
def wPr (W : aS) (p : Int) : Int := sM (W 12) (p * 4).toNat 4
def p2 (m : Nat) : Int := if m = 0 then 1 else if m = 1 then 2 else if m = 2 then 4 else 8
def wB (f : Nat → Int) (b : Nat) : Nat → Int
  | 0 => 0
  | m + 1 => wB f b m + (if 0 < f (b + m) then p2 m else 0)
def wBits (W : aS) (p : Int) : Int := wB (W 12) (p * 4).toNat 4
/-- what the names say -/
def wNm (A W : aS) (p s : Int) : Nat → Int := fun j => if j = 0 then A 6 s.toNat else if j = 1 then W 13 p.toNat else if j = 2 then W 20 0 else if j = 3 then wPr W p else if j = 4 then (if 0 < wL W p s then 0 else 1) else if j = 5 then A 7 p.toNat else if j = 6 then W 18 0 else 0
def wLaw (A W : aS) (k p s : Int) : Int := lV (A 18) (A 27) (A 28) (wNm A W p s) (A 16 k.toNat) (A 17 k.toNat)
def wFine (A W : aS) (p s : Int) : Int := bV (wLaw A W 0 p s) (A 6 s.toNat) 999
def wWear (A W : aS) (p s : Int) : Int := bV (wLaw A W 1 p s) 1 99
def wSum (A : aS) (L : Nat → Int) (p : Int) : Nat → Int
  | 0 => 0
  | m + 1 => wSum A L p m + L ((p * 4).toNat + m) * A 6 m
def wNp (A W : aS) (p q : Int) : Nat → Int := fun j => if j = 0 then wSum A (W 12) p (A 4 0).toNat else if j = 1 then wSum A (W 12) q (A 4 0).toNat else if j = 2 then W 20 0 else if j = 3 then wPr W p else if j = 4 then 0 else if j = 5 then A 7 q.toNat else if j = 6 then W 18 0 else 0
def wPair (A W : aS) (p q : Int) : Int := lV (A 18) (A 27) (A 28) (wNp A W p q) (A 16 3) (A 17 3)
/-- a sack's lie by a sin; what the names say of a sack -/
def wLie (W : aS) (k s : Int) : Int := if band (bshr (W 10 k.toNat) s) 1 = 0 then 1 else 0
def wNs (A W : aS) (k s : Int) : Nat → Int := fun j => if j = 0 then A 6 s.toNat else if j = 1 then W 6 k.toNat else if j = 2 then W 7 k.toNat else if j = 3 then W 8 k.toNat else if j = 4 then wLie W k s else if j = 5 then A 7 (W 1 k.toNat).toNat else if j = 6 then W 9 k.toNat else 0
def wThen (A W : aS) (k l s : Int) : Int := bV (lV (A 18) (A 27) (A 28) (wNs A W k s) (A 16 l.toNat) (A 17 l.toNat)) (A 6 s.toNat) 999
def wKn (W : aS) : Int := if W 22 0 = -1 then W 0 0 else min (W 22 0) (W 0 0)
def wFit (A W : aS) (l : Int) : Nat → Prop
  | 0 => True
  | m + 1 => wFit A W l m ∧ wThen A W m l (W 2 m) = W 3 m
abbrev wCan (W : aS) : Prop := 0 < W 19 0 ∧ W 0 0 < 60
def wPort (A W : aS) : Int := min (A 13 0) (W 19 0)
/-- a sack filled -/
def wSack (A W : aS) (p s : Int) : aS := up (up (up (up (up (up (up (up (up (up W 1 (W 0 0).toNat p) 2 (W 0 0).toNat s) 3 (W 0 0).toNat (wFine A W p s)) 4 (W 0 0).toNat (wPort A W)) 5 (W 0 0).toNat (wPort A W)) 6 (W 0 0).toNat (W 13 p.toNat)) 7 (W 0 0).toNat (W 20 0)) 8 (W 0 0).toNat (wPr W p)) 9 (W 0 0).toNat (W 18 0)) 10 (W 0 0).toNat (wBits W p)
def wGr1 (A W : aS) (p s wr : Int) : aS := up (up (up (up (wSack A W p s) 0 0 (W 0 0 + 1)) 19 0 (W 19 0 - wPort A W)) 20 0 (if wr ≠ 0 then min 99999 (W 20 0 + wWear A W p s) else W 20 0)) 13 p.toNat (W 13 p.toNat + 1)
def wGrind (A W : aS) (p s wr : Int) : aS := if wCan W then (if 0 < wL W p s then up (wGr1 A W p s wr) 12 (p * 4 + s).toNat (wL W p s - 1) else up (wGr1 A W p s wr) 14 p.toNat (W 14 p.toNat + 1)) else W
def wUg1 (W : aS) (k : Nat) : aS := up (up (up (up W 0 0 (W 0 0 - 1)) 19 0 (W 19 0 + W 4 k)) 20 0 (W 7 k)) 13 (W 1 k).toNat (W 6 k)
def wUngrind (W : aS) : aS := if W 0 0 ≤ 0 then W else if wLie W (W 0 0 - 1) (W 2 (W 0 0 - 1).toNat) = 0 then up (wUg1 W (W 0 0 - 1).toNat) 12 (W 1 (W 0 0 - 1).toNat * 4 + W 2 (W 0 0 - 1).toNat).toNat (W 12 (W 1 (W 0 0 - 1).toNat * 4 + W 2 (W 0 0 - 1).toNat).toNat + 1) else up (wUg1 W (W 0 0 - 1).toNat) 14 (W 1 (W 0 0 - 1).toNat).toNat (W 14 (W 1 (W 0 0 - 1).toNat).toNat - 1)
/-! chance -/
def wNext (d : Int) : Int := (d * 1103515245 + 12345) % 2147483648
def wWorst (A : aS) (L : Nat → Int) (p : Int) : Nat → Int
  | 0 => -1
  | m + 1 => if 0 < L ((p * 4).toNat + m) ∧ (wWorst A L p m = -1 ∨ A 6 (wWorst A L p m).toNat < A 6 m) then (m : Int) else wWorst A L p m
def wFree (L : Nat → Int) (p : Int) : Nat → Int
  | 0 => 0
  | m + 1 => wFree L p m + (if 0 < L ((p * 4).toNat + m) then 0 else 1)
def wFind (L : Nat → Int) (p a : Int) : Nat → Int
  | 0 => -1
  | m + 1 => if wFind L p a m ≠ -1 then wFind L p a m else if ¬ 0 < L ((p * 4).toNat + m) ∧ wFree L p m = a then (m : Int) else -1
def wD1 (W : aS) : Int := wNext (W 21 0)
abbrev wHon (A W : aS) (p : Int) : Prop := wD1 W / 65536 % 100 < A 7 p.toNat ∧ wWorst A (W 12) p (A 4 0).toNat ≠ -1
def wAskV (A W : aS) (p : Int) : Int := if wHon A W p then wWorst A (W 12) p (A 4 0).toNat else if 0 < wFree (W 12) p (A 4 0).toNat then wFind (W 12) p (wNext (wD1 W) / 65536 % wFree (W 12) p (A 4 0).toNat) (A 4 0).toNat else -1
def wAsk (A W : aS) (p : Int) : aS := if wHon A W p then up W 21 0 (wD1 W) else if 0 < wFree (W 12) p (A 4 0).toNat then up W 21 0 (wNext (wD1 W)) else up W 21 0 (wD1 W)
/-! falls -/
def wFall (W : aS) (p s : Int) : aS := up (up (up W 11 (p * 4 + s).toNat (W 11 (p * 4 + s).toNat + 1)) 12 (p * 4 + s).toNat (W 12 (p * 4 + s).toNat + 1)) 15 p.toNat (W 15 p.toNat + 1)
def wUnfall (W : aS) (p s : Int) : aS := up (up (up W 11 (p * 4 + s).toNat (W 11 (p * 4 + s).toNat - 1)) 12 (p * 4 + s).toNat (W 12 (p * 4 + s).toNat - 1)) 15 p.toNat (W 15 p.toNat - 1)
/-! cakes -/
def wFl (F H : Nat → Int) (a : Int) : Nat → Int
  | 0 => 0
  | m + 1 => wFl F H a m + (if a ≤ F m then H m else 0)
def wFlour (W : aS) (a : Int) : Int := wFl (W 3) (W 5) a (W 0 0).toNat
def wCo (F H : Nat → Int) (a : Int) : Nat → Int
  | 0 => -1
  | m + 1 => if 0 < H m ∧ a ≤ F m ∧ (wCo F H a m = -1 ∨ F m < F (wCo F H a m).toNat) then (m : Int) else wCo F H a m
def wTk0 (W : aS) (c : Int) : Nat → aS
  | 0 => W
  | m + 1 => up (wTk0 W c m) 17 ((c * 60).toNat + m) 0
/-- what is still wanted, and the works, behind so many sacks -/
def wTk (a c : Int) : Nat → Int × aS → Int × aS
  | 0, x => x
  | m + 1, x => if 0 < x.1 ∧ wCo (x.2 3) (x.2 5) a (x.2 0 0).toNat ≠ -1 then wTk a c m (x.1 - min x.1 (x.2 5 (wCo (x.2 3) (x.2 5) a (x.2 0 0).toNat).toNat), up (up x.2 5 (wCo (x.2 3) (x.2 5) a (x.2 0 0).toNat).toNat (x.2 5 (wCo (x.2 3) (x.2 5) a (x.2 0 0).toNat).toNat - min x.1 (x.2 5 (wCo (x.2 3) (x.2 5) a (x.2 0 0).toNat).toNat))) 17 (c * 60 + wCo (x.2 3) (x.2 5) a (x.2 0 0).toNat).toNat (min x.1 (x.2 5 (wCo (x.2 3) (x.2 5) a (x.2 0 0).toNat).toNat))) else x
abbrev wCanB (A W : aS) (c : Int) : Prop := W 16 c.toNat = -1 ∧ A 10 c.toNat ≤ wFlour W (A 9 c.toNat)
def wBake (A W : aS) (c : Int) : aS := if wCanB A W c then up (wTk (A 9 c.toNat) c 60 (A 10 c.toNat, wTk0 W c 60)).2 16 c.toNat (W 18 0) else W
def wUb (W : aS) (c : Int) : Nat → aS
  | 0 => W
  | m + 1 => up (wUb W c m) 5 m (W 5 m + W 17 ((c * 60).toNat + m))
def wUnbake (W : aS) (c : Int) : aS := up (wUb W c (W 0 0).toNat) 16 c.toNat (-1)
def wBd (A : aS) : Nat → aS → aS
  | 0, W => W
  | m + 1, W => if A 11 m = (wBd A m W) 18 0 then wBake A (wBd A m W) m else wBd A m W
/-! a day -/
def wUrge (A W : aS) (p s t i : Int) : Int := if (t = 1 ∧ p = i) ∨ (t = 2 ∧ s = i) then 0 else if t = 3 then 100 - A 6 s.toNat else if t = 4 ∨ ¬ A 16 2 < A 17 2 then A 6 s.toNat else if wLaw A W 2 p s = -9223372036854775808 then 0 else wLaw A W 2 p s
def wBest (A W : aS) (t i : Int) : Nat → Int × Int
  | 0 => (-1, 0)
  | m + 1 => if (wBest A W t i m).2 < (if 0 < W 12 m then wUrge A W ((m / 4 : Nat) : Int) ((m % 4 : Nat) : Int) t i else 0) then ((m : Int), (if 0 < W 12 m then wUrge A W ((m / 4 : Nat) : Int) ((m % 4 : Nat) : Int) t i else 0)) else wBest A W t i m
def wCod (A W : aS) (t i : Int) : aS := if wCan W ∧ (wBest A W t i (A 4 1 * 4).toNat).1 ≠ -1 then wGrind A W ((wBest A W t i (A 4 1 * 4).toNat).1 / 4) ((wBest A W t i (A 4 1 * 4).toNat).1 % 4) (if t = 0 then 0 else 1) else W
def wDay (A W : aS) : aS := up (wBd A (A 4 2).toNat (wCod A W (-1) 0)) 18 0 (W 18 0 + 1)
def wDays (A : aS) : Nat → aS → aS
  | 0, W => W
  | m + 1, W => wDay A (wDays A m W)
def wTry (A : aS) (t i : Int) : Nat → aS → aS
  | 0, W => W
  | m + 1, W => up (wCod A (wTry A t i m W) t i) 18 0 ((wTry A t i m W) 18 0 + 1)
/-- as a telling begins -/
def wBeg (A W : aS) : Prop := W 0 0 = 0 ∧ (∀ j : Nat, j < 20 → W 11 j = A 8 j ∧ W 12 j = A 8 j) ∧ (∀ j : Nat, j < 5 → W 13 j = 0 ∧ W 14 j = 0 ∧ W 15 j = 0 ∧ W 16 j = -1) ∧ W 18 0 = 0 ∧ W 19 0 = A 12 0 ∧ W 20 0 = A 14 0 ∧ W 21 0 = A 15 0 ∧ W 22 0 = -1
/-- alike but for what is of no more use -/
def wEQ (W V : aS) : Prop := W 0 0 = V 0 0 ∧ (∀ f k : Nat, 1 ≤ f → f ≤ 10 → (k : Int) < W 0 0 → W f k = V f k) ∧ (∀ f j : Nat, 11 ≤ f → f < 23 → f ≠ 17 → W f j = V f j) ∧ ∀ c k : Nat, c < 5 → k < 60 → W 16 c ≠ -1 → W 17 (c * 60 + k) = V 17 (c * 60 + k)
/-- what is undone is one number: 0 a confession, 1 .. 20 the slots of falls, then the cakes -/
def wUndo (W : aS) (x : Int) : aS := if 21 ≤ x then wUnbake W (x - 21) else if 1 ≤ x then wUnfall W ((x - 1) / 4) ((x - 1) % 4) else wUngrind W
/-! how the class holds works -/
def wLs : List Nat := [510, 2026, 2027, 2028, 2029, 2030, 2031, 2032, 2033, 2034, 2035, 2048, 2049, 2050, 2051, 2052, 2053, 2054, 809, 810, 811, 812, 813]
def wreg (f : Nat) : Nat := wLs.getD f 0
def wad (Γ : zΓ) (w f : Nat) : Nat := [(Γ.2.1 w 1), (Γ.2.1 (Γ.2.1 w 1) 0), (Γ.2.1 (Γ.2.1 w 1) 1), (Γ.2.1 (Γ.2.1 w 1) 2), (Γ.2.1 (Γ.2.1 w 1) 3), (Γ.2.1 (Γ.2.1 w 1) 4), (Γ.2.1 (Γ.2.1 w 1) 5), (Γ.2.1 (Γ.2.1 w 1) 6), (Γ.2.1 (Γ.2.1 w 1) 7), (Γ.2.1 (Γ.2.1 w 1) 8), (Γ.2.1 (Γ.2.1 w 1) 9), (Γ.2.1 w 2), (Γ.2.1 w 3), (Γ.2.1 w 4), (Γ.2.1 w 5), (Γ.2.1 w 6), (Γ.2.1 w 7), (Γ.2.1 w 8), w, w, w, w, w].getD f 0
/-- works at w hold W; what lies at all other addresses is behind 100 -/
def QW (Γ : zΓ) (w : Nat) (W : aS) (G : zH) : Prop := (∀ f a j : Nat, f < 23 → a ≠ wad Γ w f → G.1 (wreg f) a j = W (100 + 23 * a + f) j) ∧ ∀ f j : Nat, f < 23 → G.1 (wreg f) (wad Γ w f) j = W f j
theorem wreg_in : ∀ f : Nat, f < 23 → wreg f ∈ wLs := by decide
theorem wreg_ij : ∀ f : Nat, f < 23 → ∀ g : Nat, g < 23 → wreg f = wreg g → f = g := by decide +kernel
theorem QW_w {Γ : zΓ} {w f j : Nat} {W : aS} {G : zH} {v : Int} (hf : f < 23) (h : QW Γ w W G) : QW Γ w (up W f j v) (zuI G (wreg f) (wad Γ w f) j v) := by
  refine ⟨fun f' a j' hf' ha => ?_, fun f' j' hf' => ?_⟩
  · rw [zuI_1, if_neg (fun q3 => by have q4 := wreg_ij f' hf' f hf q3.1; subst q4; exact ha q3.2.1), up_f (by omega)]
    exact h.1 f' a j' hf' ha
  rw [zuI_1]
  by_cases q : f' = f
  · subst q
    by_cases q2 : j' = j
    · subst q2
      rw [if_pos ⟨rfl, rfl, rfl⟩, up_eq]
    · rw [if_neg (fun q3 => q2 q3.2.2), up_j q2]
      exact h.2 f' j' hf'
  · rw [if_neg (fun q3 => q (wreg_ij f' hf' f hf q3.1)), up_f q]
    exact h.2 f' j' hf'
theorem QW_sn {Γ : zΓ} {w : Nat} {W : aS} {G G1 : zH} {rs : List Nat} (hs : zsn rs G G1) (hr : ∀ r ∈ wLs, r ∉ rs) (h : QW Γ w W G) : QW Γ w W G1 :=
  ⟨fun f a j hf ha => by rw [hs _ (hr _ (wreg_in f hf))]; exact h.1 f a j hf ha, fun f j hf => by rw [hs _ (hr _ (wreg_in f hf))]; exact h.2 f j hf⟩
theorem QW_J {Γ : zΓ} {w : Nat} {W : aS} {G : zH} {r a i : Nat} {x : Int} (h : QW Γ w W G) : QW Γ w W (zuJ G r a i x) := h
theorem QW_is {Γ : zΓ} {w : Nat} {G : zH} : ∃ W : aS, QW Γ w W G := ⟨fun f j => if f < 100 then G.1 (wreg f) (wad Γ w f) j else G.1 (wreg ((f - 100) % 23)) ((f - 100) / 23) j, fun f a j hf _ => by
  show _ = (if 100 + 23 * a + f < 100 then _ else _)
  rw [if_neg (by omega), show (100 + 23 * a + f - 100) % 23 = f by omega, show (100 + 23 * a + f - 100) / 23 = a by omega], fun f j hf => by
  show _ = (if f < 100 then _ else _)
  rw [if_pos (by omega)]⟩
theorem QWw_510 {Γ : zΓ} {w : Nat} {W : aS} {G : zH} {v : Int} (h : QW Γ w W G) : QW Γ w (up W 0 0 v) (zuI G 510 (Γ.2.1 w 1) 0 v) := QW_w (f := 0) (by decide) h
theorem QWw_2026 {Γ : zΓ} {w : Nat} {W : aS} {G : zH} {j : Nat} {v : Int} (h : QW Γ w W G) : QW Γ w (up W 1 j v) (zuI G 2026 (Γ.2.1 (Γ.2.1 w 1) 0) j v) := QW_w (f := 1) (by decide) h
theorem QWw_2027 {Γ : zΓ} {w : Nat} {W : aS} {G : zH} {j : Nat} {v : Int} (h : QW Γ w W G) : QW Γ w (up W 2 j v) (zuI G 2027 (Γ.2.1 (Γ.2.1 w 1) 1) j v) := QW_w (f := 2) (by decide) h
theorem QWw_2028 {Γ : zΓ} {w : Nat} {W : aS} {G : zH} {j : Nat} {v : Int} (h : QW Γ w W G) : QW Γ w (up W 3 j v) (zuI G 2028 (Γ.2.1 (Γ.2.1 w 1) 2) j v) := QW_w (f := 3) (by decide) h
theorem QWw_2029 {Γ : zΓ} {w : Nat} {W : aS} {G : zH} {j : Nat} {v : Int} (h : QW Γ w W G) : QW Γ w (up W 4 j v) (zuI G 2029 (Γ.2.1 (Γ.2.1 w 1) 3) j v) := QW_w (f := 4) (by decide) h
theorem QWw_2030 {Γ : zΓ} {w : Nat} {W : aS} {G : zH} {j : Nat} {v : Int} (h : QW Γ w W G) : QW Γ w (up W 5 j v) (zuI G 2030 (Γ.2.1 (Γ.2.1 w 1) 4) j v) := QW_w (f := 5) (by decide) h
theorem QWw_2031 {Γ : zΓ} {w : Nat} {W : aS} {G : zH} {j : Nat} {v : Int} (h : QW Γ w W G) : QW Γ w (up W 6 j v) (zuI G 2031 (Γ.2.1 (Γ.2.1 w 1) 5) j v) := QW_w (f := 6) (by decide) h
theorem QWw_2032 {Γ : zΓ} {w : Nat} {W : aS} {G : zH} {j : Nat} {v : Int} (h : QW Γ w W G) : QW Γ w (up W 7 j v) (zuI G 2032 (Γ.2.1 (Γ.2.1 w 1) 6) j v) := QW_w (f := 7) (by decide) h
theorem QWw_2033 {Γ : zΓ} {w : Nat} {W : aS} {G : zH} {j : Nat} {v : Int} (h : QW Γ w W G) : QW Γ w (up W 8 j v) (zuI G 2033 (Γ.2.1 (Γ.2.1 w 1) 7) j v) := QW_w (f := 8) (by decide) h
theorem QWw_2034 {Γ : zΓ} {w : Nat} {W : aS} {G : zH} {j : Nat} {v : Int} (h : QW Γ w W G) : QW Γ w (up W 9 j v) (zuI G 2034 (Γ.2.1 (Γ.2.1 w 1) 8) j v) := QW_w (f := 9) (by decide) h
theorem QWw_2035 {Γ : zΓ} {w : Nat} {W : aS} {G : zH} {j : Nat} {v : Int} (h : QW Γ w W G) : QW Γ w (up W 10 j v) (zuI G 2035 (Γ.2.1 (Γ.2.1 w 1) 9) j v) := QW_w (f := 10) (by decide) h
theorem QWw_2048 {Γ : zΓ} {w : Nat} {W : aS} {G : zH} {j : Nat} {v : Int} (h : QW Γ w W G) : QW Γ w (up W 11 j v) (zuI G 2048 (Γ.2.1 w 2) j v) := QW_w (f := 11) (by decide) h
theorem QWw_2049 {Γ : zΓ} {w : Nat} {W : aS} {G : zH} {j : Nat} {v : Int} (h : QW Γ w W G) : QW Γ w (up W 12 j v) (zuI G 2049 (Γ.2.1 w 3) j v) := QW_w (f := 12) (by decide) h
theorem QWw_2050 {Γ : zΓ} {w : Nat} {W : aS} {G : zH} {j : Nat} {v : Int} (h : QW Γ w W G) : QW Γ w (up W 13 j v) (zuI G 2050 (Γ.2.1 w 4) j v) := QW_w (f := 13) (by decide) h
theorem QWw_2051 {Γ : zΓ} {w : Nat} {W : aS} {G : zH} {j : Nat} {v : Int} (h : QW Γ w W G) : QW Γ w (up W 14 j v) (zuI G 2051 (Γ.2.1 w 5) j v) := QW_w (f := 14) (by decide) h
theorem QWw_2052 {Γ : zΓ} {w : Nat} {W : aS} {G : zH} {j : Nat} {v : Int} (h : QW Γ w W G) : QW Γ w (up W 15 j v) (zuI G 2052 (Γ.2.1 w 6) j v) := QW_w (f := 15) (by decide) h
theorem QWw_2053 {Γ : zΓ} {w : Nat} {W : aS} {G : zH} {j : Nat} {v : Int} (h : QW Γ w W G) : QW Γ w (up W 16 j v) (zuI G 2053 (Γ.2.1 w 7) j v) := QW_w (f := 16) (by decide) h
theorem QWw_2054 {Γ : zΓ} {w : Nat} {W : aS} {G : zH} {j : Nat} {v : Int} (h : QW Γ w W G) : QW Γ w (up W 17 j v) (zuI G 2054 (Γ.2.1 w 8) j v) := QW_w (f := 17) (by decide) h
theorem QWw_809 {Γ : zΓ} {w : Nat} {W : aS} {G : zH} {v : Int} (h : QW Γ w W G) : QW Γ w (up W 18 0 v) (zuI G 809 w 0 v) := QW_w (f := 18) (by decide) h
theorem QWw_810 {Γ : zΓ} {w : Nat} {W : aS} {G : zH} {v : Int} (h : QW Γ w W G) : QW Γ w (up W 19 0 v) (zuI G 810 w 0 v) := QW_w (f := 19) (by decide) h
theorem QWw_811 {Γ : zΓ} {w : Nat} {W : aS} {G : zH} {v : Int} (h : QW Γ w W G) : QW Γ w (up W 20 0 v) (zuI G 811 w 0 v) := QW_w (f := 20) (by decide) h
theorem QWw_812 {Γ : zΓ} {w : Nat} {W : aS} {G : zH} {v : Int} (h : QW Γ w W G) : QW Γ w (up W 21 0 v) (zuI G 812 w 0 v) := QW_w (f := 21) (by decide) h
theorem QWw_813 {Γ : zΓ} {w : Nat} {W : aS} {G : zH} {v : Int} (h : QW Γ w W G) : QW Γ w (up W 22 0 v) (zuI G 813 w 0 v) := QW_w (f := 22) (by decide) h
theorem QW_510 {Γ : zΓ} {w : Nat} {W : aS} {G : zH} (h : QW Γ w W G) : G.1 510 (Γ.2.1 w 1) 0 = W 0 0 := h.2 0 0 (by decide)
theorem QW_2026 {Γ : zΓ} {w : Nat} {W : aS} {G : zH} (h : QW Γ w W G) (j : Nat) : G.1 2026 (Γ.2.1 (Γ.2.1 w 1) 0) j = W 1 j := h.2 1 j (by decide)
theorem QW_2027 {Γ : zΓ} {w : Nat} {W : aS} {G : zH} (h : QW Γ w W G) (j : Nat) : G.1 2027 (Γ.2.1 (Γ.2.1 w 1) 1) j = W 2 j := h.2 2 j (by decide)
theorem QW_2028 {Γ : zΓ} {w : Nat} {W : aS} {G : zH} (h : QW Γ w W G) (j : Nat) : G.1 2028 (Γ.2.1 (Γ.2.1 w 1) 2) j = W 3 j := h.2 3 j (by decide)
theorem QW_2029 {Γ : zΓ} {w : Nat} {W : aS} {G : zH} (h : QW Γ w W G) (j : Nat) : G.1 2029 (Γ.2.1 (Γ.2.1 w 1) 3) j = W 4 j := h.2 4 j (by decide)
theorem QW_2030 {Γ : zΓ} {w : Nat} {W : aS} {G : zH} (h : QW Γ w W G) (j : Nat) : G.1 2030 (Γ.2.1 (Γ.2.1 w 1) 4) j = W 5 j := h.2 5 j (by decide)
theorem QW_2031 {Γ : zΓ} {w : Nat} {W : aS} {G : zH} (h : QW Γ w W G) (j : Nat) : G.1 2031 (Γ.2.1 (Γ.2.1 w 1) 5) j = W 6 j := h.2 6 j (by decide)
theorem QW_2032 {Γ : zΓ} {w : Nat} {W : aS} {G : zH} (h : QW Γ w W G) (j : Nat) : G.1 2032 (Γ.2.1 (Γ.2.1 w 1) 6) j = W 7 j := h.2 7 j (by decide)
theorem QW_2033 {Γ : zΓ} {w : Nat} {W : aS} {G : zH} (h : QW Γ w W G) (j : Nat) : G.1 2033 (Γ.2.1 (Γ.2.1 w 1) 7) j = W 8 j := h.2 8 j (by decide)
theorem QW_2034 {Γ : zΓ} {w : Nat} {W : aS} {G : zH} (h : QW Γ w W G) (j : Nat) : G.1 2034 (Γ.2.1 (Γ.2.1 w 1) 8) j = W 9 j := h.2 9 j (by decide)
theorem QW_2035 {Γ : zΓ} {w : Nat} {W : aS} {G : zH} (h : QW Γ w W G) (j : Nat) : G.1 2035 (Γ.2.1 (Γ.2.1 w 1) 9) j = W 10 j := h.2 10 j (by decide)
theorem QW_2048 {Γ : zΓ} {w : Nat} {W : aS} {G : zH} (h : QW Γ w W G) (j : Nat) : G.1 2048 (Γ.2.1 w 2) j = W 11 j := h.2 11 j (by decide)
theorem QW_2049 {Γ : zΓ} {w : Nat} {W : aS} {G : zH} (h : QW Γ w W G) (j : Nat) : G.1 2049 (Γ.2.1 w 3) j = W 12 j := h.2 12 j (by decide)
theorem QW_2050 {Γ : zΓ} {w : Nat} {W : aS} {G : zH} (h : QW Γ w W G) (j : Nat) : G.1 2050 (Γ.2.1 w 4) j = W 13 j := h.2 13 j (by decide)
theorem QW_2051 {Γ : zΓ} {w : Nat} {W : aS} {G : zH} (h : QW Γ w W G) (j : Nat) : G.1 2051 (Γ.2.1 w 5) j = W 14 j := h.2 14 j (by decide)
theorem QW_2052 {Γ : zΓ} {w : Nat} {W : aS} {G : zH} (h : QW Γ w W G) (j : Nat) : G.1 2052 (Γ.2.1 w 6) j = W 15 j := h.2 15 j (by decide)
theorem QW_2053 {Γ : zΓ} {w : Nat} {W : aS} {G : zH} (h : QW Γ w W G) (j : Nat) : G.1 2053 (Γ.2.1 w 7) j = W 16 j := h.2 16 j (by decide)
theorem QW_2054 {Γ : zΓ} {w : Nat} {W : aS} {G : zH} (h : QW Γ w W G) (j : Nat) : G.1 2054 (Γ.2.1 w 8) j = W 17 j := h.2 17 j (by decide)
theorem QW_809 {Γ : zΓ} {w : Nat} {W : aS} {G : zH} (h : QW Γ w W G) : G.1 809 w 0 = W 18 0 := h.2 18 0 (by decide)
theorem QW_810 {Γ : zΓ} {w : Nat} {W : aS} {G : zH} (h : QW Γ w W G) : G.1 810 w 0 = W 19 0 := h.2 19 0 (by decide)
theorem QW_811 {Γ : zΓ} {w : Nat} {W : aS} {G : zH} (h : QW Γ w W G) : G.1 811 w 0 = W 20 0 := h.2 20 0 (by decide)
theorem QW_812 {Γ : zΓ} {w : Nat} {W : aS} {G : zH} (h : QW Γ w W G) : G.1 812 w 0 = W 21 0 := h.2 21 0 (by decide)
theorem QW_813 {Γ : zΓ} {w : Nat} {W : aS} {G : zH} (h : QW Γ w W G) : G.1 813 w 0 = W 22 0 := h.2 22 0 (by decide)
/-- works at w hold W, their telling is t and holds A -/
def QQ (Γ : zΓ) (w t : Nat) (A W : aS) (G : zH) : Prop := QW Γ w W G ∧ TV Γ t A G ∧ G.2.2 800 w = t
theorem wT : ∀ f : Nat, f < 23 → ∀ g : Nat, g < 22 → 4 ≤ g → creg g ∉ [wreg f] := by decide +kernel
theorem QQ_w {Γ : zΓ} {w t f j : Nat} {A W : aS} {G : zH} {v : Int} (hf : f < 23) (h : QQ Γ w t A W G) : QQ Γ w t A (up W f j v) (zuI G (wreg f) (wad Γ w f) j v) := ⟨QW_w hf h.1, TV_n (rs := [wreg f]) (zsn_I (by simp) zsn_rf) (wT f hf) h.2.1, h.2.2⟩
theorem QQ_J {Γ : zΓ} {w t : Nat} {A W : aS} {G : zH} {r a i : Nat} {x : Int} (h : QQ Γ w t A W G) : QQ Γ w t A W (zuJ G r a i x) := h
theorem QQ_sm {Γ : zΓ} {w t : Nat} {A W : aS} {G G1 : zH} {rs : List Nat} (hs : zsm rs G G1) (hr : ∀ r ∈ wLs, r ∉ rs) (ht : ∀ f : Nat, f < 22 → 4 ≤ f → creg f ∉ rs) (h : QQ Γ w t A W G) : QQ Γ w t A W G1 := ⟨QW_sn hs.1 hr h.1, TV_m hs ht h.2.1, by rw [hs.2]; exact h.2.2⟩
theorem QQ_n {Γ : zΓ} {w t : Nat} {A W : aS} {G G1 : zH} (hs : zsm [] G G1) (h : QQ Γ w t A W G) : QQ Γ w t A W G1 := QQ_sm hs (fun _ _ q => by simp at q) (fun _ _ _ q => by simp at q) h
theorem QQ_t {Γ : zΓ} {w t : Nat} {A W : aS} {G : zH} (h : QQ Γ w t A W G) : G.2.2 800 w = t := h.2.2
theorem QQw_510 {Γ : zΓ} {w t : Nat} {A W : aS} {G : zH} {v : Int} (h : QQ Γ w t A W G) : QQ Γ w t A (up W 0 0 v) (zuI G 510 (Γ.2.1 w 1) 0 v) := QQ_w (f := 0) (by decide) h
theorem QQ_510 {Γ : zΓ} {w t : Nat} {A W : aS} {G : zH} (h : QQ Γ w t A W G) : G.1 510 (Γ.2.1 w 1) 0 = W 0 0 := h.1.2 0 0 (by decide)
theorem QQw_2026 {Γ : zΓ} {w t : Nat} {A W : aS} {G : zH} {j : Nat} {v : Int} (h : QQ Γ w t A W G) : QQ Γ w t A (up W 1 j v) (zuI G 2026 (Γ.2.1 (Γ.2.1 w 1) 0) j v) := QQ_w (f := 1) (by decide) h
theorem QQ_2026 {Γ : zΓ} {w t : Nat} {A W : aS} {G : zH} (h : QQ Γ w t A W G) (j : Nat) : G.1 2026 (Γ.2.1 (Γ.2.1 w 1) 0) j = W 1 j := h.1.2 1 j (by decide)
theorem QQw_2027 {Γ : zΓ} {w t : Nat} {A W : aS} {G : zH} {j : Nat} {v : Int} (h : QQ Γ w t A W G) : QQ Γ w t A (up W 2 j v) (zuI G 2027 (Γ.2.1 (Γ.2.1 w 1) 1) j v) := QQ_w (f := 2) (by decide) h
theorem QQ_2027 {Γ : zΓ} {w t : Nat} {A W : aS} {G : zH} (h : QQ Γ w t A W G) (j : Nat) : G.1 2027 (Γ.2.1 (Γ.2.1 w 1) 1) j = W 2 j := h.1.2 2 j (by decide)
theorem QQw_2028 {Γ : zΓ} {w t : Nat} {A W : aS} {G : zH} {j : Nat} {v : Int} (h : QQ Γ w t A W G) : QQ Γ w t A (up W 3 j v) (zuI G 2028 (Γ.2.1 (Γ.2.1 w 1) 2) j v) := QQ_w (f := 3) (by decide) h
theorem QQ_2028 {Γ : zΓ} {w t : Nat} {A W : aS} {G : zH} (h : QQ Γ w t A W G) (j : Nat) : G.1 2028 (Γ.2.1 (Γ.2.1 w 1) 2) j = W 3 j := h.1.2 3 j (by decide)
theorem QQw_2029 {Γ : zΓ} {w t : Nat} {A W : aS} {G : zH} {j : Nat} {v : Int} (h : QQ Γ w t A W G) : QQ Γ w t A (up W 4 j v) (zuI G 2029 (Γ.2.1 (Γ.2.1 w 1) 3) j v) := QQ_w (f := 4) (by decide) h
theorem QQ_2029 {Γ : zΓ} {w t : Nat} {A W : aS} {G : zH} (h : QQ Γ w t A W G) (j : Nat) : G.1 2029 (Γ.2.1 (Γ.2.1 w 1) 3) j = W 4 j := h.1.2 4 j (by decide)
theorem QQw_2030 {Γ : zΓ} {w t : Nat} {A W : aS} {G : zH} {j : Nat} {v : Int} (h : QQ Γ w t A W G) : QQ Γ w t A (up W 5 j v) (zuI G 2030 (Γ.2.1 (Γ.2.1 w 1) 4) j v) := QQ_w (f := 5) (by decide) h
theorem QQ_2030 {Γ : zΓ} {w t : Nat} {A W : aS} {G : zH} (h : QQ Γ w t A W G) (j : Nat) : G.1 2030 (Γ.2.1 (Γ.2.1 w 1) 4) j = W 5 j := h.1.2 5 j (by decide)
theorem QQw_2031 {Γ : zΓ} {w t : Nat} {A W : aS} {G : zH} {j : Nat} {v : Int} (h : QQ Γ w t A W G) : QQ Γ w t A (up W 6 j v) (zuI G 2031 (Γ.2.1 (Γ.2.1 w 1) 5) j v) := QQ_w (f := 6) (by decide) h
theorem QQ_2031 {Γ : zΓ} {w t : Nat} {A W : aS} {G : zH} (h : QQ Γ w t A W G) (j : Nat) : G.1 2031 (Γ.2.1 (Γ.2.1 w 1) 5) j = W 6 j := h.1.2 6 j (by decide)
theorem QQw_2032 {Γ : zΓ} {w t : Nat} {A W : aS} {G : zH} {j : Nat} {v : Int} (h : QQ Γ w t A W G) : QQ Γ w t A (up W 7 j v) (zuI G 2032 (Γ.2.1 (Γ.2.1 w 1) 6) j v) := QQ_w (f := 7) (by decide) h
theorem QQ_2032 {Γ : zΓ} {w t : Nat} {A W : aS} {G : zH} (h : QQ Γ w t A W G) (j : Nat) : G.1 2032 (Γ.2.1 (Γ.2.1 w 1) 6) j = W 7 j := h.1.2 7 j (by decide)
theorem QQw_2033 {Γ : zΓ} {w t : Nat} {A W : aS} {G : zH} {j : Nat} {v : Int} (h : QQ Γ w t A W G) : QQ Γ w t A (up W 8 j v) (zuI G 2033 (Γ.2.1 (Γ.2.1 w 1) 7) j v) := QQ_w (f := 8) (by decide) h
theorem QQ_2033 {Γ : zΓ} {w t : Nat} {A W : aS} {G : zH} (h : QQ Γ w t A W G) (j : Nat) : G.1 2033 (Γ.2.1 (Γ.2.1 w 1) 7) j = W 8 j := h.1.2 8 j (by decide)
theorem QQw_2034 {Γ : zΓ} {w t : Nat} {A W : aS} {G : zH} {j : Nat} {v : Int} (h : QQ Γ w t A W G) : QQ Γ w t A (up W 9 j v) (zuI G 2034 (Γ.2.1 (Γ.2.1 w 1) 8) j v) := QQ_w (f := 9) (by decide) h
theorem QQ_2034 {Γ : zΓ} {w t : Nat} {A W : aS} {G : zH} (h : QQ Γ w t A W G) (j : Nat) : G.1 2034 (Γ.2.1 (Γ.2.1 w 1) 8) j = W 9 j := h.1.2 9 j (by decide)
theorem QQw_2035 {Γ : zΓ} {w t : Nat} {A W : aS} {G : zH} {j : Nat} {v : Int} (h : QQ Γ w t A W G) : QQ Γ w t A (up W 10 j v) (zuI G 2035 (Γ.2.1 (Γ.2.1 w 1) 9) j v) := QQ_w (f := 10) (by decide) h
theorem QQ_2035 {Γ : zΓ} {w t : Nat} {A W : aS} {G : zH} (h : QQ Γ w t A W G) (j : Nat) : G.1 2035 (Γ.2.1 (Γ.2.1 w 1) 9) j = W 10 j := h.1.2 10 j (by decide)
theorem QQw_2048 {Γ : zΓ} {w t : Nat} {A W : aS} {G : zH} {j : Nat} {v : Int} (h : QQ Γ w t A W G) : QQ Γ w t A (up W 11 j v) (zuI G 2048 (Γ.2.1 w 2) j v) := QQ_w (f := 11) (by decide) h
theorem QQ_2048 {Γ : zΓ} {w t : Nat} {A W : aS} {G : zH} (h : QQ Γ w t A W G) (j : Nat) : G.1 2048 (Γ.2.1 w 2) j = W 11 j := h.1.2 11 j (by decide)
theorem QQw_2049 {Γ : zΓ} {w t : Nat} {A W : aS} {G : zH} {j : Nat} {v : Int} (h : QQ Γ w t A W G) : QQ Γ w t A (up W 12 j v) (zuI G 2049 (Γ.2.1 w 3) j v) := QQ_w (f := 12) (by decide) h
theorem QQ_2049 {Γ : zΓ} {w t : Nat} {A W : aS} {G : zH} (h : QQ Γ w t A W G) (j : Nat) : G.1 2049 (Γ.2.1 w 3) j = W 12 j := h.1.2 12 j (by decide)
theorem QQw_2050 {Γ : zΓ} {w t : Nat} {A W : aS} {G : zH} {j : Nat} {v : Int} (h : QQ Γ w t A W G) : QQ Γ w t A (up W 13 j v) (zuI G 2050 (Γ.2.1 w 4) j v) := QQ_w (f := 13) (by decide) h
theorem QQ_2050 {Γ : zΓ} {w t : Nat} {A W : aS} {G : zH} (h : QQ Γ w t A W G) (j : Nat) : G.1 2050 (Γ.2.1 w 4) j = W 13 j := h.1.2 13 j (by decide)
theorem QQw_2051 {Γ : zΓ} {w t : Nat} {A W : aS} {G : zH} {j : Nat} {v : Int} (h : QQ Γ w t A W G) : QQ Γ w t A (up W 14 j v) (zuI G 2051 (Γ.2.1 w 5) j v) := QQ_w (f := 14) (by decide) h
theorem QQ_2051 {Γ : zΓ} {w t : Nat} {A W : aS} {G : zH} (h : QQ Γ w t A W G) (j : Nat) : G.1 2051 (Γ.2.1 w 5) j = W 14 j := h.1.2 14 j (by decide)
theorem QQw_2052 {Γ : zΓ} {w t : Nat} {A W : aS} {G : zH} {j : Nat} {v : Int} (h : QQ Γ w t A W G) : QQ Γ w t A (up W 15 j v) (zuI G 2052 (Γ.2.1 w 6) j v) := QQ_w (f := 15) (by decide) h
theorem QQ_2052 {Γ : zΓ} {w t : Nat} {A W : aS} {G : zH} (h : QQ Γ w t A W G) (j : Nat) : G.1 2052 (Γ.2.1 w 6) j = W 15 j := h.1.2 15 j (by decide)
theorem QQw_2053 {Γ : zΓ} {w t : Nat} {A W : aS} {G : zH} {j : Nat} {v : Int} (h : QQ Γ w t A W G) : QQ Γ w t A (up W 16 j v) (zuI G 2053 (Γ.2.1 w 7) j v) := QQ_w (f := 16) (by decide) h
theorem QQ_2053 {Γ : zΓ} {w t : Nat} {A W : aS} {G : zH} (h : QQ Γ w t A W G) (j : Nat) : G.1 2053 (Γ.2.1 w 7) j = W 16 j := h.1.2 16 j (by decide)
theorem QQw_2054 {Γ : zΓ} {w t : Nat} {A W : aS} {G : zH} {j : Nat} {v : Int} (h : QQ Γ w t A W G) : QQ Γ w t A (up W 17 j v) (zuI G 2054 (Γ.2.1 w 8) j v) := QQ_w (f := 17) (by decide) h
theorem QQ_2054 {Γ : zΓ} {w t : Nat} {A W : aS} {G : zH} (h : QQ Γ w t A W G) (j : Nat) : G.1 2054 (Γ.2.1 w 8) j = W 17 j := h.1.2 17 j (by decide)
theorem QQw_809 {Γ : zΓ} {w t : Nat} {A W : aS} {G : zH} {v : Int} (h : QQ Γ w t A W G) : QQ Γ w t A (up W 18 0 v) (zuI G 809 w 0 v) := QQ_w (f := 18) (by decide) h
theorem QQ_809 {Γ : zΓ} {w t : Nat} {A W : aS} {G : zH} (h : QQ Γ w t A W G) : G.1 809 w 0 = W 18 0 := h.1.2 18 0 (by decide)
theorem QQw_810 {Γ : zΓ} {w t : Nat} {A W : aS} {G : zH} {v : Int} (h : QQ Γ w t A W G) : QQ Γ w t A (up W 19 0 v) (zuI G 810 w 0 v) := QQ_w (f := 19) (by decide) h
theorem QQ_810 {Γ : zΓ} {w t : Nat} {A W : aS} {G : zH} (h : QQ Γ w t A W G) : G.1 810 w 0 = W 19 0 := h.1.2 19 0 (by decide)
theorem QQw_811 {Γ : zΓ} {w t : Nat} {A W : aS} {G : zH} {v : Int} (h : QQ Γ w t A W G) : QQ Γ w t A (up W 20 0 v) (zuI G 811 w 0 v) := QQ_w (f := 20) (by decide) h
theorem QQ_811 {Γ : zΓ} {w t : Nat} {A W : aS} {G : zH} (h : QQ Γ w t A W G) : G.1 811 w 0 = W 20 0 := h.1.2 20 0 (by decide)
theorem QQw_812 {Γ : zΓ} {w t : Nat} {A W : aS} {G : zH} {v : Int} (h : QQ Γ w t A W G) : QQ Γ w t A (up W 21 0 v) (zuI G 812 w 0 v) := QQ_w (f := 21) (by decide) h
theorem QQ_812 {Γ : zΓ} {w t : Nat} {A W : aS} {G : zH} (h : QQ Γ w t A W G) : G.1 812 w 0 = W 21 0 := h.1.2 21 0 (by decide)
theorem QQw_813 {Γ : zΓ} {w t : Nat} {A W : aS} {G : zH} {v : Int} (h : QQ Γ w t A W G) : QQ Γ w t A (up W 22 0 v) (zuI G 813 w 0 v) := QQ_w (f := 22) (by decide) h
theorem QQ_813 {Γ : zΓ} {w t : Nat} {A W : aS} {G : zH} (h : QQ Γ w t A W G) : G.1 813 w 0 = W 22 0 := h.1.2 22 0 (by decide)
theorem QQ_2037 {Γ : zΓ} {w t : Nat} {A W : aS} {G : zH} (h : QQ Γ w t A W G) (j : Nat) : G.1 2037 (Γ.2.1 t 2) j = A 4 j := TV_2037 h.2.1 j
theorem QQ_2036 {Γ : zΓ} {w t : Nat} {A W : aS} {G : zH} (h : QQ Γ w t A W G) (j : Nat) : G.1 2036 (Γ.2.1 t 1) j = A 5 j := TV_2036 h.2.1 j
theorem QQ_2038 {Γ : zΓ} {w t : Nat} {A W : aS} {G : zH} (h : QQ Γ w t A W G) (j : Nat) : G.1 2038 (Γ.2.1 t 3) j = A 6 j := TV_2038 h.2.1 j
theorem QQ_2039 {Γ : zΓ} {w t : Nat} {A W : aS} {G : zH} (h : QQ Γ w t A W G) (j : Nat) : G.1 2039 (Γ.2.1 t 4) j = A 7 j := TV_2039 h.2.1 j
theorem QQ_2040 {Γ : zΓ} {w t : Nat} {A W : aS} {G : zH} (h : QQ Γ w t A W G) (j : Nat) : G.1 2040 (Γ.2.1 t 5) j = A 8 j := TV_2040 h.2.1 j
theorem QQ_2041 {Γ : zΓ} {w t : Nat} {A W : aS} {G : zH} (h : QQ Γ w t A W G) (j : Nat) : G.1 2041 (Γ.2.1 t 6) j = A 9 j := TV_2041 h.2.1 j
theorem QQ_2042 {Γ : zΓ} {w t : Nat} {A W : aS} {G : zH} (h : QQ Γ w t A W G) (j : Nat) : G.1 2042 (Γ.2.1 t 7) j = A 10 j := TV_2042 h.2.1 j
theorem QQ_2043 {Γ : zΓ} {w t : Nat} {A W : aS} {G : zH} (h : QQ Γ w t A W G) (j : Nat) : G.1 2043 (Γ.2.1 t 8) j = A 11 j := TV_2043 h.2.1 j
theorem QQ_609 {Γ : zΓ} {w t : Nat} {A W : aS} {G : zH} (h : QQ Γ w t A W G) : G.1 609 t 0 = A 12 0 := TV_609 h.2.1
theorem QQ_610 {Γ : zΓ} {w t : Nat} {A W : aS} {G : zH} (h : QQ Γ w t A W G) : G.1 610 t 0 = A 13 0 := TV_610 h.2.1
theorem QQ_611 {Γ : zΓ} {w t : Nat} {A W : aS} {G : zH} (h : QQ Γ w t A W G) : G.1 611 t 0 = A 14 0 := TV_611 h.2.1
theorem QQ_612 {Γ : zΓ} {w t : Nat} {A W : aS} {G : zH} (h : QQ Γ w t A W G) : G.1 612 t 0 = A 15 0 := TV_612 h.2.1
theorem QQ_2016 {Γ : zΓ} {w t : Nat} {A W : aS} {G : zH} (h : QQ Γ w t A W G) (j : Nat) : G.1 2016 (Γ.2.1 (Γ.2.1 t 0) 2) j = A 16 j := TV_2016 h.2.1 j
theorem QQ_2017 {Γ : zΓ} {w t : Nat} {A W : aS} {G : zH} (h : QQ Γ w t A W G) (j : Nat) : G.1 2017 (Γ.2.1 (Γ.2.1 t 0) 3) j = A 17 j := TV_2017 h.2.1 j
theorem QQ_2014 {Γ : zΓ} {w t : Nat} {A W : aS} {G : zH} (h : QQ Γ w t A W G) (j : Nat) : G.1 2014 (Γ.2.1 (Γ.2.1 t 0) 0) j = A 18 j := TV_2014 h.2.1 j
theorem QQ_2015 {Γ : zΓ} {w t : Nat} {A W : aS} {G : zH} (h : QQ Γ w t A W G) (j : Nat) : G.1 2015 (Γ.2.1 (Γ.2.1 t 0) 1) j = A 19 j := TV_2015 h.2.1 j
theorem QQ_206 {Γ : zΓ} {w t : Nat} {A W : aS} {G : zH} (h : QQ Γ w t A W G) : G.1 206 (Γ.2.1 t 0) 0 = A 20 0 := TV_206 h.2.1
theorem QQ_207 {Γ : zΓ} {w t : Nat} {A W : aS} {G : zH} (h : QQ Γ w t A W G) : G.1 207 (Γ.2.1 t 0) 0 = A 21 0 := TV_207 h.2.1
/-- a telling's numbers within bounds -/
def TA (A : aS) : Prop := (0 ≤ A 4 0 ∧ A 4 0 ≤ 4 ∧ 0 ≤ A 4 1 ∧ A 4 1 ≤ 5 ∧ 0 ≤ A 4 2 ∧ A 4 2 ≤ 5 ∧ 0 ≤ A 4 3 ∧ A 4 3 ≤ 3) ∧ (∀ j : Nat, (j : Int) < A 4 0 → 0 ≤ A 6 j ∧ A 6 j ≤ 99) ∧ (∀ j : Nat, (j : Int) < A 4 1 → 0 ≤ A 7 j ∧ A 7 j ≤ 100) ∧ (∀ j : Nat, j < 20 → 0 ≤ A 8 j ∧ A 8 j ≤ 9) ∧ (∀ j : Nat, (j : Int) < A 4 2 → 0 ≤ A 9 j ∧ A 9 j ≤ 999 ∧ 1 ≤ A 10 j ∧ A 10 j ≤ 99 ∧ 0 ≤ A 11 j ∧ A 11 j ≤ 99) ∧ (0 ≤ A 12 0 ∧ A 12 0 ≤ 9999 ∧ 1 ≤ A 13 0 ∧ A 13 0 ≤ 99 ∧ 0 ≤ A 14 0 ∧ A 14 0 ≤ 999 ∧ 0 ≤ A 15 0 ∧ A 15 0 ≤ 99999) ∧ WFA A
/-- works within bounds -/
def WI (A W : aS) : Prop := (0 ≤ W 0 0 ∧ W 0 0 ≤ 60) ∧ (∀ k : Nat, (k : Int) < W 0 0 → (0 ≤ W 1 k ∧ W 1 k < A 4 1) ∧ (0 ≤ W 2 k ∧ W 2 k < A 4 0) ∧ (0 ≤ W 3 k ∧ W 3 k ≤ 999) ∧ (0 ≤ W 4 k ∧ W 4 k ≤ 99) ∧ (0 ≤ W 5 k ∧ W 5 k ≤ W 4 k) ∧ (0 ≤ W 6 k ∧ W 6 k ≤ 60) ∧ (0 ≤ W 7 k ∧ W 7 k ≤ 99999) ∧ (0 ≤ W 8 k ∧ W 8 k ≤ 396) ∧ (0 ≤ W 9 k ∧ W 9 k ≤ 100) ∧ 0 ≤ W 10 k ∧ W 10 k ≤ 15)
  ∧ (∀ j : Nat, j < 20 → 0 ≤ W 12 j ∧ W 12 j ≤ W 11 j ∧ W 11 j ≤ 99) ∧ (∀ p s : Nat, p < 5 → s < 4 → ((p : Int) < A 4 1 ∧ (s : Int) < A 4 0) ∨ W 11 (p * 4 + s) = 0)
  ∧ (∀ j : Nat, j < 5 → 0 ≤ W 14 j ∧ W 14 j ≤ W 13 j ∧ W 13 j ≤ W 0 0 ∧ 0 ≤ W 15 j ∧ W 15 j ≤ W 11 (j * 4) + W 11 (j * 4 + 1) + W 11 (j * 4 + 2) + W 11 (j * 4 + 3) ∧ -1 ≤ W 16 j ∧ W 16 j ≤ 100)
  ∧ (0 ≤ W 18 0 ∧ W 18 0 ≤ 100) ∧ (0 ≤ W 19 0 ∧ W 19 0 ≤ 9999) ∧ (0 ≤ W 20 0 ∧ W 20 0 ≤ 99999) ∧ (0 ≤ W 21 0 ∧ W 21 0 ≤ 2147483647) ∧ (-1 ≤ W 22 0 ∧ W 22 0 ≤ 60)
/-- all that is LEFT within bounds -/
def WL (W : aS) : Prop := ∀ j : Nat, j < 20 → 0 ≤ W 12 j ∧ W 12 j ≤ 99
theorem WI_WL {A W : aS} (h : WI A W) : WL W := fun j hj => by have := h.2.2.1 j hj; omega
theorem WI_L {A W : aS} (h : WI A W) {p s : Int} (hp : 0 ≤ p ∧ p ≤ 4) (hs : 0 ≤ s ∧ s ≤ 3) : 0 ≤ W 12 (p * 4 + s).toNat ∧ W 12 (p * 4 + s).toNat ≤ W 11 (p * 4 + s).toNat ∧ W 11 (p * 4 + s).toNat ≤ 99 := h.2.2.1 _ (by omega)
theorem sM_in {f : Nat → Int} {b : Nat} : ∀ m : Nat, (∀ i, i < m → 0 ≤ f (b + i) ∧ f (b + i) ≤ 99) → 0 ≤ sM f b m ∧ sM f b m ≤ 99 * m
  | 0, _ => by simp [sM]
  | m + 1, h => by
    have h1 := sM_in m (fun i hi => h i (by omega))
    have h2 := h m (by omega)
    rw [sM]
    omega
theorem sM_s {f : Nat → Int} {b : Nat} {k : Int} (h : 0 ≤ k) : sM f b (k + 1).toNat = sM f b k.toNat + f (b + k.toNat) := by
  rw [show (k + 1).toNat = k.toNat + 1 by omega, sM]
theorem wB_s {f : Nat → Int} {b : Nat} {k : Int} (h : 0 ≤ k) : wB f b (k + 1).toNat = wB f b k.toNat + (if 0 < f (b + k.toNat) then p2 k.toNat else 0) := by
  rw [show (k + 1).toNat = k.toNat + 1 by omega, wB]
theorem bor_p2 : ∀ k : Nat, k < 4 → ∀ x : Nat, (x : Int) < p2 k → bor x (bshl 1 k) = x + p2 k ∧ bor x 0 = x := by
  intro k hk x hx
  have h8 : x < 8 := by
    have : p2 k ≤ 8 := (show ∀ k : Nat, k < 4 → p2 k ≤ 8 by decide) k hk
    omega
  exact (show ∀ k : Nat, k < 4 → ∀ x : Nat, x < 8 → (x : Int) < p2 k → bor x (bshl 1 k) = x + p2 k ∧ bor x 0 = x by decide +kernel) k hk x h8 hx
theorem bor_i {k x : Int} (hk : 0 ≤ k ∧ k < 4) (hx : 0 ≤ x ∧ x < p2 k.toNat) : bor x (bshl 1 k) = x + p2 k.toNat ∧ bor x 0 = x := by
  have h := bor_p2 k.toNat (by omega) x.toNat (by omega)
  rwa [show ((k.toNat : Nat) : Int) = k by omega, show ((x.toNat : Nat) : Int) = x by omega] at h
theorem wB_in {f : Nat → Int} {b : Nat} : ∀ m : Nat, m < 4 → 0 ≤ wB f b m ∧ wB f b m < p2 m
  | 0, _ => by show 0 ≤ (0 : Int) ∧ (0 : Int) < 1; decide
  | 1, _ => by
    rw [wB, wB]
    show 0 ≤ 0 + (if _ then (1 : Int) else 0) ∧ 0 + (if _ then (1 : Int) else 0) < 2
    split <;> omega
  | 2, _ => by
    rw [wB, wB, wB]
    show 0 ≤ 0 + (if _ then (1 : Int) else 0) + (if _ then (2 : Int) else 0) ∧ 0 + (if _ then (1 : Int) else 0) + (if _ then (2 : Int) else 0) < 4
    (repeat' split) <;> omega
  | 3, _ => by
    rw [wB, wB, wB, wB]
    show 0 ≤ 0 + (if _ then (1 : Int) else 0) + (if _ then (2 : Int) else 0) + (if _ then (4 : Int) else 0) ∧ 0 + (if _ then (1 : Int) else 0) + (if _ then (2 : Int) else 0) + (if _ then (4 : Int) else 0) < 8
    (repeat' split) <;> omega
theorem wBits_e (W : aS) (p : Int) : wBits W p = (if 0 < W 12 (p * 4).toNat then 1 else 0) + (if 0 < W 12 ((p * 4).toNat + 1) then 2 else 0) + (if 0 < W 12 ((p * 4).toNat + 2) then 4 else 0) + (if 0 < W 12 ((p * 4).toNat + 3) then 8 else 0) := by
  unfold wBits
  rw [wB, wB, wB, wB, wB]
  show 0 + (if _ then (1 : Int) else 0) + (if _ then (2 : Int) else 0) + (if _ then (4 : Int) else 0) + (if _ then (8 : Int) else 0) = _
  rw [Int.zero_add]
  rfl
theorem wBits_in (W : aS) (p : Int) : 0 ≤ wBits W p ∧ wBits W p ≤ 15 := by
  rw [wBits_e]
  (repeat' split) <;> omega
theorem bit_4 : ∀ s : Nat, s < 4 → ∀ x : Nat, x < 16 → band (bshr x s) 1 = (x / 2 ^ s % 2 : Nat) := by decide +kernel
theorem wBits_bit (W : aS) {p s : Int} (hp : 0 ≤ p) (hs : 0 ≤ s ∧ s ≤ 3) : band (bshr (wBits W p) s) 1 = if 0 < W 12 (p * 4 + s).toNat then 1 else 0 := by
  have h9 := wBits_in W p
  have h := bit_4 s.toNat (by omega) (wBits W p).toNat (by omega)
  rw [show ((s.toNat : Nat) : Int) = s by omega, show (((wBits W p).toNat : Nat) : Int) = wBits W p by omega] at h
  rw [h]
  have e := wBits_e W p
  rcases (show s = 0 ∨ s = 1 ∨ s = 2 ∨ s = 3 by omega) with rfl | rfl | rfl | rfl
  · rw [show (p * 4 + 0).toNat = (p * 4).toNat by omega, show (2 : Nat) ^ (0 : Int).toNat = 1 from rfl, Nat.div_one]
    split <;> ((repeat' split at e) <;> omega)
  · rw [show (p * 4 + 1).toNat = (p * 4).toNat + 1 by omega]
    simp only [show Int.toNat 1 = 1 from rfl, Nat.pow_one]
    split <;> ((repeat' split at e) <;> omega)
  · rw [show (p * 4 + 2).toNat = (p * 4).toNat + 2 by omega]
    simp only [show Int.toNat 2 = 2 from rfl, show (2 : Nat) ^ 2 = 4 from rfl]
    split <;> ((repeat' split at e) <;> omega)
  · rw [show (p * 4 + 3).toNat = (p * 4).toNat + 3 by omega]
    simp only [show Int.toNat 3 = 3 from rfl, show (2 : Nat) ^ 3 = 8 from rfl]
    split <;> ((repeat' split at e) <;> omega)
theorem wFl_s {W : aS} {a k : Int} (h : 0 ≤ k) : wFl (W 3) (W 5) a (k + 1).toNat = wFl (W 3) (W 5) a k.toNat + (if a ≤ W 3 k.toNat then W 5 k.toNat else 0) := by
  rw [show (k + 1).toNat = k.toNat + 1 by omega, wFl]
theorem wCo_s {W : aS} {a k : Int} (h : 0 ≤ k) : wCo (W 3) (W 5) a (k + 1).toNat = if 0 < W 5 k.toNat ∧ a ≤ W 3 k.toNat ∧ (wCo (W 3) (W 5) a k.toNat = -1 ∨ W 3 k.toNat < W 3 (wCo (W 3) (W 5) a k.toNat).toNat) then k else wCo (W 3) (W 5) a k.toNat := by
  rw [show (k + 1).toNat = k.toNat + 1 by omega, wCo, show ((k.toNat : Nat) : Int) = k by omega]
theorem wSum_s {A W : aS} {p k : Int} (h : 0 ≤ k) : wSum A (W 12) p (k + 1).toNat = wSum A (W 12) p k.toNat + W 12 ((p * 4).toNat + k.toNat) * A 6 k.toNat := by
  rw [show (k + 1).toNat = k.toNat + 1 by omega, wSum]

set_option maxHeartbeats 4000000 in
set_option maxRecDepth 100000 in
theorem c_X4_hasK {l : Launch} {Γ : zΓ} {G : zH} {w t : Nat} {A W : aS} {k : Int} (hX : zXs Γ) (hZ : QQ Γ w t A W G)  : zMet l Γ yX4_has cX4_has 2 (some .boolean) 0 [zr 5 (Γ.2.1 w 1), zi k] G (zpi (fun x G' => G' = G ∧ ((x = 0 ∨ x = 1) ∧ (x = 1 ↔ 0 ≤ k ∧ k < W 0 0)))) := by
  have hI := QQ_t hZ
  refine zMet_of RX4 hX (by decide) rfl (Nat.le_of_ble_eq_true rfl) ?_
  intro p e s m args below meth c C hr hlk
  show Z p l e (zrm 0) s m args below meth c Γ 2 0 0 (MQ below (zQc Γ (zpi (fun x G' => G' = G ∧ ((x = 0 ∨ x = 1) ∧ (x = 1 ↔ 0 ≤ k ∧ k < W 0 0))))) args s 0 0 (zA Γ)) 0 [some (zr 5 (Γ.2.1 w 1)), some (zi k)] [] G
  refine zs_loc 1 rfl (fun ha1 hb1 => ?_)
  refine zs_iload_n (pc := 0) C dX4_has_0 rfl ?_
  refine zs_if_lt (tgt := 16) (pc := 1) C dX4_has_1 (by decide) (fun h1 => ?_) (fun h1 => ?_)
  · skip
    refine zs_iconst (pc := 16) C dX4_has_16 (by decide) ?_
    exact zs_zret (pc := 17) C hr hlk dX4_has_17 (by omega) ⟨rfl, (by refine ⟨by omega, ?_⟩; constructor <;> intro hq <;> omega)⟩
  · skip
    refine zs_iload_n (pc := 4) C dX4_has_4 rfl ?_
    refine zs_aload_n (pc := 5) C dX4_has_5 rfl ?_
    refine zs_geti (r := 510) (pc := 6) C dX4_has_6 w_X4_42 f_5_10 rfl (r_510 0) (fun v6 e6 l6 u6 => ?_)
    try simp only [QQ_510 hZ] at e6
    try subst v6
    refine zs_icmp_ge (tgt := 16) (pc := 9) C dX4_has_9 (by decide) (fun h9 => ?_) (fun h9 => ?_)
    · skip
      refine zs_iconst (pc := 16) C dX4_has_16 (by decide) ?_
      exact zs_zret (pc := 17) C hr hlk dX4_has_17 (by omega) ⟨rfl, (by refine ⟨by omega, ?_⟩; constructor <;> intro hq <;> omega)⟩
    · skip
      refine zs_iconst (pc := 12) C dX4_has_12 (by decide) ?_
      refine zs_goto (tgt := 17) (pc := 13) C dX4_has_13 (by decide) ?_
      exact zs_zret (pc := 17) C hr hlk dX4_has_17 (by omega) ⟨rfl, (by refine ⟨by omega, ?_⟩; constructor <;> intro hq <;> omega)⟩

set_option maxHeartbeats 4000000 in
set_option maxRecDepth 100000 in
theorem c_X4_isFullK {l : Launch} {Γ : zΓ} {G : zH} {w t : Nat} {A W : aS}  (hX : zXs Γ) (hZ : QQ Γ w t A W G)  : zMet l Γ yX4_isFull cX4_isFull 1 (some .boolean) 0 [zr 5 (Γ.2.1 w 1)] G (zpi (fun x G' => G' = G ∧ ((x = 0 ∨ x = 1) ∧ (x = 1 ↔ 60 ≤ W 0 0)))) := by
  have hI := QQ_t hZ
  refine zMet_of RX4 hX (by decide) rfl (Nat.le_of_ble_eq_true rfl) ?_
  intro p e s m args below meth c C hr hlk
  show Z p l e (zrm 0) s m args below meth c Γ 1 0 0 (MQ below (zQc Γ (zpi (fun x G' => G' = G ∧ ((x = 0 ∨ x = 1) ∧ (x = 1 ↔ 60 ≤ W 0 0))))) args s 0 0 (zA Γ)) 0 [some (zr 5 (Γ.2.1 w 1))] [] G
  refine zs_aload_n (pc := 0) C dX4_isFull_0 rfl ?_
  refine zs_geti (r := 510) (pc := 1) C dX4_isFull_1 w_X4_42 f_5_10 rfl (r_510 0) (fun v1 e1 l1 u1 => ?_)
  try simp only [QQ_510 hZ] at e1
  try subst v1
  refine zs_bipush (pc := 4) C dX4_isFull_4 (by decide) (by decide) ?_
  refine zs_icmp_lt (tgt := 13) (pc := 6) C dX4_isFull_6 (by decide) (fun h6 => ?_) (fun h6 => ?_)
  · skip
    refine zs_iconst (pc := 13) C dX4_isFull_13 (by decide) ?_
    exact zs_zret (pc := 14) C hr hlk dX4_isFull_14 (by omega) ⟨rfl, (by refine ⟨by omega, ?_⟩; constructor <;> intro hq <;> omega)⟩
  · skip
    refine zs_iconst (pc := 9) C dX4_isFull_9 (by decide) ?_
    refine zs_goto (tgt := 14) (pc := 10) C dX4_isFull_10 (by decide) ?_
    exact zs_zret (pc := 14) C hr hlk dX4_isFull_14 (by omega) ⟨rfl, (by refine ⟨by omega, ?_⟩; constructor <;> intro hq <;> omega)⟩

set_option maxHeartbeats 4000000 in
set_option maxRecDepth 100000 in
theorem c_X4_lieByK {l : Launch} {Γ : zΓ} {G : zH} {w t : Nat} {A W : aS} {k s : Int} (hX : zXs Γ) (hZ : QQ Γ w t A W G) (hk : 0 ≤ k ∧ k < 60) : zMet l Γ yX4_lieBy cX4_lieBy 3 (some .int) 0 [zr 5 (Γ.2.1 w 1), zi k, zi s] G (zpi (fun x G' => G' = G ∧ (x = wLie W k s))) := by
  have hI := QQ_t hZ
  refine zMet_of RX4 hX (by decide) rfl (Nat.le_of_ble_eq_true rfl) ?_
  intro p e sx9 m args below meth c C hr hlk
  show Z p l e (zrm 0) sx9 m args below meth c Γ 3 0 0 (MQ below (zQc Γ (zpi (fun x G' => G' = G ∧ (x = wLie W k s)))) args sx9 0 0 (zA Γ)) 0 [some (zr 5 (Γ.2.1 w 1)), some (zi k), some (zi s)] [] G
  refine zs_loc 1 rfl (fun ha1 hb1 => ?_)
  refine zs_loc 2 rfl (fun ha2 hb2 => ?_)
  refine zs_aload_n (pc := 0) C dX4_lieBy_0 rfl ?_
  refine zs_getf (pc := 1) C dX4_lieBy_1 w_X4_39 f_5_9 (by decide) ?_
  refine zs_iload_n (pc := 4) C dX4_lieBy_4 rfl ?_
  refine zs_iald (r := 2035) (pc := 5) C dX4_lieBy_5 a_35 (by decide) (by omega) rfl (r_2035 _) (fun v5 e5 l5 u5 => ?_)
  try simp only [QQ_2035 hZ] at e5
  try subst v5
  refine zs_iload_n (pc := 6) C dX4_lieBy_6 rfl ?_
  refine zs_ishrX (pc := 7) C dX4_lieBy_7 (fun z7 ez7 hz71 hz72 => ?_)
  refine zs_iconst (pc := 8) C dX4_lieBy_8 (by decide) ?_
  refine zs_iandX (pc := 9) C dX4_lieBy_9 (fun z9 ez9 hz91 hz92 => ?_)
  have hb : z9 = band (bshr (W 10 k.toNat) s) 1 := by rw [ez9, ez7]
  refine zs_if_ne (tgt := 17) (pc := 10) C dX4_lieBy_10 (by decide) (fun h10 => ?_) (fun h10 => ?_)
  · skip
    refine zs_iconst (pc := 17) C dX4_lieBy_17 (by decide) ?_
    exact zs_iret (pc := 18) C hr hlk dX4_lieBy_18 ⟨rfl, (by unfold wLie; rw [← hb]; first | rw [if_pos (by omega)] | rw [if_neg (by omega)])⟩
  · skip
    refine zs_iconst (pc := 13) C dX4_lieBy_13 (by decide) ?_
    refine zs_goto (tgt := 18) (pc := 14) C dX4_lieBy_14 (by decide) ?_
    exact zs_iret (pc := 18) C hr hlk dX4_lieBy_18 ⟨rfl, (by unfold wLie; rw [← hb]; first | rw [if_pos (by omega)] | rw [if_neg (by omega)])⟩

set_option maxHeartbeats 4000000 in
set_option maxRecDepth 100000 in
theorem c_X4_flourFromK {l : Launch} {Γ : zΓ} {G : zH} {w t : Nat} {A W : aS} {a : Int} (hX : zXs Γ) (hZ : QQ Γ w t A W G) (hW : WI A W)  : zMet l Γ yX4_flourFrom cX4_flourFrom 4 (some .int) 0 [zr 5 (Γ.2.1 w 1), zi a] G (zpi (fun x G' => G' = G ∧ (x = wFlour W a))) := by
  have hI := QQ_t hZ
  refine zMet_of RX4 hX (by decide) rfl (Nat.le_of_ble_eq_true rfl) ?_
  intro p e s m args below meth c C hr hlk
  show Z p l e (zrm 0) s m args below meth c Γ 4 0 0 (MQ below (zQc Γ (zpi (fun x G' => G' = G ∧ (x = wFlour W a)))) args s 0 0 (zA Γ)) 0 [some (zr 5 (Γ.2.1 w 1)), some (zi a), none, none] [] G
  refine zs_loc 1 rfl (fun ha1 hb1 => ?_)
  refine zs_iconst (pc := 0) C dX4_flourFrom_0 (by decide) ?_
  refine zs_istore_n (pc := 1) C dX4_flourFrom_1 (by decide) ?_
  dsimp only [zset, zclr, znone]
  refine zs_iconst (pc := 2) C dX4_flourFrom_2 (by decide) ?_
  refine zs_istore_n (pc := 3) C dX4_flourFrom_3 (by decide) ?_
  dsimp only [zset, zclr, znone]
  have L4 : ∀ (nn : Nat) (x2 x3 : Int), (0 ≤ x3 ∧ x3 ≤ W 0 0) → (x2 = wFl (W 3) (W 5) a x3.toNat) → (0 ≤ x2 ∧ x2 ≤ 99 * x3) → (60 - x3).toNat < nn → Z p l e (zrm 0) s m args below meth c Γ 4 0 0 (MQ below (zQc Γ (zpi (fun x G' => G' = G ∧ (x = wFlour W a)))) args s 0 0 (zA Γ)) 4 [some (zr 5 (Γ.2.1 w 1)), some (zi a), some (zi x2), some (zi x3)] [] G := by
    intro nn
    induction nn with
    | zero => intro x2 x3 h4_0 h4_1 h4_2 hm; exact absurd hm (Nat.not_lt_zero _)
    | succ nn ih4 =>
      intro x2 x3 h4_0 h4_1 h4_2 hm4
      refine zs_iload_n (pc := 4) C dX4_flourFrom_4 rfl ?_
      refine zs_aload_n (pc := 5) C dX4_flourFrom_5 rfl ?_
      refine zs_geti (r := 510) (pc := 6) C dX4_flourFrom_6 w_X4_42 f_5_10 rfl (r_510 0) (fun v6 e6 l6 u6 => ?_)
      try simp only [QQ_510 hZ] at e6
      try subst v6
      have hk9 := hW.1
      refine zs_icmp_ge (tgt := 41) (pc := 9) C dX4_flourFrom_9 (by decide) (fun h9 => ?_) (fun h9 => ?_)
      · skip
        have hx3 : x3 = W 0 0 := by omega
        rw [hx3] at h4_1
        refine zs_iload_n (pc := 41) C dX4_flourFrom_41 rfl ?_
        exact zs_iret (pc := 42) C hr hlk dX4_flourFrom_42 ⟨rfl, h4_1⟩
      · skip
        have hs := wFl_s (W := W) (a := a) (k := x3) (by omega)
        have hk := hW.2.1 x3.toNat (by omega)
        refine zs_iload_n (pc := 12) C dX4_flourFrom_12 rfl ?_
        refine zs_aload_n (pc := 13) C dX4_flourFrom_13 rfl ?_
        refine zs_getf (pc := 14) C dX4_flourFrom_14 w_X4_18 f_5_2 (by decide) ?_
        refine zs_iload_n (pc := 17) C dX4_flourFrom_17 rfl ?_
        refine zs_iald (r := 2028) (pc := 18) C dX4_flourFrom_18 a_28 (by decide) (by omega) rfl (r_2028 _) (fun v18 e18 l18 u18 => ?_)
        try simp only [QQ_2028 hZ] at e18
        try subst v18
        refine zs_iload_n (pc := 19) C dX4_flourFrom_19 rfl ?_
        refine zs_icmp_lt (tgt := 32) (pc := 20) C dX4_flourFrom_20 (by decide) (fun h20 => ?_) (fun h20 => ?_)
        · skip
          rw [if_neg (by omega)] at hs
          refine zs_iconst (pc := 32) C dX4_flourFrom_32 (by decide) ?_
          first | refine zs_iadd (pc := 33) C dX4_flourFrom_33 (by omega) ?_ | refine zs_iaddF (pc := 33) C dX4_flourFrom_33 (fun z33 hz331 hz332 => ?_)
          refine zs_istore_n (pc := 34) C dX4_flourFrom_34 (by decide) ?_
          dsimp only [zset, zclr, znone]
          first | refine zs_iinc (pc := 35) C dX4_flourFrom_35 rfl (by decide) (by omega) ?_ | refine zs_iincF (pc := 35) C dX4_flourFrom_35 rfl (by decide) (fun z35 hz351 hz352 => ?_)
          dsimp only [zset, zclr, znone]
          refine zs_goto (tgt := 4) (pc := 38) C dX4_flourFrom_38 (by decide) ?_
          exact zs_wk (ih4 _ _ (by first | omega | (simp only [zuI_1, zuI_2, zuJ_1, zuJ_2, zuJ_3, zuP_1, zuP_2, zuP_3, zuC_1, zuC_2, reduceIte, Nat.reduceEqDiff, false_and, and_false, true_and, and_true, and_self, or_true, true_or, or_false, false_or]; omega)) (by first | omega | (simp only [zuI_1, zuI_2, zuJ_1, zuJ_2, zuJ_3, zuP_1, zuP_2, zuP_3, zuC_1, zuC_2, reduceIte, Nat.reduceEqDiff, false_and, and_false, true_and, and_true, and_self, or_true, true_or, or_false, false_or]; omega)) (by first | omega | (simp only [zuI_1, zuI_2, zuJ_1, zuJ_2, zuJ_3, zuP_1, zuP_2, zuP_3, zuC_1, zuC_2, reduceIte, Nat.reduceEqDiff, false_and, and_false, true_and, and_true, and_self, or_true, true_or, or_false, false_or]; omega)) (by first | omega | (simp only [zuI_1, zuI_2, zuJ_1, zuJ_2, zuJ_3, zuP_1, zuP_2, zuP_3, zuC_1, zuC_2, reduceIte, Nat.reduceEqDiff, false_and, and_false, true_and, and_true, and_self, or_true, true_or, or_false, false_or]; omega))) (zwk_s rfl (zwk_s rfl (zwk_s rfl (zwk_s rfl zwk_0))))
        · skip
          rw [if_pos (by omega)] at hs
          refine zs_aload_n (pc := 23) C dX4_flourFrom_23 rfl ?_
          refine zs_getf (pc := 24) C dX4_flourFrom_24 w_X4_24 f_5_4 (by decide) ?_
          refine zs_iload_n (pc := 27) C dX4_flourFrom_27 rfl ?_
          refine zs_iald (r := 2030) (pc := 28) C dX4_flourFrom_28 a_30 (by decide) (by omega) rfl (r_2030 _) (fun v28 e28 l28 u28 => ?_)
          try simp only [QQ_2030 hZ] at e28
          try subst v28
          refine zs_goto (tgt := 33) (pc := 29) C dX4_flourFrom_29 (by decide) ?_
          first | refine zs_iadd (pc := 33) C dX4_flourFrom_33 (by omega) ?_ | refine zs_iaddF (pc := 33) C dX4_flourFrom_33 (fun z33 hz331 hz332 => ?_)
          refine zs_istore_n (pc := 34) C dX4_flourFrom_34 (by decide) ?_
          dsimp only [zset, zclr, znone]
          first | refine zs_iinc (pc := 35) C dX4_flourFrom_35 rfl (by decide) (by omega) ?_ | refine zs_iincF (pc := 35) C dX4_flourFrom_35 rfl (by decide) (fun z35 hz351 hz352 => ?_)
          dsimp only [zset, zclr, znone]
          refine zs_goto (tgt := 4) (pc := 38) C dX4_flourFrom_38 (by decide) ?_
          exact zs_wk (ih4 _ _ (by first | omega | (simp only [zuI_1, zuI_2, zuJ_1, zuJ_2, zuJ_3, zuP_1, zuP_2, zuP_3, zuC_1, zuC_2, reduceIte, Nat.reduceEqDiff, false_and, and_false, true_and, and_true, and_self, or_true, true_or, or_false, false_or]; omega)) (by first | omega | (simp only [zuI_1, zuI_2, zuJ_1, zuJ_2, zuJ_3, zuP_1, zuP_2, zuP_3, zuC_1, zuC_2, reduceIte, Nat.reduceEqDiff, false_and, and_false, true_and, and_true, and_self, or_true, true_or, or_false, false_or]; omega)) (by first | omega | (simp only [zuI_1, zuI_2, zuJ_1, zuJ_2, zuJ_3, zuP_1, zuP_2, zuP_3, zuC_1, zuC_2, reduceIte, Nat.reduceEqDiff, false_and, and_false, true_and, and_true, and_self, or_true, true_or, or_false, false_or]; omega)) (by first | omega | (simp only [zuI_1, zuI_2, zuJ_1, zuJ_2, zuJ_3, zuP_1, zuP_2, zuP_3, zuC_1, zuC_2, reduceIte, Nat.reduceEqDiff, false_and, and_false, true_and, and_true, and_self, or_true, true_or, or_false, false_or]; omega))) (zwk_s rfl (zwk_s rfl (zwk_s rfl (zwk_s rfl zwk_0))))
  exact zs_wk (L4 _ _ _ (by have := hW.1; omega) (show (0 : Int) = _ from rfl) (by omega) (Nat.lt_succ_self _)) (zwk_s rfl (zwk_s rfl (zwk_s rfl (zwk_s rfl zwk_0))))

set_option maxHeartbeats 4000000 in
set_option maxRecDepth 100000 in
theorem c_X7_leftOfK {l : Launch} {Γ : zΓ} {G : zH} {w t : Nat} {A W : aS} {p s : Int} (hX : zXs Γ) (hZ : QQ Γ w t A W G) (hp : 0 ≤ p ∧ p ≤ 4) (hs : 0 ≤ s ∧ s ≤ 3)  : zMet l Γ yX7_leftOf cX7_leftOf 3 (some .int) 0 [zr 8 w, zi p, zi s] G (zpi (fun x G' => G' = G ∧ (x = wL W p s))) := by
  have hI := QQ_t hZ
  refine zMet_of RX7 hX (by decide) rfl (Nat.le_of_ble_eq_true rfl) ?_
  intro px9 e sx9 m args below meth c C hr hlk
  show Z px9 l e (zrm 0) sx9 m args below meth c Γ 3 0 0 (MQ below (zQc Γ (zpi (fun x G' => G' = G ∧ (x = wL W p s)))) args sx9 0 0 (zA Γ)) 0 [some (zr 8 w), some (zi p), some (zi s)] [] G
  refine zs_loc 1 rfl (fun ha1 hb1 => ?_)
  refine zs_loc 2 rfl (fun ha2 hb2 => ?_)
  refine zs_aload_n (pc := 0) C dX7_leftOf_0 rfl ?_
  refine zs_getf (pc := 1) C dX7_leftOf_1 w_X7_22 f_8_3 (by decide) ?_
  refine zs_iload_n (pc := 4) C dX7_leftOf_4 rfl ?_
  refine zs_iconst (pc := 5) C dX7_leftOf_5 (by decide) ?_
  first | refine zs_imul (pc := 6) C dX7_leftOf_6 (by omega) ?_ | refine zs_imulF (pc := 6) C dX7_leftOf_6 (fun z6 hz61 hz62 => ?_)
  refine zs_iload_n (pc := 7) C dX7_leftOf_7 rfl ?_
  first | refine zs_iadd (pc := 8) C dX7_leftOf_8 (by omega) ?_ | refine zs_iaddF (pc := 8) C dX7_leftOf_8 (fun z8 hz81 hz82 => ?_)
  refine zs_iald (r := 2049) (pc := 9) C dX7_leftOf_9 a_49 (by decide) (by omega) rfl (r_2049 _) (fun v9 e9 l9 u9 => ?_)
  try simp only [QQ_2049 hZ] at e9
  try subst v9
  exact zs_iret (pc := 10) C hr hlk dX7_leftOf_10 ⟨rfl, rfl⟩

set_option maxHeartbeats 4000000 in
set_option maxRecDepth 100000 in
theorem c_X7_prideOfK {l : Launch} {Γ : zΓ} {G : zH} {w t : Nat} {A W : aS} {p : Int} (hX : zXs Γ) (hZ : QQ Γ w t A W G) (hL : WL W) (hp : 0 ≤ p ∧ p ≤ 4)  : zMet l Γ yX7_prideOf cX7_prideOf 4 (some .int) 0 [zr 8 w, zi p] G (zpi (fun x G' => G' = G ∧ (x = wPr W p))) := by
  have hI := QQ_t hZ
  refine zMet_of RX7 hX (by decide) rfl (Nat.le_of_ble_eq_true rfl) ?_
  intro px9 e s m args below meth c C hr hlk
  show Z px9 l e (zrm 0) s m args below meth c Γ 4 0 0 (MQ below (zQc Γ (zpi (fun x G' => G' = G ∧ (x = wPr W p)))) args s 0 0 (zA Γ)) 0 [some (zr 8 w), some (zi p), none, none] [] G
  refine zs_loc 1 rfl (fun ha1 hb1 => ?_)
  refine zs_iconst (pc := 0) C dX7_prideOf_0 (by decide) ?_
  refine zs_istore_n (pc := 1) C dX7_prideOf_1 (by decide) ?_
  dsimp only [zset, zclr, znone]
  refine zs_iconst (pc := 2) C dX7_prideOf_2 (by decide) ?_
  refine zs_istore_n (pc := 3) C dX7_prideOf_3 (by decide) ?_
  dsimp only [zset, zclr, znone]
  have L4 : ∀ (nn : Nat) (x2 x3 : Int), (0 ≤ x3 ∧ x3 ≤ 4) → (x2 = sM (W 12) (p * 4).toNat x3.toNat) → (0 ≤ x2 ∧ x2 ≤ 99 * x3) → (4 - x3).toNat < nn → Z px9 l e (zrm 0) s m args below meth c Γ 4 0 0 (MQ below (zQc Γ (zpi (fun x G' => G' = G ∧ (x = wPr W p)))) args s 0 0 (zA Γ)) 4 [some (zr 8 w), some (zi p), some (zi x2), some (zi x3)] [] G := by
    intro nn
    induction nn with
    | zero => intro x2 x3 h4_0 h4_1 h4_2 hm; exact absurd hm (Nat.not_lt_zero _)
    | succ nn ih4 =>
      intro x2 x3 h4_0 h4_1 h4_2 hm4
      refine zs_iload_n (pc := 4) C dX7_prideOf_4 rfl ?_
      refine zs_iconst (pc := 5) C dX7_prideOf_5 (by decide) ?_
      refine zs_icmp_ge (tgt := 28) (pc := 6) C dX7_prideOf_6 (by decide) (fun h6 => ?_) (fun h6 => ?_)
      · skip
        have hx3 : x3 = 4 := by omega
        rw [hx3] at h4_1
        refine zs_iload_n (pc := 28) C dX7_prideOf_28 rfl ?_
        exact zs_iret (pc := 29) C hr hlk dX7_prideOf_29 ⟨rfl, h4_1⟩
      · skip
        refine zs_iload_n (pc := 9) C dX7_prideOf_9 rfl ?_
        refine zs_aload_n (pc := 10) C dX7_prideOf_10 rfl ?_
        refine zs_getf (pc := 11) C dX7_prideOf_11 w_X7_22 f_8_3 (by decide) ?_
        refine zs_iload_n (pc := 14) C dX7_prideOf_14 rfl ?_
        refine zs_iconst (pc := 15) C dX7_prideOf_15 (by decide) ?_
        first | refine zs_imul (pc := 16) C dX7_prideOf_16 (by omega) ?_ | refine zs_imulF (pc := 16) C dX7_prideOf_16 (fun z16 hz161 hz162 => ?_)
        refine zs_iload_n (pc := 17) C dX7_prideOf_17 rfl ?_
        first | refine zs_iadd (pc := 18) C dX7_prideOf_18 (by omega) ?_ | refine zs_iaddF (pc := 18) C dX7_prideOf_18 (fun z18 hz181 hz182 => ?_)
        have hl := hL (p * 4 + x3).toNat (by omega)
        have hs := sM_s (f := W 12) (b := (p * 4).toNat) (k := x3) (by omega)
        rw [show (p * 4).toNat + x3.toNat = (p * 4 + x3).toNat by omega] at hs
        refine zs_iald (r := 2049) (pc := 19) C dX7_prideOf_19 a_49 (by decide) (by omega) rfl (r_2049 _) (fun v19 e19 l19 u19 => ?_)
        try simp only [QQ_2049 hZ] at e19
        try subst v19
        first | refine zs_iadd (pc := 20) C dX7_prideOf_20 (by omega) ?_ | refine zs_iaddF (pc := 20) C dX7_prideOf_20 (fun z20 hz201 hz202 => ?_)
        refine zs_istore_n (pc := 21) C dX7_prideOf_21 (by decide) ?_
        dsimp only [zset, zclr, znone]
        first | refine zs_iinc (pc := 22) C dX7_prideOf_22 rfl (by decide) (by omega) ?_ | refine zs_iincF (pc := 22) C dX7_prideOf_22 rfl (by decide) (fun z22 hz221 hz222 => ?_)
        dsimp only [zset, zclr, znone]
        refine zs_goto (tgt := 4) (pc := 25) C dX7_prideOf_25 (by decide) ?_
        exact zs_wk (ih4 _ _ (by first | omega | (simp only [zuI_1, zuI_2, zuJ_1, zuJ_2, zuJ_3, zuP_1, zuP_2, zuP_3, zuC_1, zuC_2, reduceIte, Nat.reduceEqDiff, false_and, and_false, true_and, and_true, and_self, or_true, true_or, or_false, false_or]; omega)) (by first | omega | (simp only [zuI_1, zuI_2, zuJ_1, zuJ_2, zuJ_3, zuP_1, zuP_2, zuP_3, zuC_1, zuC_2, reduceIte, Nat.reduceEqDiff, false_and, and_false, true_and, and_true, and_self, or_true, true_or, or_false, false_or]; omega)) (by first | omega | (simp only [zuI_1, zuI_2, zuJ_1, zuJ_2, zuJ_3, zuP_1, zuP_2, zuP_3, zuC_1, zuC_2, reduceIte, Nat.reduceEqDiff, false_and, and_false, true_and, and_true, and_self, or_true, true_or, or_false, false_or]; omega)) (by first | omega | (simp only [zuI_1, zuI_2, zuJ_1, zuJ_2, zuJ_3, zuP_1, zuP_2, zuP_3, zuC_1, zuC_2, reduceIte, Nat.reduceEqDiff, false_and, and_false, true_and, and_true, and_self, or_true, true_or, or_false, false_or]; omega))) (zwk_s rfl (zwk_s rfl (zwk_s rfl (zwk_s rfl zwk_0))))
  exact zs_wk (L4 _ _ _ (by omega) (show (0 : Int) = _ from rfl) (by omega) (Nat.lt_succ_self _)) (zwk_s rfl (zwk_s rfl (zwk_s rfl (zwk_s rfl zwk_0))))

set_option maxHeartbeats 4000000 in
set_option maxRecDepth 100000 in
theorem c_X7_canGrindK {l : Launch} {Γ : zΓ} {G : zH} {w t : Nat} {A W : aS}  (hX : zXs Γ) (hZ : QQ Γ w t A W G)  : zMet l Γ yX7_canGrind cX7_canGrind 1 (some .boolean) 1 [zr 8 w] G (zpi (fun x G' => G' = G ∧ ((x = 0 ∨ x = 1) ∧ (x = 1 ↔ wCan W)))) := by
  have hI := QQ_t hZ
  refine zMet_of RX7 hX (by decide) rfl (Nat.le_of_ble_eq_true rfl) ?_
  intro p e s m args below meth c C hr hlk
  show Z p l e (zrm 1) s m args below meth c Γ 1 0 0 (MQ below (zQc Γ (zpi (fun x G' => G' = G ∧ ((x = 0 ∨ x = 1) ∧ (x = 1 ↔ wCan W))))) args s 0 0 (zA Γ)) 0 [some (zr 8 w)] [] G
  refine zs_aload_n (pc := 0) C dX7_canGrind_0 rfl ?_
  refine zs_geti (r := 810) (pc := 1) C dX7_canGrind_1 w_X7_75 f_8_10 rfl (r_810 0) (fun v1 e1 l1 u1 => ?_)
  try simp only [QQ_810 hZ] at e1
  try subst v1
  refine zs_if_le (tgt := 21) (pc := 4) C dX7_canGrind_4 (by decide) (fun h4 => ?_) (fun h4 => ?_)
  · skip
    refine zs_iconst (pc := 21) C dX7_canGrind_21 (by decide) ?_
    exact zs_zret (pc := 22) C hr hlk dX7_canGrind_22 (by omega) ⟨rfl, (by unfold wCan; refine ⟨by omega, ?_⟩; constructor <;> intro hq <;> omega)⟩
  · skip
    refine zs_aload_n (pc := 7) C dX7_canGrind_7 rfl ?_
    refine zs_getf (pc := 8) C dX7_canGrind_8 w_X7_12 f_8_1 (by decide) ?_
    refine zVip0 (pc := 11) C dX7_canGrind_11 v_X7_164 (c_X4_isFullK hX hZ) (by decide) (by decide) ⟨Nat.zero_le _, Nat.zero_le _⟩ (Nat.le_of_ble_eq_true rfl) (fun x11 l11 u11 hp11 => ?_)
    have hq11 := hp11
    refine zs_if_ne (tgt := 21) (pc := 14) C dX7_canGrind_14 (by decide) (fun h14 => ?_) (fun h14 => ?_)
    · skip
      refine zs_iconst (pc := 21) C dX7_canGrind_21 (by decide) ?_
      exact zs_zret (pc := 22) C hr hlk dX7_canGrind_22 (by omega) ⟨rfl, (by unfold wCan; refine ⟨by omega, ?_⟩; constructor <;> intro hq <;> omega)⟩
    · skip
      refine zs_iconst (pc := 17) C dX7_canGrind_17 (by decide) ?_
      refine zs_goto (tgt := 22) (pc := 18) C dX7_canGrind_18 (by decide) ?_
      exact zs_zret (pc := 22) C hr hlk dX7_canGrind_22 (by omega) ⟨rfl, (by unfold wCan; refine ⟨by omega, ?_⟩; constructor <;> intro hq <;> omega)⟩

set_option maxHeartbeats 4000000 in
set_option maxRecDepth 100000 in
theorem c_X7_portionK {l : Launch} {Γ : zΓ} {G : zH} {w t : Nat} {A W : aS}  (hX : zXs Γ) (hZ : QQ Γ w t A W G)  : zMet l Γ yX7_portion cX7_portion 1 (some .int) 1 [zr 8 w] G (zpi (fun x G' => G' = G ∧ (x = wPort A W))) := by
  have hI := QQ_t hZ
  refine zMet_of RX7 hX (by decide) rfl (Nat.le_of_ble_eq_true rfl) ?_
  intro p e s m args below meth c C hr hlk
  show Z p l e (zrm 1) s m args below meth c Γ 1 0 0 (MQ below (zQc Γ (zpi (fun x G' => G' = G ∧ (x = wPort A W)))) args s 0 0 (zA Γ)) 0 [some (zr 8 w)] [] G
  refine zs_aload_n (pc := 0) C dX7_portion_0 rfl ?_
  refine zs_getd (r := 800) (pc := 1) C dX7_portion_1 w_X7_40 f_8_0 (by decide) rfl (fun v1 e1 t1 => ?_)
  rw [hI] at e1
  subst v1
  refine zs_geti (r := 610) (pc := 4) C dX7_portion_4 w_X7_168 f_6_10 rfl (r_610 0) (fun v4 e4 l4 u4 => ?_)
  try simp only [QQ_610 hZ] at e4
  try subst v4
  refine zs_aload_n (pc := 7) C dX7_portion_7 rfl ?_
  refine zs_geti (r := 810) (pc := 8) C dX7_portion_8 w_X7_75 f_8_10 rfl (r_810 0) (fun v8 e8 l8 u8 => ?_)
  try simp only [QQ_810 hZ] at e8
  try subst v8
  refine zs_minI (pc := 11) C dX7_portion_11 s_X7_149 (by decide) (Nat.le_of_ble_eq_true rfl) ⟨Nat.zero_le _, Nat.zero_le _⟩ (fun z11 hz11 => ?_)
  exact zs_iret (pc := 14) C hr hlk dX7_portion_14 ⟨rfl, (by unfold wPort; omega)⟩

set_option maxHeartbeats 4000000 in
set_option maxRecDepth 100000 in
theorem c_X7_canFallK {l : Launch} {Γ : zΓ} {G : zH} {w t : Nat} {A W : aS} {p s : Int} (hX : zXs Γ) (hZ : QQ Γ w t A W G) (hp : 0 ≤ p ∧ p ≤ 4) (hs : 0 ≤ s ∧ s ≤ 3)  : zMet l Γ yX7_canFall cX7_canFall 3 (some .boolean) 0 [zr 8 w, zi p, zi s] G (zpi (fun x G' => G' = G ∧ ((x = 0 ∨ x = 1) ∧ (x = 1 ↔ W 11 (p * 4 + s).toNat < 99)))) := by
  have hI := QQ_t hZ
  refine zMet_of RX7 hX (by decide) rfl (Nat.le_of_ble_eq_true rfl) ?_
  intro px9 e sx9 m args below meth c C hr hlk
  show Z px9 l e (zrm 0) sx9 m args below meth c Γ 3 0 0 (MQ below (zQc Γ (zpi (fun x G' => G' = G ∧ ((x = 0 ∨ x = 1) ∧ (x = 1 ↔ W 11 (p * 4 + s).toNat < 99))))) args sx9 0 0 (zA Γ)) 0 [some (zr 8 w), some (zi p), some (zi s)] [] G
  refine zs_loc 1 rfl (fun ha1 hb1 => ?_)
  refine zs_loc 2 rfl (fun ha2 hb2 => ?_)
  refine zs_aload_n (pc := 0) C dX7_canFall_0 rfl ?_
  refine zs_getf (pc := 1) C dX7_canFall_1 w_X7_18 f_8_2 (by decide) ?_
  refine zs_iload_n (pc := 4) C dX7_canFall_4 rfl ?_
  refine zs_iconst (pc := 5) C dX7_canFall_5 (by decide) ?_
  first | refine zs_imul (pc := 6) C dX7_canFall_6 (by omega) ?_ | refine zs_imulF (pc := 6) C dX7_canFall_6 (fun z6 hz61 hz62 => ?_)
  refine zs_iload_n (pc := 7) C dX7_canFall_7 rfl ?_
  first | refine zs_iadd (pc := 8) C dX7_canFall_8 (by omega) ?_ | refine zs_iaddF (pc := 8) C dX7_canFall_8 (fun z8 hz81 hz82 => ?_)
  refine zs_iald (r := 2048) (pc := 9) C dX7_canFall_9 a_48 (by decide) (by omega) rfl (r_2048 _) (fun v9 e9 l9 u9 => ?_)
  try simp only [QQ_2048 hZ] at e9
  try subst v9
  refine zs_bipush (pc := 10) C dX7_canFall_10 (by decide) (by decide) ?_
  refine zs_icmp_ge (tgt := 19) (pc := 12) C dX7_canFall_12 (by decide) (fun h12 => ?_) (fun h12 => ?_)
  · skip
    refine zs_iconst (pc := 19) C dX7_canFall_19 (by decide) ?_
    exact zs_zret (pc := 20) C hr hlk dX7_canFall_20 (by omega) ⟨rfl, (by refine ⟨by omega, ?_⟩; constructor <;> intro hq <;> omega)⟩
  · skip
    refine zs_iconst (pc := 15) C dX7_canFall_15 (by decide) ?_
    refine zs_goto (tgt := 20) (pc := 16) C dX7_canFall_16 (by decide) ?_
    exact zs_zret (pc := 20) C hr hlk dX7_canFall_20 (by omega) ⟨rfl, (by refine ⟨by omega, ?_⟩; constructor <;> intro hq <;> omega)⟩

set_option maxHeartbeats 4000000 in
set_option maxRecDepth 100000 in
theorem c_X7_isBakedK {l : Launch} {Γ : zΓ} {G : zH} {w t : Nat} {A W : aS} {p : Int} (hX : zXs Γ) (hZ : QQ Γ w t A W G) (hp : 0 ≤ p ∧ p ≤ 4)  : zMet l Γ yX7_isBaked cX7_isBaked 2 (some .boolean) 0 [zr 8 w, zi p] G (zpi (fun x G' => G' = G ∧ ((x = 0 ∨ x = 1) ∧ (x = 1 ↔ W 16 p.toNat ≠ -1)))) := by
  have hI := QQ_t hZ
  refine zMet_of RX7 hX (by decide) rfl (Nat.le_of_ble_eq_true rfl) ?_
  intro px9 e s m args below meth c C hr hlk
  show Z px9 l e (zrm 0) s m args below meth c Γ 2 0 0 (MQ below (zQc Γ (zpi (fun x G' => G' = G ∧ ((x = 0 ∨ x = 1) ∧ (x = 1 ↔ W 16 p.toNat ≠ -1))))) args s 0 0 (zA Γ)) 0 [some (zr 8 w), some (zi p)] [] G
  refine zs_loc 1 rfl (fun ha1 hb1 => ?_)
  refine zs_aload_n (pc := 0) C dX7_isBaked_0 rfl ?_
  refine zs_getf (pc := 1) C dX7_isBaked_1 w_X7_34 f_8_7 (by decide) ?_
  refine zs_iload_n (pc := 4) C dX7_isBaked_4 rfl ?_
  refine zs_iald (r := 2053) (pc := 5) C dX7_isBaked_5 a_53 (by decide) (by omega) rfl (r_2053 _) (fun v5 e5 l5 u5 => ?_)
  try simp only [QQ_2053 hZ] at e5
  try subst v5
  refine zs_iconst (pc := 6) C dX7_isBaked_6 (by decide) ?_
  refine zs_icmp_eq (tgt := 14) (pc := 7) C dX7_isBaked_7 (by decide) (fun h7 => ?_) (fun h7 => ?_)
  · skip
    refine zs_iconst (pc := 14) C dX7_isBaked_14 (by decide) ?_
    exact zs_zret (pc := 15) C hr hlk dX7_isBaked_15 (by omega) ⟨rfl, (by refine ⟨by omega, ?_⟩; constructor <;> intro hq <;> omega)⟩
  · skip
    refine zs_iconst (pc := 10) C dX7_isBaked_10 (by decide) ?_
    refine zs_goto (tgt := 15) (pc := 11) C dX7_isBaked_11 (by decide) ?_
    exact zs_zret (pc := 15) C hr hlk dX7_isBaked_15 (by omega) ⟨rfl, (by refine ⟨by omega, ?_⟩; constructor <;> intro hq <;> omega)⟩

set_option maxHeartbeats 4000000 in
set_option maxRecDepth 100000 in
theorem c_X7_fallOnceK {l : Launch} {Γ : zΓ} {G : zH} {w t : Nat} {A W : aS} {p s : Int} (hX : zXs Γ) (hZ : QQ Γ w t A W G) (hW : WI A W) (hp : 0 ≤ p ∧ p ≤ 4) (hs : 0 ≤ s ∧ s ≤ 3) (h99 : W 11 (p * 4 + s).toNat < 99) : zMet l Γ yX7_fallOnce cX7_fallOnce 3 none 0 [zr 8 w, zi p, zi s] G (zpv (fun G' => zsm [2048, 2049, 2052] G G' ∧ QQ Γ w t A (wFall W p s) G')) := by
  have hI := QQ_t hZ
  have hl := WI_L hW hp hs
  have h5 := hW.2.2.2.2.1 p.toNat (by omega)
  have h50 := hW.2.2.1 (p.toNat * 4) (by omega)
  have h51 := hW.2.2.1 (p.toNat * 4 + 1) (by omega)
  have h52 := hW.2.2.1 (p.toNat * 4 + 2) (by omega)
  have h53 := hW.2.2.1 (p.toNat * 4 + 3) (by omega)
  refine zMet_of RX7 hX (by decide) rfl (Nat.le_of_ble_eq_true rfl) ?_
  intro px9 e sx9 m args below meth c C hr hlk
  show Z px9 l e (zrm 0) sx9 m args below meth c Γ 3 0 0 (MQ below (zQc Γ (zpv (fun G' => zsm [2048, 2049, 2052] G G' ∧ QQ Γ w t A (wFall W p s) G'))) args sx9 0 0 (zA Γ)) 0 [some (zr 8 w), some (zi p), some (zi s)] [] G
  refine zs_loc 1 rfl (fun ha1 hb1 => ?_)
  refine zs_loc 2 rfl (fun ha2 hb2 => ?_)
  refine zs_aload_n (pc := 0) C dX7_fallOnce_0 rfl ?_
  refine zs_getf (pc := 1) C dX7_fallOnce_1 w_X7_18 f_8_2 (by decide) ?_
  refine zs_iload_n (pc := 4) C dX7_fallOnce_4 rfl ?_
  refine zs_iconst (pc := 5) C dX7_fallOnce_5 (by decide) ?_
  first | refine zs_imul (pc := 6) C dX7_fallOnce_6 (by omega) ?_ | refine zs_imulF (pc := 6) C dX7_fallOnce_6 (fun z6 hz61 hz62 => ?_)
  refine zs_iload_n (pc := 7) C dX7_fallOnce_7 rfl ?_
  first | refine zs_iadd (pc := 8) C dX7_fallOnce_8 (by omega) ?_ | refine zs_iaddF (pc := 8) C dX7_fallOnce_8 (fun z8 hz81 hz82 => ?_)
  refine zs_dup2 (pc := 9) C dX7_fallOnce_9 ?_
  refine zs_iald (r := 2048) (pc := 10) C dX7_fallOnce_10 a_48 (by decide) (by omega) rfl (r_2048 _) (fun v10 e10 l10 u10 => ?_)
  try simp only [QQ_2048 hZ] at e10
  try subst v10
  refine zs_iconst (pc := 11) C dX7_fallOnce_11 (by decide) ?_
  first | refine zs_iadd (pc := 12) C dX7_fallOnce_12 (by omega) ?_ | refine zs_iaddF (pc := 12) C dX7_fallOnce_12 (fun z12 hz121 hz122 => ?_)
  refine zs_iast (r := 2048) (pc := 13) C dX7_fallOnce_13 a_48 (by decide) (by omega) rfl (r_2048 _) (by omega) ?_
  refine zs_aload_n (pc := 14) C dX7_fallOnce_14 rfl ?_
  refine zs_getf (pc := 15) C dX7_fallOnce_15 w_X7_22 f_8_3 (by decide) ?_
  refine zs_iload_n (pc := 18) C dX7_fallOnce_18 rfl ?_
  refine zs_iconst (pc := 19) C dX7_fallOnce_19 (by decide) ?_
  first | refine zs_imul (pc := 20) C dX7_fallOnce_20 (by omega) ?_ | refine zs_imulF (pc := 20) C dX7_fallOnce_20 (fun z20 hz201 hz202 => ?_)
  refine zs_iload_n (pc := 21) C dX7_fallOnce_21 rfl ?_
  first | refine zs_iadd (pc := 22) C dX7_fallOnce_22 (by omega) ?_ | refine zs_iaddF (pc := 22) C dX7_fallOnce_22 (fun z22 hz221 hz222 => ?_)
  refine zs_dup2 (pc := 23) C dX7_fallOnce_23 ?_
  refine zs_iald (r := 2049) (pc := 24) C dX7_fallOnce_24 a_49 (by decide) (by omega) rfl (r_2049 _) (fun v24 e24 l24 u24 => ?_)
  try simp only [zuI_1, zuI_2, zuJ_1, zuJ_2, zuJ_3, zuP_1, zuP_2, zuP_3, zuC_1, zuC_2, reduceIte, Nat.reduceEqDiff, false_and, and_false, true_and, and_true, and_self, or_true, true_or, or_false, false_or] at e24
  try simp only [QQ_2049 hZ] at e24
  try subst v24
  refine zs_iconst (pc := 25) C dX7_fallOnce_25 (by decide) ?_
  first | refine zs_iadd (pc := 26) C dX7_fallOnce_26 (by omega) ?_ | refine zs_iaddF (pc := 26) C dX7_fallOnce_26 (fun z26 hz261 hz262 => ?_)
  refine zs_iast (r := 2049) (pc := 27) C dX7_fallOnce_27 a_49 (by decide) (by omega) rfl (r_2049 _) (by omega) ?_
  refine zs_aload_n (pc := 28) C dX7_fallOnce_28 rfl ?_
  refine zs_getf (pc := 29) C dX7_fallOnce_29 w_X7_31 f_8_6 (by decide) ?_
  refine zs_iload_n (pc := 32) C dX7_fallOnce_32 rfl ?_
  refine zs_dup2 (pc := 33) C dX7_fallOnce_33 ?_
  refine zs_iald (r := 2052) (pc := 34) C dX7_fallOnce_34 a_52 (by decide) (by omega) rfl (r_2052 _) (fun v34 e34 l34 u34 => ?_)
  try simp only [zuI_1, zuI_2, zuJ_1, zuJ_2, zuJ_3, zuP_1, zuP_2, zuP_3, zuC_1, zuC_2, reduceIte, Nat.reduceEqDiff, false_and, and_false, true_and, and_true, and_self, or_true, true_or, or_false, false_or] at e34
  try simp only [QQ_2052 hZ] at e34
  try subst v34
  refine zs_iconst (pc := 35) C dX7_fallOnce_35 (by decide) ?_
  first | refine zs_iadd (pc := 36) C dX7_fallOnce_36 (by omega) ?_ | refine zs_iaddF (pc := 36) C dX7_fallOnce_36 (fun z36 hz361 hz362 => ?_)
  refine zs_iast (r := 2052) (pc := 37) C dX7_fallOnce_37 a_52 (by decide) (by omega) rfl (r_2052 _) (by omega) ?_
  exact zs_vret (pc := 38) C hr hlk dX7_fallOnce_38 ⟨by repeat (first | exact zsm_rf | assumption | refine zsm_C (by decide) ?_ | refine zsm_I (by decide) ?_ | refine zsm_J ?_ | refine zsm_c (by assumption) (by decide) ?_), by repeat (first | assumption | apply QQw_510 | apply QQw_2026 | apply QQw_2027 | apply QQw_2028 | apply QQw_2029 | apply QQw_2030 | apply QQw_2031 | apply QQw_2032 | apply QQw_2033 | apply QQw_2034 | apply QQw_2035 | apply QQw_2048 | apply QQw_2049 | apply QQw_2050 | apply QQw_2051 | apply QQw_2052 | apply QQw_2053 | apply QQw_2054 | apply QQw_809 | apply QQw_810 | apply QQw_811 | apply QQw_812 | apply QQw_813 | apply QQ_J | refine QQ_n (by assumption) ?_ | refine QQ_sm (by assumption) (by decide) (by decide +kernel) ?_)⟩

set_option maxHeartbeats 4000000 in
set_option maxRecDepth 100000 in
theorem c_X7_unfallK {l : Launch} {Γ : zΓ} {G : zH} {w t : Nat} {A W : aS} {p s : Int} (hX : zXs Γ) (hZ : QQ Γ w t A W G) (hW : WI A W) (hp : 0 ≤ p ∧ p ≤ 4) (hs : 0 ≤ s ∧ s ≤ 3)  : zMet l Γ yX7_unfall cX7_unfall 3 none 0 [zr 8 w, zi p, zi s] G (zpv (fun G' => zsm [2048, 2049, 2052] G G' ∧ QQ Γ w t A (wUnfall W p s) G')) := by
  have hI := QQ_t hZ
  have hl := WI_L hW hp hs
  have h5 := hW.2.2.2.2.1 p.toNat (by omega)
  have h50 := hW.2.2.1 (p.toNat * 4) (by omega)
  have h51 := hW.2.2.1 (p.toNat * 4 + 1) (by omega)
  have h52 := hW.2.2.1 (p.toNat * 4 + 2) (by omega)
  have h53 := hW.2.2.1 (p.toNat * 4 + 3) (by omega)
  refine zMet_of RX7 hX (by decide) rfl (Nat.le_of_ble_eq_true rfl) ?_
  intro px9 e sx9 m args below meth c C hr hlk
  show Z px9 l e (zrm 0) sx9 m args below meth c Γ 3 0 0 (MQ below (zQc Γ (zpv (fun G' => zsm [2048, 2049, 2052] G G' ∧ QQ Γ w t A (wUnfall W p s) G'))) args sx9 0 0 (zA Γ)) 0 [some (zr 8 w), some (zi p), some (zi s)] [] G
  refine zs_loc 1 rfl (fun ha1 hb1 => ?_)
  refine zs_loc 2 rfl (fun ha2 hb2 => ?_)
  refine zs_aload_n (pc := 0) C dX7_unfall_0 rfl ?_
  refine zs_getf (pc := 1) C dX7_unfall_1 w_X7_18 f_8_2 (by decide) ?_
  refine zs_iload_n (pc := 4) C dX7_unfall_4 rfl ?_
  refine zs_iconst (pc := 5) C dX7_unfall_5 (by decide) ?_
  first | refine zs_imul (pc := 6) C dX7_unfall_6 (by omega) ?_ | refine zs_imulF (pc := 6) C dX7_unfall_6 (fun z6 hz61 hz62 => ?_)
  refine zs_iload_n (pc := 7) C dX7_unfall_7 rfl ?_
  first | refine zs_iadd (pc := 8) C dX7_unfall_8 (by omega) ?_ | refine zs_iaddF (pc := 8) C dX7_unfall_8 (fun z8 hz81 hz82 => ?_)
  refine zs_dup2 (pc := 9) C dX7_unfall_9 ?_
  refine zs_iald (r := 2048) (pc := 10) C dX7_unfall_10 a_48 (by decide) (by omega) rfl (r_2048 _) (fun v10 e10 l10 u10 => ?_)
  try simp only [QQ_2048 hZ] at e10
  try subst v10
  refine zs_iconst (pc := 11) C dX7_unfall_11 (by decide) ?_
  first | refine zs_isub (pc := 12) C dX7_unfall_12 (by omega) ?_ | refine zs_isubF (pc := 12) C dX7_unfall_12 (fun z12 hz121 hz122 => ?_)
  refine zs_iast (r := 2048) (pc := 13) C dX7_unfall_13 a_48 (by decide) (by omega) rfl (r_2048 _) (by omega) ?_
  refine zs_aload_n (pc := 14) C dX7_unfall_14 rfl ?_
  refine zs_getf (pc := 15) C dX7_unfall_15 w_X7_22 f_8_3 (by decide) ?_
  refine zs_iload_n (pc := 18) C dX7_unfall_18 rfl ?_
  refine zs_iconst (pc := 19) C dX7_unfall_19 (by decide) ?_
  first | refine zs_imul (pc := 20) C dX7_unfall_20 (by omega) ?_ | refine zs_imulF (pc := 20) C dX7_unfall_20 (fun z20 hz201 hz202 => ?_)
  refine zs_iload_n (pc := 21) C dX7_unfall_21 rfl ?_
  first | refine zs_iadd (pc := 22) C dX7_unfall_22 (by omega) ?_ | refine zs_iaddF (pc := 22) C dX7_unfall_22 (fun z22 hz221 hz222 => ?_)
  refine zs_dup2 (pc := 23) C dX7_unfall_23 ?_
  refine zs_iald (r := 2049) (pc := 24) C dX7_unfall_24 a_49 (by decide) (by omega) rfl (r_2049 _) (fun v24 e24 l24 u24 => ?_)
  try simp only [zuI_1, zuI_2, zuJ_1, zuJ_2, zuJ_3, zuP_1, zuP_2, zuP_3, zuC_1, zuC_2, reduceIte, Nat.reduceEqDiff, false_and, and_false, true_and, and_true, and_self, or_true, true_or, or_false, false_or] at e24
  try simp only [QQ_2049 hZ] at e24
  try subst v24
  refine zs_iconst (pc := 25) C dX7_unfall_25 (by decide) ?_
  first | refine zs_isub (pc := 26) C dX7_unfall_26 (by omega) ?_ | refine zs_isubF (pc := 26) C dX7_unfall_26 (fun z26 hz261 hz262 => ?_)
  refine zs_iast (r := 2049) (pc := 27) C dX7_unfall_27 a_49 (by decide) (by omega) rfl (r_2049 _) (by omega) ?_
  refine zs_aload_n (pc := 28) C dX7_unfall_28 rfl ?_
  refine zs_getf (pc := 29) C dX7_unfall_29 w_X7_31 f_8_6 (by decide) ?_
  refine zs_iload_n (pc := 32) C dX7_unfall_32 rfl ?_
  refine zs_dup2 (pc := 33) C dX7_unfall_33 ?_
  refine zs_iald (r := 2052) (pc := 34) C dX7_unfall_34 a_52 (by decide) (by omega) rfl (r_2052 _) (fun v34 e34 l34 u34 => ?_)
  try simp only [zuI_1, zuI_2, zuJ_1, zuJ_2, zuJ_3, zuP_1, zuP_2, zuP_3, zuC_1, zuC_2, reduceIte, Nat.reduceEqDiff, false_and, and_false, true_and, and_true, and_self, or_true, true_or, or_false, false_or] at e34
  try simp only [QQ_2052 hZ] at e34
  try subst v34
  refine zs_iconst (pc := 35) C dX7_unfall_35 (by decide) ?_
  first | refine zs_isub (pc := 36) C dX7_unfall_36 (by omega) ?_ | refine zs_isubF (pc := 36) C dX7_unfall_36 (fun z36 hz361 hz362 => ?_)
  refine zs_iast (r := 2052) (pc := 37) C dX7_unfall_37 a_52 (by decide) (by omega) rfl (r_2052 _) (by omega) ?_
  exact zs_vret (pc := 38) C hr hlk dX7_unfall_38 ⟨by repeat (first | exact zsm_rf | assumption | refine zsm_C (by decide) ?_ | refine zsm_I (by decide) ?_ | refine zsm_J ?_ | refine zsm_c (by assumption) (by decide) ?_), by repeat (first | assumption | apply QQw_510 | apply QQw_2026 | apply QQw_2027 | apply QQw_2028 | apply QQw_2029 | apply QQw_2030 | apply QQw_2031 | apply QQw_2032 | apply QQw_2033 | apply QQw_2034 | apply QQw_2035 | apply QQw_2048 | apply QQw_2049 | apply QQw_2050 | apply QQw_2051 | apply QQw_2052 | apply QQw_2053 | apply QQw_2054 | apply QQw_809 | apply QQw_810 | apply QQw_811 | apply QQw_812 | apply QQw_813 | apply QQ_J | refine QQ_n (by assumption) ?_ | refine QQ_sm (by assumption) (by decide) (by decide +kernel) ?_)⟩

theorem sM_in4 {A W : aS} (hW : WI A W) {p : Int} (hp : 0 ≤ p ∧ p ≤ 4) : 0 ≤ wPr W p ∧ wPr W p ≤ 396 := by
  have := sM_in (f := W 12) (b := (p * 4).toNat) 4 (fun i hi => by have := hW.2.2.1 ((p * 4).toNat + i) (by omega); omega)
  unfold wPr
  omega
theorem wNm_in {A W : aS} (hT : TA A) (hW : WI A W) {p s : Int} (hp : 0 ≤ p ∧ p ≤ 4) (hs : 0 ≤ s ∧ s ≤ 3) (hps : p < A 4 1 ∧ s < A 4 0) : ∀ j : Nat, j < 7 → -2147483648 ≤ wNm A W p s j ∧ wNm A W p s j ≤ 2147483647 := by
  intro j hj
  have h1 := hT.2.1 s.toNat (by omega)
  have h2 := hT.2.2.1 p.toNat (by omega)
  have h3 := hW.2.2.2.2.1 p.toNat (by omega)
  have h4 := sM_in4 hW hp
  have h5 := hW.1
  obtain ⟨h6, -, h7, -⟩ := hW.2.2.2.2.2
  unfold wNm
  (repeat' split) <;> omega
theorem mu99 {a b : Int} (ha : 0 ≤ a ∧ a ≤ 99) (hb : 0 ≤ b ∧ b ≤ 99) : 0 ≤ a * b ∧ a * b ≤ 9801 := ⟨Int.mul_nonneg ha.1 hb.1, Int.le_trans (Int.mul_le_mul_of_nonneg_right ha.2 hb.1) (by omega)⟩
theorem wSum_in {A W : aS} (hT : TA A) (hW : WI A W) {p : Int} (hp : 0 ≤ p ∧ p ≤ 4) : ∀ m : Nat, (m : Int) ≤ A 4 0 → 0 ≤ wSum A (W 12) p m ∧ wSum A (W 12) p m ≤ 9801 * m
  | 0, _ => by simp [wSum]
  | m + 1, h => by
    have h1 := wSum_in hT hW hp m (by omega)
    have h2 := hT.1
    have h3 := hT.2.1 m (by omega)
    have h4 := hW.2.2.1 ((p * 4).toNat + m) (by omega)
    have h5 := mu99 (a := W 12 ((p * 4).toNat + m)) (b := A 6 m) (by omega) h3
    rw [wSum]
    omega
theorem wNp_in {A W : aS} (hT : TA A) (hW : WI A W) {p q : Int} (hp : 0 ≤ p ∧ p ≤ 4) (hq : 0 ≤ q ∧ q ≤ 4) (hpq : p < A 4 1 ∧ q < A 4 1) : ∀ j : Nat, j < 7 → -2147483648 ≤ wNp A W p q j ∧ wNp A W p q j ≤ 2147483647 := by
  intro j hj
  have h0 := hT.1
  have h1 := wSum_in hT hW hp (A 4 0).toNat (by omega)
  have h8 := wSum_in hT hW hq (A 4 0).toNat (by omega)
  have h2 := hT.2.2.1 q.toNat (by omega)
  have h4 := sM_in4 hW hp
  obtain ⟨h6, -, h7, -⟩ := hW.2.2.2.2.2
  unfold wNp
  (repeat' split) <;> omega
theorem wLie_01 {W : aS} {k s : Int} : 0 ≤ wLie W k s ∧ wLie W k s ≤ 1 := by
  unfold wLie
  split <;> decide
theorem wNs_in {A W : aS} (hT : TA A) (hW : WI A W) {a s : Int} (ha : 0 ≤ a ∧ a < W 0 0) (hs : 0 ≤ s ∧ s ≤ 3) (hs2 : s < A 4 0) : ∀ j : Nat, j < 7 → -2147483648 ≤ wNs A W a s j ∧ wNs A W a s j ≤ 2147483647 := by
  intro j hj
  have h0 := hT.1
  have h1 := hT.2.1 s.toNat (by omega)
  obtain ⟨k1, k2, k3, k4, k5, k6, k7, k8, k9, k10⟩ := hW.2.1 a.toNat (by omega)
  have h2 := hT.2.2.1 (W 1 a.toNat).toNat (by omega)
  have h3 := wLie_01 (W := W) (k := a) (s := s)
  unfold wNs
  (repeat' split) <;> omega

set_option maxHeartbeats 4000000 in
set_option maxRecDepth 100000 in
theorem c_X7_setNamesK {l : Launch} {Γ : zΓ} {G : zH} {w t : Nat} {A W : aS} {p s : Int} (hX : zXs Γ) (hZ : QQ Γ w t A W G) (hW : WI A W) (hp : 0 ≤ p ∧ p ≤ 4) (hs : 0 ≤ s ∧ s ≤ 3)  : zMet l Γ yX7_setNames cX7_setNames 4 none 1 [zr 8 w, zi p, zi s] G (zpv (fun G' => zsm [] G G' ∧ (∀ j : Nat, j < 7 → (G'.2.1 2018 (Γ.2.1 (Γ.2.1 t 0) 4)) j = wNm A W p s j))) := by
  have hI := QQ_t hZ
  refine zMet_of RX7 hX (by decide) rfl (Nat.le_of_ble_eq_true rfl) ?_
  intro px9 e sx9 m args below meth c C hr hlk
  show Z px9 l e (zrm 1) sx9 m args below meth c Γ 4 0 0 (MQ below (zQc Γ (zpv (fun G' => zsm [] G G' ∧ (∀ j : Nat, j < 7 → (G'.2.1 2018 (Γ.2.1 (Γ.2.1 t 0) 4)) j = wNm A W p s j)))) args sx9 0 0 (zA Γ)) 0 [some (zr 8 w), some (zi p), some (zi s), none] [] G
  refine zs_loc 1 rfl (fun ha1 hb1 => ?_)
  refine zs_loc 2 rfl (fun ha2 hb2 => ?_)
  refine zs_aload_n (pc := 0) C dX7_setNames_0 rfl ?_
  refine zs_iload_n (pc := 1) C dX7_setNames_1 rfl ?_
  refine zs_iload_n (pc := 2) C dX7_setNames_2 rfl ?_
  refine zVip2 (pc := 3) C dX7_setNames_3 v_X7_101 (c_X7_leftOfK hX (by repeat (first | assumption | apply QQw_510 | apply QQw_2026 | apply QQw_2027 | apply QQw_2028 | apply QQw_2029 | apply QQw_2030 | apply QQw_2031 | apply QQw_2032 | apply QQw_2033 | apply QQw_2034 | apply QQw_2035 | apply QQw_2048 | apply QQw_2049 | apply QQw_2050 | apply QQw_2051 | apply QQw_2052 | apply QQw_2053 | apply QQw_2054 | apply QQw_809 | apply QQw_810 | apply QQw_811 | apply QQw_812 | apply QQw_813 | apply QQ_J | refine QQ_n (by assumption) ?_ | refine QQ_sm (by assumption) (by decide) (by decide +kernel) ?_)) (by omega) (by omega)) (by decide) (by decide) ⟨Nat.zero_le _, Nat.zero_le _⟩ (Nat.le_of_ble_eq_true rfl) (fun x3 l3 u3 hp3 => ?_)
  have hq3 := hp3
  refine zs_if_le (tgt := 13) (pc := 6) C dX7_setNames_6 (by decide) (fun h6 => ?_) (fun h6 => ?_)
  · skip
    refine zs_iconst (pc := 13) C dX7_setNames_13 (by decide) ?_
    refine zs_istore_n (pc := 14) C dX7_setNames_14 (by decide) ?_
    dsimp only [zset, zclr, znone]
    refine zs_aload_n (pc := 15) C dX7_setNames_15 rfl ?_
    refine zs_getd (r := 800) (pc := 16) C dX7_setNames_16 w_X7_40 f_8_0 (by decide) rfl (fun v16 e16 t16 => ?_)
    rw [hI] at e16
    subst v16
    refine zs_getf (pc := 19) C dX7_setNames_19 w_X7_105 f_6_0 (by decide) ?_
    refine zs_aload_n (pc := 22) C dX7_setNames_22 rfl ?_
    refine zs_getd (r := 800) (pc := 23) C dX7_setNames_23 w_X7_40 f_8_0 (by decide) rfl (fun v23 e23 t23 => ?_)
    rw [hI] at e23
    subst v23
    refine zs_getf (pc := 26) C dX7_setNames_26 w_X7_98 f_6_3 (by decide) ?_
    refine zs_iload_n (pc := 29) C dX7_setNames_29 rfl ?_
    refine zs_iald (r := 2038) (pc := 30) C dX7_setNames_30 a_38 (by decide) (by omega) rfl (r_2038 _) (fun v30 e30 l30 u30 => ?_)
    try simp only [QQ_2038 hZ] at e30
    try subst v30
    refine zs_aload_n (pc := 31) C dX7_setNames_31 rfl ?_
    refine zs_getf (pc := 32) C dX7_setNames_32 w_X7_25 f_8_4 (by decide) ?_
    refine zs_iload_n (pc := 35) C dX7_setNames_35 rfl ?_
    refine zs_iald (r := 2050) (pc := 36) C dX7_setNames_36 a_50 (by decide) (by omega) rfl (r_2050 _) (fun v36 e36 l36 u36 => ?_)
    try simp only [QQ_2050 hZ] at e36
    try subst v36
    refine zs_aload_n (pc := 37) C dX7_setNames_37 rfl ?_
    refine zs_geti (r := 811) (pc := 38) C dX7_setNames_38 w_X7_79 f_8_11 rfl (r_811 0) (fun v38 e38 l38 u38 => ?_)
    try simp only [QQ_811 hZ] at e38
    try subst v38
    refine zs_aload_n (pc := 41) C dX7_setNames_41 rfl ?_
    refine zs_iload_n (pc := 42) C dX7_setNames_42 rfl ?_
    refine zVip1 (pc := 43) C dX7_setNames_43 v_X7_109 (c_X7_prideOfK hX (by repeat (first | assumption | apply QQw_510 | apply QQw_2026 | apply QQw_2027 | apply QQw_2028 | apply QQw_2029 | apply QQw_2030 | apply QQw_2031 | apply QQw_2032 | apply QQw_2033 | apply QQw_2034 | apply QQw_2035 | apply QQw_2048 | apply QQw_2049 | apply QQw_2050 | apply QQw_2051 | apply QQw_2052 | apply QQw_2053 | apply QQw_2054 | apply QQw_809 | apply QQw_810 | apply QQw_811 | apply QQw_812 | apply QQw_813 | apply QQ_J | refine QQ_n (by assumption) ?_ | refine QQ_sm (by assumption) (by decide) (by decide +kernel) ?_)) (by first | exact hL | exact WI_WL hW) (by omega)) (by decide) (by decide) ⟨Nat.zero_le _, Nat.zero_le _⟩ (Nat.le_of_ble_eq_true rfl) (fun x43 l43 u43 hp43 => ?_)
    have hq43 := hp43
    refine zs_iload_n (pc := 46) C dX7_setNames_46 rfl ?_
    refine zs_aload_n (pc := 47) C dX7_setNames_47 rfl ?_
    refine zs_getd (r := 800) (pc := 48) C dX7_setNames_48 w_X7_40 f_8_0 (by decide) rfl (fun v48 e48 t48 => ?_)
    rw [hI] at e48
    subst v48
    refine zs_getf (pc := 51) C dX7_setNames_51 w_X7_113 f_6_4 (by decide) ?_
    refine zs_iload_n (pc := 54) C dX7_setNames_54 rfl ?_
    refine zs_iald (r := 2039) (pc := 55) C dX7_setNames_55 a_39 (by decide) (by omega) rfl (r_2039 _) (fun v55 e55 l55 u55 => ?_)
    try simp only [QQ_2039 hZ] at e55
    try subst v55
    refine zs_aload_n (pc := 56) C dX7_setNames_56 rfl ?_
    refine zs_geti (r := 809) (pc := 57) C dX7_setNames_57 w_X7_69 f_8_9 rfl (r_809 0) (fun v57 e57 l57 u57 => ?_)
    try simp only [QQ_809 hZ] at e57
    try subst v57
    refine zVv7 (pc := 60) C dX7_setNames_60 v_X7_116 (c_X1_setNamesK hX ) (by decide) (by decide) ⟨Nat.zero_le _, Nat.zero_le _⟩ (Nat.le_of_ble_eq_true rfl) (fun G60 hp60 => ?_)
    obtain ⟨hz60, hq60⟩ := hp60
    exact zs_vret (pc := 63) C hr hlk dX7_setNames_63 ⟨hz60, fun j hj => by rcases (show j = 0 ∨ j = 1 ∨ j = 2 ∨ j = 3 ∨ j = 4 ∨ j = 5 ∨ j = 6 by omega) with rfl | rfl | rfl | rfl | rfl | rfl | rfl; exact hq60 0 (by decide); exact hq60 1 (by decide); exact hq60 2 (by decide); exact (hq60 3 (by decide)).trans hq43; exact (hq60 4 (by decide)).trans (by first | (show (0 : Int) = if 0 < wL W p s then 0 else 1; rw [if_pos (by omega)]) | (show (1 : Int) = if 0 < wL W p s then 0 else 1; rw [if_neg (by omega)])); exact hq60 5 (by decide); exact hq60 6 (by decide)⟩
  · skip
    refine zs_iconst (pc := 9) C dX7_setNames_9 (by decide) ?_
    refine zs_goto (tgt := 14) (pc := 10) C dX7_setNames_10 (by decide) ?_
    refine zs_istore_n (pc := 14) C dX7_setNames_14 (by decide) ?_
    dsimp only [zset, zclr, znone]
    refine zs_aload_n (pc := 15) C dX7_setNames_15 rfl ?_
    refine zs_getd (r := 800) (pc := 16) C dX7_setNames_16 w_X7_40 f_8_0 (by decide) rfl (fun v16 e16 t16 => ?_)
    rw [hI] at e16
    subst v16
    refine zs_getf (pc := 19) C dX7_setNames_19 w_X7_105 f_6_0 (by decide) ?_
    refine zs_aload_n (pc := 22) C dX7_setNames_22 rfl ?_
    refine zs_getd (r := 800) (pc := 23) C dX7_setNames_23 w_X7_40 f_8_0 (by decide) rfl (fun v23 e23 t23 => ?_)
    rw [hI] at e23
    subst v23
    refine zs_getf (pc := 26) C dX7_setNames_26 w_X7_98 f_6_3 (by decide) ?_
    refine zs_iload_n (pc := 29) C dX7_setNames_29 rfl ?_
    refine zs_iald (r := 2038) (pc := 30) C dX7_setNames_30 a_38 (by decide) (by omega) rfl (r_2038 _) (fun v30 e30 l30 u30 => ?_)
    try simp only [QQ_2038 hZ] at e30
    try subst v30
    refine zs_aload_n (pc := 31) C dX7_setNames_31 rfl ?_
    refine zs_getf (pc := 32) C dX7_setNames_32 w_X7_25 f_8_4 (by decide) ?_
    refine zs_iload_n (pc := 35) C dX7_setNames_35 rfl ?_
    refine zs_iald (r := 2050) (pc := 36) C dX7_setNames_36 a_50 (by decide) (by omega) rfl (r_2050 _) (fun v36 e36 l36 u36 => ?_)
    try simp only [QQ_2050 hZ] at e36
    try subst v36
    refine zs_aload_n (pc := 37) C dX7_setNames_37 rfl ?_
    refine zs_geti (r := 811) (pc := 38) C dX7_setNames_38 w_X7_79 f_8_11 rfl (r_811 0) (fun v38 e38 l38 u38 => ?_)
    try simp only [QQ_811 hZ] at e38
    try subst v38
    refine zs_aload_n (pc := 41) C dX7_setNames_41 rfl ?_
    refine zs_iload_n (pc := 42) C dX7_setNames_42 rfl ?_
    refine zVip1 (pc := 43) C dX7_setNames_43 v_X7_109 (c_X7_prideOfK hX (by repeat (first | assumption | apply QQw_510 | apply QQw_2026 | apply QQw_2027 | apply QQw_2028 | apply QQw_2029 | apply QQw_2030 | apply QQw_2031 | apply QQw_2032 | apply QQw_2033 | apply QQw_2034 | apply QQw_2035 | apply QQw_2048 | apply QQw_2049 | apply QQw_2050 | apply QQw_2051 | apply QQw_2052 | apply QQw_2053 | apply QQw_2054 | apply QQw_809 | apply QQw_810 | apply QQw_811 | apply QQw_812 | apply QQw_813 | apply QQ_J | refine QQ_n (by assumption) ?_ | refine QQ_sm (by assumption) (by decide) (by decide +kernel) ?_)) (by first | exact hL | exact WI_WL hW) (by omega)) (by decide) (by decide) ⟨Nat.zero_le _, Nat.zero_le _⟩ (Nat.le_of_ble_eq_true rfl) (fun x43 l43 u43 hp43 => ?_)
    have hq43 := hp43
    refine zs_iload_n (pc := 46) C dX7_setNames_46 rfl ?_
    refine zs_aload_n (pc := 47) C dX7_setNames_47 rfl ?_
    refine zs_getd (r := 800) (pc := 48) C dX7_setNames_48 w_X7_40 f_8_0 (by decide) rfl (fun v48 e48 t48 => ?_)
    rw [hI] at e48
    subst v48
    refine zs_getf (pc := 51) C dX7_setNames_51 w_X7_113 f_6_4 (by decide) ?_
    refine zs_iload_n (pc := 54) C dX7_setNames_54 rfl ?_
    refine zs_iald (r := 2039) (pc := 55) C dX7_setNames_55 a_39 (by decide) (by omega) rfl (r_2039 _) (fun v55 e55 l55 u55 => ?_)
    try simp only [QQ_2039 hZ] at e55
    try subst v55
    refine zs_aload_n (pc := 56) C dX7_setNames_56 rfl ?_
    refine zs_geti (r := 809) (pc := 57) C dX7_setNames_57 w_X7_69 f_8_9 rfl (r_809 0) (fun v57 e57 l57 u57 => ?_)
    try simp only [QQ_809 hZ] at e57
    try subst v57
    refine zVv7 (pc := 60) C dX7_setNames_60 v_X7_116 (c_X1_setNamesK hX ) (by decide) (by decide) ⟨Nat.zero_le _, Nat.zero_le _⟩ (Nat.le_of_ble_eq_true rfl) (fun G60 hp60 => ?_)
    obtain ⟨hz60, hq60⟩ := hp60
    exact zs_vret (pc := 63) C hr hlk dX7_setNames_63 ⟨hz60, fun j hj => by rcases (show j = 0 ∨ j = 1 ∨ j = 2 ∨ j = 3 ∨ j = 4 ∨ j = 5 ∨ j = 6 by omega) with rfl | rfl | rfl | rfl | rfl | rfl | rfl; exact hq60 0 (by decide); exact hq60 1 (by decide); exact hq60 2 (by decide); exact (hq60 3 (by decide)).trans hq43; exact (hq60 4 (by decide)).trans (by first | (show (0 : Int) = if 0 < wL W p s then 0 else 1; rw [if_pos (by omega)]) | (show (1 : Int) = if 0 < wL W p s then 0 else 1; rw [if_neg (by omega)])); exact hq60 5 (by decide); exact hq60 6 (by decide)⟩

set_option maxHeartbeats 4000000 in
set_option maxRecDepth 100000 in
theorem c_X7_valueOfK {l : Launch} {Γ : zΓ} {G : zH} {w t : Nat} {A W : aS} {k p s : Int} (hX : zXs Γ) (hZ : QQ Γ w t A W G) (hW : WI A W) (hT : TA A) (hp : 0 ≤ p ∧ p ≤ 4) (hs : 0 ≤ s ∧ s ≤ 3) (hps : p < A 4 1 ∧ s < A 4 0) (hk : 0 ≤ k ∧ k < 7) : zMet l Γ yX7_valueOf cX7_valueOf 4 (some .long) 2 [zr 8 w, zi k, zi p, zi s] G (zpj (fun x G' => zsm [] G G' ∧ (x = wLaw A W k p s))) := by
  have hI := QQ_t hZ
  refine zMet_of RX7 hX (by decide) rfl (Nat.le_of_ble_eq_true rfl) ?_
  intro px9 e sx9 m args below meth c C hr hlk
  show Z px9 l e (zrm 2) sx9 m args below meth c Γ 4 0 0 (MQ below (zQc Γ (zpj (fun x G' => zsm [] G G' ∧ (x = wLaw A W k p s)))) args sx9 0 0 (zA Γ)) 0 [some (zr 8 w), some (zi k), some (zi p), some (zi s)] [] G
  refine zs_loc 1 rfl (fun ha1 hb1 => ?_)
  refine zs_loc 2 rfl (fun ha2 hb2 => ?_)
  refine zs_loc 3 rfl (fun ha3 hb3 => ?_)
  refine zs_aload_n (pc := 0) C dX7_valueOf_0 rfl ?_
  refine zs_iload_n (pc := 1) C dX7_valueOf_1 rfl ?_
  refine zs_iload_n (pc := 2) C dX7_valueOf_2 rfl ?_
  refine zVv2 (pc := 3) C dX7_valueOf_3 v_X7_122 (c_X7_setNamesK hX (by repeat (first | assumption | apply QQw_510 | apply QQw_2026 | apply QQw_2027 | apply QQw_2028 | apply QQw_2029 | apply QQw_2030 | apply QQw_2031 | apply QQw_2032 | apply QQw_2033 | apply QQw_2034 | apply QQw_2035 | apply QQw_2048 | apply QQw_2049 | apply QQw_2050 | apply QQw_2051 | apply QQw_2052 | apply QQw_2053 | apply QQw_2054 | apply QQw_809 | apply QQw_810 | apply QQw_811 | apply QQw_812 | apply QQw_813 | apply QQ_J | refine QQ_n (by assumption) ?_ | refine QQ_sm (by assumption) (by decide) (by decide +kernel) ?_)) hW (by omega) (by omega)) (by decide) (by decide) ⟨Nat.zero_le _, Nat.zero_le _⟩ (Nat.le_of_ble_eq_true rfl) (fun G3 hp3 => ?_)
  obtain ⟨hz3, hq3⟩ := hp3
  first | have hZ3 := QQ_n hz3 hZ | have hZ3 := QQ_n hz3 hZ1
  refine zs_aload_n (pc := 6) C dX7_valueOf_6 rfl ?_
  refine zs_getd (r := 800) (pc := 7) C dX7_valueOf_7 w_X7_40 f_8_0 (by decide) rfl (fun v7 e7 t7 => ?_)
  try simp only [hz3.2, zuI_1, zuI_2, zuJ_1, zuJ_2, zuJ_3, zuP_1, zuP_2, zuP_3, zuC_1, zuC_2, reduceIte, Nat.reduceEqDiff, false_and, and_false, true_and, and_true, and_self, or_true, true_or, or_false, false_or] at e7
  rw [hI] at e7
  subst v7
  refine zs_getf (pc := 10) C dX7_valueOf_10 w_X7_105 f_6_0 (by decide) ?_
  refine zs_iload_n (pc := 13) C dX7_valueOf_13 rfl ?_
  refine zVj1 (pc := 14) C dX7_valueOf_14 v_X7_125 (c_X1_valueK (nm := wNm A W p s) hX hZ3.2.1 hT.2.2.2.2.2.2 hk hq3 (wNm_in hT hW hp hs hps)) (by decide) (by decide) ⟨Nat.zero_le _, Nat.zero_le _⟩ (Nat.le_of_ble_eq_true rfl) (fun x14 G14 l14 u14 hp14 => ?_)
  obtain ⟨hz14, hq14⟩ := hp14
  exact zs_lret (pc := 17) C hr hlk dX7_valueOf_17 ⟨by repeat (first | exact zsm_rf | assumption | refine zsm_C (by decide) ?_ | refine zsm_I (by decide) ?_ | refine zsm_J ?_ | refine zsm_c (by assumption) (by decide) ?_), hq14.1⟩

set_option maxHeartbeats 4000000 in
set_option maxRecDepth 100000 in
theorem c_X7_fineOfK {l : Launch} {Γ : zΓ} {G : zH} {w t : Nat} {A W : aS} {p s : Int} (hX : zXs Γ) (hZ : QQ Γ w t A W G) (hW : WI A W) (hT : TA A) (hp : 0 ≤ p ∧ p ≤ 4) (hs : 0 ≤ s ∧ s ≤ 3) (hps : p < A 4 1 ∧ s < A 4 0)  : zMet l Γ yX7_fineOf cX7_fineOf 3 (some .int) 3 [zr 8 w, zi p, zi s] G (zpi (fun x G' => zsm [] G G' ∧ (x = wFine A W p s))) := by
  have hI := QQ_t hZ
  refine zMet_of RX7 hX (by decide) rfl (Nat.le_of_ble_eq_true rfl) ?_
  intro px9 e sx9 m args below meth c C hr hlk
  show Z px9 l e (zrm 3) sx9 m args below meth c Γ 3 0 0 (MQ below (zQc Γ (zpi (fun x G' => zsm [] G G' ∧ (x = wFine A W p s)))) args sx9 0 0 (zA Γ)) 0 [some (zr 8 w), some (zi p), some (zi s)] [] G
  refine zs_loc 1 rfl (fun ha1 hb1 => ?_)
  refine zs_loc 2 rfl (fun ha2 hb2 => ?_)
  refine zs_aload_n (pc := 0) C dX7_fineOf_0 rfl ?_
  refine zs_iload_n (pc := 1) C dX7_fineOf_1 rfl ?_
  refine zs_iload_n (pc := 2) C dX7_fineOf_2 rfl ?_
  refine zVv2 (pc := 3) C dX7_fineOf_3 v_X7_122 (c_X7_setNamesK hX (by repeat (first | assumption | apply QQw_510 | apply QQw_2026 | apply QQw_2027 | apply QQw_2028 | apply QQw_2029 | apply QQw_2030 | apply QQw_2031 | apply QQw_2032 | apply QQw_2033 | apply QQw_2034 | apply QQw_2035 | apply QQw_2048 | apply QQw_2049 | apply QQw_2050 | apply QQw_2051 | apply QQw_2052 | apply QQw_2053 | apply QQw_2054 | apply QQw_809 | apply QQw_810 | apply QQw_811 | apply QQw_812 | apply QQw_813 | apply QQ_J | refine QQ_n (by assumption) ?_ | refine QQ_sm (by assumption) (by decide) (by decide +kernel) ?_)) hW (by omega) (by omega)) (by decide) (by decide) ⟨Nat.zero_le _, Nat.zero_le _⟩ (Nat.le_of_ble_eq_true rfl) (fun G3 hp3 => ?_)
  obtain ⟨hz3, hq3⟩ := hp3
  first | have hZ3 := QQ_n hz3 hZ | have hZ3 := QQ_n hz3 hZ1
  refine zs_aload_n (pc := 6) C dX7_fineOf_6 rfl ?_
  refine zs_getd (r := 800) (pc := 7) C dX7_fineOf_7 w_X7_40 f_8_0 (by decide) rfl (fun v7 e7 t7 => ?_)
  try simp only [hz3.2, zuI_1, zuI_2, zuJ_1, zuJ_2, zuJ_3, zuP_1, zuP_2, zuP_3, zuC_1, zuC_2, reduceIte, Nat.reduceEqDiff, false_and, and_false, true_and, and_true, and_self, or_true, true_or, or_false, false_or] at e7
  rw [hI] at e7
  subst v7
  refine zs_iconst (pc := 10) C dX7_fineOf_10 (by decide) ?_
  refine zs_iload_n (pc := 11) C dX7_fineOf_11 rfl ?_
  refine zVi2 (pc := 12) C dX7_fineOf_12 v_X7_132 (c_X5_finenessK (nm := wNm A W p s) hX hZ3.2.1 hT.2.2.2.2.2.2 (by omega) hq3 (wNm_in hT hW hp hs hps) hs) (by decide) (by decide) ⟨Nat.zero_le _, Nat.zero_le _⟩ (Nat.le_of_ble_eq_true rfl) (fun x12 G12 l12 u12 hp12 => ?_)
  obtain ⟨hz12, hq12⟩ := hp12
  exact zs_iret (pc := 15) C hr hlk dX7_fineOf_15 ⟨by repeat (first | exact zsm_rf | assumption | refine zsm_C (by decide) ?_ | refine zsm_I (by decide) ?_ | refine zsm_J ?_ | refine zsm_c (by assumption) (by decide) ?_), hq12.1⟩

set_option maxHeartbeats 4000000 in
set_option maxRecDepth 100000 in
theorem c_X7_worthLeftK {l : Launch} {Γ : zΓ} {G : zH} {w t : Nat} {A W : aS} {p : Int} (hX : zXs Γ) (hZ : QQ Γ w t A W G) (hW : WI A W) (hT : TA A) (hp : 0 ≤ p ∧ p ≤ 4)  : zMet l Γ yX7_worthLeft cX7_worthLeft 4 (some .int) 0 [zr 8 w, zi p] G (zpi (fun x G' => G' = G ∧ (x = wSum A (W 12) p (A 4 0).toNat ∧ 0 ≤ x ∧ x ≤ 39204))) := by
  have hI := QQ_t hZ
  refine zMet_of RX7 hX (by decide) rfl (Nat.le_of_ble_eq_true rfl) ?_
  intro px9 e s m args below meth c C hr hlk
  show Z px9 l e (zrm 0) s m args below meth c Γ 4 0 0 (MQ below (zQc Γ (zpi (fun x G' => G' = G ∧ (x = wSum A (W 12) p (A 4 0).toNat ∧ 0 ≤ x ∧ x ≤ 39204)))) args s 0 0 (zA Γ)) 0 [some (zr 8 w), some (zi p), none, none] [] G
  refine zs_loc 1 rfl (fun ha1 hb1 => ?_)
  refine zs_iconst (pc := 0) C dX7_worthLeft_0 (by decide) ?_
  refine zs_istore_n (pc := 1) C dX7_worthLeft_1 (by decide) ?_
  dsimp only [zset, zclr, znone]
  refine zs_iconst (pc := 2) C dX7_worthLeft_2 (by decide) ?_
  refine zs_istore_n (pc := 3) C dX7_worthLeft_3 (by decide) ?_
  dsimp only [zset, zclr, znone]
  have L4 : ∀ (nn : Nat) (x2 x3 : Int), (0 ≤ x3 ∧ x3 ≤ A 4 0) → (x2 = wSum A (W 12) p x3.toNat) → (0 ≤ x2 ∧ x2 ≤ 9801 * x3) → (4 - x3).toNat < nn → Z px9 l e (zrm 0) s m args below meth c Γ 4 0 0 (MQ below (zQc Γ (zpi (fun x G' => G' = G ∧ (x = wSum A (W 12) p (A 4 0).toNat ∧ 0 ≤ x ∧ x ≤ 39204)))) args s 0 0 (zA Γ)) 4 [some (zr 8 w), some (zi p), some (zi x2), some (zi x3)] [] G := by
    intro nn
    induction nn with
    | zero => intro x2 x3 h4_0 h4_1 h4_2 hm; exact absurd hm (Nat.not_lt_zero _)
    | succ nn ih4 =>
      intro x2 x3 h4_0 h4_1 h4_2 hm4
      refine zs_iload_n (pc := 4) C dX7_worthLeft_4 rfl ?_
      refine zs_aload_n (pc := 5) C dX7_worthLeft_5 rfl ?_
      refine zs_getd (r := 800) (pc := 6) C dX7_worthLeft_6 w_X7_40 f_8_0 (by decide) rfl (fun v6 e6 t6 => ?_)
      rw [hI] at e6
      subst v6
      refine zs_getf (pc := 9) C dX7_worthLeft_9 w_X7_95 f_6_2 (by decide) ?_
      refine zs_iconst (pc := 12) C dX7_worthLeft_12 (by decide) ?_
      refine zs_iald (r := 2037) (pc := 13) C dX7_worthLeft_13 a_37 (by decide) (by omega) rfl rfl (fun v13 e13 l13 u13 => ?_)
      try simp only [QQ_2037 hZ, Int.reduceToNat] at e13
      try subst v13
      have hz9 := hT.1
      refine zs_icmp_ge (tgt := 46) (pc := 14) C dX7_worthLeft_14 (by decide) (fun h14 => ?_) (fun h14 => ?_)
      · skip
        have hx3 : x3 = A 4 0 := by omega
        rw [hx3] at h4_1
        refine zs_iload_n (pc := 46) C dX7_worthLeft_46 rfl ?_
        exact zs_iret (pc := 47) C hr hlk dX7_worthLeft_47 ⟨rfl, ⟨h4_1, by omega, by omega⟩⟩
      · skip
        have hl := WI_L hW hp (s := x3) (by omega)
        have hs := wSum_s (A := A) (W := W) (p := p) (k := x3) (by omega)
        rw [show (p * 4).toNat + x3.toNat = (p * 4 + x3).toNat by omega] at hs
        have hv := hT.2.1 x3.toNat (by omega)
        have hm := mu99 (a := W 12 (p * 4 + x3).toNat) (b := A 6 x3.toNat) (by omega) (by omega)
        refine zs_iload_n (pc := 17) C dX7_worthLeft_17 rfl ?_
        refine zs_aload_n (pc := 18) C dX7_worthLeft_18 rfl ?_
        refine zs_getf (pc := 19) C dX7_worthLeft_19 w_X7_22 f_8_3 (by decide) ?_
        refine zs_iload_n (pc := 22) C dX7_worthLeft_22 rfl ?_
        refine zs_iconst (pc := 23) C dX7_worthLeft_23 (by decide) ?_
        first | refine zs_imul (pc := 24) C dX7_worthLeft_24 (by omega) ?_ | refine zs_imulF (pc := 24) C dX7_worthLeft_24 (fun z24 hz241 hz242 => ?_)
        refine zs_iload_n (pc := 25) C dX7_worthLeft_25 rfl ?_
        first | refine zs_iadd (pc := 26) C dX7_worthLeft_26 (by omega) ?_ | refine zs_iaddF (pc := 26) C dX7_worthLeft_26 (fun z26 hz261 hz262 => ?_)
        refine zs_iald (r := 2049) (pc := 27) C dX7_worthLeft_27 a_49 (by decide) (by omega) rfl (r_2049 _) (fun v27 e27 l27 u27 => ?_)
        try simp only [QQ_2049 hZ] at e27
        try subst v27
        refine zs_aload_n (pc := 28) C dX7_worthLeft_28 rfl ?_
        refine zs_getd (r := 800) (pc := 29) C dX7_worthLeft_29 w_X7_40 f_8_0 (by decide) rfl (fun v29 e29 t29 => ?_)
        rw [hI] at e29
        subst v29
        refine zs_getf (pc := 32) C dX7_worthLeft_32 w_X7_98 f_6_3 (by decide) ?_
        refine zs_iload_n (pc := 35) C dX7_worthLeft_35 rfl ?_
        refine zs_iald (r := 2038) (pc := 36) C dX7_worthLeft_36 a_38 (by decide) (by omega) rfl (r_2038 _) (fun v36 e36 l36 u36 => ?_)
        try simp only [QQ_2038 hZ] at e36
        try subst v36
        first | refine zs_imul (pc := 37) C dX7_worthLeft_37 (by omega) ?_ | refine zs_imulF (pc := 37) C dX7_worthLeft_37 (fun z37 hz371 hz372 => ?_)
        first | refine zs_iadd (pc := 38) C dX7_worthLeft_38 (by omega) ?_ | refine zs_iaddF (pc := 38) C dX7_worthLeft_38 (fun z38 hz381 hz382 => ?_)
        refine zs_istore_n (pc := 39) C dX7_worthLeft_39 (by decide) ?_
        dsimp only [zset, zclr, znone]
        first | refine zs_iinc (pc := 40) C dX7_worthLeft_40 rfl (by decide) (by omega) ?_ | refine zs_iincF (pc := 40) C dX7_worthLeft_40 rfl (by decide) (fun z40 hz401 hz402 => ?_)
        dsimp only [zset, zclr, znone]
        refine zs_goto (tgt := 4) (pc := 43) C dX7_worthLeft_43 (by decide) ?_
        exact zs_wk (ih4 _ _ (by first | omega | (simp only [zuI_1, zuI_2, zuJ_1, zuJ_2, zuJ_3, zuP_1, zuP_2, zuP_3, zuC_1, zuC_2, reduceIte, Nat.reduceEqDiff, false_and, and_false, true_and, and_true, and_self, or_true, true_or, or_false, false_or]; omega)) (by first | omega | (simp only [zuI_1, zuI_2, zuJ_1, zuJ_2, zuJ_3, zuP_1, zuP_2, zuP_3, zuC_1, zuC_2, reduceIte, Nat.reduceEqDiff, false_and, and_false, true_and, and_true, and_self, or_true, true_or, or_false, false_or]; omega)) (by first | omega | (simp only [zuI_1, zuI_2, zuJ_1, zuJ_2, zuJ_3, zuP_1, zuP_2, zuP_3, zuC_1, zuC_2, reduceIte, Nat.reduceEqDiff, false_and, and_false, true_and, and_true, and_self, or_true, true_or, or_false, false_or]; omega)) (by first | omega | (simp only [zuI_1, zuI_2, zuJ_1, zuJ_2, zuJ_3, zuP_1, zuP_2, zuP_3, zuC_1, zuC_2, reduceIte, Nat.reduceEqDiff, false_and, and_false, true_and, and_true, and_self, or_true, true_or, or_false, false_or]; omega))) (zwk_s rfl (zwk_s rfl (zwk_s rfl (zwk_s rfl zwk_0))))
  exact zs_wk (L4 _ _ _ (by have := hT.1; omega) (show (0 : Int) = _ from rfl) (by omega) (Nat.lt_succ_self _)) (zwk_s rfl (zwk_s rfl (zwk_s rfl (zwk_s rfl zwk_0))))

set_option maxHeartbeats 4000000 in
set_option maxRecDepth 100000 in
theorem c_X7_pairValueK {l : Launch} {Γ : zΓ} {G : zH} {w t : Nat} {A W : aS} {p q : Int} (hX : zXs Γ) (hZ : QQ Γ w t A W G) (hW : WI A W) (hT : TA A) (hp : 0 ≤ p ∧ p ≤ 4) (hq : 0 ≤ q ∧ q ≤ 4) (hpq : p < A 4 1 ∧ q < A 4 1)  : zMet l Γ yX7_pairValue cX7_pairValue 3 (some .long) 2 [zr 8 w, zi p, zi q] G (zpj (fun x G' => zsm [] G G' ∧ (x = wPair A W p q))) := by
  have hI := QQ_t hZ
  refine zMet_of RX7 hX (by decide) rfl (Nat.le_of_ble_eq_true rfl) ?_
  intro px9 e s m args below meth c C hr hlk
  show Z px9 l e (zrm 2) s m args below meth c Γ 3 0 0 (MQ below (zQc Γ (zpj (fun x G' => zsm [] G G' ∧ (x = wPair A W p q)))) args s 0 0 (zA Γ)) 0 [some (zr 8 w), some (zi p), some (zi q)] [] G
  refine zs_loc 1 rfl (fun ha1 hb1 => ?_)
  refine zs_loc 2 rfl (fun ha2 hb2 => ?_)
  refine zs_aload_n (pc := 0) C dX7_pairValue_0 rfl ?_
  refine zs_getd (r := 800) (pc := 1) C dX7_pairValue_1 w_X7_40 f_8_0 (by decide) rfl (fun v1 e1 t1 => ?_)
  rw [hI] at e1
  subst v1
  refine zs_getf (pc := 4) C dX7_pairValue_4 w_X7_105 f_6_0 (by decide) ?_
  refine zs_aload_n (pc := 7) C dX7_pairValue_7 rfl ?_
  refine zs_iload_n (pc := 8) C dX7_pairValue_8 rfl ?_
  refine zVip1 (pc := 9) C dX7_pairValue_9 v_X7_129 (c_X7_worthLeftK hX (by repeat (first | assumption | apply QQw_510 | apply QQw_2026 | apply QQw_2027 | apply QQw_2028 | apply QQw_2029 | apply QQw_2030 | apply QQw_2031 | apply QQw_2032 | apply QQw_2033 | apply QQw_2034 | apply QQw_2035 | apply QQw_2048 | apply QQw_2049 | apply QQw_2050 | apply QQw_2051 | apply QQw_2052 | apply QQw_2053 | apply QQw_2054 | apply QQw_809 | apply QQw_810 | apply QQw_811 | apply QQw_812 | apply QQw_813 | apply QQ_J | refine QQ_n (by assumption) ?_ | refine QQ_sm (by assumption) (by decide) (by decide +kernel) ?_)) hW hT (by omega)) (by decide) (by decide) ⟨Nat.zero_le _, Nat.zero_le _⟩ (Nat.le_of_ble_eq_true rfl) (fun x9 l9 u9 hp9 => ?_)
  have hq9 := hp9
  refine zs_aload_n (pc := 12) C dX7_pairValue_12 rfl ?_
  refine zs_iload_n (pc := 13) C dX7_pairValue_13 rfl ?_
  refine zVip1 (pc := 14) C dX7_pairValue_14 v_X7_129 (c_X7_worthLeftK hX (by repeat (first | assumption | apply QQw_510 | apply QQw_2026 | apply QQw_2027 | apply QQw_2028 | apply QQw_2029 | apply QQw_2030 | apply QQw_2031 | apply QQw_2032 | apply QQw_2033 | apply QQw_2034 | apply QQw_2035 | apply QQw_2048 | apply QQw_2049 | apply QQw_2050 | apply QQw_2051 | apply QQw_2052 | apply QQw_2053 | apply QQw_2054 | apply QQw_809 | apply QQw_810 | apply QQw_811 | apply QQw_812 | apply QQw_813 | apply QQ_J | refine QQ_n (by assumption) ?_ | refine QQ_sm (by assumption) (by decide) (by decide +kernel) ?_)) hW hT (by omega)) (by decide) (by decide) ⟨Nat.zero_le _, Nat.zero_le _⟩ (Nat.le_of_ble_eq_true rfl) (fun x14 l14 u14 hp14 => ?_)
  have hq14 := hp14
  refine zs_aload_n (pc := 17) C dX7_pairValue_17 rfl ?_
  refine zs_geti (r := 811) (pc := 18) C dX7_pairValue_18 w_X7_79 f_8_11 rfl (r_811 0) (fun v18 e18 l18 u18 => ?_)
  try simp only [QQ_811 hZ] at e18
  try subst v18
  refine zs_aload_n (pc := 21) C dX7_pairValue_21 rfl ?_
  refine zs_iload_n (pc := 22) C dX7_pairValue_22 rfl ?_
  refine zVip1 (pc := 23) C dX7_pairValue_23 v_X7_109 (c_X7_prideOfK hX (by repeat (first | assumption | apply QQw_510 | apply QQw_2026 | apply QQw_2027 | apply QQw_2028 | apply QQw_2029 | apply QQw_2030 | apply QQw_2031 | apply QQw_2032 | apply QQw_2033 | apply QQw_2034 | apply QQw_2035 | apply QQw_2048 | apply QQw_2049 | apply QQw_2050 | apply QQw_2051 | apply QQw_2052 | apply QQw_2053 | apply QQw_2054 | apply QQw_809 | apply QQw_810 | apply QQw_811 | apply QQw_812 | apply QQw_813 | apply QQ_J | refine QQ_n (by assumption) ?_ | refine QQ_sm (by assumption) (by decide) (by decide +kernel) ?_)) (by first | exact hL | exact WI_WL hW) (by omega)) (by decide) (by decide) ⟨Nat.zero_le _, Nat.zero_le _⟩ (Nat.le_of_ble_eq_true rfl) (fun x23 l23 u23 hp23 => ?_)
  have hq23 := hp23
  refine zs_iconst (pc := 26) C dX7_pairValue_26 (by decide) ?_
  refine zs_aload_n (pc := 27) C dX7_pairValue_27 rfl ?_
  refine zs_getd (r := 800) (pc := 28) C dX7_pairValue_28 w_X7_40 f_8_0 (by decide) rfl (fun v28 e28 t28 => ?_)
  rw [hI] at e28
  subst v28
  refine zs_getf (pc := 31) C dX7_pairValue_31 w_X7_113 f_6_4 (by decide) ?_
  refine zs_iload_n (pc := 34) C dX7_pairValue_34 rfl ?_
  refine zs_iald (r := 2039) (pc := 35) C dX7_pairValue_35 a_39 (by decide) (by omega) rfl (r_2039 _) (fun v35 e35 l35 u35 => ?_)
  try simp only [QQ_2039 hZ] at e35
  try subst v35
  refine zs_aload_n (pc := 36) C dX7_pairValue_36 rfl ?_
  refine zs_geti (r := 809) (pc := 37) C dX7_pairValue_37 w_X7_69 f_8_9 rfl (r_809 0) (fun v37 e37 l37 u37 => ?_)
  try simp only [QQ_809 hZ] at e37
  try subst v37
  refine zVv7 (pc := 40) C dX7_pairValue_40 v_X7_116 (c_X1_setNamesK hX ) (by decide) (by decide) ⟨Nat.zero_le _, Nat.zero_le _⟩ (Nat.le_of_ble_eq_true rfl) (fun G40 hp40 => ?_)
  obtain ⟨hz40, hq40⟩ := hp40
  have hZ40 := QQ_n hz40 hZ
  have hn40 : ∀ j : Nat, j < 7 → G40.2.1 2018 (Γ.2.1 (Γ.2.1 t 0) 4) j = wNp A W p q j := fun j hj => by
    rw [hq40 j hj, hq9.1, hq14.1, hq23]
    unfold wNp
    rcases (show j = 0 ∨ j = 1 ∨ j = 2 ∨ j = 3 ∨ j = 4 ∨ j = 5 ∨ j = 6 by omega) with rfl | rfl | rfl | rfl | rfl | rfl | rfl <;> rfl
  refine zs_aload_n (pc := 43) C dX7_pairValue_43 rfl ?_
  refine zs_getd (r := 800) (pc := 44) C dX7_pairValue_44 w_X7_40 f_8_0 (by decide) rfl (fun v44 e44 t44 => ?_)
  try simp only [hz40.2, zuI_1, zuI_2, zuJ_1, zuJ_2, zuJ_3, zuP_1, zuP_2, zuP_3, zuC_1, zuC_2, reduceIte, Nat.reduceEqDiff, false_and, and_false, true_and, and_true, and_self, or_true, true_or, or_false, false_or] at e44
  rw [hI] at e44
  subst v44
  refine zs_getf (pc := 47) C dX7_pairValue_47 w_X7_105 f_6_0 (by decide) ?_
  refine zs_iconst (pc := 50) C dX7_pairValue_50 (by decide) ?_
  refine zVj1 (pc := 51) C dX7_pairValue_51 v_X7_125 (c_X1_valueK (nm := wNp A W p q) hX hZ40.2.1 hT.2.2.2.2.2.2 (by omega) hn40 (wNp_in hT hW hp hq hpq)) (by decide) (by decide) ⟨Nat.zero_le _, Nat.zero_le _⟩ (Nat.le_of_ble_eq_true rfl) (fun x51 G51 l51 u51 hp51 => ?_)
  obtain ⟨hz51, hq51⟩ := hp51
  exact zs_lret (pc := 54) C hr hlk dX7_pairValue_54 ⟨by repeat (first | exact zsm_rf | assumption | refine zsm_C (by decide) ?_ | refine zsm_I (by decide) ?_ | refine zsm_J ?_ | refine zsm_c (by assumption) (by decide) ?_), hq51.1⟩

set_option maxHeartbeats 4000000 in
set_option maxRecDepth 100000 in
theorem c_X7_fineThenK {l : Launch} {Γ : zΓ} {G : zH} {w t : Nat} {A W : aS} {a k s : Int} (hX : zXs Γ) (hZ : QQ Γ w t A W G) (hW : WI A W) (hT : TA A) (ha : 0 ≤ a ∧ a < W 0 0) (hs : 0 ≤ s ∧ s ≤ 3) (hs2 : s < A 4 0) (hk : 0 ≤ k ∧ k < 7) : zMet l Γ yX7_fineThen cX7_fineThen 4 (some .int) 3 [zr 8 w, zi a, zi k, zi s] G (zpi (fun x G' => zsm [] G G' ∧ (x = wThen A W a k s))) := by
  have hI := QQ_t hZ
  refine zMet_of RX7 hX (by decide) rfl (Nat.le_of_ble_eq_true rfl) ?_
  intro p e sx9 m args below meth c C hr hlk
  show Z p l e (zrm 3) sx9 m args below meth c Γ 4 0 0 (MQ below (zQc Γ (zpi (fun x G' => zsm [] G G' ∧ (x = wThen A W a k s)))) args sx9 0 0 (zA Γ)) 0 [some (zr 8 w), some (zi a), some (zi k), some (zi s)] [] G
  refine zs_loc 1 rfl (fun ha1 hb1 => ?_)
  refine zs_loc 2 rfl (fun ha2 hb2 => ?_)
  refine zs_loc 3 rfl (fun ha3 hb3 => ?_)
  have hk9 := hW.2.1 a.toNat (by omega)
  have h09 := hW.1
  have hz9 := hT.1
  refine zs_aload_n (pc := 0) C dX7_fineThen_0 rfl ?_
  refine zs_getd (r := 800) (pc := 1) C dX7_fineThen_1 w_X7_40 f_8_0 (by decide) rfl (fun v1 e1 t1 => ?_)
  rw [hI] at e1
  subst v1
  refine zs_getf (pc := 4) C dX7_fineThen_4 w_X7_105 f_6_0 (by decide) ?_
  refine zs_aload_n (pc := 7) C dX7_fineThen_7 rfl ?_
  refine zs_getd (r := 800) (pc := 8) C dX7_fineThen_8 w_X7_40 f_8_0 (by decide) rfl (fun v8 e8 t8 => ?_)
  rw [hI] at e8
  subst v8
  refine zs_getf (pc := 11) C dX7_fineThen_11 w_X7_98 f_6_3 (by decide) ?_
  refine zs_iload_n (pc := 14) C dX7_fineThen_14 rfl ?_
  refine zs_iald (r := 2038) (pc := 15) C dX7_fineThen_15 a_38 (by decide) (by omega) rfl (r_2038 _) (fun v15 e15 l15 u15 => ?_)
  try simp only [QQ_2038 hZ] at e15
  try subst v15
  refine zs_aload_n (pc := 16) C dX7_fineThen_16 rfl ?_
  refine zs_getf (pc := 17) C dX7_fineThen_17 w_X7_12 f_8_1 (by decide) ?_
  refine zs_getf (pc := 20) C dX7_fineThen_20 w_X7_135 f_5_5 (by decide) ?_
  refine zs_iload_n (pc := 23) C dX7_fineThen_23 rfl ?_
  refine zs_iald (r := 2031) (pc := 24) C dX7_fineThen_24 a_31 (by decide) (by omega) rfl (r_2031 _) (fun v24 e24 l24 u24 => ?_)
  try simp only [QQ_2031 hZ] at e24
  try subst v24
  refine zs_aload_n (pc := 25) C dX7_fineThen_25 rfl ?_
  refine zs_getf (pc := 26) C dX7_fineThen_26 w_X7_12 f_8_1 (by decide) ?_
  refine zs_getf (pc := 29) C dX7_fineThen_29 w_X7_136 f_5_6 (by decide) ?_
  refine zs_iload_n (pc := 32) C dX7_fineThen_32 rfl ?_
  refine zs_iald (r := 2032) (pc := 33) C dX7_fineThen_33 a_32 (by decide) (by omega) rfl (r_2032 _) (fun v33 e33 l33 u33 => ?_)
  try simp only [QQ_2032 hZ] at e33
  try subst v33
  refine zs_aload_n (pc := 34) C dX7_fineThen_34 rfl ?_
  refine zs_getf (pc := 35) C dX7_fineThen_35 w_X7_12 f_8_1 (by decide) ?_
  refine zs_getf (pc := 38) C dX7_fineThen_38 w_X7_138 f_5_7 (by decide) ?_
  refine zs_iload_n (pc := 41) C dX7_fineThen_41 rfl ?_
  refine zs_iald (r := 2033) (pc := 42) C dX7_fineThen_42 a_33 (by decide) (by omega) rfl (r_2033 _) (fun v42 e42 l42 u42 => ?_)
  try simp only [QQ_2033 hZ] at e42
  try subst v42
  refine zs_aload_n (pc := 43) C dX7_fineThen_43 rfl ?_
  refine zs_getf (pc := 44) C dX7_fineThen_44 w_X7_12 f_8_1 (by decide) ?_
  refine zs_iload_n (pc := 47) C dX7_fineThen_47 rfl ?_
  refine zs_iload_n (pc := 48) C dX7_fineThen_48 rfl ?_
  refine zVip2 (pc := 49) C dX7_fineThen_49 v_X7_141 (c_X4_lieByK hX (by repeat (first | assumption | apply QQw_510 | apply QQw_2026 | apply QQw_2027 | apply QQw_2028 | apply QQw_2029 | apply QQw_2030 | apply QQw_2031 | apply QQw_2032 | apply QQw_2033 | apply QQw_2034 | apply QQw_2035 | apply QQw_2048 | apply QQw_2049 | apply QQw_2050 | apply QQw_2051 | apply QQw_2052 | apply QQw_2053 | apply QQw_2054 | apply QQw_809 | apply QQw_810 | apply QQw_811 | apply QQw_812 | apply QQw_813 | apply QQ_J | refine QQ_n (by assumption) ?_ | refine QQ_sm (by assumption) (by decide) (by decide +kernel) ?_)) (by omega)) (by decide) (by decide) ⟨Nat.zero_le _, Nat.zero_le _⟩ (Nat.le_of_ble_eq_true rfl) (fun x49 l49 u49 hp49 => ?_)
  have hq49 := hp49
  refine zs_aload_n (pc := 52) C dX7_fineThen_52 rfl ?_
  refine zs_getd (r := 800) (pc := 53) C dX7_fineThen_53 w_X7_40 f_8_0 (by decide) rfl (fun v53 e53 t53 => ?_)
  rw [hI] at e53
  subst v53
  refine zs_getf (pc := 56) C dX7_fineThen_56 w_X7_113 f_6_4 (by decide) ?_
  refine zs_aload_n (pc := 59) C dX7_fineThen_59 rfl ?_
  refine zs_getf (pc := 60) C dX7_fineThen_60 w_X7_12 f_8_1 (by decide) ?_
  refine zs_getf (pc := 63) C dX7_fineThen_63 w_X7_144 f_5_0 (by decide) ?_
  refine zs_iload_n (pc := 66) C dX7_fineThen_66 rfl ?_
  refine zs_iald (r := 2026) (pc := 67) C dX7_fineThen_67 a_26 (by decide) (by omega) rfl (r_2026 _) (fun v67 e67 l67 u67 => ?_)
  try simp only [QQ_2026 hZ] at e67
  try subst v67
  refine zs_iald (r := 2039) (pc := 68) C dX7_fineThen_68 a_39 (by decide) (by omega) rfl (r_2039 _) (fun v68 e68 l68 u68 => ?_)
  try simp only [QQ_2039 hZ] at e68
  try subst v68
  refine zs_aload_n (pc := 69) C dX7_fineThen_69 rfl ?_
  refine zs_getf (pc := 70) C dX7_fineThen_70 w_X7_12 f_8_1 (by decide) ?_
  refine zs_getf (pc := 73) C dX7_fineThen_73 w_X7_147 f_5_8 (by decide) ?_
  refine zs_iload_n (pc := 76) C dX7_fineThen_76 rfl ?_
  refine zs_iald (r := 2034) (pc := 77) C dX7_fineThen_77 a_34 (by decide) (by omega) rfl (r_2034 _) (fun v77 e77 l77 u77 => ?_)
  try simp only [QQ_2034 hZ] at e77
  try subst v77
  refine zVv7 (pc := 78) C dX7_fineThen_78 v_X7_116 (c_X1_setNamesK hX ) (by decide) (by decide) ⟨Nat.zero_le _, Nat.zero_le _⟩ (Nat.le_of_ble_eq_true rfl) (fun G78 hp78 => ?_)
  obtain ⟨hz78, hq78⟩ := hp78
  have hZ78 := QQ_n hz78 hZ
  have hn78 : ∀ j : Nat, j < 7 → G78.2.1 2018 (Γ.2.1 (Γ.2.1 t 0) 4) j = wNs A W a s j := fun j hj => by
    rw [hq78 j hj, hq49]
    unfold wNs
    rcases (show j = 0 ∨ j = 1 ∨ j = 2 ∨ j = 3 ∨ j = 4 ∨ j = 5 ∨ j = 6 by omega) with rfl | rfl | rfl | rfl | rfl | rfl | rfl <;> rfl
  refine zs_aload_n (pc := 81) C dX7_fineThen_81 rfl ?_
  refine zs_getd (r := 800) (pc := 82) C dX7_fineThen_82 w_X7_40 f_8_0 (by decide) rfl (fun v82 e82 t82 => ?_)
  try simp only [hz78.2, zuI_1, zuI_2, zuJ_1, zuJ_2, zuJ_3, zuP_1, zuP_2, zuP_3, zuC_1, zuC_2, reduceIte, Nat.reduceEqDiff, false_and, and_false, true_and, and_true, and_self, or_true, true_or, or_false, false_or] at e82
  rw [hI] at e82
  subst v82
  refine zs_iload_n (pc := 85) C dX7_fineThen_85 rfl ?_
  refine zs_iload_n (pc := 86) C dX7_fineThen_86 rfl ?_
  refine zVi2 (pc := 87) C dX7_fineThen_87 v_X7_132 (c_X5_finenessK (nm := wNs A W a s) hX hZ78.2.1 hT.2.2.2.2.2.2 hk hn78 (wNs_in hT hW ha hs hs2) hs) (by decide) (by decide) ⟨Nat.zero_le _, Nat.zero_le _⟩ (Nat.le_of_ble_eq_true rfl) (fun x87 G87 l87 u87 hp87 => ?_)
  obtain ⟨hz87, hq87⟩ := hp87
  exact zs_iret (pc := 90) C hr hlk dX7_fineThen_90 ⟨by repeat (first | exact zsm_rf | assumption | refine zsm_C (by decide) ?_ | refine zsm_I (by decide) ?_ | refine zsm_J ?_ | refine zsm_c (by assumption) (by decide) ?_), hq87.1⟩

set_option maxHeartbeats 4000000 in
set_option maxRecDepth 100000 in
theorem c_X7_wearHereK {l : Launch} {Γ : zΓ} {G : zH} {w t : Nat} {A W : aS} {nm : Nat → Int} (hX : zXs Γ) (hZ : QQ Γ w t A W G) (hA : WFA A) (hn : ∀ j : Nat, j < 7 → (G.2.1 2018 (Γ.2.1 (Γ.2.1 t 0) 4)) j = nm j) (hb : ∀ j : Nat, j < 7 → -2147483648 ≤ nm j ∧ nm j ≤ 2147483647) : zMet l Γ yX7_wearHere cX7_wearHere 3 (some .int) 2 [zr 8 w] G (zpi (fun x G' => zsm [] G G' ∧ (x = bV (lV (A 18) (A 27) (A 28) nm (A 16 1) (A 17 1)) 1 99))) := by
  have hI := QQ_t hZ
  refine zMet_of RX7 hX (by decide) rfl (Nat.le_of_ble_eq_true rfl) ?_
  intro p e s m args below meth c C hr hlk
  show Z p l e (zrm 2) s m args below meth c Γ 3 0 0 (MQ below (zQc Γ (zpi (fun x G' => zsm [] G G' ∧ (x = bV (lV (A 18) (A 27) (A 28) nm (A 16 1) (A 17 1)) 1 99)))) args s 0 0 (zA Γ)) 0 [some (zr 8 w), none, none] [] G
  refine zs_aload_n (pc := 0) C dX7_wearHere_0 rfl ?_
  refine zs_getd (r := 800) (pc := 1) C dX7_wearHere_1 w_X7_40 f_8_0 (by decide) rfl (fun v1 e1 t1 => ?_)
  rw [hI] at e1
  subst v1
  refine zs_getf (pc := 4) C dX7_wearHere_4 w_X7_105 f_6_0 (by decide) ?_
  refine zs_iconst (pc := 7) C dX7_wearHere_7 (by decide) ?_
  refine zVj1 (pc := 8) C dX7_wearHere_8 v_X7_125 (c_X1_valueK (nm := nm) hX hZ.2.1 hA (by omega) hn hb) (by decide) (by decide) ⟨Nat.zero_le _, Nat.zero_le _⟩ (Nat.le_of_ble_eq_true rfl) (fun x8 G8 l8 u8 hp8 => ?_)
  obtain ⟨hz8, hq8⟩ := hp8
  obtain ⟨hv8, hN8⟩ := hq8
  have hv8b : x8 = lV (A 18) (A 27) (A 28) nm (A 16 1) (A 17 1) := hv8
  refine zs_lstore_n (pc := 11) C dX7_wearHere_11 (by decide) ?_
  dsimp only [zset, zclr, znone]
  refine zs_lload_n (pc := 12) C dX7_wearHere_12 rfl ?_
  refine zs_ldc2 (n := -9223372036854775808) (pc := 13) C dX7_wearHere_13 q_X7_194 (by decide) (by decide) ?_
  refine zs_lcmp (pc := 16) C dX7_wearHere_16 (fun z16 hz16 => ?_)
  refine zs_if_ne (tgt := 24) (pc := 17) C dX7_wearHere_17 (by decide) (fun h17 => ?_) (fun h17 => ?_)
  · skip
    refine zs_lconst (n := 0) (pc := 24) C dX7_wearHere_24 rfl (by decide) ?_
    refine zs_ldc2 (n := 99) (pc := 25) C dX7_wearHere_25 q_X7_196 (by decide) (by decide) ?_
    refine zs_lload_n (pc := 28) C dX7_wearHere_28 rfl ?_
    refine zs_minL (pc := 29) C dX7_wearHere_29 s_X7_198 (by decide) (Nat.le_of_ble_eq_true rfl) ⟨Nat.zero_le _, Nat.zero_le _⟩ (fun z29 hz29 => ?_)
    refine zs_maxL (pc := 32) C dX7_wearHere_32 s_X7_201 (by decide) (Nat.le_of_ble_eq_true rfl) ⟨Nat.zero_le _, Nat.zero_le _⟩ (fun z32 hz32 => ?_)
    first | refine zs_l2i (pc := 35) C dX7_wearHere_35 (by omega) ?_ | refine zs_l2iF (pc := 35) C dX7_wearHere_35 (fun z35 hz351 hz352 => ?_)
    exact zs_iret (pc := 36) C hr hlk dX7_wearHere_36 ⟨by repeat (first | exact zsm_rf | assumption | refine zsm_C (by decide) ?_ | refine zsm_I (by decide) ?_ | refine zsm_J ?_ | refine zsm_c (by assumption) (by decide) ?_), by unfold bV; rw [← hv8b]; first | rw [if_pos (by omega)] | (rw [if_neg (by omega)]; (repeat' split) <;> omega)⟩
  · skip
    refine zs_iconst (pc := 20) C dX7_wearHere_20 (by decide) ?_
    refine zs_goto (tgt := 36) (pc := 21) C dX7_wearHere_21 (by decide) ?_
    exact zs_iret (pc := 36) C hr hlk dX7_wearHere_36 ⟨by repeat (first | exact zsm_rf | assumption | refine zsm_C (by decide) ?_ | refine zsm_I (by decide) ?_ | refine zsm_J ?_ | refine zsm_c (by assumption) (by decide) ?_), by unfold bV; rw [← hv8b]; first | rw [if_pos (by omega)] | (rw [if_neg (by omega)]; (repeat' split) <;> omega)⟩
