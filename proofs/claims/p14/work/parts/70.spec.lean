/-! a reader's state as numbers: field, place -/
abbrev aS : Type := Nat → Nat → Int
def up (A : aS) (f j : Nat) (v : Int) : aS := fun f' j' => if f' = f ∧ j' = j then v else A f' j'
theorem up_eq {A : aS} {f j : Nat} {v : Int} : up A f j v f j = v := if_pos ⟨rfl, rfl⟩
theorem up_f {A : aS} {f j f' j' : Nat} {v : Int} (h : f' ≠ f) : up A f j v f' j' = A f' j' := if_neg (fun q => h q.1)
theorem up_j {A : aS} {f j f' j' : Nat} {v : Int} (h : j' ≠ j) : up A f j v f' j' = A f' j' := if_neg (fun q => h q.2)
theorem up_fn {A : aS} {f j f' : Nat} {v : Int} (h : f' ≠ f) : up A f j v f' = A f' := funext fun _ => up_f h
def tP (b : Nat → Int) (n : Int) (A : aS) : Int := stn b n (A 0 0).toNat
def tK (b : Nat → Int) (n : Int) (A : aS) : Int := tkK b n (tP b n A)
def tV (b : Nat → Int) (n : Int) (A : aS) : Int := tkV b n (tP b n A)
def tW (b : Nat → Int) (n : Int) (A : aS) : Int := if tK b n A = 2 then tV b n A else -1
theorem tW_in {b : Nat → Int} {n : Int} {A : aS} : -1 ≤ tW b n A ∧ tW b n A < 24 := by
  unfold tW
  split
  · rename_i h
    have h1 := tkK_2 h
    have h2 : tV b n A = tkV b n (tP b n A) := rfl
    omega
  · omega
def bnd (k : Int) : Int := zX1.getD k.toNat 0
def mst (k : Int) : Int := zX0.getD k.toNat 0
section SP
variable (b : Nat → Int) (n : Int)
def sNext (A : aS) : aS := if A 0 0 < 0 ∨ tK b n A ≠ 0 then up A 0 0 (A 0 0 + 1) else A
def sFail (c : Int) (A : aS) : aS := if A 1 0 = 0 then up (up A 1 0 c) 2 0 (tP b n A) else A
def sNumB (A : aS) : aS := if A 1 0 = 0 then sNext b n A else A
def sNum (lo hi : Int) (A : aS) : aS := if tK b n A ≠ 3 then sNumB b n (sFail b n 1 A) else if tV b n A < lo ∨ hi < tV b n A then sNumB b n (sFail b n 2 A) else sNumB b n A
def sNumV (lo hi : Int) (A : aS) : Int := if tK b n A ≠ 3 ∨ tV b n A < lo ∨ hi < tV b n A ∨ A 1 0 ≠ 0 then lo else tV b n A
def fndn (f : Nat → Int) (base : Int) (c : Int) : Nat → Int → Int
  | 0, _ => -1
  | m + 1, k => if f (base + k).toNat = c then k else fndn f base c m (k + 1)
def sFind (kd c : Int) (A : aS) : Int := fndn (A 5) (kd * 5) c (A 4 kd.toNat).toNat 0
def sAdd (kd c : Int) (A : aS) : aS := if mst kd ≤ A 4 kd.toNat then A else up (up A 5 (kd * 5 + A 4 kd.toNat).toNat c) 4 kd.toNat (A 4 kd.toNat + 1)
def sNew (kd : Int) (A : aS) : aS := if mst kd ≤ A 4 kd.toNat then sFail b n 2 A else if tK b n (sNext b n A) ≠ 1 then sFail b n 1 (sNext b n A) else if sFind kd (tV b n (sNext b n A)) (sNext b n A) ≠ -1 then sFail b n 3 (sNext b n A) else sNext b n (sAdd kd (tV b n (sNext b n A)) (sNext b n A))
def sNewV (kd : Int) (A : aS) : Int := if mst kd ≤ A 4 kd.toNat ∨ tK b n (sNext b n A) ≠ 1 ∨ sFind kd (tV b n (sNext b n A)) (sNext b n A) ≠ -1 then 0 else A 4 kd.toNat
def sSin (A : aS) : aS := if (sNum b n 0 99 (sNew b n 0 A)) 1 0 = 0 then up (sNum b n 0 99 (sNew b n 0 A)) 6 (sNewV b n 0 A).toNat (sNumV b n 0 99 (sNew b n 0 A)) else sNum b n 0 99 (sNew b n 0 A)
def sDeed (p : Int) (A : aS) : aS := if tK b n A ≠ 1 then sFail b n 1 A else if sFind 0 (tV b n A) A = -1 then sFail b n 4 A else if A 8 (p * 4 + sFind 0 (tV b n A) A).toNat ≠ 0 then sFail b n 3 A else up (sNum b n 1 9 (sNext b n A)) 8 (p * 4 + sFind 0 (tV b n A) A).toNat (sNumV b n 1 9 (sNext b n A))
def sDeeds (p : Int) : Nat → aS → aS
  | 0, A => A
  | m + 1, A => if A 1 0 = 0 ∧ tW b n A = 2 then sDeeds p m (sDeed b n p (sNext b n A)) else A
def sHon (A : aS) : aS := if (sNum b n 0 100 (sNew b n 1 A)) 1 0 = 0 then up (sNum b n 0 100 (sNew b n 1 A)) 7 (sNewV b n 1 A).toNat (sNumV b n 0 100 (sNew b n 1 A)) else sNum b n 0 100 (sNew b n 1 A)
def sPerson (A : aS) : aS := sDeeds b n (sNewV b n 1 A) 700 (sHon b n A)
def sC1 (A : aS) : aS := sNum b n 0 999 (sNew b n 2 A)
def sC2 (A : aS) : aS := sNum b n 1 99 (sC1 b n A)
def sC3 (A : aS) : aS := sNum b n 0 99 (sC2 b n A)
def sCake (A : aS) : aS := if (sC3 b n A) 1 0 = 0 then up (up (up (sC3 b n A) 9 (sNewV b n 2 A).toNat (sNumV b n 0 999 (sNew b n 2 A))) 10 (sNewV b n 2 A).toNat (sNumV b n 1 99 (sC1 b n A))) 11 (sNewV b n 2 A).toNat (sNumV b n 0 99 (sC2 b n A)) else sC3 b n A
def sKind (A : aS) : aS := if tW b n (sNext b n A) < 10 ∨ 13 < tW b n (sNext b n A) then sFail b n 1 (sNext b n A) else if (sNext b n A) 16 (tW b n (sNext b n A) - 10).toNat < (sNext b n A) 17 (tW b n (sNext b n A) - 10).toNat then sFail b n 3 (sNext b n A) else sNext b n (sNext b n A)
def sKindV (A : aS) : Int := if tW b n (sNext b n A) < 10 ∨ 13 < tW b n (sNext b n A) ∨ (sNext b n A) 16 (tW b n (sNext b n A) - 10).toNat < (sNext b n A) 17 (tW b n (sNext b n A) - 10).toNat then 0 else tW b n (sNext b n A) - 10
def sOnB (A : aS) : aS := sNext b n (up A 3 0 (bor (A 3 0) (bshl 1 (tW b n A))))
def sOnce (lo hi : Int) (A : aS) : aS := if band (A 3 0) (bshl 1 (tW b n A)) ≠ 0 then sFail b n 3 A else sNum b n lo hi (sOnB b n A)
def sOnceV (lo hi : Int) (A : aS) : Int := if band (A 3 0) (bshl 1 (tW b n A)) ≠ 0 then lo else sNumV b n lo hi (sOnB b n A)
def gLeaf (what : Int) (A : aS) : aS := up (up (up (up A 27 (A 20 0).toNat what) 28 (A 20 0).toNat 0) 30 (A 29 0).toNat (A 20 0)) 29 0 (A 29 0 + 1)
def gOp (k : Int) (A : aS) : aS := if k = 4 then up (up (up A 27 (A 20 0).toNat (A 30 (A 29 0 - 1).toNat)) 28 (A 20 0).toNat (-1)) 30 (A 29 0 - 1).toNat (A 20 0) else up (up (up (up A 27 (A 20 0).toNat (A 30 (A 29 0 - 2).toNat)) 28 (A 20 0).toNat (A 30 (A 29 0 - 1).toNat)) 30 (A 29 0 - 2).toNat (A 20 0)) 29 0 (A 29 0 - 1)
def sWrite (k what : Int) (A : aS) : aS := if A 20 0 < 64 then up (up (up A 18 (A 20 0).toNat k) 19 (A 20 0).toNat what) 20 0 (A 20 0 + 1) else A
def sReln (r : Int) : Nat → aS → aS
  | 0, A => A
  | m + 1, A => if 0 < A 22 0 ∧ r ≤ bnd (A 26 (A 22 0 - 1).toNat) then sReln r m (sWrite (A 26 (A 22 0 - 1).toNat) 0 (gOp (A 26 (A 22 0 - 1).toNat) (up A 22 0 (A 22 0 - 1)))) else A
def sRel (r : Int) (A : aS) : aS := sReln r (A 22 0).toNat A
def sCnt (A : aS) : aS := if 64 ≤ A 21 0 then sFail b n 2 A else A
def sCount (A : aS) : aS := if (sCnt b n A) 1 0 = 0 then up (sCnt b n A) 21 0 ((sCnt b n A) 21 0 + 1) else sCnt b n A
def sPush (k : Int) (A : aS) : aS := if A 22 0 < 72 then sNext b n (up (up A 26 (A 22 0).toNat k) 22 0 (A 22 0 + 1)) else sNext b n A
def sOpen (A : aS) : aS := if 8 ≤ A 23 0 then sFail b n 2 A else sPush b n 15 (up (up A 23 0 (A 23 0 + 1)) 25 0 1)
def sLeaf (k what : Int) (A : aS) : aS := if (sCount b n A) 1 0 = 0 then sNext b n (up (sWrite k what (gLeaf what (sCount b n A))) 24 0 0) else sCount b n A
def sNot (A : aS) : aS := if (sCount b n A) 1 0 = 0 then sPush b n 4 (sCount b n A) else sCount b n A
def sSide (A : aS) : aS := if (tK b n A = 4 ∧ tV b n A = 15) then sOpen b n A else if tW b n A = 16 ∧ A 25 0 ≠ 0 then sNot b n A else if tK b n A = 3 then (if 9999 < tV b n A then sLeaf b n 0 (tV b n A) (sFail b n 2 A) else sLeaf b n 0 (tV b n A) A) else if 17 ≤ tW b n A then sLeaf b n 1 (tW b n A - 17) A else sFail b n 1 A
def sKnot (A : aS) : Int := if tK b n A = 4 ∧ 5 ≤ tV b n A ∧ tV b n A ≤ 14 then tV b n A else if tW b n A = 14 then 2 else if tW b n A = 15 then 3 else -1
def sJB (k : Int) (A : aS) : aS := if (sCount b n A) 1 0 = 0 then sPush b n k (up (up (sCount b n A) 24 0 1) 25 0 (if bnd k < 4 then 1 else 0)) else sCount b n A
def sJR (k : Int) (A : aS) : aS := sRel (if bnd k = 4 then 5 else bnd k) A
def sJoint (k : Int) (A : aS) : aS := if bnd k = 4 ∧ 0 < (sJR k A) 22 0 ∧ bnd ((sJR k A) 26 ((sJR k A) 22 0 - 1).toNat) = 4 then sFail b n 1 (sJR k A) else sJB b n k (sJR k A)
def sClose (A : aS) : aS := sNext b n (up (up (sRel 1 A) 22 0 (max 0 ((sRel 1 A) 22 0 - 1))) 23 0 ((sRel 1 A) 23 0 - 1))
def sBehind (A : aS) : aS := if sKnot b n A ≠ -1 then sJoint b n (sKnot b n A) A else if A 23 0 = 0 ∨ ¬ (tK b n A = 4 ∧ tV b n A = 16) then (if 0 < A 23 0 then sFail b n 1 A else A) else sClose b n A
def sGo (A : aS) : Int := if sKnot b n A ≠ -1 then 1 else if A 23 0 = 0 ∨ ¬ (tK b n A = 4 ∧ tV b n A = 16) then 0 else 1
def sEL : Nat → Int → aS → aS
  | 0, _, A => A
  | m + 1, go, A => if A 1 0 = 0 ∧ go ≠ 0 then (if A 24 0 ≠ 0 then sEL m go (sSide b n A) else sEL m (sGo b n A) (sBehind b n A)) else A
def sB0 (A : aS) : aS := up (up (up (up A 22 0 0) 23 0 0) 24 0 1) 25 0 1
def sLB (k : Int) (A : aS) : aS := if 0 ≤ k ∧ k < 7 then up A 16 k.toNat (A 20 0) else A
def sBeg (k : Int) (A : aS) : aS := up (sLB k (sB0 A)) 29 0 0
def sFin (k : Int) (A : aS) : aS := if 0 ≤ k ∧ k < 7 then up A 17 k.toNat (A 20 0) else A
def sE (k : Int) (A : aS) : aS := sFin k (sRel 0 (sEL b n 700 1 (sBeg k A)))
def sBody (A : aS) : aS := if tW b n A = 0 then sSin b n A else if tW b n A = 1 then sPerson b n A else if tW b n A = 3 then sCake b n A
  else if tW b n A = 4 then up (sOnce b n 0 9999 A) 12 0 (sOnceV b n 0 9999 A) else if tW b n A = 5 then up (sOnce b n 1 99 A) 13 0 (sOnceV b n 1 99 A)
  else if tW b n A = 6 then up (sOnce b n 0 999 A) 14 0 (sOnceV b n 0 999 A) else if tW b n A = 7 then up (sOnce b n 0 99999 A) 15 0 (sOnceV b n 0 99999 A)
  else if tW b n A = 8 then sE b n (sKindV b n A) (sKind b n A) else if tW b n A = 9 then sE b n (4 + sNewV b n 3 A) (sNew b n 3 A) else sFail b n 1 A
def sSemi (A : aS) : aS := if (tK b n A = 4 ∧ tV b n A = 17) then A else sFail b n 1 A
def sLine (A : aS) : aS := sNumB b n (sSemi b n (sBody b n A))
def sLN : Nat → aS → aS
  | 0, A => A
  | m + 1, A => if A 1 0 = 0 ∧ tK b n A ≠ 0 then sLN m (sLine b n A) else A
def sLC : Nat → Int → aS → Int
  | 0, c, _ => c
  | m + 1, c, A => if A 1 0 = 0 ∧ tK b n A ≠ 0 then sLC m (c + 1) (sLine b n A) else c
end SP
/-- as it is at a text's beginning -/
def sCl (A : aS) : Prop := A 0 0 = -1 ∧ A 1 0 = 0 ∧ A 2 0 = -1 ∧ A 3 0 = 0 ∧ (∀ j : Nat, j < 4 → A 4 j = 0) ∧ (∀ j : Nat, j < 20 → A 8 j = 0) ∧ (∀ j : Nat, j < 7 → A 16 j = 0 ∧ A 17 j = 0) ∧ A 20 0 = 0 ∧ A 21 0 = 0 ∧ A 12 0 = 100 ∧ A 13 0 = 5 ∧ A 14 0 = 0 ∧ A 15 0 = 0
/-! how the class holds it -/
def cL : List Nat := [402, 407, 408, 406, 2037, 2036, 2038, 2039, 2040, 2041, 2042, 2043, 609, 610, 611, 612, 2016, 2017, 2014, 2015, 206, 207, 410, 411, 412, 413, 2025]
def creg (f : Nat) : Nat := cL.getD f 0
def cad (Γ : zΓ) (w t f : Nat) : Nat := [w, w, w, w, (Γ.2.1 t 2), (Γ.2.1 t 1), (Γ.2.1 t 3), (Γ.2.1 t 4), (Γ.2.1 t 5), (Γ.2.1 t 6), (Γ.2.1 t 7), (Γ.2.1 t 8), t, t, t, t, (Γ.2.1 (Γ.2.1 t 0) 2), (Γ.2.1 (Γ.2.1 t 0) 3), (Γ.2.1 (Γ.2.1 t 0) 0), (Γ.2.1 (Γ.2.1 t 0) 1), (Γ.2.1 t 0), (Γ.2.1 t 0), w, w, w, w, (Γ.2.1 w 9)].getD f 0
def CV (Γ : zΓ) (w t : Nat) (A : aS) (G : zH) : Prop := (G.2.2 401 w = t ∧ ∀ f a j : Nat, f < 27 → a ≠ cad Γ w t f → G.1 (creg f) a j = A (100 + 27 * a + f) j) ∧ ∀ f j : Nat, f < 27 → G.1 (creg f) (cad Γ w t f) j = A f j
theorem creg_in : ∀ f : Nat, f < 27 → creg f ∈ cL := by decide
theorem creg_ij : ∀ f : Nat, f < 27 → ∀ g : Nat, g < 27 → creg f = creg g → f = g := by decide +kernel
theorem CV_w {Γ : zΓ} {w t f j : Nat} {A : aS} {G : zH} {v : Int} (hf : f < 27) (h : CV Γ w t A G) : CV Γ w t (up A f j v) (zuI G (creg f) (cad Γ w t f) j v) := by
  refine ⟨⟨h.1.1, fun f' a j' hf' ha => ?_⟩, fun f' j' hf' => ?_⟩
  · rw [zuI_1, if_neg (fun q3 => by have q4 := creg_ij f' hf' f hf q3.1; subst q4; exact ha q3.2.1), up_f (by omega)]
    exact h.1.2 f' a j' hf' ha
  rw [zuI_1]
  by_cases q : f' = f
  · subst q
    by_cases q2 : j' = j
    · subst q2
      rw [if_pos ⟨rfl, rfl, rfl⟩, up_eq]
    · rw [if_neg (fun q3 => q2 q3.2.2), up_j q2]
      exact h.2 f' j' hf'
  · rw [if_neg (fun q3 => q (creg_ij f' hf' f hf q3.1)), up_f q]
    exact h.2 f' j' hf'
theorem CV_g {Γ : zΓ} {w t f j : Nat} {A : aS} {G : zH} {v : Int} (hf : 27 ≤ f ∧ f < 100) (h : CV Γ w t A G) : CV Γ w t (up A f j v) G :=
  ⟨⟨h.1.1, fun f' a j' hf' ha => by rw [up_f (by omega)]; exact h.1.2 f' a j' hf' ha⟩, fun f' j' hf' => by rw [up_f (by omega)]; exact h.2 f' j' hf'⟩
theorem CV_sm {Γ : zΓ} {w t : Nat} {A : aS} {G G1 : zH} {rs : List Nat} (hs : zsm rs G G1) (hr : ∀ r ∈ cL, r ∉ rs) (h : CV Γ w t A G) : CV Γ w t A G1 :=
  ⟨⟨by rw [hs.2]; exact h.1.1, fun f a j hf ha => by rw [hs.1 _ (hr _ (creg_in f hf))]; exact h.1.2 f a j hf ha⟩, fun f j hf => by rw [hs.1 _ (hr _ (creg_in f hf))]; exact h.2 f j hf⟩
/-- the tokens as they lie there -/
def TKN (b : Nat → Int) (n : Int) (N : Nat) (Γ : zΓ) (w : Nat) (G : zH) : Prop := G.1 704 (Γ.2.1 w 0) 0 = (N : Int) + 1 ∧ N ≤ 700 ∧ stn b n N = n ∧ TKS b n N (Γ.2.1 (Γ.2.1 w 0) 1) (Γ.2.1 (Γ.2.1 w 0) 2) (Γ.2.1 (Γ.2.1 w 0) 3) G ∧ G.1 2046 (Γ.2.1 (Γ.2.1 w 0) 2) N = n ∧ G.1 2045 (Γ.2.1 (Γ.2.1 w 0) 1) N = 0 ∧ G.1 2047 (Γ.2.1 (Γ.2.1 w 0) 3) N = 0
theorem TKN_sm {b : Nat → Int} {n : Int} {N : Nat} {Γ : zΓ} {w : Nat} {G G1 : zH} (h4 : G1.1 704 = G.1 704) (h5 : G1.1 2045 = G.1 2045) (h6 : G1.1 2046 = G.1 2046) (h7 : G1.1 2047 = G.1 2047) (h : TKN b n N Γ w G) : TKN b n N Γ w G1 := by
  unfold TKN TKS at *
  rw [h4, h5, h6, h7]
  exact h
def CKd (b : Nat → Int) (n : Int) (w : Nat) (A : aS) (G : zH) : Prop := G.1 403 w 0 = tK b n A ∧ tkR (tK b n A) (tV b n A) (G.1 404 w 0) ∧ G.1 405 w 0 = tW b n A
def QC (b : Nat → Int) (n : Int) (N : Nat) (Γ : zΓ) (w t : Nat) (A : aS) (G : zH) : Prop := CV Γ w t A G ∧ TKN b n N Γ w G ∧ (0 ≤ A 0 0 ∧ A 0 0 ≤ N) ∧ CKd b n w A G
theorem tk_00 {b : Nat → Int} {n : Int} {A B : aS} (h : A 0 0 = B 0 0) : tP b n A = tP b n B ∧ tK b n A = tK b n B ∧ tV b n A = tV b n B ∧ tW b n A = tW b n B := by
  have e : tP b n A = tP b n B := by unfold tP; rw [h]
  have e1 : tK b n A = tK b n B := by unfold tK; rw [e]
  have e2 : tV b n A = tV b n B := by unfold tV; rw [e]
  exact ⟨e, e1, e2, by unfold tW; rw [e1, e2]⟩
theorem CKd_A {b : Nat → Int} {n : Int} {w : Nat} {A B : aS} {G : zH} (e : A 0 0 = B 0 0) (h : CKd b n w A G) : CKd b n w B G := by
  obtain ⟨-, h1, h2, h3⟩ := tk_00 (b := b) (n := n) e
  unfold CKd at *
  rw [← h1, ← h2, ← h3]
  exact h
theorem QC_w {b : Nat → Int} {n : Int} {N : Nat} {Γ : zΓ} {w t f j : Nat} {A : aS} {G : zH} {v : Int} (hf : f < 27) (h0 : f ≠ 0) (hr : ∀ r ∈ [403, 404, 405, 704, 2045, 2046, 2047], r ≠ creg f) (h : QC b n N Γ w t A G) : QC b n N Γ w t (up A f j v) (zuI G (creg f) (cad Γ w t f) j v) := by
  have e0 : up A f j v 0 0 = A 0 0 := up_f (fun q => h0 q.symm)
  have hn : ∀ r ∈ [403, 404, 405, 704, 2045, 2046, 2047], (zuI G (creg f) (cad Γ w t f) j v).1 r = G.1 r := fun r hr2 => zuI_nf (hr r hr2)
  refine ⟨CV_w hf h.1, TKN_sm (hn 704 (by decide)) (hn 2045 (by decide)) (hn 2046 (by decide)) (hn 2047 (by decide)) h.2.1, by rw [e0]; exact h.2.2.1, ?_⟩
  refine CKd_A (A := A) e0.symm ?_
  unfold CKd
  rw [hn 403 (by decide), hn 404 (by decide), hn 405 (by decide)]
  exact h.2.2.2
theorem QC_g {b : Nat → Int} {n : Int} {N : Nat} {Γ : zΓ} {w t f j : Nat} {A : aS} {G : zH} {v : Int} (hf : 27 ≤ f ∧ f < 100) (h : QC b n N Γ w t A G) : QC b n N Γ w t (up A f j v) G := by
  have e0 : up A f j v 0 0 = A 0 0 := up_f (by omega)
  exact ⟨CV_g hf h.1, h.2.1, by rw [e0]; exact h.2.2.1, CKd_A (A := A) e0.symm h.2.2.2⟩
theorem QC_sm {b : Nat → Int} {n : Int} {N : Nat} {Γ : zΓ} {w t : Nat} {A : aS} {G G1 : zH} {rs : List Nat} (hs : zsm rs G G1) (hr : ∀ r ∈ cL, r ∉ rs) (hq : ∀ r ∈ [403, 404, 405, 704, 2045, 2046, 2047], r ∉ rs) (h : QC b n N Γ w t A G) : QC b n N Γ w t A G1 := by
  have hn : ∀ r ∈ [403, 404, 405, 704, 2045, 2046, 2047], G1.1 r = G.1 r := fun r hr2 => hs.1 r (hq r hr2)
  refine ⟨CV_sm hs hr h.1, TKN_sm (hn 704 (by decide)) (hn 2045 (by decide)) (hn 2046 (by decide)) (hn 2047 (by decide)) h.2.1, h.2.2.1, ?_⟩
  unfold CKd
  rw [hn 403 (by decide), hn 404 (by decide), hn 405 (by decide)]
  exact h.2.2.2
theorem QCw_407 {b : Nat → Int} {n : Int} {N : Nat} {Γ : zΓ} {w t : Nat} {A : aS} {G : zH} {v : Int} (h : QC b n N Γ w t A G) : QC b n N Γ w t (up A 1 0 v) (zuI G 407 w 0 v) := QC_w (f := 1) (by decide) (by decide) (by decide) h
theorem QCw_408 {b : Nat → Int} {n : Int} {N : Nat} {Γ : zΓ} {w t : Nat} {A : aS} {G : zH} {v : Int} (h : QC b n N Γ w t A G) : QC b n N Γ w t (up A 2 0 v) (zuI G 408 w 0 v) := QC_w (f := 2) (by decide) (by decide) (by decide) h
theorem QCw_406 {b : Nat → Int} {n : Int} {N : Nat} {Γ : zΓ} {w t : Nat} {A : aS} {G : zH} {v : Int} (h : QC b n N Γ w t A G) : QC b n N Γ w t (up A 3 0 v) (zuI G 406 w 0 v) := QC_w (f := 3) (by decide) (by decide) (by decide) h
theorem QCw_2037 {b : Nat → Int} {n : Int} {N : Nat} {Γ : zΓ} {w t : Nat} {A : aS} {G : zH} {j : Nat} {v : Int} (h : QC b n N Γ w t A G) : QC b n N Γ w t (up A 4 j v) (zuI G 2037 (Γ.2.1 t 2) j v) := QC_w (f := 4) (by decide) (by decide) (by decide) h
theorem QCw_2036 {b : Nat → Int} {n : Int} {N : Nat} {Γ : zΓ} {w t : Nat} {A : aS} {G : zH} {j : Nat} {v : Int} (h : QC b n N Γ w t A G) : QC b n N Γ w t (up A 5 j v) (zuI G 2036 (Γ.2.1 t 1) j v) := QC_w (f := 5) (by decide) (by decide) (by decide) h
theorem QCw_2038 {b : Nat → Int} {n : Int} {N : Nat} {Γ : zΓ} {w t : Nat} {A : aS} {G : zH} {j : Nat} {v : Int} (h : QC b n N Γ w t A G) : QC b n N Γ w t (up A 6 j v) (zuI G 2038 (Γ.2.1 t 3) j v) := QC_w (f := 6) (by decide) (by decide) (by decide) h
theorem QCw_2039 {b : Nat → Int} {n : Int} {N : Nat} {Γ : zΓ} {w t : Nat} {A : aS} {G : zH} {j : Nat} {v : Int} (h : QC b n N Γ w t A G) : QC b n N Γ w t (up A 7 j v) (zuI G 2039 (Γ.2.1 t 4) j v) := QC_w (f := 7) (by decide) (by decide) (by decide) h
theorem QCw_2040 {b : Nat → Int} {n : Int} {N : Nat} {Γ : zΓ} {w t : Nat} {A : aS} {G : zH} {j : Nat} {v : Int} (h : QC b n N Γ w t A G) : QC b n N Γ w t (up A 8 j v) (zuI G 2040 (Γ.2.1 t 5) j v) := QC_w (f := 8) (by decide) (by decide) (by decide) h
theorem QCw_2041 {b : Nat → Int} {n : Int} {N : Nat} {Γ : zΓ} {w t : Nat} {A : aS} {G : zH} {j : Nat} {v : Int} (h : QC b n N Γ w t A G) : QC b n N Γ w t (up A 9 j v) (zuI G 2041 (Γ.2.1 t 6) j v) := QC_w (f := 9) (by decide) (by decide) (by decide) h
theorem QCw_2042 {b : Nat → Int} {n : Int} {N : Nat} {Γ : zΓ} {w t : Nat} {A : aS} {G : zH} {j : Nat} {v : Int} (h : QC b n N Γ w t A G) : QC b n N Γ w t (up A 10 j v) (zuI G 2042 (Γ.2.1 t 7) j v) := QC_w (f := 10) (by decide) (by decide) (by decide) h
theorem QCw_2043 {b : Nat → Int} {n : Int} {N : Nat} {Γ : zΓ} {w t : Nat} {A : aS} {G : zH} {j : Nat} {v : Int} (h : QC b n N Γ w t A G) : QC b n N Γ w t (up A 11 j v) (zuI G 2043 (Γ.2.1 t 8) j v) := QC_w (f := 11) (by decide) (by decide) (by decide) h
theorem QCw_609 {b : Nat → Int} {n : Int} {N : Nat} {Γ : zΓ} {w t : Nat} {A : aS} {G : zH} {v : Int} (h : QC b n N Γ w t A G) : QC b n N Γ w t (up A 12 0 v) (zuI G 609 t 0 v) := QC_w (f := 12) (by decide) (by decide) (by decide) h
theorem QCw_610 {b : Nat → Int} {n : Int} {N : Nat} {Γ : zΓ} {w t : Nat} {A : aS} {G : zH} {v : Int} (h : QC b n N Γ w t A G) : QC b n N Γ w t (up A 13 0 v) (zuI G 610 t 0 v) := QC_w (f := 13) (by decide) (by decide) (by decide) h
theorem QCw_611 {b : Nat → Int} {n : Int} {N : Nat} {Γ : zΓ} {w t : Nat} {A : aS} {G : zH} {v : Int} (h : QC b n N Γ w t A G) : QC b n N Γ w t (up A 14 0 v) (zuI G 611 t 0 v) := QC_w (f := 14) (by decide) (by decide) (by decide) h
theorem QCw_612 {b : Nat → Int} {n : Int} {N : Nat} {Γ : zΓ} {w t : Nat} {A : aS} {G : zH} {v : Int} (h : QC b n N Γ w t A G) : QC b n N Γ w t (up A 15 0 v) (zuI G 612 t 0 v) := QC_w (f := 15) (by decide) (by decide) (by decide) h
theorem QCw_2016 {b : Nat → Int} {n : Int} {N : Nat} {Γ : zΓ} {w t : Nat} {A : aS} {G : zH} {j : Nat} {v : Int} (h : QC b n N Γ w t A G) : QC b n N Γ w t (up A 16 j v) (zuI G 2016 (Γ.2.1 (Γ.2.1 t 0) 2) j v) := QC_w (f := 16) (by decide) (by decide) (by decide) h
theorem QCw_2017 {b : Nat → Int} {n : Int} {N : Nat} {Γ : zΓ} {w t : Nat} {A : aS} {G : zH} {j : Nat} {v : Int} (h : QC b n N Γ w t A G) : QC b n N Γ w t (up A 17 j v) (zuI G 2017 (Γ.2.1 (Γ.2.1 t 0) 3) j v) := QC_w (f := 17) (by decide) (by decide) (by decide) h
theorem QCw_2014 {b : Nat → Int} {n : Int} {N : Nat} {Γ : zΓ} {w t : Nat} {A : aS} {G : zH} {j : Nat} {v : Int} (h : QC b n N Γ w t A G) : QC b n N Γ w t (up A 18 j v) (zuI G 2014 (Γ.2.1 (Γ.2.1 t 0) 0) j v) := QC_w (f := 18) (by decide) (by decide) (by decide) h
theorem QCw_2015 {b : Nat → Int} {n : Int} {N : Nat} {Γ : zΓ} {w t : Nat} {A : aS} {G : zH} {j : Nat} {v : Int} (h : QC b n N Γ w t A G) : QC b n N Γ w t (up A 19 j v) (zuI G 2015 (Γ.2.1 (Γ.2.1 t 0) 1) j v) := QC_w (f := 19) (by decide) (by decide) (by decide) h
theorem QCw_206 {b : Nat → Int} {n : Int} {N : Nat} {Γ : zΓ} {w t : Nat} {A : aS} {G : zH} {v : Int} (h : QC b n N Γ w t A G) : QC b n N Γ w t (up A 20 0 v) (zuI G 206 (Γ.2.1 t 0) 0 v) := QC_w (f := 20) (by decide) (by decide) (by decide) h
theorem QCw_207 {b : Nat → Int} {n : Int} {N : Nat} {Γ : zΓ} {w t : Nat} {A : aS} {G : zH} {v : Int} (h : QC b n N Γ w t A G) : QC b n N Γ w t (up A 21 0 v) (zuI G 207 (Γ.2.1 t 0) 0 v) := QC_w (f := 21) (by decide) (by decide) (by decide) h
theorem QCw_410 {b : Nat → Int} {n : Int} {N : Nat} {Γ : zΓ} {w t : Nat} {A : aS} {G : zH} {v : Int} (h : QC b n N Γ w t A G) : QC b n N Γ w t (up A 22 0 v) (zuI G 410 w 0 v) := QC_w (f := 22) (by decide) (by decide) (by decide) h
theorem QCw_411 {b : Nat → Int} {n : Int} {N : Nat} {Γ : zΓ} {w t : Nat} {A : aS} {G : zH} {v : Int} (h : QC b n N Γ w t A G) : QC b n N Γ w t (up A 23 0 v) (zuI G 411 w 0 v) := QC_w (f := 23) (by decide) (by decide) (by decide) h
theorem QCw_412 {b : Nat → Int} {n : Int} {N : Nat} {Γ : zΓ} {w t : Nat} {A : aS} {G : zH} {v : Int} (h : QC b n N Γ w t A G) : QC b n N Γ w t (up A 24 0 v) (zuI G 412 w 0 v) := QC_w (f := 24) (by decide) (by decide) (by decide) h
theorem QCw_413 {b : Nat → Int} {n : Int} {N : Nat} {Γ : zΓ} {w t : Nat} {A : aS} {G : zH} {v : Int} (h : QC b n N Γ w t A G) : QC b n N Γ w t (up A 25 0 v) (zuI G 413 w 0 v) := QC_w (f := 25) (by decide) (by decide) (by decide) h
theorem QCw_2025 {b : Nat → Int} {n : Int} {N : Nat} {Γ : zΓ} {w t : Nat} {A : aS} {G : zH} {j : Nat} {v : Int} (h : QC b n N Γ w t A G) : QC b n N Γ w t (up A 26 j v) (zuI G 2025 (Γ.2.1 w 9) j v) := QC_w (f := 26) (by decide) (by decide) (by decide) h
theorem QC_402 {b : Nat → Int} {n : Int} {N : Nat} {Γ : zΓ} {w t : Nat} {A : aS} {G : zH} (h : QC b n N Γ w t A G) : G.1 402 w 0 = A 0 0 := h.1.2 0 0 (by decide)
theorem QC_407 {b : Nat → Int} {n : Int} {N : Nat} {Γ : zΓ} {w t : Nat} {A : aS} {G : zH} (h : QC b n N Γ w t A G) : G.1 407 w 0 = A 1 0 := h.1.2 1 0 (by decide)
theorem QC_408 {b : Nat → Int} {n : Int} {N : Nat} {Γ : zΓ} {w t : Nat} {A : aS} {G : zH} (h : QC b n N Γ w t A G) : G.1 408 w 0 = A 2 0 := h.1.2 2 0 (by decide)
theorem QC_406 {b : Nat → Int} {n : Int} {N : Nat} {Γ : zΓ} {w t : Nat} {A : aS} {G : zH} (h : QC b n N Γ w t A G) : G.1 406 w 0 = A 3 0 := h.1.2 3 0 (by decide)
theorem QC_2037 {b : Nat → Int} {n : Int} {N : Nat} {Γ : zΓ} {w t : Nat} {A : aS} {G : zH} (h : QC b n N Γ w t A G) (j : Nat) : G.1 2037 (Γ.2.1 t 2) j = A 4 j := h.1.2 4 j (by decide)
theorem QC_2036 {b : Nat → Int} {n : Int} {N : Nat} {Γ : zΓ} {w t : Nat} {A : aS} {G : zH} (h : QC b n N Γ w t A G) (j : Nat) : G.1 2036 (Γ.2.1 t 1) j = A 5 j := h.1.2 5 j (by decide)
theorem QC_2038 {b : Nat → Int} {n : Int} {N : Nat} {Γ : zΓ} {w t : Nat} {A : aS} {G : zH} (h : QC b n N Γ w t A G) (j : Nat) : G.1 2038 (Γ.2.1 t 3) j = A 6 j := h.1.2 6 j (by decide)
theorem QC_2039 {b : Nat → Int} {n : Int} {N : Nat} {Γ : zΓ} {w t : Nat} {A : aS} {G : zH} (h : QC b n N Γ w t A G) (j : Nat) : G.1 2039 (Γ.2.1 t 4) j = A 7 j := h.1.2 7 j (by decide)
theorem QC_2040 {b : Nat → Int} {n : Int} {N : Nat} {Γ : zΓ} {w t : Nat} {A : aS} {G : zH} (h : QC b n N Γ w t A G) (j : Nat) : G.1 2040 (Γ.2.1 t 5) j = A 8 j := h.1.2 8 j (by decide)
theorem QC_2041 {b : Nat → Int} {n : Int} {N : Nat} {Γ : zΓ} {w t : Nat} {A : aS} {G : zH} (h : QC b n N Γ w t A G) (j : Nat) : G.1 2041 (Γ.2.1 t 6) j = A 9 j := h.1.2 9 j (by decide)
theorem QC_2042 {b : Nat → Int} {n : Int} {N : Nat} {Γ : zΓ} {w t : Nat} {A : aS} {G : zH} (h : QC b n N Γ w t A G) (j : Nat) : G.1 2042 (Γ.2.1 t 7) j = A 10 j := h.1.2 10 j (by decide)
theorem QC_2043 {b : Nat → Int} {n : Int} {N : Nat} {Γ : zΓ} {w t : Nat} {A : aS} {G : zH} (h : QC b n N Γ w t A G) (j : Nat) : G.1 2043 (Γ.2.1 t 8) j = A 11 j := h.1.2 11 j (by decide)
theorem QC_609 {b : Nat → Int} {n : Int} {N : Nat} {Γ : zΓ} {w t : Nat} {A : aS} {G : zH} (h : QC b n N Γ w t A G) : G.1 609 t 0 = A 12 0 := h.1.2 12 0 (by decide)
theorem QC_610 {b : Nat → Int} {n : Int} {N : Nat} {Γ : zΓ} {w t : Nat} {A : aS} {G : zH} (h : QC b n N Γ w t A G) : G.1 610 t 0 = A 13 0 := h.1.2 13 0 (by decide)
theorem QC_611 {b : Nat → Int} {n : Int} {N : Nat} {Γ : zΓ} {w t : Nat} {A : aS} {G : zH} (h : QC b n N Γ w t A G) : G.1 611 t 0 = A 14 0 := h.1.2 14 0 (by decide)
theorem QC_612 {b : Nat → Int} {n : Int} {N : Nat} {Γ : zΓ} {w t : Nat} {A : aS} {G : zH} (h : QC b n N Γ w t A G) : G.1 612 t 0 = A 15 0 := h.1.2 15 0 (by decide)
theorem QC_2016 {b : Nat → Int} {n : Int} {N : Nat} {Γ : zΓ} {w t : Nat} {A : aS} {G : zH} (h : QC b n N Γ w t A G) (j : Nat) : G.1 2016 (Γ.2.1 (Γ.2.1 t 0) 2) j = A 16 j := h.1.2 16 j (by decide)
theorem QC_2017 {b : Nat → Int} {n : Int} {N : Nat} {Γ : zΓ} {w t : Nat} {A : aS} {G : zH} (h : QC b n N Γ w t A G) (j : Nat) : G.1 2017 (Γ.2.1 (Γ.2.1 t 0) 3) j = A 17 j := h.1.2 17 j (by decide)
theorem QC_2014 {b : Nat → Int} {n : Int} {N : Nat} {Γ : zΓ} {w t : Nat} {A : aS} {G : zH} (h : QC b n N Γ w t A G) (j : Nat) : G.1 2014 (Γ.2.1 (Γ.2.1 t 0) 0) j = A 18 j := h.1.2 18 j (by decide)
theorem QC_2015 {b : Nat → Int} {n : Int} {N : Nat} {Γ : zΓ} {w t : Nat} {A : aS} {G : zH} (h : QC b n N Γ w t A G) (j : Nat) : G.1 2015 (Γ.2.1 (Γ.2.1 t 0) 1) j = A 19 j := h.1.2 19 j (by decide)
theorem QC_206 {b : Nat → Int} {n : Int} {N : Nat} {Γ : zΓ} {w t : Nat} {A : aS} {G : zH} (h : QC b n N Γ w t A G) : G.1 206 (Γ.2.1 t 0) 0 = A 20 0 := h.1.2 20 0 (by decide)
theorem QC_207 {b : Nat → Int} {n : Int} {N : Nat} {Γ : zΓ} {w t : Nat} {A : aS} {G : zH} (h : QC b n N Γ w t A G) : G.1 207 (Γ.2.1 t 0) 0 = A 21 0 := h.1.2 21 0 (by decide)
theorem QC_410 {b : Nat → Int} {n : Int} {N : Nat} {Γ : zΓ} {w t : Nat} {A : aS} {G : zH} (h : QC b n N Γ w t A G) : G.1 410 w 0 = A 22 0 := h.1.2 22 0 (by decide)
theorem QC_411 {b : Nat → Int} {n : Int} {N : Nat} {Γ : zΓ} {w t : Nat} {A : aS} {G : zH} (h : QC b n N Γ w t A G) : G.1 411 w 0 = A 23 0 := h.1.2 23 0 (by decide)
theorem QC_412 {b : Nat → Int} {n : Int} {N : Nat} {Γ : zΓ} {w t : Nat} {A : aS} {G : zH} (h : QC b n N Γ w t A G) : G.1 412 w 0 = A 24 0 := h.1.2 24 0 (by decide)
theorem QC_413 {b : Nat → Int} {n : Int} {N : Nat} {Γ : zΓ} {w t : Nat} {A : aS} {G : zH} (h : QC b n N Γ w t A G) : G.1 413 w 0 = A 25 0 := h.1.2 25 0 (by decide)
theorem QC_2025 {b : Nat → Int} {n : Int} {N : Nat} {Γ : zΓ} {w t : Nat} {A : aS} {G : zH} (h : QC b n N Γ w t A G) (j : Nat) : G.1 2025 (Γ.2.1 w 9) j = A 26 j := h.1.2 26 j (by decide)
theorem QC_403 {b : Nat → Int} {n : Int} {N : Nat} {Γ : zΓ} {w t : Nat} {A : aS} {G : zH} (h : QC b n N Γ w t A G) : G.1 403 w 0 = tK b n A := h.2.2.2.1
theorem QC_404 {b : Nat → Int} {n : Int} {N : Nat} {Γ : zΓ} {w t : Nat} {A : aS} {G : zH} (h : QC b n N Γ w t A G) : (tK b n A = 3 → 0 ≤ G.1 404 w 0 ∧ min (G.1 404 w 0) 100000 = tV b n A) ∧ (tK b n A ≠ 3 → G.1 404 w 0 = tV b n A) := h.2.2.2.2.1
theorem QC_405 {b : Nat → Int} {n : Int} {N : Nat} {Γ : zΓ} {w t : Nat} {A : aS} {G : zH} (h : QC b n N Γ w t A G) : G.1 405 w 0 = tW b n A := h.2.2.2.2.2
theorem QC_t {b : Nat → Int} {n : Int} {N : Nat} {Γ : zΓ} {w t : Nat} {A : aS} {G : zH} (h : QC b n N Γ w t A G) : G.2.2 401 w = t := h.1.1.1
theorem QC_n {b : Nat → Int} {n : Int} {N : Nat} {Γ : zΓ} {w t : Nat} {A : aS} {G : zH} (h : QC b n N Γ w t A G) : G.1 704 (Γ.2.1 w 0) 0 = (N : Int) + 1 ∧ 0 ≤ A 0 0 ∧ A 0 0 ≤ N ∧ N ≤ 700 := ⟨h.2.1.1, h.2.2.1.1, h.2.2.1.2, h.2.1.2.1⟩
theorem TKN_at {b : Nat → Int} {n : Int} {N : Nat} {Γ : zΓ} {w : Nat} {G : zH} (h : TKN b n N Γ w G) {i : Nat} (hi : i ≤ N) : G.1 2046 (Γ.2.1 (Γ.2.1 w 0) 2) i = stn b n i ∧ G.1 2045 (Γ.2.1 (Γ.2.1 w 0) 1) i = tkK b n (stn b n i) ∧ tkR (tkK b n (stn b n i)) (tkV b n (stn b n i)) (G.1 2047 (Γ.2.1 (Γ.2.1 w 0) 3) i) ∧ (tkK b n (stn b n i) ≠ 0 ↔ i < N) := by
  obtain ⟨h1, h2, h3, h4, h5, h6, h7⟩ := h
  rcases Nat.lt_or_eq_of_le hi with q | q
  · obtain ⟨k1, k2, k3, k4⟩ := h4 i q
    exact ⟨k2, k3, k4, ⟨fun _ => q, fun _ => tkK_0 k1⟩⟩
  · subst q
    have e := tk_0 (b := b) (n := n) (p := n) (by omega)
    rw [h3, h5, h6, h7, e.1, e.2]
    exact ⟨rfl, rfl, ⟨fun q => absurd q (by decide), fun _ => rfl⟩, ⟨fun q => absurd rfl q, fun q => absurd q (Nat.lt_irrefl _)⟩⟩
theorem CV_I {Γ : zΓ} {w t : Nat} {A : aS} {G : zH} {r a i : Nat} {x : Int} (hr : r ∉ cL) (h : CV Γ w t A G) : CV Γ w t A (zuI G r a i x) :=
  CV_sm (rs := [r]) (zsm_I (by simp) zsm_rf) (fun r' hr' q => hr (by rw [List.mem_singleton] at q; rw [← q]; exact hr')) h
/-- a token is laid ready -/
theorem QC_ld {b : Nat → Int} {n : Int} {N : Nat} {Γ : zΓ} {w t : Nat} {A : aS} {G : zH} {x3 x4 x5 : Int} (hV : CV Γ w t A G) (hK : TKN b n N Γ w G) (hr : 0 ≤ A 0 0 ∧ A 0 0 ≤ N) (h3 : x3 = G.1 2045 (Γ.2.1 (Γ.2.1 w 0) 1) (A 0 0).toNat) (h4 : x4 = G.1 2047 (Γ.2.1 (Γ.2.1 w 0) 3) (A 0 0).toNat) (h5 : x5 = if x3 = 2 then x4 else -1) : QC b n N Γ w t A (zuI (zuI (zuI G 403 w 0 x3) 404 w 0 x4) 405 w 0 x5) := by
  obtain ⟨k1, k2, k3, -⟩ := TKN_at hK (i := (A 0 0).toNat) (by omega)
  have e3 : x3 = tK b n A := h3.trans k2
  rw [← h4] at k3
  refine ⟨CV_I (by decide) (CV_I (by decide) (CV_I (by decide) hV)), TKN_sm ?_ ?_ ?_ ?_ hK, hr, ?_, ?_, ?_⟩
  · rw [zuI_nf (by decide), zuI_nf (by decide), zuI_nf (by decide)]
  · rw [zuI_nf (by decide), zuI_nf (by decide), zuI_nf (by decide)]
  · rw [zuI_nf (by decide), zuI_nf (by decide), zuI_nf (by decide)]
  · rw [zuI_nf (by decide), zuI_nf (by decide), zuI_nf (by decide)]
  · rw [zuI_nf (by decide), zuI_nf (by decide), zuI_1, if_pos ⟨rfl, rfl, rfl⟩]
    exact e3
  · rw [zuI_nf (by decide), zuI_1, if_pos ⟨rfl, rfl, rfl⟩]
    exact k3
  · rw [zuI_1, if_pos ⟨rfl, rfl, rfl⟩, h5, e3]
    unfold tW
    by_cases q : tK b n A = 2
    · rw [if_pos q, if_pos q]
      exact k3.2 (by show tK b n A ≠ 3; omega)
    · rw [if_neg q, if_neg q]
def QN (b : Nat → Int) (n : Int) (N : Nat) (Γ : zΓ) (w t : Nat) (A : aS) (G : zH) : Prop := CV Γ w t A G ∧ TKN b n N Γ w G ∧ (-1 ≤ A 0 0 ∧ A 0 0 ≤ N)
theorem QN_of {b : Nat → Int} {n : Int} {N : Nat} {Γ : zΓ} {w t : Nat} {A : aS} {G : zH} (h : QC b n N Γ w t A G) : QN b n N Γ w t A G := ⟨h.1, h.2.1, by have := h.2.2.1; omega⟩
theorem sNext_lt {b : Nat → Int} {n : Int} {N : Nat} {Γ : zΓ} {w t : Nat} {A : aS} {G : zH} (h : QN b n N Γ w t A G) (hl : A 0 0 < N) : sNext b n A = up A 0 0 (A 0 0 + 1) := by
  unfold sNext
  by_cases q : A 0 0 < 0
  · rw [if_pos (Or.inl q)]
  · have q2 : tK b n A ≠ 0 := (TKN_at h.2.1 (i := (A 0 0).toNat) (by omega)).2.2.2.mpr (by omega)
    rw [if_pos (Or.inr q2)]
theorem sNext_ge {b : Nat → Int} {n : Int} {N : Nat} {Γ : zΓ} {w t : Nat} {A : aS} {G : zH} (h : QN b n N Γ w t A G) (hl : ¬ A 0 0 < N) : sNext b n A = A := by
  unfold sNext
  have h2 := h.2.2
  rw [if_neg]
  rintro (q | q)
  · omega
  · have := (TKN_at h.2.1 (i := (A 0 0).toNat) (by omega)).2.2.2.mp q
    omega
theorem fnd_s {f : Nat → Int} {b c k S : Int} (h : k < S) : fndn f b c (S - k).toNat k = if f (b + k).toNat = c then k else fndn f b c (S - (k + 1)).toNat (k + 1) := by
  rw [show (S - k).toNat = (S - (k + 1)).toNat + 1 by omega, fndn]
theorem fnd_e {f : Nat → Int} {b c k S : Int} (h : ¬ k < S) : fndn f b c (S - k).toNat k = -1 := by
  rw [show (S - k).toNat = 0 by omega, fndn]
theorem rel_s {r : Int} {A : aS} (h : 0 < A 22 0) (hr : r ≤ bnd (A 26 (A 22 0 - 1).toNat)) : sRel r A = sReln r (A 22 0 - 1).toNat (sWrite (A 26 (A 22 0 - 1).toNat) 0 (gOp (A 26 (A 22 0 - 1).toNat) (up A 22 0 (A 22 0 - 1)))) := by
  unfold sRel
  rw [show (A 22 0).toNat = (A 22 0 - 1).toNat + 1 by omega, sReln, if_pos ⟨h, hr⟩]
theorem rel_e {r : Int} {A : aS} (h : ¬ (0 < A 22 0 ∧ r ≤ bnd (A 26 (A 22 0 - 1).toNat))) : sRel r A = A := by
  unfold sRel
  cases (A 22 0).toNat with
  | zero => rfl
  | succ k => rw [sReln, if_neg h]
theorem sWrite_22 {k q : Int} {A : aS} {f j : Nat} (h1 : f ≠ 18) (h2 : f ≠ 19) (h3 : f ≠ 20) : (sWrite k q A) f j = A f j := by
  unfold sWrite
  split
  · rw [up_f h3, up_f h2, up_f h1]
  · rfl
theorem gOp_f {k : Int} {A : aS} {f j : Nat} (h1 : f < 27) : (gOp k A) f j = A f j := by
  unfold gOp
  split
  · rw [up_f (by omega), up_f (by omega), up_f (by omega)]
  · rw [up_f (by omega), up_f (by omega), up_f (by omega), up_f (by omega)]
theorem gLeaf_f {k : Int} {A : aS} {f j : Nat} (h1 : f < 27) : (gLeaf k A) f j = A f j := by
  unfold gLeaf
  rw [up_f (by omega), up_f (by omega), up_f (by omega), up_f (by omega)]
theorem rel_u {r : Int} {A : aS} (h : 0 < A 22 0) (hr : r ≤ bnd (A 26 (A 22 0 - 1).toNat)) : sRel r A = sRel r (sWrite (A 26 (A 22 0 - 1).toNat) 0 (gOp (A 26 (A 22 0 - 1).toNat) (up A 22 0 (A 22 0 - 1)))) := by
  rw [rel_s h hr]
  conv => rhs; unfold sRel
  rw [sWrite_22 (by decide) (by decide) (by decide), gOp_f (by decide), up_eq]
theorem QC_gOp {b : Nat → Int} {n : Int} {N : Nat} {Γ : zΓ} {w t : Nat} {A : aS} {G : zH} {k : Int} (h : QC b n N Γ w t A G) : QC b n N Γ w t (gOp k A) G := by
  unfold gOp
  split
  · exact QC_g (by decide) (QC_g (by decide) (QC_g (by decide) h))
  · exact QC_g (by decide) (QC_g (by decide) (QC_g (by decide) (QC_g (by decide) h)))
theorem QC_gLeaf {b : Nat → Int} {n : Int} {N : Nat} {Γ : zΓ} {w t : Nat} {A : aS} {G : zH} {k : Int} (h : QC b n N Γ w t A G) : QC b n N Γ w t (gLeaf k A) G := by
  unfold gLeaf
  exact QC_g (by decide) (QC_g (by decide) (QC_g (by decide) (QC_g (by decide) h)))
theorem sFail_0 {b : Nat → Int} {n c : Int} {A : aS} (h : A 1 0 = 0) : sFail b n c A = up (up A 1 0 c) 2 0 (tP b n A) := if_pos h
theorem sFail_1 {b : Nat → Int} {n c : Int} {A : aS} (h : A 1 0 ≠ 0) : sFail b n c A = A := if_neg h
theorem sFail_f {b : Nat → Int} {n c : Int} {A : aS} (hc : c ≠ 0) : (sFail b n c A) 1 0 ≠ 0 := by
  unfold sFail
  split
  · rw [up_f (by decide), up_eq]; exact hc
  · assumption
theorem sNext_f {b : Nat → Int} {n : Int} {A : aS} {f j : Nat} (hf : f ≠ 0) : (sNext b n A) f j = A f j := by
  unfold sNext
  split
  · exact up_f hf
  · rfl

