section
/-! alike where types say so -/
def cLt (t : Nat) : Bool := cT t && decide (t ≠ 0)
def eqT (P : Nat → Bool) (Γ : zΓ) (G G' : zH) : Prop := (∀ r a i, P (Γ.1 a) = true → G'.1 r a i = G.1 r a i) ∧ (∀ r a i, P (Γ.1 a) = true → G'.2.1 r a i = G.2.1 r a i) ∧ ∀ r a, P (Γ.1 a) = true → G'.2.2 r a = G.2.2 r a
theorem eqT_no {P : Nat → Bool} {Γ : zΓ} {G : zH} (h0 : P 0 = false) : eqT P Γ G (zno Γ G) := by
  have k : ∀ a, P (Γ.1 a) = true → Γ.1 a ≠ 0 := fun a h q => by rw [q, h0] at h; exact absurd h (by decide)
  refine ⟨fun r a i h => zno_1 (k a h) r i, fun r a i h => ?_, fun r a _ => rfl⟩
  show (if Γ.1 a = 0 then 0 else G.2.1 r a i) = _
  rw [if_neg (k a h)]
theorem eqT_mx {P Q : Nat → Bool} {Γ : zΓ} {G G' : zH} (h : ∀ t, Q t = true → P t = true) : eqT Q Γ G' (zmx P Γ G' G) := ⟨fun r a i q => if_pos (h _ q), fun r a i q => if_pos (h _ q), fun r a q => if_pos (h _ q)⟩
theorem eqT_mo {P Q : Nat → Bool} {Γ : zΓ} {G G' : zH} (h : ∀ t, Q t = true → P t = false) : eqT Q Γ G (zmx P Γ G' G) := by
  have k : ∀ t, Q t = true → ¬ P t = true := fun t q z => by rw [h t q] at z; exact absurd z (by decide)
  exact ⟨fun r a i q => if_neg (k _ q), fun r a i q => if_neg (k _ q), fun r a q => if_neg (k _ q)⟩
theorem eqT_t {P : Nat → Bool} {Γ : zΓ} {G G1 G2 : zH} (h1 : eqT P Γ G G1) (h2 : eqT P Γ G1 G2) : eqT P Γ G G2 := ⟨fun r a i q => (h2.1 r a i q).trans (h1.1 r a i q), fun r a i q => (h2.2.1 r a i q).trans (h1.2.1 r a i q), fun r a q => (h2.2.2 r a q).trans (h1.2.2 r a q)⟩
theorem eqT_rf {P : Nat → Bool} {Γ : zΓ} {G : zH} : eqT P Γ G G := ⟨fun _ _ _ _ => rfl, fun _ _ _ _ => rfl, fun _ _ _ => rfl⟩
theorem cL_c : ∀ t, cLt t = true → cT t = true := fun t h => by
  unfold cLt at h
  rw [Bool.and_eq_true] at h
  exact h.1
theorem cL_r : ∀ t, cLt t = true → rT t = false := fun t h => by
  unfold rT
  rw [cL_c t h]
  rfl
theorem rT_r : ∀ t, rT t = true → cT t = false := fun t h => by
  unfold rT at h
  cases q : cT t with
  | false => rfl
  | true => rw [q] at h; exact absurd h (by decide)
/-- behind the class's call, behind the reference's -/
theorem eq_1c {Γ : zΓ} {G G' : zH} : eqT cLt Γ G' (zno Γ (zmx cT Γ G' G)) := eqT_t (eqT_mx cL_c) (eqT_no (by decide))
theorem eq_1r {Γ : zΓ} {G G' : zH} : eqT rT Γ G (zno Γ (zmx cT Γ G' G)) := eqT_t (eqT_mo rT_r) (eqT_no (by decide))
theorem eq_2c {Γ : zΓ} {G G' : zH} : eqT cLt Γ G (zno Γ (zmx rT Γ G' G)) := eqT_t (eqT_mo cL_r) (eqT_no (by decide))
theorem eq_2r {Γ : zΓ} {G G' : zH} : eqT rT Γ G' (zno Γ (zmx rT Γ G' G)) := eqT_t (eqT_mx (fun _ h => h)) (eqT_no (by decide))
/-! the reference's -/
theorem kR_c {Γ : zΓ} {w : Nat} {A : aS} {G G' : zH} (hL : zLok Γ) (tw : Γ.1 w = 10) (e : eqT rT Γ G G') (hk : kR Γ w A G) : kR Γ w A G' := by
  have w0 : rT (Γ.1 w) = true := by rw [tw]; decide
  have n22 : rT (Γ.1 (Γ.2.1 w 22)) = true := by rw [hL.2.2 10 22 w tw (by decide)]; decide
  have n24 : rT (Γ.1 (Γ.2.1 w 24)) = true := by rw [hL.2.2 10 24 w tw (by decide)]; decide
  have n25 : rT (Γ.1 (Γ.2.1 w 25)) = true := by rw [hL.2.2 10 25 w tw (by decide)]; decide
  have n26 : rT (Γ.1 (Γ.2.1 w 26)) = true := by rw [hL.2.2 10 26 w tw (by decide)]; decide
  have n27 : rT (Γ.1 (Γ.2.1 w 27)) = true := by rw [hL.2.2 10 27 w tw (by decide)]; decide
  have n28 : rT (Γ.1 (Γ.2.1 w 28)) = true := by rw [hL.2.2 10 28 w tw (by decide)]; decide
  have n29 : rT (Γ.1 (Γ.2.1 w 29)) = true := by rw [hL.2.2 10 29 w tw (by decide)]; decide
  have n30 : rT (Γ.1 (Γ.2.1 w 30)) = true := by rw [hL.2.2 10 30 w tw (by decide)]; decide
  have n31 : rT (Γ.1 (Γ.2.1 w 31)) = true := by rw [hL.2.2 10 31 w tw (by decide)]; decide
  have n32 : rT (Γ.1 (Γ.2.1 w 32)) = true := by rw [hL.2.2 10 32 w tw (by decide)]; decide
  have n33 : rT (Γ.1 (Γ.2.1 w 33)) = true := by rw [hL.2.2 10 33 w tw (by decide)]; decide
  have n34 : rT (Γ.1 (Γ.2.1 w 34)) = true := by rw [hL.2.2 10 34 w tw (by decide)]; decide
  have n35 : rT (Γ.1 (Γ.2.1 w 35)) = true := by rw [hL.2.2 10 35 w tw (by decide)]; decide
  have n36 : rT (Γ.1 (Γ.2.1 w 36)) = true := by rw [hL.2.2 10 36 w tw (by decide)]; decide
  have n37 : rT (Γ.1 (Γ.2.1 w 37)) = true := by rw [hL.2.2 10 37 w tw (by decide)]; decide
  have n38 : rT (Γ.1 (Γ.2.1 w 38)) = true := by rw [hL.2.2 10 38 w tw (by decide)]; decide
  have n39 : rT (Γ.1 (Γ.2.1 w 39)) = true := by rw [hL.2.2 10 39 w tw (by decide)]; decide
  have h : ∀ r a j, rT (Γ.1 a) = true → G'.1 r a j = G.1 r a j := e.1
  obtain ⟨⟨a1, a2, a3, a4, a5⟩, b, c1, c2, c3, c4, c5, c6, c7, c8, c9⟩ := hk
  refine ⟨⟨(h 1012 w 0 w0).trans a1, (h 1013 w 0 w0).trans a2, (h 1014 w 0 w0).trans a3, (h 1015 w 0 w0).trans a4, (h 1016 w 0 w0).trans a5⟩, b, fun j hj => ?_, fun j hj => ?_, fun j hj => ?_, c4, fun j hj => ?_, fun j hj => ?_, fun j hj => ?_, fun j hj => ?_, fun j hj hj2 => ?_⟩
  · rw [h 2061 _ j n24, h 2062 _ j n25]; exact c1 j hj
  · rw [h 2063 _ j n26, h 2064 _ j n27]; exact c2 j hj
  · rw [h 2065 _ j n28]; exact c3 j hj
  · rw [h 2066 _ j n29, h 2067 _ j n30, h 2068 _ j n31, h 2069 _ j n32]; exact c5 j hj
  · rw [h 2070 _ j n33]; exact c6 j hj
  · rw [h 2059 _ j n22]; exact c7 j hj
  · rw [h 2071 _ j n34, h 2072 _ j n35, h 2073 _ j n36]; exact c8 j hj
  · rw [h 2074 _ j n37, h 2075 _ j n38, h 2076 _ j n39]; exact c9 j hj hj2
theorem MI_c {Γ : zΓ} {w : Nat} {G G' : zH} (hL : zLok Γ) (tw : Γ.1 w = 10) (e : eqT rT Γ G G') (hk : MI Γ w G) : MI Γ w G' := by
  have n34 : rT (Γ.1 (Γ.2.1 w 34)) = true := by rw [hL.2.2 10 34 w tw (by decide)]; decide
  have n36 : rT (Γ.1 (Γ.2.1 w 36)) = true := by rw [hL.2.2 10 36 w tw (by decide)]; decide
  have n37 : rT (Γ.1 (Γ.2.1 w 37)) = true := by rw [hL.2.2 10 37 w tw (by decide)]; decide
  have n38 : rT (Γ.1 (Γ.2.1 w 38)) = true := by rw [hL.2.2 10 38 w tw (by decide)]; decide
  have n39 : rT (Γ.1 (Γ.2.1 w 39)) = true := by rw [hL.2.2 10 39 w tw (by decide)]; decide
  refine ⟨fun k hk2 => ?_, fun i hi => ?_⟩
  · rw [e.1 2071 _ k n34, e.1 2073 _ k n36]; exact hk.1 k hk2
  · rw [e.1 2074 _ i n37, e.1 2075 _ i n38, e.1 2076 _ i n39]; exact hk.2 i hi
theorem rW_c {Γ : zΓ} {w : Nat} {b : Int} {W : aS} {G G' : zH} (hL : zLok Γ) (tw : Γ.1 w = 10) (e : eqT rT Γ G G') (h : rW Γ w b W G) : rW Γ w b W G' := by
  have n51 : rT (Γ.1 (Γ.2.1 w 51)) = true := by rw [hL.2.2 10 51 w tw (by decide)]; decide
  have n52 : rT (Γ.1 (Γ.2.1 w 52)) = true := by rw [hL.2.2 10 52 w tw (by decide)]; decide
  have n53 : rT (Γ.1 (Γ.2.1 w 53)) = true := by rw [hL.2.2 10 53 w tw (by decide)]; decide
  have n54 : rT (Γ.1 (Γ.2.1 w 54)) = true := by rw [hL.2.2 10 54 w tw (by decide)]; decide
  have n55 : rT (Γ.1 (Γ.2.1 w 55)) = true := by rw [hL.2.2 10 55 w tw (by decide)]; decide
  have n56 : rT (Γ.1 (Γ.2.1 w 56)) = true := by rw [hL.2.2 10 56 w tw (by decide)]; decide
  have n57 : rT (Γ.1 (Γ.2.1 w 57)) = true := by rw [hL.2.2 10 57 w tw (by decide)]; decide
  have n58 : rT (Γ.1 (Γ.2.1 w 58)) = true := by rw [hL.2.2 10 58 w tw (by decide)]; decide
  have n59 : rT (Γ.1 (Γ.2.1 w 59)) = true := by rw [hL.2.2 10 59 w tw (by decide)]; decide
  have n60 : rT (Γ.1 (Γ.2.1 w 60)) = true := by rw [hL.2.2 10 60 w tw (by decide)]; decide
  have n64 : rT (Γ.1 (Γ.2.1 w 64)) = true := by rw [hL.2.2 10 64 w tw (by decide)]; decide
  have n65 : rT (Γ.1 (Γ.2.1 w 65)) = true := by rw [hL.2.2 10 65 w tw (by decide)]; decide
  obtain ⟨h1, h2, ⟨h3, h4, h5, h6⟩, h7⟩ := h
  refine ⟨fun j hj => ?_, fun j hj => ?_, ⟨?_, ?_, ?_, ?_⟩, fun k hk => ?_⟩
  · rw [e.1 2081 _ _ n51, e.1 2082 _ _ n52]; exact h1 j hj
  · rw [e.1 2083 _ _ n53, e.1 2084 _ _ n54, e.1 2085 _ _ n55, e.1 2086 _ _ n56]; exact h2 j hj
  · rw [e.1 2087 _ _ n57]; exact h3
  · rw [e.1 2088 _ _ n58]; exact h4
  · rw [e.1 2089 _ _ n59]; exact h5
  · rw [e.1 2090 _ _ n60]; exact h6
  · rw [e.1 2093 _ _ n64, e.1 2094 _ _ n65]; exact h7 k hk
theorem rS_c {Γ : zΓ} {w : Nat} {W : aS} {G G' : zH} (hL : zLok Γ) (tw : Γ.1 w = 10) (e : eqT rT Γ G G') (h : rS Γ w W G) : rS Γ w W G' := by
  have w0 : rT (Γ.1 w) = true := by rw [tw]; decide
  have n62 : rT (Γ.1 (Γ.2.1 w 62)) = true := by rw [hL.2.2 10 62 w tw (by decide)]; decide
  have n63 : rT (Γ.1 (Γ.2.1 w 63)) = true := by rw [hL.2.2 10 63 w tw (by decide)]; decide
  have n66 : rT (Γ.1 (Γ.2.1 w 66)) = true := by rw [hL.2.2 10 66 w tw (by decide)]; decide
  have n67 : rT (Γ.1 (Γ.2.1 w 67)) = true := by rw [hL.2.2 10 67 w tw (by decide)]; decide
  have n68 : rT (Γ.1 (Γ.2.1 w 68)) = true := by rw [hL.2.2 10 68 w tw (by decide)]; decide
  have n69 : rT (Γ.1 (Γ.2.1 w 69)) = true := by rw [hL.2.2 10 69 w tw (by decide)]; decide
  have n70 : rT (Γ.1 (Γ.2.1 w 70)) = true := by rw [hL.2.2 10 70 w tw (by decide)]; decide
  have n71 : rT (Γ.1 (Γ.2.1 w 71)) = true := by rw [hL.2.2 10 71 w tw (by decide)]; decide
  refine ⟨fun k hk => ?_, by rw [e.1 1083 _ _ w0]; exact h.2⟩
  rw [e.1 2091 _ _ n62, e.1 2092 _ _ n63, e.1 2095 _ _ n66, e.1 2096 _ _ n67, e.1 2097 _ _ n68, e.1 2098 _ _ n69, e.1 2099 _ _ n70, e.1 2100 _ _ n71]
  exact h.1 k hk
theorem rD_c {Γ : zΓ} {w : Nat} {W : aS} {G G' : zH} (tw : Γ.1 w = 10) (e : eqT rT Γ G G') (h : rD w W G) : rD w W G' := (e.2.1 1061 w 0 (by rw [tw]; decide)).trans h
theorem bR_c {Γ : zΓ} {w : Nat} {Ws : Nat → aS} {n : Int} {G G' : zH} (hL : zLok Γ) (tw : Γ.1 w = 10) (e : eqT rT Γ G G') (h : bR Γ w Ws n G) : bR Γ w Ws n G' := by
  have n85 : rT (Γ.1 (Γ.2.1 w 85)) = true := by rw [hL.2.2 10 85 w tw (by decide)]; decide
  exact fun u hu => tF_cg (fun m _ => by rw [e.1 2105 _ _ n85]) (h u hu)
theorem iR_c {Γ : zΓ} {w : Nat} {V : aS} {G G' : zH} (hL : zLok Γ) (tw : Γ.1 w = 10) (e : eqT rT Γ G G') (h : iR Γ w V G) : iR Γ w V G' := by
  have w0 : rT (Γ.1 w) = true := by rw [tw]; decide
  have n89 : rT (Γ.1 (Γ.2.1 w 89)) = true := by rw [hL.2.2 10 89 w tw (by decide)]; decide
  have n90 : rT (Γ.1 (Γ.2.1 w 90)) = true := by rw [hL.2.2 10 90 w tw (by decide)]; decide
  obtain ⟨h1, h2, h3, h4⟩ := h
  refine ⟨tF_cg (fun m _ => by rw [e.1 2106 _ _ n89]) h1, fun k hk h60 => ?_, (e.1 1087 w 0 w0).trans h3, (e.2.1 1088 w 0 w0).trans h4⟩
  rw [e.1 2107 _ _ n90, e.1 2107 _ _ n90, e.1 2107 _ _ n90, e.1 2107 _ _ n90, e.1 2107 _ _ n90, e.1 2107 _ _ n90, e.1 2107 _ _ n90, e.1 2107 _ _ n90, e.1 2107 _ _ n90]
  exact h2 k hk h60
theorem kR_no {Γ : zΓ} {w : Nat} {A : aS} {G : zH} (hL : zLok Γ) (tw : Γ.1 w = 10) (h : kR Γ w A G) : kR Γ w A (zno Γ G) := kR_c hL tw (eqT_no (by decide)) h
theorem rW_no {Γ : zΓ} {w : Nat} {b : Int} {W : aS} {G : zH} (hL : zLok Γ) (tw : Γ.1 w = 10) (h : rW Γ w b W G) : rW Γ w b W (zno Γ G) := rW_c hL tw (eqT_no (by decide)) h
theorem rS_no {Γ : zΓ} {w : Nat} {W : aS} {G : zH} (hL : zLok Γ) (tw : Γ.1 w = 10) (h : rS Γ w W G) : rS Γ w W (zno Γ G) := rS_c hL tw (eqT_no (by decide)) h
theorem rD_no {Γ : zΓ} {w : Nat} {W : aS} {G : zH} (h0 : Γ.1 w ≠ 0) (h : rD w W G) : rD w W (zno Γ G) := by
  show (if Γ.1 w = 0 then 0 else G.2.1 1061 w 0) = _
  rw [if_neg h0]
  exact h
end
section
theorem cad_cL {Γ : zΓ} {t : Nat} (hL : zLok Γ) (ht : Γ.1 t = 6) : ∀ f : Nat, 4 ≤ f → f < 22 → cLt (Γ.1 (cad Γ 0 t f)) = true := by
  have l0 : Γ.1 (Γ.2.1 t 0) = 2 := hL.2.2 6 0 t ht (by decide)
  intro f h4 hf
  rcases (show f = 4 ∨ f = 5 ∨ f = 6 ∨ f = 7 ∨ f = 8 ∨ f = 9 ∨ f = 10 ∨ f = 11 ∨ f = 12 ∨ f = 13 ∨ f = 14 ∨ f = 15 ∨ f = 16 ∨ f = 17 ∨ f = 18 ∨ f = 19 ∨ f = 20 ∨ f = 21 by omega) with rfl | rfl | rfl | rfl | rfl | rfl | rfl | rfl | rfl | rfl | rfl | rfl | rfl | rfl | rfl | rfl | rfl | rfl
  · show cLt (Γ.1 (Γ.2.1 t 2)) = true; rw [hL.2.2 6 2 t ht (by decide)]; decide
  · show cLt (Γ.1 (Γ.2.1 t 1)) = true; rw [hL.2.2 6 1 t ht (by decide)]; decide
  · show cLt (Γ.1 (Γ.2.1 t 3)) = true; rw [hL.2.2 6 3 t ht (by decide)]; decide
  · show cLt (Γ.1 (Γ.2.1 t 4)) = true; rw [hL.2.2 6 4 t ht (by decide)]; decide
  · show cLt (Γ.1 (Γ.2.1 t 5)) = true; rw [hL.2.2 6 5 t ht (by decide)]; decide
  · show cLt (Γ.1 (Γ.2.1 t 6)) = true; rw [hL.2.2 6 6 t ht (by decide)]; decide
  · show cLt (Γ.1 (Γ.2.1 t 7)) = true; rw [hL.2.2 6 7 t ht (by decide)]; decide
  · show cLt (Γ.1 (Γ.2.1 t 8)) = true; rw [hL.2.2 6 8 t ht (by decide)]; decide
  · show cLt (Γ.1 t) = true; rw [ht]; decide
  · show cLt (Γ.1 t) = true; rw [ht]; decide
  · show cLt (Γ.1 t) = true; rw [ht]; decide
  · show cLt (Γ.1 t) = true; rw [ht]; decide
  · show cLt (Γ.1 (Γ.2.1 (Γ.2.1 t 0) 2)) = true; rw [hL.2.2 2 2 _ l0 (by decide)]; decide
  · show cLt (Γ.1 (Γ.2.1 (Γ.2.1 t 0) 3)) = true; rw [hL.2.2 2 3 _ l0 (by decide)]; decide
  · show cLt (Γ.1 (Γ.2.1 (Γ.2.1 t 0) 0)) = true; rw [hL.2.2 2 0 _ l0 (by decide)]; decide
  · show cLt (Γ.1 (Γ.2.1 (Γ.2.1 t 0) 1)) = true; rw [hL.2.2 2 1 _ l0 (by decide)]; decide
  · show cLt (Γ.1 (Γ.2.1 t 0)) = true; rw [l0]; decide
  · show cLt (Γ.1 (Γ.2.1 t 0)) = true; rw [l0]; decide
theorem wad_cL {Γ : zΓ} {w : Nat} (hL : zLok Γ) (hw : Γ.1 w = 8) : ∀ f : Nat, f < 23 → cLt (Γ.1 (wad Γ w f)) = true := by
  have l1 : Γ.1 (Γ.2.1 w 1) = 5 := hL.2.2 8 1 w hw (by decide)
  intro f hf
  rcases (show f = 0 ∨ f = 1 ∨ f = 2 ∨ f = 3 ∨ f = 4 ∨ f = 5 ∨ f = 6 ∨ f = 7 ∨ f = 8 ∨ f = 9 ∨ f = 10 ∨ f = 11 ∨ f = 12 ∨ f = 13 ∨ f = 14 ∨ f = 15 ∨ f = 16 ∨ f = 17 ∨ f = 18 ∨ f = 19 ∨ f = 20 ∨ f = 21 ∨ f = 22 by omega) with rfl | rfl | rfl | rfl | rfl | rfl | rfl | rfl | rfl | rfl | rfl | rfl | rfl | rfl | rfl | rfl | rfl | rfl | rfl | rfl | rfl | rfl | rfl
  · show cLt (Γ.1 (Γ.2.1 w 1)) = true; rw [l1]; decide
  · show cLt (Γ.1 (Γ.2.1 (Γ.2.1 w 1) 0)) = true; rw [hL.2.2 5 0 _ l1 (by decide)]; decide
  · show cLt (Γ.1 (Γ.2.1 (Γ.2.1 w 1) 1)) = true; rw [hL.2.2 5 1 _ l1 (by decide)]; decide
  · show cLt (Γ.1 (Γ.2.1 (Γ.2.1 w 1) 2)) = true; rw [hL.2.2 5 2 _ l1 (by decide)]; decide
  · show cLt (Γ.1 (Γ.2.1 (Γ.2.1 w 1) 3)) = true; rw [hL.2.2 5 3 _ l1 (by decide)]; decide
  · show cLt (Γ.1 (Γ.2.1 (Γ.2.1 w 1) 4)) = true; rw [hL.2.2 5 4 _ l1 (by decide)]; decide
  · show cLt (Γ.1 (Γ.2.1 (Γ.2.1 w 1) 5)) = true; rw [hL.2.2 5 5 _ l1 (by decide)]; decide
  · show cLt (Γ.1 (Γ.2.1 (Γ.2.1 w 1) 6)) = true; rw [hL.2.2 5 6 _ l1 (by decide)]; decide
  · show cLt (Γ.1 (Γ.2.1 (Γ.2.1 w 1) 7)) = true; rw [hL.2.2 5 7 _ l1 (by decide)]; decide
  · show cLt (Γ.1 (Γ.2.1 (Γ.2.1 w 1) 8)) = true; rw [hL.2.2 5 8 _ l1 (by decide)]; decide
  · show cLt (Γ.1 (Γ.2.1 (Γ.2.1 w 1) 9)) = true; rw [hL.2.2 5 9 _ l1 (by decide)]; decide
  · show cLt (Γ.1 (Γ.2.1 w 2)) = true; rw [hL.2.2 8 2 w hw (by decide)]; decide
  · show cLt (Γ.1 (Γ.2.1 w 3)) = true; rw [hL.2.2 8 3 w hw (by decide)]; decide
  · show cLt (Γ.1 (Γ.2.1 w 4)) = true; rw [hL.2.2 8 4 w hw (by decide)]; decide
  · show cLt (Γ.1 (Γ.2.1 w 5)) = true; rw [hL.2.2 8 5 w hw (by decide)]; decide
  · show cLt (Γ.1 (Γ.2.1 w 6)) = true; rw [hL.2.2 8 6 w hw (by decide)]; decide
  · show cLt (Γ.1 (Γ.2.1 w 7)) = true; rw [hL.2.2 8 7 w hw (by decide)]; decide
  · show cLt (Γ.1 (Γ.2.1 w 8)) = true; rw [hL.2.2 8 8 w hw (by decide)]; decide
  · show cLt (Γ.1 w) = true; rw [hw]; decide
  · show cLt (Γ.1 w) = true; rw [hw]; decide
  · show cLt (Γ.1 w) = true; rw [hw]; decide
  · show cLt (Γ.1 w) = true; rw [hw]; decide
  · show cLt (Γ.1 w) = true; rw [hw]; decide
/-! the class's -/
theorem TV_t {Γ : zΓ} {t : Nat} {A : aS} {G G' : zH} (hL : zLok Γ) (tt : Γ.1 t = 6) (e : eqT cLt Γ G G') (h : TV Γ t A G) : TV Γ t A G' := fun f j h4 hf => by
  rw [e.1 _ _ j (cad_cL hL tt f h4 hf)]
  exact h f j h4 hf
/-- works at w hold W, their telling t holds A: whatever lies elsewhere -/
def QV (Γ : zΓ) (w t : Nat) (A W : aS) (G : zH) : Prop := (∀ f j : Nat, f < 23 → G.1 (wreg f) (wad Γ w f) j = W f j) ∧ TV Γ t A G ∧ G.2.2 800 w = t
theorem QV_Q {Γ : zΓ} {w t : Nat} {A W : aS} {G : zH} (h : QQ Γ w t A W G) : QV Γ w t A W G := ⟨h.1.2, h.2⟩
theorem QQ_V {Γ : zΓ} {w t : Nat} {A W : aS} {G : zH} (h : QV Γ w t A W G) : ∃ W' : aS, QQ Γ w t A W' G ∧ wEx W' W := by
  obtain ⟨W0, h0⟩ := QW_is (Γ := Γ) (w := w) (G := G)
  exact ⟨W0, ⟨h0, h.2⟩, fun f j hf => (h0.2 f j hf).symm.trans (h.1 f j hf)⟩
theorem QV_ex {Γ : zΓ} {w t : Nat} {A V W : aS} {G : zH} (e : wEx V W) (h : QV Γ w t A W G) : QV Γ w t A V G := ⟨fun f j hf => (h.1 f j hf).trans (e f j hf).symm, h.2⟩
theorem QV_t {Γ : zΓ} {w t : Nat} {A W : aS} {G G' : zH} (hL : zLok Γ) (tw : Γ.1 w = 8) (tt : Γ.1 t = 6) (e : eqT cLt Γ G G') (h : QV Γ w t A W G) : QV Γ w t A W G' := ⟨fun f j hf => (e.1 _ _ j (wad_cL hL tw f hf)).trans (h.1 f j hf), TV_t hL tt e h.2.1, (e.2.2 800 w (by rw [tw]; decide)).trans h.2.2⟩
theorem QV_n {Γ : zΓ} {w t : Nat} {A W : aS} {G G' : zH} {rs : List Nat} (hs : zsn rs G G') (hr : (∀ r ∈ wLs, r ∉ rs) ∧ ∀ f : Nat, f < 22 → 4 ≤ f → creg f ∉ rs) (h8 : G'.2.2 800 w = G.2.2 800 w) (h : QV Γ w t A W G) : QV Γ w t A W G' := ⟨fun f j hf => by rw [hs _ (hr.1 _ (wreg_in f hf))]; exact h.1 f j hf, TV_n hs hr.2 h.2.1, h8.trans h.2.2⟩
/-- all of the mill but its works trying -/
abbrev mNow (Γ : zΓ) (x : Nat) : Nat := Γ.2.1 x 4
abbrev mImg (Γ : zΓ) (x : Nat) : Nat := Γ.2.1 x 5
abbrev mTry (Γ : zΓ) (x : Nat) : Nat := Γ.2.1 x 6
abbrev pS : Type := aS × aS × aS × (Nat → aS) × (Nat → Int) × Int × Int × Int × (Nat → Int)
abbrev pA (p : pS) : aS := p.1
abbrev pW (p : pS) : aS := p.2.1
abbrev pV (p : pS) : aS := p.2.2.1
abbrev pZ (p : pS) : Nat → aS := p.2.2.2.1
abbrev pU (p : pS) : Nat → Int := p.2.2.2.2.1
abbrev pN (p : pS) : Int := p.2.2.2.2.2.1
abbrev pK (p : pS) : Int := p.2.2.2.2.2.2.1
abbrev pT (p : pS) : Int := p.2.2.2.2.2.2.2.1
abbrev pB (p : pS) : Nat → Int := p.2.2.2.2.2.2.2.2
/-- the class holds p -/
def SC (Γ : zΓ) (x : Nat) (p : pS) (G : zH) : Prop := (G.1 901 x 0 = pT p ∧ (∀ i : Nat, G.1 2055 (Γ.2.1 x 0) i = pB p i) ∧ ∀ q : Nat, q < 24 → G.1 2044 (Γ.2.1 (Γ.2.1 (Γ.2.1 x 2) 0) 0) q = wl.getD q 0) ∧ AP Γ (G.2.2 401 (Γ.2.1 x 2)) (G.2.2 903 x) ∧ QV Γ (mNow Γ x) (G.2.2 903 x) (pA p) (pW p) G ∧ (G.1 910 x 0 = pN p ∧ ∀ j : Nat, (j : Int) < pN p → G.1 2056 (Γ.2.1 x 9) j = pU p j) ∧ G.1 911 x 0 = pK p ∧ (pK p ≠ 0 → QV Γ (mImg Γ x) (G.2.2 903 x) (pA p) (pV p) G)
/-- the reference holds p -/
def SR (Γ : zΓ) (w : Nat) (p : pS) (G : zH) : Prop := MI Γ w G ∧ (G.1 1001 w 0 = pT p ∧ ∀ i : Nat, G.1 2057 (Γ.2.1 w 0) i = pB p i) ∧ kR Γ w (pA p) G ∧ (rW Γ w 0 (pW p) G ∧ rS Γ w (pW p) G ∧ rD w (pW p) G) ∧ (bR Γ w (pZ p) (pN p) G ∧ G.1 1084 w 0 = pN p) ∧ G.1 1086 w 0 = pK p ∧ (pK p ≠ 0 → iR Γ w (pV p) G)
/-- within bounds -/
def SP (p : pS) : Prop := TA (pA p) ∧ WI (pA p) (pW p) ∧ W7 (pW p) ∧ wUI (pA p) (pZ p) (pU p) (pN p) (pW p) ∧ (pK p ≠ 0 → WI (pA p) (pV p))
/-- what stays of the mill -/
def SG (Γ : zΓ) (x : Nat) : Prop := AW Γ (mNow Γ x) (mImg Γ x) ∧ AW Γ (mNow Γ x) (mTry Γ x) ∧ AW Γ (mImg Γ x) (mTry Γ x) ∧ Γ.2.1 (Γ.2.1 x 7) 0 = mTry Γ x
theorem told_6 {Γ : zΓ} {x : Nat} {G : zH} (hG : zG Γ G) (tx : Γ.1 x = 9) : Γ.1 (G.2.2 903 x) = 6 := hG.2.2 9 3 x tx (by decide)
theorem into_6 {Γ : zΓ} {x : Nat} {G : zH} (hL : zLok Γ) (hG : zG Γ G) (tx : Γ.1 x = 9) : Γ.1 (G.2.2 401 (Γ.2.1 x 2)) = 6 := hG.2.2 4 1 _ (hL.2.2 9 2 x tx (by decide)) (by decide)
theorem SC_t {Γ : zΓ} {x : Nat} {p : pS} {G G' : zH} (hL : zLok Γ) (tt : Γ.1 (G.2.2 903 x) = 6) (tx : Γ.1 x = 9) (e : eqT cLt Γ G G') (h : SC Γ x p G) : SC Γ x p G' := by
  obtain ⟨⟨h1, h2, h3⟩, h4, h5, ⟨h6, h7⟩, h8, h9⟩ := h
  have x0 : cLt (Γ.1 x) = true := by rw [tx]; decide
  have l2 := hL.2.2 9 2 x tx (by decide)
  have l20 := hL.2.2 4 0 _ l2 (by decide)
  have k0 : cLt (Γ.1 (Γ.2.1 x 0)) = true := by rw [hL.2.2 9 0 x tx (by decide)]; decide
  have k2 : cLt (Γ.1 (Γ.2.1 x 2)) = true := by rw [l2]; decide
  have k9 : cLt (Γ.1 (Γ.2.1 x 9)) = true := by rw [hL.2.2 9 9 x tx (by decide)]; decide
  have kw : cLt (Γ.1 (Γ.2.1 (Γ.2.1 (Γ.2.1 x 2) 0) 0)) = true := by rw [hL.2.2 7 0 _ l20 (by decide)]; decide
  have e1 : G'.2.2 903 x = G.2.2 903 x := e.2.2 903 x x0
  have e2 : G'.2.2 401 (Γ.2.1 x 2) = G.2.2 401 (Γ.2.1 x 2) := e.2.2 401 _ k2
  have t4 : Γ.1 (mNow Γ x) = 8 := hL.2.2 9 4 x tx (by decide)
  have t5 : Γ.1 (mImg Γ x) = 8 := hL.2.2 9 5 x tx (by decide)
  unfold SC
  rw [e1, e2]
  exact ⟨⟨(e.1 901 x 0 x0).trans h1, fun i => (e.1 2055 _ i k0).trans (h2 i), fun q hq => (e.1 2044 _ q kw).trans (h3 q hq)⟩, h4, QV_t hL t4 tt e h5, ⟨(e.1 910 x 0 x0).trans h6, fun j hj => (e.1 2056 _ j k9).trans (h7 j hj)⟩, (e.1 911 x 0 x0).trans h8, fun z => QV_t hL t5 tt e (h9 z)⟩
theorem SR_t {Γ : zΓ} {w : Nat} {p : pS} {G G' : zH} (hL : zLok Γ) (tw : Γ.1 w = 10) (e : eqT rT Γ G G') (h : SR Γ w p G) : SR Γ w p G' := by
  obtain ⟨h1, ⟨h2, h3⟩, h4, ⟨h5, h6, h7⟩, ⟨h8, h9⟩, h10, h11⟩ := h
  have w0 : rT (Γ.1 w) = true := by rw [tw]; decide
  have k0 : rT (Γ.1 (Γ.2.1 w 0)) = true := by rw [hL.2.2 10 0 w tw (by decide)]; decide
  exact ⟨MI_c hL tw e h1, ⟨(e.1 1001 w 0 w0).trans h2, fun i => (e.1 2057 _ i k0).trans (h3 i)⟩, kR_c hL tw e h4, ⟨rW_c hL tw e h5, rS_c hL tw e h6, rD_c tw e h7⟩, ⟨bR_c hL tw e h8, (e.1 1084 w 0 w0).trans h9⟩, (e.1 1086 w 0 w0).trans h10, fun z => iR_c hL tw e (h11 z)⟩
def LI (Γ : zΓ) (x mm : Nat) (G : zH) : Prop := zBn Γ G ∧ SG Γ x ∧ ∃ p : pS, SC Γ x p G ∧ SR Γ mm p G ∧ SP p
/-- one p for both, its works' other numbers as they lie there -/
theorem iR_ex {Γ : zΓ} {w : Nat} {U V : aS} {G : zH} (h : wEx U V) (hI : iR Γ w V G) : iR Γ w U G := by
  obtain ⟨h1, h2, h3, h4⟩ := hI
  refine ⟨rF_Q (wEx_Q (wEx_s h)) h1, fun k hk h60 => ?_, h3.trans (h 22 0 (by decide)).symm, h4.trans (h 21 0 (by decide)).symm⟩
  have q := h2 k (by rw [← h 0 0 (by decide)]; exact hk) h60
  unfold wLie at q ⊢
  rw [h 1 k (by decide), h 2 k (by decide), h 3 k (by decide), h 6 k (by decide), h 7 k (by decide), h 8 k (by decide), h 9 k (by decide), h 10 k (by decide), h 10 _ (by decide)]
  exact q
theorem SP_ex {p : pS} {W V : aS} (hW : wEx W (pW p)) (hV : wEx V (pV p)) (h : SP p) : SP (pA p, W, V, pZ p, pU p, pN p, pK p, pT p, pB p) := by
  obtain ⟨h1, h2, h3, h4, h5⟩ := h
  exact ⟨h1, wEx_I hW h2, wEx_7 hW h3, wUI_W (wEx_Q hW) h4, fun z => wEx_I hV (h5 z)⟩
theorem SR_ex {Γ : zΓ} {w : Nat} {p : pS} {G : zH} {W V : aS} (hW : wEx W (pW p)) (hV : wEx V (pV p)) (h : SR Γ w p G) : SR Γ w (pA p, W, V, pZ p, pU p, pN p, pK p, pT p, pB p) G := by
  obtain ⟨h1, h2, h4, ⟨h5, h6, h7⟩, h8, h10, h11⟩ := h
  exact ⟨h1, h2, h4, ⟨rW_ex hW h5, rS_ex hW h6, h7.trans (hW 21 0 (by decide)).symm⟩, h8, h10, fun z => iR_ex hV (h11 z)⟩
theorem SC_ex {Γ : zΓ} {x : Nat} {p : pS} {G : zH} {W V : aS} (hW : wEx W (pW p)) (hV : wEx V (pV p)) (h : SC Γ x p G) : SC Γ x (pA p, W, V, pZ p, pU p, pN p, pK p, pT p, pB p) G := by
  obtain ⟨h1, h4, h5, h6, h8, h9⟩ := h
  exact ⟨h1, h4, QV_ex hW h5, h6, h8, fun z => QV_ex hV (h9 z)⟩
theorem LI_open {Γ : zΓ} {x mm : Nat} {G : zH} (h : LI Γ x mm G) : ∃ p : pS, SC Γ x p G ∧ SR Γ mm p G ∧ SP p ∧ QQ Γ (mNow Γ x) (G.2.2 903 x) (pA p) (pW p) G ∧ (pK p ≠ 0 → QQ Γ (mImg Γ x) (G.2.2 903 x) (pA p) (pV p) G) := by
  obtain ⟨-, -, p, h1, h2, h3⟩ := h
  obtain ⟨W, w1, w2⟩ := QQ_V h1.2.2.1
  by_cases q : pK p ≠ 0
  · obtain ⟨V, v1, v2⟩ := QQ_V (h1.2.2.2.2.2 q)
    exact ⟨(pA p, W, V, pZ p, pU p, pN p, pK p, pT p, pB p), SC_ex w2 v2 h1, SR_ex w2 v2 h2, SP_ex w2 v2 h3, w1, fun _ => v1⟩
  · exact ⟨(pA p, W, pV p, pZ p, pU p, pN p, pK p, pT p, pB p), SC_ex w2 wEx_rf h1, SR_ex w2 wEx_rf h2, SP_ex w2 wEx_rf h3, w1, fun z => absurd z q⟩
/-- one call of each -/
theorem LI_step {Γ : zΓ} {x mm : Nat} {p : pS} {G G' G2 : zH} (hg : SG Γ x) (tx : Γ.1 x = 9) (tm : Γ.1 mm = 10) (hB1 : zBn Γ (zno Γ (zmx cT Γ G' G))) (h1 : SC Γ x p G') (h2 : SR Γ mm p G2) (hp : SP p) (hB2 : zBn Γ (zno Γ (zmx rT Γ G2 (zno Γ (zmx cT Γ G' G))))) : LI Γ x mm (zno Γ (zmx rT Γ G2 (zno Γ (zmx cT Γ G' G)))) := by
  have tt : Γ.1 (G'.2.2 903 x) = 6 := by
    have q := told_6 hB1.2.1 tx
    rw [(eq_1c (Γ := Γ) (G := G) (G' := G')).2.2 903 x (by rw [tx]; decide)] at q
    exact q
  exact ⟨hB2, hg, p, SC_t hB1.1 tt tx (eqT_t eq_1c eq_2c) h1, SR_t hB1.1 tm eq_2r h2, hp⟩
theorem SR_1 {Γ : zΓ} {mm : Nat} {p : pS} {G G' : zH} (hL : zLok Γ) (tm : Γ.1 mm = 10) (h : SR Γ mm p G) : SR Γ mm p (zno Γ (zmx cT Γ G' G)) := SR_t hL tm eq_1r h
/-- what stays, where the law's own look alone was called -/
abbrev sL (Γ : zΓ) (G G1 : zH) : Prop := (∀ q a i, Γ.1 a ≠ 0 → G1.1 q a i = G.1 q a i) ∧ (∀ q a i, Γ.1 a ≠ 0 → G1.2.1 q a i = G.2.1 q a i) ∧ G1.2.2 = G.2.2
theorem eq_s {P : Nat → Bool} {Γ : zΓ} {G G1 : zH} (h0 : P 0 = false) (e : sL Γ G G1) : eqT P Γ G G1 := by
  have k : ∀ a, P (Γ.1 a) = true → Γ.1 a ≠ 0 := fun a q z => by rw [z, h0] at q; exact absurd q (by decide)
  exact ⟨fun r a i q => e.1 r a i (k a q), fun r a i q => e.2.1 r a i (k a q), fun r a q => by rw [e.2.2]⟩
theorem LI_s {Γ : zΓ} {x mm : Nat} {p : pS} {G G1 G2 : zH} (hg : SG Γ x) (tx : Γ.1 x = 9) (tm : Γ.1 mm = 10) (hB : zBn Γ G) (e : sL Γ G G1) (h1 : SC Γ x p G) (h2 : SR Γ mm p G2) (hp : SP p) (hB2 : zBn Γ (zno Γ (zmx rT Γ G2 G1))) : LI Γ x mm (zno Γ (zmx rT Γ G2 G1)) :=
  ⟨hB2, hg, p, SC_t hB.1 (told_6 hB.2.1 tx) tx (eqT_t (eq_s (by decide) e) eq_2c) h1, SR_t hB.1 tm eq_2r h2, hp⟩
end
