/-! alike where types say so -/
def cLt (t : Nat) : Bool := cT t && decide (t ≠ 0)
def eqT (P : Nat → Bool) (Γ : zΓ) (G G' : zH) : Prop := (∀ r a i, P (Γ.1 a) = true → G'.1 r a i = G.1 r a i) ∧ (∀ r a i, P (Γ.1 a) = true → G'.2.1 r a i = G.2.1 r a i) ∧ ∀ r a, P (Γ.1 a) = true → G'.2.2 r a = G.2.2 r a
theorem eqT_no {P : Nat → Bool} {Γ : zΓ} {G : zH} (h0 : P 0 = false) : eqT P Γ G (zno Γ G) := by
  have k : ∀ a, P (Γ.1 a) = true → Γ.1 a ≠ 0 := fun a h q => by rw [q, h0] at h; exact absurd h (by decide)
  refine ⟨fun r a i h => zno_1 (k a h) r i, fun r a i h => ?_, fun r a _ => rfl⟩
  show (if Γ.1 a = 0 then 0 else G.2.1 r a i) = _
  rw [if_neg (k a h)]
theorem eqT_mx {P Q : Nat → Bool} {Γ : zΓ} {G G' : zH} (h : ∀ t, Q t = true → P t = true) : eqT Q Γ G' (zmx P Γ G' G) := ⟨fun r a i q => if_pos (h _ q), fun r a i q => if_pos (h _ q), fun r a q => if_pos (h _ q)⟩
theorem eqT_mo {P Q : Nat → Bool} {Γ : zΓ} {G G' : zH} (h : ∀ t, Q t = true → P t = false) : eqT Q Γ G (zmx P Γ G' G) := by
  have k : ∀ t, Q t = true → ¬ P t = true := fun t q z => by rw [h t q] at z; exact absurd z (by decide)
  exact ⟨fun r a i q => if_neg (k _ q), fun r a i q => if_neg (k _ q), fun r a q => if_neg (k _ q)⟩
theorem eqT_t {P : Nat → Bool} {Γ : zΓ} {G G1 G2 : zH} (h1 : eqT P Γ G G1) (h2 : eqT P Γ G1 G2) : eqT P Γ G G2 := ⟨fun r a i q => (h2.1 r a i q).trans (h1.1 r a i q), fun r a i q => (h2.2.1 r a i q).trans (h1.2.1 r a i q), fun r a q => (h2.2.2 r a q).trans (h1.2.2 r a q)⟩
theorem eqT_rf {P : Nat → Bool} {Γ : zΓ} {G : zH} : eqT P Γ G G := ⟨fun _ _ _ _ => rfl, fun _ _ _ _ => rfl, fun _ _ _ => rfl⟩
theorem cL_c : ∀ t, cLt t = true → cT t = true := fun t h => by
  unfold cLt at h
  rw [Bool.and_eq_true] at h
  exact h.1
theorem cL_r : ∀ t, cLt t = true → rT t = false := fun t h => by
  unfold rT
  rw [cL_c t h]
  rfl
theorem rT_r : ∀ t, rT t = true → cT t = false := fun t h => by
  unfold rT at h
  cases q : cT t with
  | false => rfl
  | true => rw [q] at h; exact absurd h (by decide)
/-- behind the class's call, behind the reference's -/
theorem eq_1c {Γ : zΓ} {G G' : zH} : eqT cLt Γ G' (zno Γ (zmx cT Γ G' G)) := eqT_t (eqT_mx cL_c) (eqT_no (by decide))
theorem eq_1r {Γ : zΓ} {G G' : zH} : eqT rT Γ G (zno Γ (zmx cT Γ G' G)) := eqT_t (eqT_mo rT_r) (eqT_no (by decide))
theorem eq_2c {Γ : zΓ} {G G' : zH} : eqT cLt Γ G (zno Γ (zmx rT Γ G' G)) := eqT_t (eqT_mo cL_r) (eqT_no (by decide))
theorem eq_2r {Γ : zΓ} {G G' : zH} : eqT rT Γ G' (zno Γ (zmx rT Γ G' G)) := eqT_t (eqT_mx (fun _ h => h)) (eqT_no (by decide))
/-! the reference's -/
theorem kR_c {Γ : zΓ} {w : Nat} {A : aS} {G G' : zH} (hL : zLok Γ) (tw : Γ.1 w = 10) (e : eqT rT Γ G G') (hk : kR Γ w A G) : kR Γ w A G' := by
  have w0 : rT (Γ.1 w) = true := by rw [tw]; decide
  have n22 : rT (Γ.1 (Γ.2.1 w 22)) = true := by rw [hL.2.2 10 22 w tw (by decide)]; decide
  have n24 : rT (Γ.1 (Γ.2.1 w 24)) = true := by rw [hL.2.2 10 24 w tw (by decide)]; decide
  have n25 : rT (Γ.1 (Γ.2.1 w 25)) = true := by rw [hL.2.2 10 25 w tw (by decide)]; decide
  have n26 : rT (Γ.1 (Γ.2.1 w 26)) = true := by rw [hL.2.2 10 26 w tw (by decide)]; decide
  have n27 : rT (Γ.1 (Γ.2.1 w 27)) = true := by rw [hL.2.2 10 27 w tw (by decide)]; decide
  have n28 : rT (Γ.1 (Γ.2.1 w 28)) = true := by rw [hL.2.2 10 28 w tw (by decide)]; decide
  have n29 : rT (Γ.1 (Γ.2.1 w 29)) = true := by rw [hL.2.2 10 29 w tw (by decide)]; decide
  have n30 : rT (Γ.1 (Γ.2.1 w 30)) = true := by rw [hL.2.2 10 30 w tw (by decide)]; decide
  have n31 : rT (Γ.1 (Γ.2.1 w 31)) = true := by rw [hL.2.2 10 31 w tw (by decide)]; decide
  have n32 : rT (Γ.1 (Γ.2.1 w 32)) = true := by rw [hL.2.2 10 32 w tw (by decide)]; decide
  have n33 : rT (Γ.1 (Γ.2.1 w 33)) = true := by rw [hL.2.2 10 33 w tw (by decide)]; decide
  have n34 : rT (Γ.1 (Γ.2.1 w 34)) = true := by rw [hL.2.2 10 34 w tw (by decide)]; decide
  have n35 : rT (Γ.1 (Γ.2.1 w 35)) = true := by rw [hL.2.2 10 35 w tw (by decide)]; decide
  have n36 : rT (Γ.1 (Γ.2.1 w 36)) = true := by rw [hL.2.2 10 36 w tw (by decide)]; decide
  have n37 : rT (Γ.1 (Γ.2.1 w 37)) = true := by rw [hL.2.2 10 37 w tw (by decide)]; decide
  have n38 : rT (Γ.1 (Γ.2.1 w 38)) = true := by rw [hL.2.2 10 38 w tw (by decide)]; decide
  have n39 : rT (Γ.1 (Γ.2.1 w 39)) = true := by rw [hL.2.2 10 39 w tw (by decide)]; decide
  have h : ∀ r a j, rT (Γ.1 a) = true → G'.1 r a j = G.1 r a j := e.1
  obtain ⟨⟨a1, a2, a3, a4, a5⟩, b, c1, c2, c3, c4, c5, c6, c7, c8, c9⟩ := hk
  refine ⟨⟨(h 1012 w 0 w0).trans a1, (h 1013 w 0 w0).trans a2, (h 1014 w 0 w0).trans a3, (h 1015 w 0 w0).trans a4, (h 1016 w 0 w0).trans a5⟩, b, fun j hj => ?_, fun j hj => ?_, fun j hj => ?_, c4, fun j hj => ?_, fun j hj => ?_, fun j hj => ?_, fun j hj => ?_, fun j hj hj2 => ?_⟩
  · rw [h 2061 _ j n24, h 2062 _ j n25]; exact c1 j hj
  · rw [h 2063 _ j n26, h 2064 _ j n27]; exact c2 j hj
  · rw [h 2065 _ j n28]; exact c3 j hj
  · rw [h 2066 _ j n29, h 2067 _ j n30, h 2068 _ j n31, h 2069 _ j n32]; exact c5 j hj
  · rw [h 2070 _ j n33]; exact c6 j hj
  · rw [h 2059 _ j n22]; exact c7 j hj
  · rw [h 2071 _ j n34, h 2072 _ j n35, h 2073 _ j n36]; exact c8 j hj
  · rw [h 2074 _ j n37, h 2075 _ j n38, h 2076 _ j n39]; exact c9 j hj hj2
theorem MI_c {Γ : zΓ} {w : Nat} {G G' : zH} (hL : zLok Γ) (tw : Γ.1 w = 10) (e : eqT rT Γ G G') (hk : MI Γ w G) : MI Γ w G' := by
  have n34 : rT (Γ.1 (Γ.2.1 w 34)) = true := by rw [hL.2.2 10 34 w tw (by decide)]; decide
  have n36 : rT (Γ.1 (Γ.2.1 w 36)) = true := by rw [hL.2.2 10 36 w tw (by decide)]; decide
  have n37 : rT (Γ.1 (Γ.2.1 w 37)) = true := by rw [hL.2.2 10 37 w tw (by decide)]; decide
  have n38 : rT (Γ.1 (Γ.2.1 w 38)) = true := by rw [hL.2.2 10 38 w tw (by decide)]; decide
  have n39 : rT (Γ.1 (Γ.2.1 w 39)) = true := by rw [hL.2.2 10 39 w tw (by decide)]; decide
  refine ⟨fun k hk2 => ?_, fun i hi => ?_⟩
  · rw [e.1 2071 _ k n34, e.1 2073 _ k n36]; exact hk.1 k hk2
  · rw [e.1 2074 _ i n37, e.1 2075 _ i n38, e.1 2076 _ i n39]; exact hk.2 i hi
theorem rW_c {Γ : zΓ} {w : Nat} {b : Int} {W : aS} {G G' : zH} (hL : zLok Γ) (tw : Γ.1 w = 10) (e : eqT rT Γ G G') (h : rW Γ w b W G) : rW Γ w b W G' := by
  have n51 : rT (Γ.1 (Γ.2.1 w 51)) = true := by rw [hL.2.2 10 51 w tw (by decide)]; decide
  have n52 : rT (Γ.1 (Γ.2.1 w 52)) = true := by rw [hL.2.2 10 52 w tw (by decide)]; decide
  have n53 : rT (Γ.1 (Γ.2.1 w 53)) = true := by rw [hL.2.2 10 53 w tw (by decide)]; decide
  have n54 : rT (Γ.1 (Γ.2.1 w 54)) = true := by rw [hL.2.2 10 54 w tw (by decide)]; decide
  have n55 : rT (Γ.1 (Γ.2.1 w 55)) = true := by rw [hL.2.2 10 55 w tw (by decide)]; decide
  have n56 : rT (Γ.1 (Γ.2.1 w 56)) = true := by rw [hL.2.2 10 56 w tw (by decide)]; decide
  have n57 : rT (Γ.1 (Γ.2.1 w 57)) = true := by rw [hL.2.2 10 57 w tw (by decide)]; decide
  have n58 : rT (Γ.1 (Γ.2.1 w 58)) = true := by rw [hL.2.2 10 58 w tw (by decide)]; decide
  have n59 : rT (Γ.1 (Γ.2.1 w 59)) = true := by rw [hL.2.2 10 59 w tw (by decide)]; decide
  have n60 : rT (Γ.1 (Γ.2.1 w 60)) = true := by rw [hL.2.2 10 60 w tw (by decide)]; decide
  have n64 : rT (Γ.1 (Γ.2.1 w 64)) = true := by rw [hL.2.2 10 64 w tw (by decide)]; decide
  have n65 : rT (Γ.1 (Γ.2.1 w 65)) = true := by rw [hL.2.2 10 65 w tw (by decide)]; decide
  obtain ⟨h1, h2, ⟨h3, h4, h5, h6⟩, h7⟩ := h
  refine ⟨fun j hj => ?_, fun j hj => ?_, ⟨?_, ?_, ?_, ?_⟩, fun k hk => ?_⟩
  · rw [e.1 2081 _ _ n51, e.1 2082 _ _ n52]; exact h1 j hj
  · rw [e.1 2083 _ _ n53, e.1 2084 _ _ n54, e.1 2085 _ _ n55, e.1 2086 _ _ n56]; exact h2 j hj
  · rw [e.1 2087 _ _ n57]; exact h3
  · rw [e.1 2088 _ _ n58]; exact h4
  · rw [e.1 2089 _ _ n59]; exact h5
  · rw [e.1 2090 _ _ n60]; exact h6
  · rw [e.1 2093 _ _ n64, e.1 2094 _ _ n65]; exact h7 k hk
theorem rS_c {Γ : zΓ} {w : Nat} {W : aS} {G G' : zH} (hL : zLok Γ) (tw : Γ.1 w = 10) (e : eqT rT Γ G G') (h : rS Γ w W G) : rS Γ w W G' := by
  have w0 : rT (Γ.1 w) = true := by rw [tw]; decide
  have n62 : rT (Γ.1 (Γ.2.1 w 62)) = true := by rw [hL.2.2 10 62 w tw (by decide)]; decide
  have n63 : rT (Γ.1 (Γ.2.1 w 63)) = true := by rw [hL.2.2 10 63 w tw (by decide)]; decide
  have n66 : rT (Γ.1 (Γ.2.1 w 66)) = true := by rw [hL.2.2 10 66 w tw (by decide)]; decide
  have n67 : rT (Γ.1 (Γ.2.1 w 67)) = true := by rw [hL.2.2 10 67 w tw (by decide)]; decide
  have n68 : rT (Γ.1 (Γ.2.1 w 68)) = true := by rw [hL.2.2 10 68 w tw (by decide)]; decide
  have n69 : rT (Γ.1 (Γ.2.1 w 69)) = true := by rw [hL.2.2 10 69 w tw (by decide)]; decide
  have n70 : rT (Γ.1 (Γ.2.1 w 70)) = true := by rw [hL.2.2 10 70 w tw (by decide)]; decide
  have n71 : rT (Γ.1 (Γ.2.1 w 71)) = true := by rw [hL.2.2 10 71 w tw (by decide)]; decide
  refine ⟨fun k hk => ?_, by rw [e.1 1083 _ _ w0]; exact h.2⟩
  rw [e.1 2091 _ _ n62, e.1 2092 _ _ n63, e.1 2095 _ _ n66, e.1 2096 _ _ n67, e.1 2097 _ _ n68, e.1 2098 _ _ n69, e.1 2099 _ _ n70, e.1 2100 _ _ n71]
  exact h.1 k hk
theorem rD_c {Γ : zΓ} {w : Nat} {W : aS} {G G' : zH} (tw : Γ.1 w = 10) (e : eqT rT Γ G G') (h : rD w W G) : rD w W G' := (e.2.1 1061 w 0 (by rw [tw]; decide)).trans h
theorem bR_c {Γ : zΓ} {w : Nat} {Ws : Nat → aS} {n : Int} {G G' : zH} (hL : zLok Γ) (tw : Γ.1 w = 10) (e : eqT rT Γ G G') (h : bR Γ w Ws n G) : bR Γ w Ws n G' := by
  have n85 : rT (Γ.1 (Γ.2.1 w 85)) = true := by rw [hL.2.2 10 85 w tw (by decide)]; decide
  exact fun u hu => tF_cg (fun m _ => by rw [e.1 2105 _ _ n85]) (h u hu)
theorem iR_c {Γ : zΓ} {w : Nat} {V : aS} {G G' : zH} (hL : zLok Γ) (tw : Γ.1 w = 10) (e : eqT rT Γ G G') (h : iR Γ w V G) : iR Γ w V G' := by
  have w0 : rT (Γ.1 w) = true := by rw [tw]; decide
  have n89 : rT (Γ.1 (Γ.2.1 w 89)) = true := by rw [hL.2.2 10 89 w tw (by decide)]; decide
  have n90 : rT (Γ.1 (Γ.2.1 w 90)) = true := by rw [hL.2.2 10 90 w tw (by decide)]; decide
  obtain ⟨h1, h2, h3, h4⟩ := h
  refine ⟨tF_cg (fun m _ => by rw [e.1 2106 _ _ n89]) h1, fun k hk h60 => ?_, (e.1 1087 w 0 w0).trans h3, (e.2.1 1088 w 0 w0).trans h4⟩
  rw [e.1 2107 _ _ n90, e.1 2107 _ _ n90, e.1 2107 _ _ n90, e.1 2107 _ _ n90, e.1 2107 _ _ n90, e.1 2107 _ _ n90, e.1 2107 _ _ n90, e.1 2107 _ _ n90, e.1 2107 _ _ n90]
  exact h2 k hk h60
theorem kR_no {Γ : zΓ} {w : Nat} {A : aS} {G : zH} (hL : zLok Γ) (tw : Γ.1 w = 10) (h : kR Γ w A G) : kR Γ w A (zno Γ G) := kR_c hL tw (eqT_no (by decide)) h
theorem rW_no {Γ : zΓ} {w : Nat} {b : Int} {W : aS} {G : zH} (hL : zLok Γ) (tw : Γ.1 w = 10) (h : rW Γ w b W G) : rW Γ w b W (zno Γ G) := rW_c hL tw (eqT_no (by decide)) h
theorem rS_no {Γ : zΓ} {w : Nat} {W : aS} {G : zH} (hL : zLok Γ) (tw : Γ.1 w = 10) (h : rS Γ w W G) : rS Γ w W (zno Γ G) := rS_c hL tw (eqT_no (by decide)) h
theorem rD_no {Γ : zΓ} {w : Nat} {W : aS} {G : zH} (h0 : Γ.1 w ≠ 0) (h : rD w W G) : rD w W (zno Γ G) := by
  show (if Γ.1 w = 0 then 0 else G.2.1 1061 w 0) = _
  rw [if_neg h0]
  exact h
