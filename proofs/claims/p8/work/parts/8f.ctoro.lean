/-- the changing references of all that lay there stay (but works' tellings) -/
def zpq (Γ : zΓ) (G G1 : zH) : Prop := ∀ r a : Nat, Γ.1 a ≠ 0 → r ≠ 800 → G1.2.2 r a = G.2.2 r a
def zpz (rs : List Nat) (Γ : zΓ) (G G1 : zH) : Prop := zpr rs Γ G G1 ∧ zpq Γ G G1
theorem zpz_rf {rs : List Nat} {Γ : zΓ} {G : zH} : zpz rs Γ G G := ⟨zpr_rf, fun _ _ _ _ => rfl⟩
theorem zag_q {G : zH} {t q r a i : Nat} {fr : Nat → Nat} {iv : Nat → Int} (ha : a ≠ q) : (zag G t q fr iv).1 r a i = G.1 r a i := by
  show (if _ then _ else _) = _
  rw [if_neg (fun h => ha h.1)]
theorem zpz_ag {rs : List Nat} {Γ : zΓ} {G G1 : zH} {t q : Nat} {fr : Nat → Nat} {iv : Nat → Int} (h : zpz rs Γ G G1) (_ : True) (hq : Γ.1 q = 0) : zpz rs Γ G (zag G1 t q fr iv) := ⟨fun r hr a ha i => (zag_q (fun e => ha (by rw [e]; exact hq))).trans (h.1 r hr a ha i), fun r a ha h8 => by
  show (if a = q then _ else _) = _
  rw [if_neg (fun e => ha (by rw [e]; exact hq))]
  exact h.2 r a ha h8⟩
theorem zpz_tr {rs rs' : List Nat} {Γ Γ1 : zΓ} {G G1 G2 : zH} (h1 : zpz rs Γ G G1) (hx : zxt Γ Γ1) (h2 : zpz rs' Γ1 G1 G2) (hs : ∀ r ∈ rs, r ∈ rs') : zpz rs Γ G G2 := ⟨zpr_tr h1.1 hx h2.1 hs, fun r a ha h8 => (h2.2 r a (by rw [(hx.2.2.2 a ha).1]; exact ha) h8).trans (h1.2 r a ha h8)⟩
theorem zpz_no {rs ms : List Nat} {Γ Γ1 : zΓ} {G G1 G2 : zH} (h1 : zpz rs Γ G G1) (hx : zxt Γ Γ1) (hz : zsm ms G1 G2) (hr : ∀ r ∈ rs, r ∉ ms) : zpz rs Γ G (zno Γ1 G2) := ⟨zpr_no h1.1 hx hz hr, fun r a ha h8 => by
  show G2.2.2 r a = _
  rw [hz.2]
  exact h1.2 r a ha h8⟩
theorem zpz_nr {rs ms : List Nat} {Γ Γ1 : zΓ} {G G1 G2 : zH} (h1 : zpz rs Γ G G1) (hx : zxt Γ Γ1) (hz : zsn ms G1 G2) (hq : RF G1 G2) (hr : ∀ r ∈ rs, r ∉ ms) : zpz rs Γ G (zno Γ1 G2) := ⟨zpr_nn h1.1 hx hz hr, fun r a ha h8 => by
  show G2.2.2 r a = _
  rw [hq r a h8]
  exact h1.2 r a ha h8⟩
theorem cad_ok {Γ : zΓ} {t : Nat} (hL : zLok Γ) (ht : Γ.1 t = 6) : ∀ f : Nat, 4 ≤ f → f < 22 → Γ.1 (cad Γ 0 t f) ≠ 0 := by
  have e : ∀ k, k < 9 → (zfk 6 k).1 = 2 := by decide
  have l0 := hL.2.2 6 0 t ht (e 0 (by decide))
  intro f h4 hf
  rcases (show f = 4 ∨ f = 5 ∨ f = 6 ∨ f = 7 ∨ f = 8 ∨ f = 9 ∨ f = 10 ∨ f = 11 ∨ f = 12 ∨ f = 13 ∨ f = 14 ∨ f = 15 ∨ f = 16 ∨ f = 17 ∨ f = 18 ∨ f = 19 ∨ f = 20 ∨ f = 21 by omega) with rfl | rfl | rfl | rfl | rfl | rfl | rfl | rfl | rfl | rfl | rfl | rfl | rfl | rfl | rfl | rfl | rfl | rfl
  · show Γ.1 (Γ.2.1 t 2) ≠ 0; rw [hL.2.2 6 2 t ht (e 2 (by decide))]; decide
  · show Γ.1 (Γ.2.1 t 1) ≠ 0; rw [hL.2.2 6 1 t ht (e 1 (by decide))]; decide
  · show Γ.1 (Γ.2.1 t 3) ≠ 0; rw [hL.2.2 6 3 t ht (e 3 (by decide))]; decide
  · show Γ.1 (Γ.2.1 t 4) ≠ 0; rw [hL.2.2 6 4 t ht (e 4 (by decide))]; decide
  · show Γ.1 (Γ.2.1 t 5) ≠ 0; rw [hL.2.2 6 5 t ht (e 5 (by decide))]; decide
  · show Γ.1 (Γ.2.1 t 6) ≠ 0; rw [hL.2.2 6 6 t ht (e 6 (by decide))]; decide
  · show Γ.1 (Γ.2.1 t 7) ≠ 0; rw [hL.2.2 6 7 t ht (e 7 (by decide))]; decide
  · show Γ.1 (Γ.2.1 t 8) ≠ 0; rw [hL.2.2 6 8 t ht (e 8 (by decide))]; decide
  · show Γ.1 t ≠ 0; rw [ht]; decide
  · show Γ.1 t ≠ 0; rw [ht]; decide
  · show Γ.1 t ≠ 0; rw [ht]; decide
  · show Γ.1 t ≠ 0; rw [ht]; decide
  · show Γ.1 (Γ.2.1 (Γ.2.1 t 0) 2) ≠ 0; rw [hL.2.2 2 2 _ l0 (by decide)]; decide
  · show Γ.1 (Γ.2.1 (Γ.2.1 t 0) 3) ≠ 0; rw [hL.2.2 2 3 _ l0 (by decide)]; decide
  · show Γ.1 (Γ.2.1 (Γ.2.1 t 0) 0) ≠ 0; rw [hL.2.2 2 0 _ l0 (by decide)]; decide
  · show Γ.1 (Γ.2.1 (Γ.2.1 t 0) 1) ≠ 0; rw [hL.2.2 2 1 _ l0 (by decide)]; decide
  · show Γ.1 (Γ.2.1 t 0) ≠ 0; rw [l0]; decide
  · show Γ.1 (Γ.2.1 t 0) ≠ 0; rw [l0]; decide
theorem cad_x {Γ Γ' : zΓ} {t : Nat} (hL : zLok Γ) (hx : zxt Γ Γ') (ht : Γ.1 t = 6) : ∀ f : Nat, 4 ≤ f → f < 22 → cad Γ' 0 t f = cad Γ 0 t f := by
  have e : ∀ k, k < 9 → (zfk 6 k).1 = 2 := by decide
  have l0 := hL.2.2 6 0 t ht (e 0 (by decide))
  have e1 : Γ'.2.1 t = Γ.2.1 t := zxt_fr hx (by rw [ht]; decide)
  have e2 : Γ'.2.1 (Γ.2.1 t 0) = Γ.2.1 (Γ.2.1 t 0) := zxt_fr hx (by rw [l0]; decide)
  intro f h4 hf
  rcases (show f = 4 ∨ f = 5 ∨ f = 6 ∨ f = 7 ∨ f = 8 ∨ f = 9 ∨ f = 10 ∨ f = 11 ∨ f = 12 ∨ f = 13 ∨ f = 14 ∨ f = 15 ∨ f = 16 ∨ f = 17 ∨ f = 18 ∨ f = 19 ∨ f = 20 ∨ f = 21 by omega) with rfl | rfl | rfl | rfl | rfl | rfl | rfl | rfl | rfl | rfl | rfl | rfl | rfl | rfl | rfl | rfl | rfl | rfl
  all_goals first
    | rfl
    | (show Γ'.2.1 t _ = Γ.2.1 t _; rw [e1])
    | (show Γ'.2.1 (Γ'.2.1 t 0) _ = Γ.2.1 (Γ.2.1 t 0) _; rw [e1, e2])
/-- a telling as it is made -/
def sZ (A : aS) : Prop := (∀ j, A 4 j = 0) ∧ (∀ j, A 8 j = 0) ∧ (∀ j, A 16 j = 0 ∧ A 17 j = 0) ∧ A 20 0 = 0 ∧ A 21 0 = 0 ∧ A 12 0 = 100 ∧ A 13 0 = 5 ∧ A 14 0 = 0 ∧ A 15 0 = 0
def TZ (Γ : zΓ) (t : Nat) (G : zH) : Prop := ∃ A : aS, sZ A ∧ TV Γ t A G
theorem TZ_mk {Γ : zΓ} {t : Nat} {G : zH} (h1 : ∀ j, G.1 2037 (Γ.2.1 t 2) j = 0) (h2 : ∀ j, G.1 2040 (Γ.2.1 t 5) j = 0) (h3 : ∀ j, G.1 2016 (Γ.2.1 (Γ.2.1 t 0) 2) j = 0 ∧ G.1 2017 (Γ.2.1 (Γ.2.1 t 0) 3) j = 0) (h4 : G.1 206 (Γ.2.1 t 0) 0 = 0) (h5 : G.1 207 (Γ.2.1 t 0) 0 = 0) (h6 : G.1 609 t 0 = 100) (h7 : G.1 610 t 0 = 5) (h8 : G.1 611 t 0 = 0) (h9 : G.1 612 t 0 = 0) : TZ Γ t G :=
  ⟨fun f j => G.1 (creg f) (cad Γ 0 t f) j, ⟨h1, h2, h3, h4, h5, h6, h7, h8, h9⟩, fun _ _ _ _ => rfl⟩
theorem creg_T : ∀ f : Nat, f < 22 → 4 ≤ f → creg f ∈ [2037, 2036, 2038, 2039, 2040, 2041, 2042, 2043, 609, 610, 611, 612, 2016, 2017, 2014, 2015, 206, 207] := by decide +kernel
theorem TZ_x {Γ Γ' : zΓ} {t : Nat} {G G' : zH} (hL : zLok Γ) (hx : zxt Γ Γ') (ht : Γ.1 t = 6) (hp : zpr [2037, 2036, 2038, 2039, 2040, 2041, 2042, 2043, 609, 610, 611, 612, 2016, 2017, 2014, 2015, 206, 207] Γ G G') (h : TZ Γ t G) : TZ Γ' t G' := by
  obtain ⟨A, hA, hT⟩ := h
  refine ⟨A, hA, fun f j h4 hf => ?_⟩
  rw [cad_x hL hx ht f h4 hf, hp (creg f) (creg_T f hf h4) _ (cad_ok hL ht f h4 hf) j]
  exact hT f j h4 hf
section ZYD
variable {p : Program} {l : Launch} {e : Env} {R : Room} {s : State} {m : MethodId} {args : Array Value} {below : List Frame} {meth : Method} {c : Code} {Γ : zΓ} {b : Nat} {nL : Nat} {cells slots : Nat} {Q : State → Prop} {pc : Nat} {ls : List (Option zV)} {st : List zV} {G : zH} {X : va_W} {D : va_G}
theorem v_fresh {q : Nat} {E : va_E} (hB : zBn Γ G) (kk : Γ.1 q = 0 → V p l e R s m args below meth c b D nL cells slots Q pc ls st ((q, E) :: (X ++ zWd Γ G))) : V p l e R s m args below meth c b D nL cells slots Q pc ls st ((q, E) :: (X ++ zWd Γ G)) := fun H locs rl hP hD hS hL => kk (zfresh0 hB.1 hD) H locs rl hP hD hS hL
theorem v_fresh2 {q : Nat} {E : va_E} {hd : Nat × va_E} (hB : zBn Γ G) (kk : Γ.1 q = 0 → V p l e R s m args below meth c b D nL cells slots Q pc ls st ((q, E) :: hd :: (X ++ zWd Γ G))) : V p l e R s m args below meth c b D nL cells slots Q pc ls st ((q, E) :: hd :: (X ++ zWd Γ G)) := fun H locs rl hP hD hS hL => kk (zfresh0 (Y := hd :: X) hB.1 hD) H locs rl hP hD hS hL
end ZYD

theorem kR_0 {Γ : zΓ} {w : Nat} {A : aS} {G G1 : zH} (hL : zLok Γ) (tw : Γ.1 w = 10) (hA : sZ A) (hz : gZ Γ w G) (hk : KPT Γ w (zno Γ G) G1) : kR Γ w A (zno Γ G1) := by
  obtain ⟨a4, a8, a16, a20, a21, a12, a13, a14, a15⟩ := hA
  obtain ⟨z1, z2, z3, z4, z5, z6, z7, z8, z9, z10, z11, z12⟩ := hz
  obtain ⟨k12, k13, k14, k15, k16, k59, k61, k62, k63, k64, k65, k66, k67, k68, k69, k70, k71, k72, k73, k74, k75, k76⟩ := hk
  have w0 : Γ.1 w ≠ 0 := by rw [tw]; decide
  have h22 : Γ.1 (Γ.2.1 w 22) ≠ 0 := by rw [hL.2.2 10 22 w tw (by decide)]; decide
  have h34 : Γ.1 (Γ.2.1 w 34) ≠ 0 := by rw [hL.2.2 10 34 w tw (by decide)]; decide
  unfold kR
  rw [a4 0, a4 1, a4 2, a4 3, a20]
  refine ⟨⟨?_, ?_, ?_, ?_, ?_⟩, by decide, fun j hj => by omega, fun j hj => by omega, fun j hj => by omega, fun j _ _ => a8 j, fun j hj => by omega, fun j hj => by omega, fun j hj => ?_, fun j hj => ?_, fun j hj => by omega⟩
  · rw [zno_1 w0, k12, zno_1 w0]; exact z1
  · rw [zno_1 w0, k13, zno_1 w0]; exact z2
  · rw [zno_1 w0, k14, zno_1 w0]; exact z3
  · rw [zno_1 w0, k15, zno_1 w0]; exact z4
  · rw [zno_1 w0, k16, zno_1 w0]; exact z5
  · rw [zno_1 h22, k59 j hj, zno_1 h22]
    rcases (show j = 0 ∨ j = 1 ∨ j = 2 ∨ j = 3 by omega) with rfl | rfl | rfl | rfl
    · exact z7.trans a12.symm
    · exact z8.trans a13.symm
    · exact z9.trans a14.symm
    · exact z10.trans a15.symm
  · rw [zno_1 h34, k71 j hj, zno_1 h34, (a16 j).1, (a16 j).2, if_neg (by decide)]
    exact ⟨z12 (7 + j) (by omega) (by omega), fun q => absurd q (by decide)⟩
