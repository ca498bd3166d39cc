section ZLC
variable {p : Program} {l : Launch} {e : Env} {R : Room} {s : State} {m : MethodId} {args : Array Value} {below : List Frame} {meth : Method} {c : Code} {Γ : zΓ} {b : Nat} {cc : ByteArray} {nL : Nat} {own : String} {cells slots : Nat} {Q : State → Prop} {pc : Nat} {ls : List (Option zV)} {st : List zV} {G : zH} {ws X : va_W} {D : va_G}
theorem v_lcmp_eq (C : zCv p s m args c Γ b cc nL own) {x y : Int} {off : Int} {tgt : Nat} (d : decode cc pc = .ok (.lcmp, 1)) (d2 : decode cc (pc + 1) = .ok (.ifCond .eq off, 3)) (ht : ((pc + 1 : Nat) : Int) + off = (tgt : Int)) (hxy : x = y) (kt : V p l e R s m args below meth c b D nL cells slots Q tgt ls st ws) : V p l e R s m args below meth c b D nL cells slots Q pc ls (zj y :: zj x :: st) ws := by
  intro H locs rl hP hD hS hL
  subst hxy
  have hn : ¬ Int64.ofInt x > Int64.ofInt x := fun h => by
    have := Int64.lt_iff_toInt_lt.mp h
    omega
  refine W.lcmp C.1 C.2.1 d ?_
  unfold lg_cmp
  rw [if_neg hn, if_pos rfl]
  exact lv_if_eq C.1 C.2.1 d2 ht (fun _ => kt H locs rl hP hD hS hL) (fun h => absurd rfl h)
end ZLC
theorem lawE {T : pS} {k a b : Int} : (if k = 0 ∨ k = 1 then (if ((0 ≤ a ∧ a < (pA T) 4 1) ∧ (0 ≤ b ∧ b < (pA T) 4 0)) then wLaw (pA T) (pW T) k a b else -9223372036854775808) else if k = 2 then (if ((0 ≤ a ∧ a < (pA T) 4 1) ∧ (0 ≤ b ∧ b < (pA T) 4 0)) ∧ 0 < wL (pW T) a b then wLaw (pA T) (pW T) k a b else -9223372036854775808) else if k = 3 then (if (0 ≤ a ∧ a < (pA T) 4 1) ∧ (0 ≤ b ∧ b < (pA T) 4 1) ∧ a < b then wPair (pA T) (pW T) a b else -9223372036854775808) else -9223372036854775808) = (if (0 ≤ k ∧ k ≤ 3 ∧ (0 ≤ a ∧ a < (pA T) 4 1) ∧ (if k = 3 then a < b ∧ 0 ≤ b ∧ b < (pA T) 4 1 else (0 ≤ b ∧ b < (pA T) 4 0) ∧ (k = 2 → 0 < wL (pW T) a b))) ∧ (pA T) 16 k.toNat < (pA T) 17 k.toNat then (if k = 3 then wPair (pA T) (pW T) a b else wLaw (pA T) (pW T) k a b) else -9223372036854775808) := by
  have nL : ∀ k a b : Int, ¬ (pA T) 16 k.toNat < (pA T) 17 k.toNat → wLaw (pA T) (pW T) k a b = -9223372036854775808 := fun k a b h => if_neg (fun z => h z.1)
  have nP : ∀ a b : Int, ¬ (pA T) 16 3 < (pA T) 17 3 → wPair (pA T) (pW T) a b = -9223372036854775808 := fun a b h => if_neg (fun z => h z.1)
  by_cases h01 : k = 0 ∨ k = 1
  · rw [if_pos h01]
    by_cases hv : ((0 ≤ a ∧ a < (pA T) 4 1) ∧ (0 ≤ b ∧ b < (pA T) 4 0))
    · rw [if_pos hv]
      by_cases hl : (pA T) 16 k.toNat < (pA T) 17 k.toNat
      · rw [if_pos ⟨⟨by omega, by omega, hv.1, by rw [if_neg (by omega)]; exact ⟨hv.2, fun z => by omega⟩⟩, hl⟩, if_neg (by omega)]
      · rw [if_neg (fun z => hl z.2)]; exact nL k a b hl
    · rw [if_neg hv, if_neg (fun z => by have z9 := z.1.2.2.2; rw [if_neg (by omega)] at z9; exact hv ⟨z.1.2.2.1, z9.1⟩)]
  · rw [if_neg h01]
    by_cases h2 : k = 2
    · subst h2
      rw [if_pos rfl]
      by_cases hv : ((0 ≤ a ∧ a < (pA T) 4 1) ∧ (0 ≤ b ∧ b < (pA T) 4 0)) ∧ 0 < wL (pW T) a b
      · rw [if_pos hv]
        by_cases hl : (pA T) 16 (2 : Int).toNat < (pA T) 17 (2 : Int).toNat
        · rw [if_pos ⟨⟨by omega, by omega, hv.1.1, by rw [if_neg (by omega)]; exact ⟨hv.1.2, fun _ => hv.2⟩⟩, hl⟩, if_neg (by omega)]
        · rw [if_neg (fun z => hl z.2)]; exact nL 2 a b hl
      · rw [if_neg hv, if_neg (fun z => by have z9 := z.1.2.2.2; rw [if_neg (by omega)] at z9; exact hv ⟨⟨z.1.2.2.1, z9.1⟩, z9.2 rfl⟩)]
    · rw [if_neg h2]
      by_cases h3 : k = 3
      · subst h3
        rw [if_pos rfl]
        by_cases hv : (0 ≤ a ∧ a < (pA T) 4 1) ∧ (0 ≤ b ∧ b < (pA T) 4 1) ∧ a < b
        · rw [if_pos hv]
          by_cases hl : (pA T) 16 (3 : Int).toNat < (pA T) 17 (3 : Int).toNat
          · rw [if_pos ⟨⟨by omega, by omega, hv.1, by rw [if_pos rfl]; exact ⟨hv.2.2, hv.2.1⟩⟩, hl⟩, if_pos rfl]
          · rw [if_neg (fun z => hl z.2)]; exact nP a b hl
        · rw [if_neg hv, if_neg (fun z => by have z9 := z.1.2.2.2; rw [if_pos rfl] at z9; exact hv ⟨z.1.2.2.1, z9.2, z9.1⟩)]
      · rw [if_neg h3, if_neg (fun z => by have := z.1; omega)]
theorem eq9_did {T : pS} {a b k r1 r2 : Int} (e1 : r1 = (if ((0 ≤ a ∧ a < (pA T) 4 1) ∧ (0 ≤ b ∧ b < (pA T) 4 0)) then (if k = 0 then (pW T) 11 (a * 4 + b).toNat else if k = 1 then wL (pW T) a b else -1) else -1)) (e2 : r2 = (if ((0 ≤ a ∧ a < (pA T) 4 1) ∧ (0 ≤ b ∧ b < (pA T) 4 0)) then (if k = 0 then (pW T) 11 (a * 4 + b).toNat else if k = 1 then wL (pW T) a b else -1) else -1)) : r1 = r2 := e1.trans e2.symm
theorem eq9_fine {T : pS} {a b r1 r2 : Int} (e1 : r1 = (if ((0 ≤ a ∧ a < (pA T) 4 1) ∧ (0 ≤ b ∧ b < (pA T) 4 0)) then wFine (pA T) (pW T) a b else -1)) (e2 : r2 = (if ((0 ≤ a ∧ a < (pA T) 4 1) ∧ (0 ≤ b ∧ b < (pA T) 4 0)) then wFine (pA T) (pW T) a b else -1)) : r1 = r2 := e1.trans e2.symm
theorem eq9_law {T : pS} {k a b r1 r2 : Int} (e1 : r1 = (if k = 0 ∨ k = 1 then (if ((0 ≤ a ∧ a < (pA T) 4 1) ∧ (0 ≤ b ∧ b < (pA T) 4 0)) then wLaw (pA T) (pW T) k a b else -9223372036854775808) else if k = 2 then (if ((0 ≤ a ∧ a < (pA T) 4 1) ∧ (0 ≤ b ∧ b < (pA T) 4 0)) ∧ 0 < wL (pW T) a b then wLaw (pA T) (pW T) k a b else -9223372036854775808) else if k = 3 then (if (0 ≤ a ∧ a < (pA T) 4 1) ∧ (0 ≤ b ∧ b < (pA T) 4 1) ∧ a < b then wPair (pA T) (pW T) a b else -9223372036854775808) else -9223372036854775808)) (e2 : r2 = (if (0 ≤ k ∧ k ≤ 3 ∧ (0 ≤ a ∧ a < (pA T) 4 1) ∧ (if k = 3 then a < b ∧ 0 ≤ b ∧ b < (pA T) 4 1 else (0 ≤ b ∧ b < (pA T) 4 0) ∧ (k = 2 → 0 < wL (pW T) a b))) ∧ (pA T) 16 k.toNat < (pA T) 17 k.toNat then (if k = 3 then wPair (pA T) (pW T) a b else wLaw (pA T) (pW T) k a b) else -9223372036854775808)) : r1 = r2 := e1.trans ((lawE (T := T)).trans e2.symm)
theorem eq9_confess {T : pS} {a b r1 r2 : Int} (e1 : r1 = (if ((0 ≤ a ∧ a < (pA T) 4 1) ∧ (0 ≤ b ∧ b < (pA T) 4 0)) then (if wCan (pW T) then (pW T) 0 0 else -2) else -1)) (e2 : r2 = (if ((0 ≤ a ∧ a < (pA T) 4 1) ∧ (0 ≤ b ∧ b < (pA T) 4 0)) then (if wCan (pW T) then (pW T) 0 0 else -2) else -1)) : r1 = r2 := e1.trans e2.symm
theorem eq9_ask {T : pS} {a r1 r2 : Int} (e1 : r1 = (if (0 ≤ a ∧ a < (pA T) 4 1) then (if wCan (pW T) then (if (wAskV (pA T) (pW T) a) ≠ -1 then (pW T) 0 0 else -3) else -2) else -1)) (e2 : r2 = (if (0 ≤ a ∧ a < (pA T) 4 1) then (if wCan (pW T) then (if (wAskV (pA T) (pW T) a) = -1 then -3 else (pW T) 0 0) else -2) else -1)) : r1 = r2 := (by rw [e1, e2]; first | (simp only [ne_eq, ite_not]; done) | (split <;> simp_all))
theorem eq9_fall {T : pS} {a b r1 r2 : Int} (e1 : r1 = (if ((0 ≤ a ∧ a < (pA T) 4 1) ∧ (0 ≤ b ∧ b < (pA T) 4 0)) then (if (pW T) 11 (a * 4 + b).toNat < 99 then (pW T) 15 a.toNat + 1 else -2) else -1)) (e2 : r2 = (if ((0 ≤ a ∧ a < (pA T) 4 1) ∧ (0 ≤ b ∧ b < (pA T) 4 0)) then (if (pW T) 11 (a * 4 + b).toNat < 99 then (pW T) 15 a.toNat + 1 else -2) else -1)) : r1 = r2 := e1.trans e2.symm
theorem eq9_sack {T : pS} {a k r1 r2 : Int} (e1 : r1 = (if 0 ≤ a ∧ a < (pW T) 0 0 then (if k = 0 then (pW T) 1 a.toNat else if k = 1 then (pW T) 2 a.toNat else if k = 2 then (pW T) 3 a.toNat else if k = 3 then (pW T) 5 a.toNat else if k = 4 then wLie (pW T) a ((pW T) 2 a.toNat) else -1) else -1)) (e2 : r2 = (if 0 ≤ a ∧ a < (pW T) 0 0 then (if k = 0 then (pW T) 1 a.toNat else if k = 1 then (pW T) 2 a.toNat else if k = 2 then (pW T) 3 a.toNat else if k = 3 then (pW T) 5 a.toNat else if k = 4 then wLie (pW T) a ((pW T) 2 a.toNat) else -1) else -1)) : r1 = r2 := e1.trans e2.symm
theorem eq9_flour {T : pS} {a r1 r2 : Int} (e1 : r1 = (if 0 ≤ a ∧ a ≤ 999 then wFlour (pW T) a else -1)) (e2 : r2 = (if 0 ≤ a ∧ a ≤ 999 then wFlour (pW T) a else -1)) : r1 = r2 := e1.trans e2.symm
theorem eq9_bake {T : pS} {a r1 r2 : Int} (e1 : (r1 = 0 ∨ r1 = 1) ∧ (r1 = 1 ↔ ((0 ≤ a ∧ a < (pA T) 4 2) ∧ (pW T) 18 0 ≤ (pA T) 11 a.toNat ∧ wCanB (pA T) (pW T) a))) (e2 : r2 = (if ((0 ≤ a ∧ a < (pA T) 4 2) ∧ (pW T) 18 0 ≤ (pA T) 11 a.toNat ∧ wCanB (pA T) (pW T) a) then 1 else 0)) : r1 = r2 := (by have h9 := e1.2; rcases e1.1 with z | z <;> (rw [z] at h9 ⊢; rw [e2]; split <;> (rename_i y; first | rfl | (exfalso; first | exact absurd (h9.mpr y) (by decide) | exact y (h9.mp rfl)))))
theorem eq9_baked {T : pS} {a r1 r2 : Int} (e1 : r1 = (if 0 ≤ a ∧ a < (pA T) 4 2 then (if (pW T) 16 a.toNat ≠ -1 then (pW T) 16 a.toNat else -2) else -1)) (e2 : r2 = (if 0 ≤ a ∧ a < (pA T) 4 2 then (if (pW T) 16 a.toNat = -1 then -2 else (pW T) 16 a.toNat) else -1)) : r1 = r2 := (by rw [e1, e2]; first | (simp only [ne_eq, ite_not]; done) | (split <;> simp_all))
theorem eq9_days {T : pS} {a r1 r2 : Int} (e1 : r1 = (if (0 ≤ a ∧ (pW T) 18 0 + a ≤ 100) then (pW T) 18 0 + a else -1)) (e2 : r2 = (if (0 ≤ a ∧ (pW T) 18 0 + a ≤ 100) then (pW T) 18 0 + a else -1)) : r1 = r2 := e1.trans e2.symm
theorem eq9_run {T : pS} {a b r1 r2 : Int} (e1 : r1 = (if ((0 ≤ a ∧ (pW T) 18 0 + a ≤ 100) ∧ 0 ≤ b ∧ b ≤ 999) then wFlour (wTry (pA T) (-1) 0 a.toNat (pW T)) b else -1)) (e2 : r2 = (if ((0 ≤ a ∧ (pW T) 18 0 + a ≤ 100) ∧ 0 ≤ b ∧ b ≤ 999) then wFlour (wTry (pA T) (-1) 0 a.toNat (pW T)) b else -1)) : r1 = r2 := e1.trans e2.symm
theorem eq9_tried {T : pS} {k i a b r1 r2 : Int} (e1 : r1 = (if (((0 ≤ a ∧ (pW T) 18 0 + a ≤ 100) ∧ 0 ≤ b ∧ b ≤ 999) ∧ ((k = 1 ∧ 0 ≤ i ∧ i < (pA T) 4 1) ∨ (k = 2 ∧ 0 ≤ i ∧ i < (pA T) 4 0) ∨ ((k = 0 ∨ k = 3 ∨ k = 4) ∧ i = 0))) then wFlour (wTry (pA T) k i a.toNat (pW T)) b else -1)) (e2 : r2 = (if (((0 ≤ a ∧ (pW T) 18 0 + a ≤ 100) ∧ 0 ≤ b ∧ b ≤ 999) ∧ ((k = 1 ∧ 0 ≤ i ∧ i < (pA T) 4 1) ∨ (k = 2 ∧ 0 ≤ i ∧ i < (pA T) 4 0) ∨ ((k = 0 ∨ k = 3 ∨ k = 4) ∧ i = 0))) then wFlour (wTry (pA T) k i a.toNat (pW T)) b else -1)) : r1 = r2 := e1.trans e2.symm
theorem eq9_lies {T : pS} {a b k r1 r2 : Int} (e1 : r1 = (if (0 ≤ a ∧ (0 ≤ b ∧ b < (pA T) 4 1) ∧ 1 ≤ k ∧ k ≤ 40) then (wLies (pA T) b k.toNat (up (pW T) 21 0 a)).1 else -1)) (e2 : r2 = (if (0 ≤ a ∧ (0 ≤ b ∧ b < (pA T) 4 1) ∧ 1 ≤ k ∧ k ≤ 40) then (wLies (pA T) b k.toNat (up (pW T) 21 0 a)).1 else -1)) : r1 = r2 := e1.trans e2.symm
theorem eq9_known {T : pS} {a r1 r2 : Int} (e1 : (r1 = 0 ∨ r1 = 1) ∧ (r1 = 1 ↔ (-1 ≤ a ∧ a ≤ (pW T) 0 0))) (e2 : (r2 = 0 ∨ r2 = 1) ∧ (r2 = 1 ↔ (-1 ≤ a ∧ a ≤ (pW T) 0 0))) : r1 = r2 := (by have q := e1.2.trans e2.2.symm; rcases e1.1 with z | z <;> rcases e2.1 with y | y <;> omega)
theorem eq9_fits {T : pS} { r1 r2 : Int} (e1 : r1 = wFB (pA T) (pW T)) (e2 : r2 = wFB (pA T) (pW T)) : r1 = r2 := e1.trans e2.symm
theorem eq9_undo {T : pS} { r1 r2 : Int} (e1 : r1 = (if 0 < pN T then pN T - 1 else -1)) (e2 : r2 = (if 0 < pN T then pN T - 1 else -1)) : r1 = r2 := e1.trans e2.symm
theorem eq9_feed {T : pS} {a1 a2 a3 a4 a5 r1 r2 : Int} (e1 : r1 = (if pT T + 20 ≤ 700 then pT T + 20 else -1)) (e2 : r2 = (if pT T + 20 ≤ 700 then pT T + 20 else -1)) : r1 = r2 := e1.trans e2.symm
