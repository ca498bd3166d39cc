theorem bshl_32 {x : Int} (h0 : 0 ≤ x) (h : x < 33554432) : bshl x 5 = x * 32 := by
  obtain ⟨a, rfl⟩ := Int.eq_ofNat_of_zero_le h0
  have e2 : Int32.ofInt (a : Int) <<< (Int32.ofInt 5 &&& 31) = Int32.ofInt ((a * 32 : Nat) : Int) := by
    apply Int32.toBitVec_inj.mp
    show (Int32.ofInt (a : Int)).toBitVec <<< 5 = _
    rw [Int32.toBitVec_ofInt, Int32.toBitVec_ofInt, BitVec.ofInt_natCast, BitVec.ofInt_natCast]
    apply BitVec.eq_of_toNat_eq
    rw [BitVec.toNat_shiftLeft, BitVec.toNat_ofNat, BitVec.toNat_ofNat, Nat.shiftLeft_eq, Nat.mod_eq_of_lt (show a < 2 ^ 32 by omega)]
  unfold bshl
  rw [e2, Int32.toInt_ofInt_of_le (by omega) (by omega)]
  omega
/-- the first j letters, one behind the other -/
def hr9 (d : Int → Int) : Nat → Int
  | 0 => 0
  | j + 1 => hr9 d j * 32 + d j
theorem hr9_in {d : Int → Int} (hd : ∀ i : Int, 0 ≤ i → 0 ≤ d i ∧ d i ≤ 26) : ∀ j : Nat, j < 6 → 0 ≤ hr9 d j ∧ hr9 d j < 33554432 := by
  intro j hj
  have a0 := hd 0 (by decide)
  have a1 := hd 1 (by decide)
  have a2 := hd 2 (by decide)
  have a3 := hd 3 (by decide)
  have a4 := hd 4 (by decide)
  rcases (show j = 0 ∨ j = 1 ∨ j = 2 ∨ j = 3 ∨ j = 4 ∨ j = 5 by omega) with rfl | rfl | rfl | rfl | rfl | rfl
  · show 0 ≤ (0 : Int) ∧ (0 : Int) < 33554432; omega
  · show 0 ≤ ((0 : Int) * 32 + d 0) ∧ ((0 : Int) * 32 + d 0) < 33554432; omega
  · show 0 ≤ (((0 : Int) * 32 + d 0) * 32 + d 1) ∧ (((0 : Int) * 32 + d 0) * 32 + d 1) < 33554432; omega
  · show 0 ≤ ((((0 : Int) * 32 + d 0) * 32 + d 1) * 32 + d 2) ∧ ((((0 : Int) * 32 + d 0) * 32 + d 1) * 32 + d 2) < 33554432; omega
  · show 0 ≤ (((((0 : Int) * 32 + d 0) * 32 + d 1) * 32 + d 2) * 32 + d 3) ∧ (((((0 : Int) * 32 + d 0) * 32 + d 1) * 32 + d 2) * 32 + d 3) < 33554432; omega
  · show 0 ≤ ((((((0 : Int) * 32 + d 0) * 32 + d 1) * 32 + d 2) * 32 + d 3) * 32 + d 4) ∧ ((((((0 : Int) * 32 + d 0) * 32 + d 1) * 32 + d 2) * 32 + d 3) * 32 + d 4) < 33554432; omega
theorem hr9_cd {b : Nat → Int} {p q : Int} : hr9 (cdd b p q) 6 = cd b p q := by
  show ((((((0 * 32 + cdd b p q 0) * 32 + cdd b p q 1) * 32 + cdd b p q 2) * 32 + cdd b p q 3) * 32 + cdd b p q 4) * 32 + cdd b p q 5) = cd b p q
  unfold cd
  omega
theorem os_i {k : Int} (h0 : 0 ≤ k) (h : k < 24) : 0 ≤ os k ∧ os k < os (k + 1) - 1 ∧ os (k + 1) ≤ 121 ∧ os (k + 1) - 1 - os k ≤ 6 := by
  have h1 := os_in k.toNat (by omega)
  rw [show ((k.toNat : Nat) : Int) = k by omega, show ((k.toNat + 1 : Nat) : Int) = k + 1 by omega] at h1
  exact h1
theorem os_si {k i : Int} (h0 : 0 ≤ k) (h : k < 24) (hi : i = os (k + 1) - 1) : zWD.getD i.toNat 32 = 32 := by
  have h1 := os_sp k.toNat (by omega)
  rw [show ((k.toNat + 1 : Nat) : Int) = k + 1 by omega] at h1
  rw [hi]
  exact h1
theorem os_ni {k i : Int} (h0 : 0 ≤ k) (h : k < 24) (h1 : os k ≤ i) (h2 : i < os (k + 1) - 1) : zWD.getD i.toNat 32 ≠ 32 := by
  have h3 := os_i h0 h
  have h4 := os_no k.toNat (by omega) i.toNat (by omega)
  rw [show ((k.toNat : Nat) : Int) = k by omega, show ((k.toNat + 1 : Nat) : Int) = k + 1 by omega] at h4
  exact h4 (by omega) (by omega)
theorem os_24 : os 24 = 121 := by decide +kernel
theorem os_lt {k x : Int} (h : 0 ≤ k ∧ k ≤ 24) (hx : x = os k) (hl : x < 121) : k < 24 := by
  rcases (show k = 24 ∨ k < 24 by omega) with h8 | h8
  · rw [h8, os_24] at hx
    omega
  · exact h8
theorem lwr_e {c k : Int} (h : k = 24) : lwn (wr9.drop k.toNat) c k = -1 := by
  subst h
  rfl

set_option maxHeartbeats 4000000 in
set_option maxRecDepth 100000 in
theorem c_X9_packedF {l : Launch} {Γ : zΓ} {G : zH} {w : Nat} {a b : Int} (hX : zXs Γ) (ha : 0 ≤ a ∧ a < b ∧ b ≤ 700) (hall : ∀ i : Int, a ≤ i → i < b → fL ((G.1 2057 (Γ.2.1 w 0)) i.toNat) = true) : zMet l Γ yX9_packed cX9_packed 5 (some .int) 0 [zr 10 w, zi a, zi b] G (zpi (fun x G' => G' = G ∧ (x = cd (G.1 2057 (Γ.2.1 w 0)) a b))) := by
  refine zMet_of RX9 hX (by decide) rfl (Nat.le_of_ble_eq_true rfl) ?_
  intro p e s m args below meth c C hr hlk
  show Z p l e (zrm 0) s m args below meth c Γ 5 0 0 (MQ below (zQc Γ (zpi (fun x G' => G' = G ∧ (x = cd (G.1 2057 (Γ.2.1 w 0)) a b)))) args s 0 0 (zA Γ)) 0 [some (zr 10 w), some (zi a), some (zi b), none, none] [] G
  refine zs_loc 1 rfl (fun ha1 hb1 => ?_)
  refine zs_loc 2 rfl (fun ha2 hb2 => ?_)
  refine zs_iconst (pc := 0) C dX9_packed_0 (by decide) ?_
  refine zs_istore_n (pc := 1) C dX9_packed_1 (by decide) ?_
  dsimp only [zset, zclr, znone]
  refine zs_iload_n (pc := 2) C dX9_packed_2 rfl ?_
  refine zs_istore (pc := 3) C dX9_packed_3 (by decide) ?_
  dsimp only [zset, zclr, znone]
  have L5 : ∀ (nn : Nat) (x3 x4 : Int), (a ≤ x4 ∧ x4 ≤ a + 6) → (x3 = hr9 (cdd (G.1 2057 (Γ.2.1 w 0)) a b) (x4 - a).toNat) → (a + 6 - x4).toNat < nn → Z p l e (zrm 0) s m args below meth c Γ 5 0 0 (MQ below (zQc Γ (zpi (fun x G' => G' = G ∧ (x = cd (G.1 2057 (Γ.2.1 w 0)) a b)))) args s 0 0 (zA Γ)) 5 [some (zr 10 w), some (zi a), some (zi b), some (zi x3), some (zi x4)] [] G := by
    intro nn
    induction nn with
    | zero => intro x3 x4 h5_0 h5_1 hm; exact absurd hm (Nat.not_lt_zero _)
    | succ nn ih5 =>
      intro x3 x4 h5_0 h5_1 hm5
      refine zs_iload (pc := 5) C dX9_packed_5 rfl ?_
      refine zs_iload_n (pc := 7) C dX9_packed_7 rfl ?_
      refine zs_bipush (pc := 8) C dX9_packed_8 (by decide) (by decide) ?_
      first | refine zs_iadd (pc := 10) C dX9_packed_10 (by omega) ?_ | refine zs_iaddF (pc := 10) C dX9_packed_10 (fun z10 hz101 hz102 => ?_)
      refine zs_icmp_ge (tgt := 45) (pc := 11) C dX9_packed_11 (by decide) (fun h11 => ?_) (fun h11 => ?_)
      · skip
        refine zs_iload_n (pc := 45) C dX9_packed_45 rfl ?_
        exact zs_iret (pc := 46) C hr hlk dX9_packed_46 ⟨rfl, by rw [h5_1, show (x4 - a).toNat = 6 by omega]; exact hr9_cd⟩
      · skip
        refine zs_iload_n (pc := 14) C dX9_packed_14 rfl ?_
        refine zs_iconst (pc := 15) C dX9_packed_15 (by decide) ?_
        refine zs_ishlX (pc := 16) C dX9_packed_16 (fun z16 ez16 hz161 hz162 => ?_)
        have hrb := hr9_in (d := cdd (G.1 2057 (Γ.2.1 w 0)) a b) (fun i hi => cdd_in hall hi) (x4 - a).toNat (by omega)
        rw [← h5_1] at hrb
        have hsl : z16 = x3 * 32 := by rw [ez16]; exact bshl_32 (by omega) (by omega)
        have hcd := cdd_in hall (i := x4 - a) (by omega)
        refine zs_iload (pc := 17) C dX9_packed_17 rfl ?_
        refine zs_iload_n (pc := 19) C dX9_packed_19 rfl ?_
        refine zs_icmp_ge (tgt := 36) (pc := 20) C dX9_packed_20 (by decide) (fun h20 => ?_) (fun h20 => ?_)
        · skip
          refine zs_iconst (pc := 36) C dX9_packed_36 (by decide) ?_
          refine zs_iorX (pc := 37) C dX9_packed_37 (fun z37 ez37 hz371 hz372 => ?_)
          refine zs_istore_n (pc := 38) C dX9_packed_38 (by decide) ?_
          dsimp only [zset, zclr, znone]
          first | refine zs_iinc (pc := 39) C dX9_packed_39 rfl (by decide) (by omega) ?_ | refine zs_iincF (pc := 39) C dX9_packed_39 rfl (by decide) (fun z39 hz391 hz392 => ?_)
          dsimp only [zset, zclr, znone]
          refine zs_goto (tgt := 5) (pc := 42) C dX9_packed_42 (by decide) ?_
          exact zs_wk (ih5 _ _ (by omega) (by rw [show (x4 + 1 - a).toNat = (x4 - a).toNat + 1 by omega, hr9, ← h5_1, show (((x4 - a).toNat : Nat) : Int) = x4 - a by omega, ez37]; first | (have hc1 : cdd (G.1 2057 (Γ.2.1 w 0)) a b (x4 - a) = v29 - 96 := (by rw [cdd_1 (by omega), show a + (x4 - a) = x4 by omega, ← e29]); rw [hc1] at hcd ⊢; rw [bor_add 5 (by omega) (by omega) (by omega) (by omega) (by omega), hsl]) | (have hc1 : cdd (G.1 2057 (Γ.2.1 w 0)) a b (x4 - a) = 0 := cdd_0 (by omega); rw [hc1] at hcd ⊢; rw [bor_add 5 (by omega) (by omega) (by omega) (by omega) (by omega), hsl])) (by first | omega | (simp only [zuI_1, zuI_2, zuJ_1, zuJ_2, zuJ_3, zuP_1, zuP_2, zuP_3, zuC_1, zuC_2, reduceIte, Nat.reduceEqDiff, false_and, and_false, true_and, and_true, and_self, or_true, true_or, or_false, false_or]; omega))) (zwk_s rfl (zwk_s rfl (zwk_s rfl (zwk_s rfl (zwk_s rfl zwk_0)))))
        · skip
          refine zs_aload_n (pc := 23) C dX9_packed_23 rfl ?_
          refine zs_getf (pc := 24) C dX9_packed_24 w_X9_7 f_10_0 (by decide) ?_
          refine zs_iload (pc := 27) C dX9_packed_27 rfl ?_
          refine zs_iald (r := 2057) (pc := 29) C dX9_packed_29 a_57 (by decide) (by omega) rfl (r_2057 _) (fun v29 e29 l29 u29 => ?_)
          refine zs_bipush (pc := 30) C dX9_packed_30 (by decide) (by decide) ?_
          first | refine zs_isub (pc := 32) C dX9_packed_32 (by omega) ?_ | refine zs_isubF (pc := 32) C dX9_packed_32 (fun z32 hz321 hz322 => ?_)
          refine zs_goto (tgt := 37) (pc := 33) C dX9_packed_33 (by decide) ?_
          refine zs_iorX (pc := 37) C dX9_packed_37 (fun z37 ez37 hz371 hz372 => ?_)
          refine zs_istore_n (pc := 38) C dX9_packed_38 (by decide) ?_
          dsimp only [zset, zclr, znone]
          first | refine zs_iinc (pc := 39) C dX9_packed_39 rfl (by decide) (by omega) ?_ | refine zs_iincF (pc := 39) C dX9_packed_39 rfl (by decide) (fun z39 hz391 hz392 => ?_)
          dsimp only [zset, zclr, znone]
          refine zs_goto (tgt := 5) (pc := 42) C dX9_packed_42 (by decide) ?_
          exact zs_wk (ih5 _ _ (by omega) (by rw [show (x4 + 1 - a).toNat = (x4 - a).toNat + 1 by omega, hr9, ← h5_1, show (((x4 - a).toNat : Nat) : Int) = x4 - a by omega, ez37]; first | (have hc1 : cdd (G.1 2057 (Γ.2.1 w 0)) a b (x4 - a) = v29 - 96 := (by rw [cdd_1 (by omega), show a + (x4 - a) = x4 by omega, ← e29]); rw [hc1] at hcd ⊢; rw [bor_add 5 (by omega) (by omega) (by omega) (by omega) (by omega), hsl]) | (have hc1 : cdd (G.1 2057 (Γ.2.1 w 0)) a b (x4 - a) = 0 := cdd_0 (by omega); rw [hc1] at hcd ⊢; rw [bor_add 5 (by omega) (by omega) (by omega) (by omega) (by omega), hsl])) (by first | omega | (simp only [zuI_1, zuI_2, zuJ_1, zuJ_2, zuJ_3, zuP_1, zuP_2, zuP_3, zuC_1, zuC_2, reduceIte, Nat.reduceEqDiff, false_and, and_false, true_and, and_true, and_self, or_true, true_or, or_false, false_or]; omega))) (zwk_s rfl (zwk_s rfl (zwk_s rfl (zwk_s rfl (zwk_s rfl zwk_0)))))
  exact zs_wk (L5 _ _ _ (by omega) (by rw [show (a - a).toNat = 0 by omega]; rfl) (Nat.lt_succ_self _)) (zwk_s rfl (zwk_s rfl (zwk_s rfl (zwk_s rfl (zwk_s rfl zwk_0)))))

set_option maxHeartbeats 4000000 in
set_option maxRecDepth 100000 in
theorem c_X9_wordAtF {l : Launch} {Γ : zΓ} {G : zH} {w : Nat} {a b : Int} (hX : zXs Γ) (ha : 0 ≤ a ∧ a < b ∧ b ≤ 700) (hall : ∀ i : Int, a ≤ i → i < b → fL ((G.1 2057 (Γ.2.1 w 0)) i.toNat) = true) : zMet l Γ yX9_wordAt cX9_wordAt 8 (some .int) 0 [zr 10 w, zi a, zi b] G (zpi (fun x G' => G' = G ∧ (x = if b - a ≤ 6 then rp (lw (cd (G.1 2057 (Γ.2.1 w 0)) a b)) else -1))) := by
  refine zMet_of RX9 hX (by decide) rfl (Nat.le_of_ble_eq_true rfl) ?_
  intro p e s m args below meth c C hr hlk
  show Z p l e (zrm 0) s m args below meth c Γ 8 0 0 (MQ below (zQc Γ (zpi (fun x G' => G' = G ∧ (x = if b - a ≤ 6 then rp (lw (cd (G.1 2057 (Γ.2.1 w 0)) a b)) else -1)))) args s 0 0 (zA Γ)) 0 [some (zr 10 w), some (zi a), some (zi b), none, none, none, none, none] [] G
  refine zs_loc 1 rfl (fun ha1 hb1 => ?_)
  refine zs_loc 2 rfl (fun ha2 hb2 => ?_)
  refine zs_iconst (pc := 0) C dX9_wordAt_0 (by decide) ?_
  refine zs_istore_n (pc := 1) C dX9_wordAt_1 (by decide) ?_
  dsimp only [zset, zclr, znone]
  refine zs_iconst (pc := 2) C dX9_wordAt_2 (by decide) ?_
  refine zs_istore (pc := 3) C dX9_wordAt_3 (by decide) ?_
  dsimp only [zset, zclr, znone]
  have L5 : ∀ (nn : Nat) (x3 x4 : Int), (0 ≤ x3 ∧ x3 ≤ 24 ∧ x4 = os x3 ∧ 0 ≤ x4 ∧ x4 ≤ 121) → (b - a ≤ 6 → lwn (wr9.drop x3.toNat) (cd (G.1 2057 (Γ.2.1 w 0)) a b) x3 = lwn wr9 (cd (G.1 2057 (Γ.2.1 w 0)) a b) 0) → (121 - x4).toNat < nn → Z p l e (zrm 0) s m args below meth c Γ 8 0 0 (MQ below (zQc Γ (zpi (fun x G' => G' = G ∧ (x = if b - a ≤ 6 then rp (lw (cd (G.1 2057 (Γ.2.1 w 0)) a b)) else -1)))) args s 0 0 (zA Γ)) 5 [some (zr 10 w), some (zi a), some (zi b), some (zi x3), some (zi x4), none, none, none] [] G := by
    intro nn
    induction nn with
    | zero => intro x3 x4 h5_0 h5_1 hm; exact absurd hm (Nat.not_lt_zero _)
    | succ nn ih5 =>
      intro x3 x4 h5_0 h5_1 hm5
      refine zs_iload (pc := 5) C dX9_wordAt_5 rfl ?_
      refine zs_aload_n (pc := 7) C dX9_wordAt_7 rfl ?_
      refine zs_getf (pc := 8) C dX9_wordAt_8 w_X9_13 f_10_3 (by decide) ?_
      refine zs_alen (pc := 11) C dX9_wordAt_11 a_58 (by decide) (by decide) ?_
      refine zs_icmp_ge (tgt := 126) (pc := 12) C dX9_wordAt_12 (by decide) (fun h12 => ?_) (fun h12 => ?_)
      · skip
        refine zs_iconst (pc := 126) C dX9_wordAt_126 (by decide) ?_
        exact zs_iret (pc := 127) C hr hlk dX9_wordAt_127 ⟨rfl, by have h9 : x3 = 24 := (by rcases (show x3 = 24 ∨ x3 < 24 by omega) with h8 | h8; exact h8; have h7 := os_i (k := x3) (by omega) h8; omega); split; rw [← lwr_eq, ← h5_1 (by omega)]; exact (lwr_e h9).symm; rfl⟩
      · skip
        refine zs_iconst (pc := 15) C dX9_wordAt_15 (by decide) ?_
        refine zs_istore (pc := 16) C dX9_wordAt_16 (by decide) ?_
        dsimp only [zset, zclr, znone]
        have hx24 := os_lt (k := x3) (by omega) h5_0.2.2.1 (by omega)
        have hos := os_i (k := x3) (by omega) hx24
        have L18 : ∀ (nn : Nat) (x5 : Int), (0 ≤ x5 ∧ x4 + x5 ≤ os (x3 + 1) - 1) → (120 - x5).toNat < nn → Z p l e (zrm 0) s m args below meth c Γ 8 0 0 (MQ below (zQc Γ (zpi (fun x G' => G' = G ∧ (x = if b - a ≤ 6 then rp (lw (cd (G.1 2057 (Γ.2.1 w 0)) a b)) else -1)))) args s 0 0 (zA Γ)) 18 [some (zr 10 w), some (zi a), some (zi b), some (zi x3), some (zi x4), some (zi x5), none, none] [] G := by
          intro nn
          induction nn with
          | zero => intro x5 h18_0 hm; exact absurd hm (Nat.not_lt_zero _)
          | succ nn ih18 =>
            intro x5 h18_0 hm18
            refine zs_aload_n (pc := 18) C dX9_wordAt_18 rfl ?_
            refine zs_getf (pc := 19) C dX9_wordAt_19 w_X9_13 f_10_3 (by decide) ?_
            refine zs_iload (pc := 22) C dX9_wordAt_22 rfl ?_
            refine zs_iload (pc := 24) C dX9_wordAt_24 rfl ?_
            first | refine zs_iadd (pc := 26) C dX9_wordAt_26 (by omega) ?_ | refine zs_iaddF (pc := 26) C dX9_wordAt_26 (fun z26 hz261 hz262 => ?_)
            refine zs_iald (r := 2058) (pc := 27) C dX9_wordAt_27 a_58 (by decide) (by omega) rfl (wd_eta _) (fun v27 e27 l27 u27 => ?_)
            have hwd := wd_at l27 u27
            have hsp9 : x4 + x5 = os (x3 + 1) - 1 → v27 = 32 := fun q => by rw [hwd]; exact os_si (k := x3) (by omega) (by omega) q
            have hno9 : x4 + x5 < os (x3 + 1) - 1 → v27 ≠ 32 := fun q => by rw [hwd]; exact os_ni (k := x3) (by omega) (by omega) (by omega) q
            refine zs_bipush (pc := 28) C dX9_wordAt_28 (by decide) (by decide) ?_
            refine zs_icmp_eq (tgt := 39) (pc := 30) C dX9_wordAt_30 (by decide) (fun h30 => ?_) (fun h30 => ?_)
            · skip
              refine zs_iload (pc := 39) C dX9_wordAt_39 rfl ?_
              refine zs_iload_n (pc := 41) C dX9_wordAt_41 rfl ?_
              refine zs_iload_n (pc := 42) C dX9_wordAt_42 rfl ?_
              first | refine zs_isub (pc := 43) C dX9_wordAt_43 (by omega) ?_ | refine zs_isubF (pc := 43) C dX9_wordAt_43 (fun z43 hz431 hz432 => ?_)
              refine zs_icmp_ne (tgt := 51) (pc := 44) C dX9_wordAt_44 (by decide) (fun h44 => ?_) (fun h44 => ?_)
              · skip
                refine zs_iconst (pc := 51) C dX9_wordAt_51 (by decide) ?_
                refine zs_istore (pc := 52) C dX9_wordAt_52 (by decide) ?_
                dsimp only [zset, zclr, znone]
                refine zs_iconst (pc := 54) C dX9_wordAt_54 (by decide) ?_
                refine zs_istore (pc := 55) C dX9_wordAt_55 (by decide) ?_
                dsimp only [zset, zclr, znone]
                have L57 : ∀ (nn : Nat) (x6 x7 : Int), (0 ≤ x7 ∧ x7 ≤ x5) → (x6 = 0 ∨ (x6 = 1 ∧ x5 = b - a)) → (x6 = 1 ↔ (x5 = b - a ∧ ∀ i : Int, 0 ≤ i → i < x7 → zWD.getD (os x3 + i).toNat 32 = (G.1 2057 (Γ.2.1 w 0)) (a + i).toNat)) → (x5 - x7).toNat < nn → Z p l e (zrm 0) s m args below meth c Γ 8 0 0 (MQ below (zQc Γ (zpi (fun x G' => G' = G ∧ (x = if b - a ≤ 6 then rp (lw (cd (G.1 2057 (Γ.2.1 w 0)) a b)) else -1)))) args s 0 0 (zA Γ)) 57 [some (zr 10 w), some (zi a), some (zi b), some (zi x3), some (zi x4), some (zi x5), some (zi x6), some (zi x7)] [] G := by
                  intro nn
                  induction nn with
                  | zero => intro x6 x7 h57_0 h57_1 h57_2 hm; exact absurd hm (Nat.not_lt_zero _)
                  | succ nn ih57 =>
                    intro x6 x7 h57_0 h57_1 h57_2 hm57
                    refine zs_iload (pc := 57) C dX9_wordAt_57 rfl ?_
                    refine zs_iload (pc := 59) C dX9_wordAt_59 rfl ?_
                    refine zs_icmp_ge (tgt := 104) (pc := 61) C dX9_wordAt_61 (by decide) (fun h61 => ?_) (fun h61 => ?_)
                    · skip
                      have hmt : x6 = 1 ↔ mt (G.1 2057 (Γ.2.1 w 0)) a b x3 := by
                        have hx5 : os (x3 + 1) - 1 - os x3 = x5 := by omega
                        constructor
                        · intro h
                          have h9 := h57_2.mp h
                          exact ⟨by omega, fun i i1 i2 => h9.2 i i1 (by omega)⟩
                        · intro h
                          exact h57_2.mpr ⟨by have h8 := h.1; omega, fun i i1 i2 => h.2 i i1 (by omega)⟩
                      refine zs_iload (pc := 104) C dX9_wordAt_104 rfl ?_
                      refine zs_if_eq (tgt := 111) (pc := 106) C dX9_wordAt_106 (by decide) (fun h106 => ?_) (fun h106 => ?_)
                      · skip
                        refine zs_iload (pc := 111) C dX9_wordAt_111 rfl ?_
                        refine zs_iload (pc := 113) C dX9_wordAt_113 rfl ?_
                        refine zs_iconst (pc := 115) C dX9_wordAt_115 (by decide) ?_
                        first | refine zs_iadd (pc := 116) C dX9_wordAt_116 (by omega) ?_ | refine zs_iaddF (pc := 116) C dX9_wordAt_116 (fun z116 hz1161 hz1162 => ?_)
                        first | refine zs_iadd (pc := 117) C dX9_wordAt_117 (by omega) ?_ | refine zs_iaddF (pc := 117) C dX9_wordAt_117 (fun z117 hz1171 hz1172 => ?_)
                        refine zs_istore (pc := 118) C dX9_wordAt_118 (by decide) ?_
                        dsimp only [zset, zclr, znone]
                        first | refine zs_iinc (pc := 120) C dX9_wordAt_120 rfl (by decide) (by omega) ?_ | refine zs_iincF (pc := 120) C dX9_wordAt_120 rfl (by decide) (fun z120 hz1201 hz1202 => ?_)
                        dsimp only [zset, zclr, znone]
                        refine zs_goto (tgt := 5) (pc := 123) C dX9_wordAt_123 (by decide) ?_
                        exact zs_wk (ih5 _ _ (by have h9 : x4 + (x5 + 1) = os (x3 + 1) := (by omega); refine ⟨by omega, by omega, h9, by omega, by omega⟩) (fun h6 => by have h7 := h5_1 h6; rw [lwr_s (k := x3) (by omega) (by omega), if_neg (fun e9 => by have h8 := hmt.mpr ((mt_k hall (by omega) h6 (by omega)).mpr e9); omega)] at h7; exact h7) (by first | omega | (simp only [zuI_1, zuI_2, zuJ_1, zuJ_2, zuJ_3, zuP_1, zuP_2, zuP_3, zuC_1, zuC_2, reduceIte, Nat.reduceEqDiff, false_and, and_false, true_and, and_true, and_self, or_true, true_or, or_false, false_or]; omega))) (zwk_s rfl (zwk_s rfl (zwk_s rfl (zwk_s rfl (zwk_s rfl (zwk_n (zwk_n (zwk_n zwk_0))))))))
                      · skip
                        refine zs_iload_n (pc := 109) C dX9_wordAt_109 rfl ?_
                        exact zs_iret (pc := 110) C hr hlk dX9_wordAt_110 ⟨rfl, by have h8 := hmt.mp (by omega); have h7 := h8.1; rw [if_pos (by omega), ← lwr_eq, ← h5_1 (by omega), lwr_s (by omega) (by omega), if_pos ((mt_k hall (by omega) (by omega) (by omega)).mp h8)]⟩
                    · skip
                      refine zs_iload (pc := 64) C dX9_wordAt_64 rfl ?_
                      refine zs_if_eq (tgt := 104) (pc := 66) C dX9_wordAt_66 (by decide) (fun h66 => ?_) (fun h66 => ?_)
                      · skip
                        have hmt : x6 = 1 ↔ mt (G.1 2057 (Γ.2.1 w 0)) a b x3 := by
                          have hx5 : os (x3 + 1) - 1 - os x3 = x5 := by omega
                          constructor
                          · intro h
                            have h9 := h57_2.mp h
                            exact ⟨by omega, fun i i1 i2 => h9.2 i i1 (by omega)⟩
                          · intro h
                            exact h57_2.mpr ⟨by have h8 := h.1; omega, fun i i1 i2 => h.2 i i1 (by omega)⟩
                        refine zs_iload (pc := 104) C dX9_wordAt_104 rfl ?_
                        refine zs_if_eq (tgt := 111) (pc := 106) C dX9_wordAt_106 (by decide) (fun h106 => ?_) (fun h106 => ?_)
                        · skip
                          refine zs_iload (pc := 111) C dX9_wordAt_111 rfl ?_
                          refine zs_iload (pc := 113) C dX9_wordAt_113 rfl ?_
                          refine zs_iconst (pc := 115) C dX9_wordAt_115 (by decide) ?_
                          first | refine zs_iadd (pc := 116) C dX9_wordAt_116 (by omega) ?_ | refine zs_iaddF (pc := 116) C dX9_wordAt_116 (fun z116 hz1161 hz1162 => ?_)
                          first | refine zs_iadd (pc := 117) C dX9_wordAt_117 (by omega) ?_ | refine zs_iaddF (pc := 117) C dX9_wordAt_117 (fun z117 hz1171 hz1172 => ?_)
                          refine zs_istore (pc := 118) C dX9_wordAt_118 (by decide) ?_
                          dsimp only [zset, zclr, znone]
                          first | refine zs_iinc (pc := 120) C dX9_wordAt_120 rfl (by decide) (by omega) ?_ | refine zs_iincF (pc := 120) C dX9_wordAt_120 rfl (by decide) (fun z120 hz1201 hz1202 => ?_)
                          dsimp only [zset, zclr, znone]
                          refine zs_goto (tgt := 5) (pc := 123) C dX9_wordAt_123 (by decide) ?_
                          exact zs_wk (ih5 _ _ (by have h9 : x4 + (x5 + 1) = os (x3 + 1) := (by omega); refine ⟨by omega, by omega, h9, by omega, by omega⟩) (fun h6 => by have h7 := h5_1 h6; rw [lwr_s (k := x3) (by omega) (by omega), if_neg (fun e9 => by have h8 := hmt.mpr ((mt_k hall (by omega) h6 (by omega)).mpr e9); omega)] at h7; exact h7) (by first | omega | (simp only [zuI_1, zuI_2, zuJ_1, zuJ_2, zuJ_3, zuP_1, zuP_2, zuP_3, zuC_1, zuC_2, reduceIte, Nat.reduceEqDiff, false_and, and_false, true_and, and_true, and_self, or_true, true_or, or_false, false_or]; omega))) (zwk_s rfl (zwk_s rfl (zwk_s rfl (zwk_s rfl (zwk_s rfl (zwk_n (zwk_n (zwk_n zwk_0))))))))
                        · skip
                          refine zs_iload_n (pc := 109) C dX9_wordAt_109 rfl ?_
                          exact zs_iret (pc := 110) C hr hlk dX9_wordAt_110 ⟨rfl, by have h8 := hmt.mp (by omega); have h7 := h8.1; rw [if_pos (by omega), ← lwr_eq, ← h5_1 (by omega), lwr_s (by omega) (by omega), if_pos ((mt_k hall (by omega) (by omega) (by omega)).mp h8)]⟩
                      · skip
                        refine zs_aload_n (pc := 69) C dX9_wordAt_69 rfl ?_
                        refine zs_getf (pc := 70) C dX9_wordAt_70 w_X9_13 f_10_3 (by decide) ?_
                        refine zs_iload (pc := 73) C dX9_wordAt_73 rfl ?_
                        refine zs_iload (pc := 75) C dX9_wordAt_75 rfl ?_
                        first | refine zs_iadd (pc := 77) C dX9_wordAt_77 (by omega) ?_ | refine zs_iaddF (pc := 77) C dX9_wordAt_77 (fun z77 hz771 hz772 => ?_)
                        refine zs_iald (r := 2058) (pc := 78) C dX9_wordAt_78 a_58 (by decide) (by omega) rfl (wd_eta _) (fun v78 e78 l78 u78 => ?_)
                        have hwd8 := wd_at l78 u78
                        refine zs_aload_n (pc := 79) C dX9_wordAt_79 rfl ?_
                        refine zs_getf (pc := 80) C dX9_wordAt_80 w_X9_7 f_10_0 (by decide) ?_
                        refine zs_iload_n (pc := 83) C dX9_wordAt_83 rfl ?_
                        refine zs_iload (pc := 84) C dX9_wordAt_84 rfl ?_
                        first | refine zs_iadd (pc := 86) C dX9_wordAt_86 (by omega) ?_ | refine zs_iaddF (pc := 86) C dX9_wordAt_86 (fun z86 hz861 hz862 => ?_)
                        refine zs_iald (r := 2057) (pc := 87) C dX9_wordAt_87 a_57 (by decide) (by omega) rfl (r_2057 _) (fun v87 e87 l87 u87 => ?_)
                        refine zs_icmp_ne (tgt := 95) (pc := 88) C dX9_wordAt_88 (by decide) (fun h88 => ?_) (fun h88 => ?_)
                        · skip
                          refine zs_iconst (pc := 95) C dX9_wordAt_95 (by decide) ?_
                          refine zs_istore (pc := 96) C dX9_wordAt_96 (by decide) ?_
                          dsimp only [zset, zclr, znone]
                          first | refine zs_iinc (pc := 98) C dX9_wordAt_98 rfl (by decide) (by omega) ?_ | refine zs_iincF (pc := 98) C dX9_wordAt_98 rfl (by decide) (fun z98 hz981 hz982 => ?_)
                          dsimp only [zset, zclr, znone]
                          refine zs_goto (tgt := 57) (pc := 101) C dX9_wordAt_101 (by decide) ?_
                          exact zs_wk (ih57 _ _ (by omega) (by omega) (by have hb9 := h57_2.mp (by omega); first | exact ⟨fun _ => ⟨hb9.1, fun i i1 i2 => by rcases (show i < x7 ∨ i = x7 by omega) with h8 | h8; exact hb9.2 i i1 h8; rw [h8, ← (show x4 = os x3 by omega), ← hwd8, ← e87]; omega⟩, fun _ => rfl⟩ | exact ⟨fun q => absurd q (by decide), fun q => by exfalso; have h8 := q.2 x7 (by omega) (by omega); rw [← (show x4 = os x3 by omega), ← hwd8, ← e87] at h8; omega⟩) (by first | omega | (simp only [zuI_1, zuI_2, zuJ_1, zuJ_2, zuJ_3, zuP_1, zuP_2, zuP_3, zuC_1, zuC_2, reduceIte, Nat.reduceEqDiff, false_and, and_false, true_and, and_true, and_self, or_true, true_or, or_false, false_or]; omega))) (zwk_s rfl (zwk_s rfl (zwk_s rfl (zwk_s rfl (zwk_s rfl (zwk_s rfl (zwk_s rfl (zwk_s rfl zwk_0))))))))
                        · skip
                          refine zs_iconst (pc := 91) C dX9_wordAt_91 (by decide) ?_
                          refine zs_goto (tgt := 96) (pc := 92) C dX9_wordAt_92 (by decide) ?_
                          refine zs_istore (pc := 96) C dX9_wordAt_96 (by decide) ?_
                          dsimp only [zset, zclr, znone]
                          first | refine zs_iinc (pc := 98) C dX9_wordAt_98 rfl (by decide) (by omega) ?_ | refine zs_iincF (pc := 98) C dX9_wordAt_98 rfl (by decide) (fun z98 hz981 hz982 => ?_)
                          dsimp only [zset, zclr, znone]
                          refine zs_goto (tgt := 57) (pc := 101) C dX9_wordAt_101 (by decide) ?_
                          exact zs_wk (ih57 _ _ (by omega) (by omega) (by have hb9 := h57_2.mp (by omega); first | exact ⟨fun _ => ⟨hb9.1, fun i i1 i2 => by rcases (show i < x7 ∨ i = x7 by omega) with h8 | h8; exact hb9.2 i i1 h8; rw [h8, ← (show x4 = os x3 by omega), ← hwd8, ← e87]; omega⟩, fun _ => rfl⟩ | exact ⟨fun q => absurd q (by decide), fun q => by exfalso; have h8 := q.2 x7 (by omega) (by omega); rw [← (show x4 = os x3 by omega), ← hwd8, ← e87] at h8; omega⟩) (by first | omega | (simp only [zuI_1, zuI_2, zuJ_1, zuJ_2, zuJ_3, zuP_1, zuP_2, zuP_3, zuC_1, zuC_2, reduceIte, Nat.reduceEqDiff, false_and, and_false, true_and, and_true, and_self, or_true, true_or, or_false, false_or]; omega))) (zwk_s rfl (zwk_s rfl (zwk_s rfl (zwk_s rfl (zwk_s rfl (zwk_s rfl (zwk_s rfl (zwk_s rfl zwk_0))))))))
                exact zs_wk (L57 _ _ _ (by omega) (by omega) (by first | exact ⟨fun _ => ⟨by omega, fun i i1 i2 => by omega⟩, fun _ => rfl⟩ | exact ⟨fun q => absurd q (by decide), fun q => by omega⟩) (Nat.lt_succ_self _)) (zwk_s rfl (zwk_s rfl (zwk_s rfl (zwk_s rfl (zwk_s rfl (zwk_s rfl (zwk_s rfl (zwk_s rfl zwk_0))))))))
              · skip
                refine zs_iconst (pc := 47) C dX9_wordAt_47 (by decide) ?_
                refine zs_goto (tgt := 52) (pc := 48) C dX9_wordAt_48 (by decide) ?_
                refine zs_istore (pc := 52) C dX9_wordAt_52 (by decide) ?_
                dsimp only [zset, zclr, znone]
                refine zs_iconst (pc := 54) C dX9_wordAt_54 (by decide) ?_
                refine zs_istore (pc := 55) C dX9_wordAt_55 (by decide) ?_
                dsimp only [zset, zclr, znone]
                have L57 : ∀ (nn : Nat) (x6 x7 : Int), (0 ≤ x7 ∧ x7 ≤ x5) → (x6 = 0 ∨ (x6 = 1 ∧ x5 = b - a)) → (x6 = 1 ↔ (x5 = b - a ∧ ∀ i : Int, 0 ≤ i → i < x7 → zWD.getD (os x3 + i).toNat 32 = (G.1 2057 (Γ.2.1 w 0)) (a + i).toNat)) → (x5 - x7).toNat < nn → Z p l e (zrm 0) s m args below meth c Γ 8 0 0 (MQ below (zQc Γ (zpi (fun x G' => G' = G ∧ (x = if b - a ≤ 6 then rp (lw (cd (G.1 2057 (Γ.2.1 w 0)) a b)) else -1)))) args s 0 0 (zA Γ)) 57 [some (zr 10 w), some (zi a), some (zi b), some (zi x3), some (zi x4), some (zi x5), some (zi x6), some (zi x7)] [] G := by
                  intro nn
                  induction nn with
                  | zero => intro x6 x7 h57_0 h57_1 h57_2 hm; exact absurd hm (Nat.not_lt_zero _)
                  | succ nn ih57 =>
                    intro x6 x7 h57_0 h57_1 h57_2 hm57
                    refine zs_iload (pc := 57) C dX9_wordAt_57 rfl ?_
                    refine zs_iload (pc := 59) C dX9_wordAt_59 rfl ?_
                    refine zs_icmp_ge (tgt := 104) (pc := 61) C dX9_wordAt_61 (by decide) (fun h61 => ?_) (fun h61 => ?_)
                    · skip
                      have hmt : x6 = 1 ↔ mt (G.1 2057 (Γ.2.1 w 0)) a b x3 := by
                        have hx5 : os (x3 + 1) - 1 - os x3 = x5 := by omega
                        constructor
                        · intro h
                          have h9 := h57_2.mp h
                          exact ⟨by omega, fun i i1 i2 => h9.2 i i1 (by omega)⟩
                        · intro h
                          exact h57_2.mpr ⟨by have h8 := h.1; omega, fun i i1 i2 => h.2 i i1 (by omega)⟩
                      refine zs_iload (pc := 104) C dX9_wordAt_104 rfl ?_
                      refine zs_if_eq (tgt := 111) (pc := 106) C dX9_wordAt_106 (by decide) (fun h106 => ?_) (fun h106 => ?_)
                      · skip
                        refine zs_iload (pc := 111) C dX9_wordAt_111 rfl ?_
                        refine zs_iload (pc := 113) C dX9_wordAt_113 rfl ?_
                        refine zs_iconst (pc := 115) C dX9_wordAt_115 (by decide) ?_
                        first | refine zs_iadd (pc := 116) C dX9_wordAt_116 (by omega) ?_ | refine zs_iaddF (pc := 116) C dX9_wordAt_116 (fun z116 hz1161 hz1162 => ?_)
                        first | refine zs_iadd (pc := 117) C dX9_wordAt_117 (by omega) ?_ | refine zs_iaddF (pc := 117) C dX9_wordAt_117 (fun z117 hz1171 hz1172 => ?_)
                        refine zs_istore (pc := 118) C dX9_wordAt_118 (by decide) ?_
                        dsimp only [zset, zclr, znone]
                        first | refine zs_iinc (pc := 120) C dX9_wordAt_120 rfl (by decide) (by omega) ?_ | refine zs_iincF (pc := 120) C dX9_wordAt_120 rfl (by decide) (fun z120 hz1201 hz1202 => ?_)
                        dsimp only [zset, zclr, znone]
                        refine zs_goto (tgt := 5) (pc := 123) C dX9_wordAt_123 (by decide) ?_
                        exact zs_wk (ih5 _ _ (by have h9 : x4 + (x5 + 1) = os (x3 + 1) := (by omega); refine ⟨by omega, by omega, h9, by omega, by omega⟩) (fun h6 => by have h7 := h5_1 h6; rw [lwr_s (k := x3) (by omega) (by omega), if_neg (fun e9 => by have h8 := hmt.mpr ((mt_k hall (by omega) h6 (by omega)).mpr e9); omega)] at h7; exact h7) (by first | omega | (simp only [zuI_1, zuI_2, zuJ_1, zuJ_2, zuJ_3, zuP_1, zuP_2, zuP_3, zuC_1, zuC_2, reduceIte, Nat.reduceEqDiff, false_and, and_false, true_and, and_true, and_self, or_true, true_or, or_false, false_or]; omega))) (zwk_s rfl (zwk_s rfl (zwk_s rfl (zwk_s rfl (zwk_s rfl (zwk_n (zwk_n (zwk_n zwk_0))))))))
                      · skip
                        refine zs_iload_n (pc := 109) C dX9_wordAt_109 rfl ?_
                        exact zs_iret (pc := 110) C hr hlk dX9_wordAt_110 ⟨rfl, by have h8 := hmt.mp (by omega); have h7 := h8.1; rw [if_pos (by omega), ← lwr_eq, ← h5_1 (by omega), lwr_s (by omega) (by omega), if_pos ((mt_k hall (by omega) (by omega) (by omega)).mp h8)]⟩
                    · skip
                      refine zs_iload (pc := 64) C dX9_wordAt_64 rfl ?_
                      refine zs_if_eq (tgt := 104) (pc := 66) C dX9_wordAt_66 (by decide) (fun h66 => ?_) (fun h66 => ?_)
                      · skip
                        have hmt : x6 = 1 ↔ mt (G.1 2057 (Γ.2.1 w 0)) a b x3 := by
                          have hx5 : os (x3 + 1) - 1 - os x3 = x5 := by omega
                          constructor
                          · intro h
                            have h9 := h57_2.mp h
                            exact ⟨by omega, fun i i1 i2 => h9.2 i i1 (by omega)⟩
                          · intro h
                            exact h57_2.mpr ⟨by have h8 := h.1; omega, fun i i1 i2 => h.2 i i1 (by omega)⟩
                        refine zs_iload (pc := 104) C dX9_wordAt_104 rfl ?_
                        refine zs_if_eq (tgt := 111) (pc := 106) C dX9_wordAt_106 (by decide) (fun h106 => ?_) (fun h106 => ?_)
                        · skip
                          refine zs_iload (pc := 111) C dX9_wordAt_111 rfl ?_
                          refine zs_iload (pc := 113) C dX9_wordAt_113 rfl ?_
                          refine zs_iconst (pc := 115) C dX9_wordAt_115 (by decide) ?_
                          first | refine zs_iadd (pc := 116) C dX9_wordAt_116 (by omega) ?_ | refine zs_iaddF (pc := 116) C dX9_wordAt_116 (fun z116 hz1161 hz1162 => ?_)
                          first | refine zs_iadd (pc := 117) C dX9_wordAt_117 (by omega) ?_ | refine zs_iaddF (pc := 117) C dX9_wordAt_117 (fun z117 hz1171 hz1172 => ?_)
                          refine zs_istore (pc := 118) C dX9_wordAt_118 (by decide) ?_
                          dsimp only [zset, zclr, znone]
                          first | refine zs_iinc (pc := 120) C dX9_wordAt_120 rfl (by decide) (by omega) ?_ | refine zs_iincF (pc := 120) C dX9_wordAt_120 rfl (by decide) (fun z120 hz1201 hz1202 => ?_)
                          dsimp only [zset, zclr, znone]
                          refine zs_goto (tgt := 5) (pc := 123) C dX9_wordAt_123 (by decide) ?_
                          exact zs_wk (ih5 _ _ (by have h9 : x4 + (x5 + 1) = os (x3 + 1) := (by omega); refine ⟨by omega, by omega, h9, by omega, by omega⟩) (fun h6 => by have h7 := h5_1 h6; rw [lwr_s (k := x3) (by omega) (by omega), if_neg (fun e9 => by have h8 := hmt.mpr ((mt_k hall (by omega) h6 (by omega)).mpr e9); omega)] at h7; exact h7) (by first | omega | (simp only [zuI_1, zuI_2, zuJ_1, zuJ_2, zuJ_3, zuP_1, zuP_2, zuP_3, zuC_1, zuC_2, reduceIte, Nat.reduceEqDiff, false_and, and_false, true_and, and_true, and_self, or_true, true_or, or_false, false_or]; omega))) (zwk_s rfl (zwk_s rfl (zwk_s rfl (zwk_s rfl (zwk_s rfl (zwk_n (zwk_n (zwk_n zwk_0))))))))
                        · skip
                          refine zs_iload_n (pc := 109) C dX9_wordAt_109 rfl ?_
                          exact zs_iret (pc := 110) C hr hlk dX9_wordAt_110 ⟨rfl, by have h8 := hmt.mp (by omega); have h7 := h8.1; rw [if_pos (by omega), ← lwr_eq, ← h5_1 (by omega), lwr_s (by omega) (by omega), if_pos ((mt_k hall (by omega) (by omega) (by omega)).mp h8)]⟩
                      · skip
                        refine zs_aload_n (pc := 69) C dX9_wordAt_69 rfl ?_
                        refine zs_getf (pc := 70) C dX9_wordAt_70 w_X9_13 f_10_3 (by decide) ?_
                        refine zs_iload (pc := 73) C dX9_wordAt_73 rfl ?_
                        refine zs_iload (pc := 75) C dX9_wordAt_75 rfl ?_
                        first | refine zs_iadd (pc := 77) C dX9_wordAt_77 (by omega) ?_ | refine zs_iaddF (pc := 77) C dX9_wordAt_77 (fun z77 hz771 hz772 => ?_)
                        refine zs_iald (r := 2058) (pc := 78) C dX9_wordAt_78 a_58 (by decide) (by omega) rfl (wd_eta _) (fun v78 e78 l78 u78 => ?_)
                        have hwd8 := wd_at l78 u78
                        refine zs_aload_n (pc := 79) C dX9_wordAt_79 rfl ?_
                        refine zs_getf (pc := 80) C dX9_wordAt_80 w_X9_7 f_10_0 (by decide) ?_
                        refine zs_iload_n (pc := 83) C dX9_wordAt_83 rfl ?_
                        refine zs_iload (pc := 84) C dX9_wordAt_84 rfl ?_
                        first | refine zs_iadd (pc := 86) C dX9_wordAt_86 (by omega) ?_ | refine zs_iaddF (pc := 86) C dX9_wordAt_86 (fun z86 hz861 hz862 => ?_)
                        refine zs_iald (r := 2057) (pc := 87) C dX9_wordAt_87 a_57 (by decide) (by omega) rfl (r_2057 _) (fun v87 e87 l87 u87 => ?_)
                        refine zs_icmp_ne (tgt := 95) (pc := 88) C dX9_wordAt_88 (by decide) (fun h88 => ?_) (fun h88 => ?_)
                        · skip
                          refine zs_iconst (pc := 95) C dX9_wordAt_95 (by decide) ?_
                          refine zs_istore (pc := 96) C dX9_wordAt_96 (by decide) ?_
                          dsimp only [zset, zclr, znone]
                          first | refine zs_iinc (pc := 98) C dX9_wordAt_98 rfl (by decide) (by omega) ?_ | refine zs_iincF (pc := 98) C dX9_wordAt_98 rfl (by decide) (fun z98 hz981 hz982 => ?_)
                          dsimp only [zset, zclr, znone]
                          refine zs_goto (tgt := 57) (pc := 101) C dX9_wordAt_101 (by decide) ?_
                          exact zs_wk (ih57 _ _ (by omega) (by omega) (by have hb9 := h57_2.mp (by omega); first | exact ⟨fun _ => ⟨hb9.1, fun i i1 i2 => by rcases (show i < x7 ∨ i = x7 by omega) with h8 | h8; exact hb9.2 i i1 h8; rw [h8, ← (show x4 = os x3 by omega), ← hwd8, ← e87]; omega⟩, fun _ => rfl⟩ | exact ⟨fun q => absurd q (by decide), fun q => by exfalso; have h8 := q.2 x7 (by omega) (by omega); rw [← (show x4 = os x3 by omega), ← hwd8, ← e87] at h8; omega⟩) (by first | omega | (simp only [zuI_1, zuI_2, zuJ_1, zuJ_2, zuJ_3, zuP_1, zuP_2, zuP_3, zuC_1, zuC_2, reduceIte, Nat.reduceEqDiff, false_and, and_false, true_and, and_true, and_self, or_true, true_or, or_false, false_or]; omega))) (zwk_s rfl (zwk_s rfl (zwk_s rfl (zwk_s rfl (zwk_s rfl (zwk_s rfl (zwk_s rfl (zwk_s rfl zwk_0))))))))
                        · skip
                          refine zs_iconst (pc := 91) C dX9_wordAt_91 (by decide) ?_
                          refine zs_goto (tgt := 96) (pc := 92) C dX9_wordAt_92 (by decide) ?_
                          refine zs_istore (pc := 96) C dX9_wordAt_96 (by decide) ?_
                          dsimp only [zset, zclr, znone]
                          first | refine zs_iinc (pc := 98) C dX9_wordAt_98 rfl (by decide) (by omega) ?_ | refine zs_iincF (pc := 98) C dX9_wordAt_98 rfl (by decide) (fun z98 hz981 hz982 => ?_)
                          dsimp only [zset, zclr, znone]
                          refine zs_goto (tgt := 57) (pc := 101) C dX9_wordAt_101 (by decide) ?_
                          exact zs_wk (ih57 _ _ (by omega) (by omega) (by have hb9 := h57_2.mp (by omega); first | exact ⟨fun _ => ⟨hb9.1, fun i i1 i2 => by rcases (show i < x7 ∨ i = x7 by omega) with h8 | h8; exact hb9.2 i i1 h8; rw [h8, ← (show x4 = os x3 by omega), ← hwd8, ← e87]; omega⟩, fun _ => rfl⟩ | exact ⟨fun q => absurd q (by decide), fun q => by exfalso; have h8 := q.2 x7 (by omega) (by omega); rw [← (show x4 = os x3 by omega), ← hwd8, ← e87] at h8; omega⟩) (by first | omega | (simp only [zuI_1, zuI_2, zuJ_1, zuJ_2, zuJ_3, zuP_1, zuP_2, zuP_3, zuC_1, zuC_2, reduceIte, Nat.reduceEqDiff, false_and, and_false, true_and, and_true, and_self, or_true, true_or, or_false, false_or]; omega))) (zwk_s rfl (zwk_s rfl (zwk_s rfl (zwk_s rfl (zwk_s rfl (zwk_s rfl (zwk_s rfl (zwk_s rfl zwk_0))))))))
                exact zs_wk (L57 _ _ _ (by omega) (by omega) (by first | exact ⟨fun _ => ⟨by omega, fun i i1 i2 => by omega⟩, fun _ => rfl⟩ | exact ⟨fun q => absurd q (by decide), fun q => by omega⟩) (Nat.lt_succ_self _)) (zwk_s rfl (zwk_s rfl (zwk_s rfl (zwk_s rfl (zwk_s rfl (zwk_s rfl (zwk_s rfl (zwk_s rfl zwk_0))))))))
            · skip
              first | refine zs_iinc (pc := 33) C dX9_wordAt_33 rfl (by decide) (by omega) ?_ | refine zs_iincF (pc := 33) C dX9_wordAt_33 rfl (by decide) (fun z33 hz331 hz332 => ?_)
              dsimp only [zset, zclr, znone]
              refine zs_goto (tgt := 18) (pc := 36) C dX9_wordAt_36 (by decide) ?_
              exact zs_wk (ih18 _ (by first | omega | (simp only [zuI_1, zuI_2, zuJ_1, zuJ_2, zuJ_3, zuP_1, zuP_2, zuP_3, zuC_1, zuC_2, reduceIte, Nat.reduceEqDiff, false_and, and_false, true_and, and_true, and_self, or_true, true_or, or_false, false_or]; omega)) (by first | omega | (simp only [zuI_1, zuI_2, zuJ_1, zuJ_2, zuJ_3, zuP_1, zuP_2, zuP_3, zuC_1, zuC_2, reduceIte, Nat.reduceEqDiff, false_and, and_false, true_and, and_true, and_self, or_true, true_or, or_false, false_or]; omega))) (zwk_s rfl (zwk_s rfl (zwk_s rfl (zwk_s rfl (zwk_s rfl (zwk_s rfl (zwk_n (zwk_n zwk_0))))))))
        exact zs_wk (L18 _ _ (by first | omega | (simp only [zuI_1, zuI_2, zuJ_1, zuJ_2, zuJ_3, zuP_1, zuP_2, zuP_3, zuC_1, zuC_2, reduceIte, Nat.reduceEqDiff, false_and, and_false, true_and, and_true, and_self, or_true, true_or, or_false, false_or]; omega)) (Nat.lt_succ_self _)) (zwk_s rfl (zwk_s rfl (zwk_s rfl (zwk_s rfl (zwk_s rfl (zwk_s rfl (zwk_n (zwk_n zwk_0))))))))
  exact zs_wk (L5 _ _ _ ⟨by decide, by decide, by decide +kernel, by decide, by decide⟩ (fun _ => rfl) (Nat.lt_succ_self _)) (zwk_s rfl (zwk_s rfl (zwk_s rfl (zwk_s rfl (zwk_s rfl (zwk_n (zwk_n (zwk_n zwk_0))))))))
