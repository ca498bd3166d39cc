set_option maxHeartbeats 4000000 in
set_option maxRecDepth 100000 in
theorem c_J6_bitCount_0f7a4 {l : Launch} {Γ : zΓ} {G : zH} {k : Int} (hX : zXs Γ)  : zMet l Γ yJ6_bitCount_0f7a4 cJ6_bitCount_0f7a4 1 (some .int) 0 [zi k] G (zpi (fun x G' => G' = G ∧ True)) := by
  refine zMet_of RJ6 hX (by decide) rfl (Nat.le_of_ble_eq_true rfl) ?_
  intro p e s m args below meth c C hr hlk
  show Z p l e (zrm 0) s m args below meth c Γ 1 0 0 (MQ below (zQc Γ (zpi (fun x G' => G' = G ∧ True))) args s 0 0 (zA Γ)) 0 [some (zi k)] [] G
  refine zs_loc 0 rfl (fun ha0 hb0 => ?_)
  refine zs_iload_n (pc := 0) C dJ6_bitCount_0f7a4_0 rfl ?_
  refine zs_iload_n (pc := 1) C dJ6_bitCount_0f7a4_1 rfl ?_
  refine zs_iconst (pc := 2) C dJ6_bitCount_0f7a4_2 (by decide) ?_
  refine zs_iushrF (pc := 3) C dJ6_bitCount_0f7a4_3 (fun z3 hz31 hz32 => ?_)
  refine zs_ldcw (n := 1431655765) (pc := 4) C dJ6_bitCount_0f7a4_4 q_J6_265 (by decide) (by decide) ?_
  first | refine zs_iand (pc := 7) C 1 dJ6_bitCount_0f7a4_7 (by decide) (by decide) (fun z7 hz71 hz72 => ?_) | refine zs_iand (pc := 7) C 2 dJ6_bitCount_0f7a4_7 (by decide) (by decide) (fun z7 hz71 hz72 => ?_) | refine zs_iand (pc := 7) C 8 dJ6_bitCount_0f7a4_7 (by decide) (by decide) (fun z7 hz71 hz72 => ?_) | refine zs_iandF (pc := 7) C dJ6_bitCount_0f7a4_7 (fun z7 hz71 hz72 => ?_)
  first | refine zs_isub (pc := 8) C dJ6_bitCount_0f7a4_8 (by omega) ?_ | refine zs_isubF (pc := 8) C dJ6_bitCount_0f7a4_8 (fun z8 hz81 hz82 => ?_)
  refine zs_istore_n (pc := 9) C dJ6_bitCount_0f7a4_9 (by decide) ?_
  dsimp only [zset, zclr, znone]
  refine zs_iload_n (pc := 10) C dJ6_bitCount_0f7a4_10 rfl ?_
  refine zs_ldcw (n := 858993459) (pc := 11) C dJ6_bitCount_0f7a4_11 q_J6_266 (by decide) (by decide) ?_
  first | refine zs_iand (pc := 14) C 1 dJ6_bitCount_0f7a4_14 (by decide) (by decide) (fun z14 hz141 hz142 => ?_) | refine zs_iand (pc := 14) C 2 dJ6_bitCount_0f7a4_14 (by decide) (by decide) (fun z14 hz141 hz142 => ?_) | refine zs_iand (pc := 14) C 8 dJ6_bitCount_0f7a4_14 (by decide) (by decide) (fun z14 hz141 hz142 => ?_) | refine zs_iandF (pc := 14) C dJ6_bitCount_0f7a4_14 (fun z14 hz141 hz142 => ?_)
  refine zs_iload_n (pc := 15) C dJ6_bitCount_0f7a4_15 rfl ?_
  refine zs_iconst (pc := 16) C dJ6_bitCount_0f7a4_16 (by decide) ?_
  refine zs_iushrF (pc := 17) C dJ6_bitCount_0f7a4_17 (fun z17 hz171 hz172 => ?_)
  refine zs_ldcw (n := 858993459) (pc := 18) C dJ6_bitCount_0f7a4_18 q_J6_266 (by decide) (by decide) ?_
  first | refine zs_iand (pc := 21) C 1 dJ6_bitCount_0f7a4_21 (by decide) (by decide) (fun z21 hz211 hz212 => ?_) | refine zs_iand (pc := 21) C 2 dJ6_bitCount_0f7a4_21 (by decide) (by decide) (fun z21 hz211 hz212 => ?_) | refine zs_iand (pc := 21) C 8 dJ6_bitCount_0f7a4_21 (by decide) (by decide) (fun z21 hz211 hz212 => ?_) | refine zs_iandF (pc := 21) C dJ6_bitCount_0f7a4_21 (fun z21 hz211 hz212 => ?_)
  first | refine zs_iadd (pc := 22) C dJ6_bitCount_0f7a4_22 (by omega) ?_ | refine zs_iaddF (pc := 22) C dJ6_bitCount_0f7a4_22 (fun z22 hz221 hz222 => ?_)
  refine zs_istore_n (pc := 23) C dJ6_bitCount_0f7a4_23 (by decide) ?_
  dsimp only [zset, zclr, znone]
  refine zs_iload_n (pc := 24) C dJ6_bitCount_0f7a4_24 rfl ?_
  refine zs_iload_n (pc := 25) C dJ6_bitCount_0f7a4_25 rfl ?_
  refine zs_iconst (pc := 26) C dJ6_bitCount_0f7a4_26 (by decide) ?_
  refine zs_iushrF (pc := 27) C dJ6_bitCount_0f7a4_27 (fun z27 hz271 hz272 => ?_)
  first | refine zs_iadd (pc := 28) C dJ6_bitCount_0f7a4_28 (by omega) ?_ | refine zs_iaddF (pc := 28) C dJ6_bitCount_0f7a4_28 (fun z28 hz281 hz282 => ?_)
  refine zs_ldcw (n := 252645135) (pc := 29) C dJ6_bitCount_0f7a4_29 q_J6_267 (by decide) (by decide) ?_
  first | refine zs_iand (pc := 32) C 1 dJ6_bitCount_0f7a4_32 (by decide) (by decide) (fun z32 hz321 hz322 => ?_) | refine zs_iand (pc := 32) C 2 dJ6_bitCount_0f7a4_32 (by decide) (by decide) (fun z32 hz321 hz322 => ?_) | refine zs_iand (pc := 32) C 8 dJ6_bitCount_0f7a4_32 (by decide) (by decide) (fun z32 hz321 hz322 => ?_) | refine zs_iandF (pc := 32) C dJ6_bitCount_0f7a4_32 (fun z32 hz321 hz322 => ?_)
  refine zs_istore_n (pc := 33) C dJ6_bitCount_0f7a4_33 (by decide) ?_
  dsimp only [zset, zclr, znone]
  refine zs_iload_n (pc := 34) C dJ6_bitCount_0f7a4_34 rfl ?_
  refine zs_iload_n (pc := 35) C dJ6_bitCount_0f7a4_35 rfl ?_
  refine zs_bipush (pc := 36) C dJ6_bitCount_0f7a4_36 (by decide) (by decide) ?_
  refine zs_iushrF (pc := 38) C dJ6_bitCount_0f7a4_38 (fun z38 hz381 hz382 => ?_)
  first | refine zs_iadd (pc := 39) C dJ6_bitCount_0f7a4_39 (by omega) ?_ | refine zs_iaddF (pc := 39) C dJ6_bitCount_0f7a4_39 (fun z39 hz391 hz392 => ?_)
  refine zs_istore_n (pc := 40) C dJ6_bitCount_0f7a4_40 (by decide) ?_
  dsimp only [zset, zclr, znone]
  refine zs_iload_n (pc := 41) C dJ6_bitCount_0f7a4_41 rfl ?_
  refine zs_iload_n (pc := 42) C dJ6_bitCount_0f7a4_42 rfl ?_
  refine zs_bipush (pc := 43) C dJ6_bitCount_0f7a4_43 (by decide) (by decide) ?_
  refine zs_iushrF (pc := 45) C dJ6_bitCount_0f7a4_45 (fun z45 hz451 hz452 => ?_)
  first | refine zs_iadd (pc := 46) C dJ6_bitCount_0f7a4_46 (by omega) ?_ | refine zs_iaddF (pc := 46) C dJ6_bitCount_0f7a4_46 (fun z46 hz461 hz462 => ?_)
  refine zs_istore_n (pc := 47) C dJ6_bitCount_0f7a4_47 (by decide) ?_
  dsimp only [zset, zclr, znone]
  refine zs_iload_n (pc := 48) C dJ6_bitCount_0f7a4_48 rfl ?_
  refine zs_bipush (pc := 49) C dJ6_bitCount_0f7a4_49 (by decide) (by decide) ?_
  first | refine zs_iand (pc := 51) C 1 dJ6_bitCount_0f7a4_51 (by decide) (by decide) (fun z51 hz511 hz512 => ?_) | refine zs_iand (pc := 51) C 2 dJ6_bitCount_0f7a4_51 (by decide) (by decide) (fun z51 hz511 hz512 => ?_) | refine zs_iand (pc := 51) C 8 dJ6_bitCount_0f7a4_51 (by decide) (by decide) (fun z51 hz511 hz512 => ?_) | refine zs_iandF (pc := 51) C dJ6_bitCount_0f7a4_51 (fun z51 hz511 hz512 => ?_)
  exact zs_iret (pc := 52) C hr hlk dJ6_bitCount_0f7a4_52 ⟨rfl, trivial⟩

set_option maxHeartbeats 4000000 in
set_option maxRecDepth 100000 in
theorem c_J7_fill_53178 {l : Launch} {Γ : zΓ} {G : zH} {t a n : Nat} {k : Int} (hX : zXs Γ) (hz : zat t = (0, n)) (ht : t < 200) (hn : n ≤ 10000) (hv : ∀ i, (zrg (2000 + t) i).1 ≤ k ∧ k ≤ (zrg (2000 + t) i).2) : zMet l Γ yJ7_fill_53178 cJ7_fill_53178 4 none 0 [zr t a, zi k] G (zpv (fun G' => zsm [2000 + t] G G' ∧ True)) := by
  refine zMet_of RJ7 hX (by decide) rfl (Nat.le_of_ble_eq_true rfl) ?_
  intro p e s m args below meth c C hr hlk
  show Z p l e (zrm 0) s m args below meth c Γ 4 0 0 (MQ below (zQc Γ (zpv (fun G' => zsm [2000 + t] G G' ∧ True))) args s 0 0 (zA Γ)) 0 [some (zr t a), some (zi k), none, none] [] G
  refine zs_loc 1 rfl (fun ha1 hb1 => ?_)
  refine zs_iconst (pc := 0) C dJ7_fill_53178_0 (by decide) ?_
  refine zs_istore_n (pc := 1) C dJ7_fill_53178_1 (by decide) ?_
  dsimp only [zset, zclr, znone]
  refine zs_aload_n (pc := 2) C dJ7_fill_53178_2 rfl ?_
  refine zs_alen (pc := 3) C dJ7_fill_53178_3 hz ht (by omega) ?_
  refine zs_istore_n (pc := 4) C dJ7_fill_53178_4 (by decide) ?_
  dsimp only [zset, zclr, znone]
  have L5 : ∀ (nn : Nat) (x2 : Int) (G1 : zH), (0 ≤ x2 ∧ x2 ≤ n) → (zsm [2000 + t] G G1) → ((n : Int) - x2).toNat < nn → Z p l e (zrm 0) s m args below meth c Γ 4 0 0 (MQ below (zQc Γ (zpv (fun G' => zsm [2000 + t] G G' ∧ True))) args s 0 0 (zA Γ)) 5 [some (zr t a), some (zi k), some (zi x2), some (zi (n : Int))] [] G1 := by
    intro nn
    induction nn with
    | zero => intro x2 G1 h5_0 h5_1 hm; exact absurd hm (Nat.not_lt_zero _)
    | succ nn ih5 =>
      intro x2 G1 h5_0 h5_1 hm5
      refine zs_iload_n (pc := 5) C dJ7_fill_53178_5 rfl ?_
      refine zs_iload_n (pc := 6) C dJ7_fill_53178_6 rfl ?_
      refine zs_icmp_ge (tgt := 20) (pc := 7) C dJ7_fill_53178_7 (by decide) (fun h7 => ?_) (fun h7 => ?_)
      · skip
        exact zs_vret (pc := 20) C hr hlk dJ7_fill_53178_20 ⟨h5_1, trivial⟩
      · skip
        refine zs_aload_n (pc := 10) C dJ7_fill_53178_10 rfl ?_
        refine zs_iload_n (pc := 11) C dJ7_fill_53178_11 rfl ?_
        refine zs_iload_n (pc := 12) C dJ7_fill_53178_12 rfl ?_
        refine zs_iast (r := (2000 + t)) (pc := 13) C dJ7_fill_53178_13 hz ht (by omega) rfl rfl (hv _) ?_
        first | refine zs_iinc (pc := 14) C dJ7_fill_53178_14 rfl (by decide) (by omega) ?_ | refine zs_iincF (pc := 14) C dJ7_fill_53178_14 rfl (by decide) (fun z14 hz141 hz142 => ?_)
        dsimp only [zset, zclr, znone]
        refine zs_goto (tgt := 5) (pc := 17) C dJ7_fill_53178_17 (by decide) ?_
        exact zs_wk (ih5 _ _ (by omega) (zsm_I (by simp) h5_1) (by first | omega | (simp only [zuI_1, zuI_2, zuJ_1, zuJ_2, zuJ_3, zuP_1, zuP_2, zuP_3, zuC_1, zuC_2, reduceIte, Nat.reduceEqDiff, false_and, and_false, true_and, and_true, and_self, or_true, true_or, or_false, false_or]; omega))) (zwk_s rfl (zwk_s rfl (zwk_s rfl (zwk_s rfl zwk_0))))
  exact zs_wk (L5 _ _ _ (by omega) zsm_rf (Nat.lt_succ_self _)) (zwk_s rfl (zwk_s rfl (zwk_s rfl (zwk_s rfl zwk_0))))
