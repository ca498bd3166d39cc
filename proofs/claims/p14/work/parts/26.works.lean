set_option maxHeartbeats 4000000 in
set_option maxRecDepth 100000 in
theorem c_X7_leftOf {l : Launch} {Γ : zΓ} {G : zH} {w : Nat} {p0 s0 : Int} (hX : zXs Γ) (hp : 0 ≤ p0 ∧ p0 ≤ 4)(hs : 0 ≤ s0 ∧ s0 ≤ 3) : zMet l Γ yX7_leftOf cX7_leftOf 3 (some .int) 0 [zr 8 w, zi p0, zi s0] G (zpi (fun x G' => G' = G ∧ True)) := by
  refine zMet_of RX7 hX (by decide) rfl (Nat.le_of_ble_eq_true rfl) ?_
  intro p e s m args below meth c C hr hlk
  show Z p l e (zrm 0) s m args below meth c Γ 3 0 0 (MQ below (zQc Γ (zpi (fun x G' => G' = G ∧ True))) args s 0 0 (zA Γ)) 0 [some (zr 8 w), some (zi p0), some (zi s0)] [] G
  refine zs_loc 1 rfl (fun ha1 hb1 => ?_)
  refine zs_loc 2 rfl (fun ha2 hb2 => ?_)
  refine zs_aload_n (pc := 0) C dX7_leftOf_0 rfl ?_
  refine zs_getf (pc := 1) C dX7_leftOf_1 w_X7_22 f_8_3 (by decide) ?_
  refine zs_iload_n (pc := 4) C dX7_leftOf_4 rfl ?_
  refine zs_iconst (pc := 5) C dX7_leftOf_5 (by decide) ?_
  first | refine zs_imul (pc := 6) C dX7_leftOf_6 (by omega) ?_ | refine zs_imulF (pc := 6) C dX7_leftOf_6 (fun z6 hz61 hz62 => ?_)
  refine zs_iload_n (pc := 7) C dX7_leftOf_7 rfl ?_
  first | refine zs_iadd (pc := 8) C dX7_leftOf_8 (by omega) ?_ | refine zs_iaddF (pc := 8) C dX7_leftOf_8 (fun z8 hz81 hz82 => ?_)
  refine zs_iald (r := 2049) (pc := 9) C dX7_leftOf_9 a_49 (by decide) (by omega) rfl (r_2049 _) (fun v9 e9 l9 u9 => ?_)
  exact zs_iret (pc := 10) C hr hlk dX7_leftOf_10 ⟨rfl, trivial⟩

set_option maxHeartbeats 4000000 in
set_option maxRecDepth 100000 in
theorem c_X7_prideOf {l : Launch} {Γ : zΓ} {G : zH} {w : Nat} {p0 : Int} (hX : zXs Γ) (hp : 0 ≤ p0 ∧ p0 ≤ 4) : zMet l Γ yX7_prideOf cX7_prideOf 4 (some .int) 0 [zr 8 w, zi p0] G (zpi (fun x G' => G' = G ∧ True)) := by
  refine zMet_of RX7 hX (by decide) rfl (Nat.le_of_ble_eq_true rfl) ?_
  intro p e s m args below meth c C hr hlk
  show Z p l e (zrm 0) s m args below meth c Γ 4 0 0 (MQ below (zQc Γ (zpi (fun x G' => G' = G ∧ True))) args s 0 0 (zA Γ)) 0 [some (zr 8 w), some (zi p0), none, none] [] G
  refine zs_loc 1 rfl (fun ha1 hb1 => ?_)
  refine zs_iconst (pc := 0) C dX7_prideOf_0 (by decide) ?_
  refine zs_istore_n (pc := 1) C dX7_prideOf_1 (by decide) ?_
  dsimp only [zset, zclr, znone]
  refine zs_iconst (pc := 2) C dX7_prideOf_2 (by decide) ?_
  refine zs_istore_n (pc := 3) C dX7_prideOf_3 (by decide) ?_
  dsimp only [zset, zclr, znone]
  have L4 : ∀ (nn : Nat) (x2 x3 : Int), (0 ≤ x3 ∧ x3 ≤ 4) → (4 - x3).toNat < nn → Z p l e (zrm 0) s m args below meth c Γ 4 0 0 (MQ below (zQc Γ (zpi (fun x G' => G' = G ∧ True))) args s 0 0 (zA Γ)) 4 [some (zr 8 w), some (zi p0), some (zi x2), some (zi x3)] [] G := by
    intro nn
    induction nn with
    | zero => intro x2 x3 h4_0 hm; exact absurd hm (Nat.not_lt_zero _)
    | succ nn ih4 =>
      intro x2 x3 h4_0 hm4
      refine zs_iload_n (pc := 4) C dX7_prideOf_4 rfl ?_
      refine zs_iconst (pc := 5) C dX7_prideOf_5 (by decide) ?_
      refine zs_icmp_ge (tgt := 28) (pc := 6) C dX7_prideOf_6 (by decide) (fun h6 => ?_) (fun h6 => ?_)
      · skip
        refine zs_iload_n (pc := 28) C dX7_prideOf_28 rfl ?_
        exact zs_iret (pc := 29) C hr hlk dX7_prideOf_29 ⟨rfl, trivial⟩
      · skip
        refine zs_iload_n (pc := 9) C dX7_prideOf_9 rfl ?_
        refine zs_aload_n (pc := 10) C dX7_prideOf_10 rfl ?_
        refine zs_getf (pc := 11) C dX7_prideOf_11 w_X7_22 f_8_3 (by decide) ?_
        refine zs_iload_n (pc := 14) C dX7_prideOf_14 rfl ?_
        refine zs_iconst (pc := 15) C dX7_prideOf_15 (by decide) ?_
        first | refine zs_imul (pc := 16) C dX7_prideOf_16 (by omega) ?_ | refine zs_imulF (pc := 16) C dX7_prideOf_16 (fun z16 hz161 hz162 => ?_)
        refine zs_iload_n (pc := 17) C dX7_prideOf_17 rfl ?_
        first | refine zs_iadd (pc := 18) C dX7_prideOf_18 (by omega) ?_ | refine zs_iaddF (pc := 18) C dX7_prideOf_18 (fun z18 hz181 hz182 => ?_)
        refine zs_iald (r := 2049) (pc := 19) C dX7_prideOf_19 a_49 (by decide) (by omega) rfl (r_2049 _) (fun v19 e19 l19 u19 => ?_)
        first | refine zs_iadd (pc := 20) C dX7_prideOf_20 (by omega) ?_ | refine zs_iaddF (pc := 20) C dX7_prideOf_20 (fun z20 hz201 hz202 => ?_)
        refine zs_istore_n (pc := 21) C dX7_prideOf_21 (by decide) ?_
        dsimp only [zset, zclr, znone]
        first | refine zs_iinc (pc := 22) C dX7_prideOf_22 rfl (by decide) (by omega) ?_ | refine zs_iincF (pc := 22) C dX7_prideOf_22 rfl (by decide) (fun z22 hz221 hz222 => ?_)
        dsimp only [zset, zclr, znone]
        refine zs_goto (tgt := 4) (pc := 25) C dX7_prideOf_25 (by decide) ?_
        exact zs_wk (ih4 _ _ (by first | omega | (simp only [zuI_1, zuI_2, zuJ_1, zuJ_2, zuJ_3, zuP_1, zuP_2, zuP_3, zuC_1, zuC_2, reduceIte, Nat.reduceEqDiff, false_and, and_false, true_and, and_true, and_self, or_true, true_or, or_false, false_or]; omega)) (by first | omega | (simp only [zuI_1, zuI_2, zuJ_1, zuJ_2, zuJ_3, zuP_1, zuP_2, zuP_3, zuC_1, zuC_2, reduceIte, Nat.reduceEqDiff, false_and, and_false, true_and, and_true, and_self, or_true, true_or, or_false, false_or]; omega))) (zwk_s rfl (zwk_s rfl (zwk_s rfl (zwk_s rfl zwk_0))))
  exact zs_wk (L4 _ _ _ (by first | omega | (simp only [zuI_1, zuI_2, zuJ_1, zuJ_2, zuJ_3, zuP_1, zuP_2, zuP_3, zuC_1, zuC_2, reduceIte, Nat.reduceEqDiff, false_and, and_false, true_and, and_true, and_self, or_true, true_or, or_false, false_or]; omega)) (Nat.lt_succ_self _)) (zwk_s rfl (zwk_s rfl (zwk_s rfl (zwk_s rfl zwk_0))))

set_option maxHeartbeats 4000000 in
set_option maxRecDepth 100000 in
theorem c_X7_worthLeft {l : Launch} {Γ : zΓ} {G : zH} {w : Nat} {p0 : Int} (hX : zXs Γ) (hp : 0 ≤ p0 ∧ p0 ≤ 4) : zMet l Γ yX7_worthLeft cX7_worthLeft 4 (some .int) 0 [zr 8 w, zi p0] G (zpi (fun x G' => G' = G ∧ True)) := by
  refine zMet_of RX7 hX (by decide) rfl (Nat.le_of_ble_eq_true rfl) ?_
  intro p e s m args below meth c C hr hlk
  show Z p l e (zrm 0) s m args below meth c Γ 4 0 0 (MQ below (zQc Γ (zpi (fun x G' => G' = G ∧ True))) args s 0 0 (zA Γ)) 0 [some (zr 8 w), some (zi p0), none, none] [] G
  refine zs_loc 1 rfl (fun ha1 hb1 => ?_)
  refine zs_iconst (pc := 0) C dX7_worthLeft_0 (by decide) ?_
  refine zs_istore_n (pc := 1) C dX7_worthLeft_1 (by decide) ?_
  dsimp only [zset, zclr, znone]
  refine zs_iconst (pc := 2) C dX7_worthLeft_2 (by decide) ?_
  refine zs_istore_n (pc := 3) C dX7_worthLeft_3 (by decide) ?_
  dsimp only [zset, zclr, znone]
  have L4 : ∀ (nn : Nat) (x2 x3 : Int), (0 ≤ x3 ∧ x3 ≤ 4) → (4 - x3).toNat < nn → Z p l e (zrm 0) s m args below meth c Γ 4 0 0 (MQ below (zQc Γ (zpi (fun x G' => G' = G ∧ True))) args s 0 0 (zA Γ)) 4 [some (zr 8 w), some (zi p0), some (zi x2), some (zi x3)] [] G := by
    intro nn
    induction nn with
    | zero => intro x2 x3 h4_0 hm; exact absurd hm (Nat.not_lt_zero _)
    | succ nn ih4 =>
      intro x2 x3 h4_0 hm4
      refine zs_iload_n (pc := 4) C dX7_worthLeft_4 rfl ?_
      refine zs_aload_n (pc := 5) C dX7_worthLeft_5 rfl ?_
      refine zs_getd (r := 800) (pc := 6) C dX7_worthLeft_6 w_X7_40 f_8_0 (by decide) rfl (fun v6 e6 t6 => ?_)
      subst e6
      refine zs_getf (pc := 9) C dX7_worthLeft_9 w_X7_95 f_6_2 (by decide) ?_
      refine zs_iconst (pc := 12) C dX7_worthLeft_12 (by decide) ?_
      refine zs_iald (r := 2037) (pc := 13) C dX7_worthLeft_13 a_37 (by decide) (by omega) rfl rfl (fun v13 e13 l13 u13 => ?_)
      have hsz := rs_2037 (0 : Int).toNat
      refine zs_icmp_ge (tgt := 46) (pc := 14) C dX7_worthLeft_14 (by decide) (fun h14 => ?_) (fun h14 => ?_)
      · skip
        refine zs_iload_n (pc := 46) C dX7_worthLeft_46 rfl ?_
        exact zs_iret (pc := 47) C hr hlk dX7_worthLeft_47 ⟨rfl, trivial⟩
      · skip
        refine zs_iload_n (pc := 17) C dX7_worthLeft_17 rfl ?_
        refine zs_aload_n (pc := 18) C dX7_worthLeft_18 rfl ?_
        refine zs_getf (pc := 19) C dX7_worthLeft_19 w_X7_22 f_8_3 (by decide) ?_
        refine zs_iload_n (pc := 22) C dX7_worthLeft_22 rfl ?_
        refine zs_iconst (pc := 23) C dX7_worthLeft_23 (by decide) ?_
        first | refine zs_imul (pc := 24) C dX7_worthLeft_24 (by omega) ?_ | refine zs_imulF (pc := 24) C dX7_worthLeft_24 (fun z24 hz241 hz242 => ?_)
        refine zs_iload_n (pc := 25) C dX7_worthLeft_25 rfl ?_
        first | refine zs_iadd (pc := 26) C dX7_worthLeft_26 (by omega) ?_ | refine zs_iaddF (pc := 26) C dX7_worthLeft_26 (fun z26 hz261 hz262 => ?_)
        refine zs_iald (r := 2049) (pc := 27) C dX7_worthLeft_27 a_49 (by decide) (by omega) rfl (r_2049 _) (fun v27 e27 l27 u27 => ?_)
        refine zs_aload_n (pc := 28) C dX7_worthLeft_28 rfl ?_
        refine zs_getd (r := 800) (pc := 29) C dX7_worthLeft_29 w_X7_40 f_8_0 (by decide) rfl (fun v29 e29 t29 => ?_)
        subst e29
        refine zs_getf (pc := 32) C dX7_worthLeft_32 w_X7_98 f_6_3 (by decide) ?_
        refine zs_iload_n (pc := 35) C dX7_worthLeft_35 rfl ?_
        refine zs_iald (r := 2038) (pc := 36) C dX7_worthLeft_36 a_38 (by decide) (by omega) rfl (r_2038 _) (fun v36 e36 l36 u36 => ?_)
        first | refine zs_imul (pc := 37) C dX7_worthLeft_37 (by omega) ?_ | refine zs_imulF (pc := 37) C dX7_worthLeft_37 (fun z37 hz371 hz372 => ?_)
        first | refine zs_iadd (pc := 38) C dX7_worthLeft_38 (by omega) ?_ | refine zs_iaddF (pc := 38) C dX7_worthLeft_38 (fun z38 hz381 hz382 => ?_)
        refine zs_istore_n (pc := 39) C dX7_worthLeft_39 (by decide) ?_
        dsimp only [zset, zclr, znone]
        first | refine zs_iinc (pc := 40) C dX7_worthLeft_40 rfl (by decide) (by omega) ?_ | refine zs_iincF (pc := 40) C dX7_worthLeft_40 rfl (by decide) (fun z40 hz401 hz402 => ?_)
        dsimp only [zset, zclr, znone]
        refine zs_goto (tgt := 4) (pc := 43) C dX7_worthLeft_43 (by decide) ?_
        exact zs_wk (ih4 _ _ (by first | omega | (simp only [zuI_1, zuI_2, zuJ_1, zuJ_2, zuJ_3, zuP_1, zuP_2, zuP_3, zuC_1, zuC_2, reduceIte, Nat.reduceEqDiff, false_and, and_false, true_and, and_true, and_self, or_true, true_or, or_false, false_or]; omega)) (by first | omega | (simp only [zuI_1, zuI_2, zuJ_1, zuJ_2, zuJ_3, zuP_1, zuP_2, zuP_3, zuC_1, zuC_2, reduceIte, Nat.reduceEqDiff, false_and, and_false, true_and, and_true, and_self, or_true, true_or, or_false, false_or]; omega))) (zwk_s rfl (zwk_s rfl (zwk_s rfl (zwk_s rfl zwk_0))))
  exact zs_wk (L4 _ _ _ (by first | omega | (simp only [zuI_1, zuI_2, zuJ_1, zuJ_2, zuJ_3, zuP_1, zuP_2, zuP_3, zuC_1, zuC_2, reduceIte, Nat.reduceEqDiff, false_and, and_false, true_and, and_true, and_self, or_true, true_or, or_false, false_or]; omega)) (Nat.lt_succ_self _)) (zwk_s rfl (zwk_s rfl (zwk_s rfl (zwk_s rfl zwk_0))))

set_option maxHeartbeats 4000000 in
set_option maxRecDepth 100000 in
theorem c_X7_leftBitsOf {l : Launch} {Γ : zΓ} {G : zH} {w : Nat} {p0 : Int} (hX : zXs Γ) (hp : 0 ≤ p0 ∧ p0 ≤ 4) : zMet l Γ yX7_leftBitsOf cX7_leftBitsOf 4 (some .int) 0 [zr 8 w, zi p0] G (zpi (fun x G' => G' = G ∧ True)) := by
  refine zMet_of RX7 hX (by decide) rfl (Nat.le_of_ble_eq_true rfl) ?_
  intro p e s m args below meth c C hr hlk
  show Z p l e (zrm 0) s m args below meth c Γ 4 0 0 (MQ below (zQc Γ (zpi (fun x G' => G' = G ∧ True))) args s 0 0 (zA Γ)) 0 [some (zr 8 w), some (zi p0), none, none] [] G
  refine zs_loc 1 rfl (fun ha1 hb1 => ?_)
  refine zs_iconst (pc := 0) C dX7_leftBitsOf_0 (by decide) ?_
  refine zs_istore_n (pc := 1) C dX7_leftBitsOf_1 (by decide) ?_
  dsimp only [zset, zclr, znone]
  refine zs_iconst (pc := 2) C dX7_leftBitsOf_2 (by decide) ?_
  refine zs_istore_n (pc := 3) C dX7_leftBitsOf_3 (by decide) ?_
  dsimp only [zset, zclr, znone]
  have L4 : ∀ (nn : Nat) (x2 x3 : Int), (0 ≤ x3 ∧ x3 ≤ 4) → (4 - x3).toNat < nn → Z p l e (zrm 0) s m args below meth c Γ 4 0 0 (MQ below (zQc Γ (zpi (fun x G' => G' = G ∧ True))) args s 0 0 (zA Γ)) 4 [some (zr 8 w), some (zi p0), some (zi x2), some (zi x3)] [] G := by
    intro nn
    induction nn with
    | zero => intro x2 x3 h4_0 hm; exact absurd hm (Nat.not_lt_zero _)
    | succ nn ih4 =>
      intro x2 x3 h4_0 hm4
      refine zs_iload_n (pc := 4) C dX7_leftBitsOf_4 rfl ?_
      refine zs_iconst (pc := 5) C dX7_leftBitsOf_5 (by decide) ?_
      refine zs_icmp_ge (tgt := 38) (pc := 6) C dX7_leftBitsOf_6 (by decide) (fun h6 => ?_) (fun h6 => ?_)
      · skip
        refine zs_iload_n (pc := 38) C dX7_leftBitsOf_38 rfl ?_
        exact zs_iret (pc := 39) C hr hlk dX7_leftBitsOf_39 ⟨rfl, trivial⟩
      · skip
        refine zs_iload_n (pc := 9) C dX7_leftBitsOf_9 rfl ?_
        refine zs_aload_n (pc := 10) C dX7_leftBitsOf_10 rfl ?_
        refine zs_getf (pc := 11) C dX7_leftBitsOf_11 w_X7_22 f_8_3 (by decide) ?_
        refine zs_iload_n (pc := 14) C dX7_leftBitsOf_14 rfl ?_
        refine zs_iconst (pc := 15) C dX7_leftBitsOf_15 (by decide) ?_
        first | refine zs_imul (pc := 16) C dX7_leftBitsOf_16 (by omega) ?_ | refine zs_imulF (pc := 16) C dX7_leftBitsOf_16 (fun z16 hz161 hz162 => ?_)
        refine zs_iload_n (pc := 17) C dX7_leftBitsOf_17 rfl ?_
        first | refine zs_iadd (pc := 18) C dX7_leftBitsOf_18 (by omega) ?_ | refine zs_iaddF (pc := 18) C dX7_leftBitsOf_18 (fun z18 hz181 hz182 => ?_)
        refine zs_iald (r := 2049) (pc := 19) C dX7_leftBitsOf_19 a_49 (by decide) (by omega) rfl (r_2049 _) (fun v19 e19 l19 u19 => ?_)
        refine zs_if_le (tgt := 29) (pc := 20) C dX7_leftBitsOf_20 (by decide) (fun h20 => ?_) (fun h20 => ?_)
        · skip
          refine zs_iconst (pc := 29) C dX7_leftBitsOf_29 (by decide) ?_
          refine zs_iorF (pc := 30) C dX7_leftBitsOf_30 (fun z30 hz301 hz302 => ?_)
          refine zs_istore_n (pc := 31) C dX7_leftBitsOf_31 (by decide) ?_
          dsimp only [zset, zclr, znone]
          first | refine zs_iinc (pc := 32) C dX7_leftBitsOf_32 rfl (by decide) (by omega) ?_ | refine zs_iincF (pc := 32) C dX7_leftBitsOf_32 rfl (by decide) (fun z32 hz321 hz322 => ?_)
          dsimp only [zset, zclr, znone]
          refine zs_goto (tgt := 4) (pc := 35) C dX7_leftBitsOf_35 (by decide) ?_
          exact zs_wk (ih4 _ _ (by first | omega | (simp only [zuI_1, zuI_2, zuJ_1, zuJ_2, zuJ_3, zuP_1, zuP_2, zuP_3, zuC_1, zuC_2, reduceIte, Nat.reduceEqDiff, false_and, and_false, true_and, and_true, and_self, or_true, true_or, or_false, false_or]; omega)) (by first | omega | (simp only [zuI_1, zuI_2, zuJ_1, zuJ_2, zuJ_3, zuP_1, zuP_2, zuP_3, zuC_1, zuC_2, reduceIte, Nat.reduceEqDiff, false_and, and_false, true_and, and_true, and_self, or_true, true_or, or_false, false_or]; omega))) (zwk_s rfl (zwk_s rfl (zwk_s rfl (zwk_s rfl zwk_0))))
        · skip
          refine zs_iconst (pc := 23) C dX7_leftBitsOf_23 (by decide) ?_
          refine zs_iload_n (pc := 24) C dX7_leftBitsOf_24 rfl ?_
          refine zs_ishlF (pc := 25) C dX7_leftBitsOf_25 (fun z25 hz251 hz252 => ?_)
          refine zs_goto (tgt := 30) (pc := 26) C dX7_leftBitsOf_26 (by decide) ?_
          refine zs_iorF (pc := 30) C dX7_leftBitsOf_30 (fun z30 hz301 hz302 => ?_)
          refine zs_istore_n (pc := 31) C dX7_leftBitsOf_31 (by decide) ?_
          dsimp only [zset, zclr, znone]
          first | refine zs_iinc (pc := 32) C dX7_leftBitsOf_32 rfl (by decide) (by omega) ?_ | refine zs_iincF (pc := 32) C dX7_leftBitsOf_32 rfl (by decide) (fun z32 hz321 hz322 => ?_)
          dsimp only [zset, zclr, znone]
          refine zs_goto (tgt := 4) (pc := 35) C dX7_leftBitsOf_35 (by decide) ?_
          exact zs_wk (ih4 _ _ (by first | omega | (simp only [zuI_1, zuI_2, zuJ_1, zuJ_2, zuJ_3, zuP_1, zuP_2, zuP_3, zuC_1, zuC_2, reduceIte, Nat.reduceEqDiff, false_and, and_false, true_and, and_true, and_self, or_true, true_or, or_false, false_or]; omega)) (by first | omega | (simp only [zuI_1, zuI_2, zuJ_1, zuJ_2, zuJ_3, zuP_1, zuP_2, zuP_3, zuC_1, zuC_2, reduceIte, Nat.reduceEqDiff, false_and, and_false, true_and, and_true, and_self, or_true, true_or, or_false, false_or]; omega))) (zwk_s rfl (zwk_s rfl (zwk_s rfl (zwk_s rfl zwk_0))))
  exact zs_wk (L4 _ _ _ (by first | omega | (simp only [zuI_1, zuI_2, zuJ_1, zuJ_2, zuJ_3, zuP_1, zuP_2, zuP_3, zuC_1, zuC_2, reduceIte, Nat.reduceEqDiff, false_and, and_false, true_and, and_true, and_self, or_true, true_or, or_false, false_or]; omega)) (Nat.lt_succ_self _)) (zwk_s rfl (zwk_s rfl (zwk_s rfl (zwk_s rfl zwk_0))))

set_option maxHeartbeats 4000000 in
set_option maxRecDepth 100000 in
theorem c_X7_setNames {l : Launch} {Γ : zΓ} {G : zH} {w : Nat} {p0 s0 : Int} (hX : zXs Γ) (hp : 0 ≤ p0 ∧ p0 ≤ 4)(hs : 0 ≤ s0 ∧ s0 ≤ 3) : zMet l Γ yX7_setNames cX7_setNames 4 none 1 [zr 8 w, zi p0, zi s0] G (zpv (fun G' => zsm [] G G' ∧ True)) := by
  refine zMet_of RX7 hX (by decide) rfl (Nat.le_of_ble_eq_true rfl) ?_
  intro p e s m args below meth c C hr hlk
  show Z p l e (zrm 1) s m args below meth c Γ 4 0 0 (MQ below (zQc Γ (zpv (fun G' => zsm [] G G' ∧ True))) args s 0 0 (zA Γ)) 0 [some (zr 8 w), some (zi p0), some (zi s0), none] [] G
  refine zs_loc 1 rfl (fun ha1 hb1 => ?_)
  refine zs_loc 2 rfl (fun ha2 hb2 => ?_)
  refine zs_aload_n (pc := 0) C dX7_setNames_0 rfl ?_
  refine zs_iload_n (pc := 1) C dX7_setNames_1 rfl ?_
  refine zs_iload_n (pc := 2) C dX7_setNames_2 rfl ?_
  refine zVip2 (pc := 3) C dX7_setNames_3 v_X7_101 (c_X7_leftOf hX (by omega) (by omega)) (by decide) (by decide) ⟨Nat.zero_le _, Nat.zero_le _⟩ (Nat.le_of_ble_eq_true rfl) (fun x3 l3 u3 hp3 => ?_)
  have hq3 := hp3
  refine zs_if_le (tgt := 13) (pc := 6) C dX7_setNames_6 (by decide) (fun h6 => ?_) (fun h6 => ?_)
  · skip
    refine zs_iconst (pc := 13) C dX7_setNames_13 (by decide) ?_
    refine zs_istore_n (pc := 14) C dX7_setNames_14 (by decide) ?_
    dsimp only [zset, zclr, znone]
    refine zs_aload_n (pc := 15) C dX7_setNames_15 rfl ?_
    refine zs_getd (r := 800) (pc := 16) C dX7_setNames_16 w_X7_40 f_8_0 (by decide) rfl (fun v16 e16 t16 => ?_)
    subst e16
    refine zs_getf (pc := 19) C dX7_setNames_19 w_X7_105 f_6_0 (by decide) ?_
    refine zs_aload_n (pc := 22) C dX7_setNames_22 rfl ?_
    refine zs_getd (r := 800) (pc := 23) C dX7_setNames_23 w_X7_40 f_8_0 (by decide) rfl (fun v23 e23 t23 => ?_)
    subst e23
    refine zs_getf (pc := 26) C dX7_setNames_26 w_X7_98 f_6_3 (by decide) ?_
    refine zs_iload_n (pc := 29) C dX7_setNames_29 rfl ?_
    refine zs_iald (r := 2038) (pc := 30) C dX7_setNames_30 a_38 (by decide) (by omega) rfl (r_2038 _) (fun v30 e30 l30 u30 => ?_)
    refine zs_aload_n (pc := 31) C dX7_setNames_31 rfl ?_
    refine zs_getf (pc := 32) C dX7_setNames_32 w_X7_25 f_8_4 (by decide) ?_
    refine zs_iload_n (pc := 35) C dX7_setNames_35 rfl ?_
    refine zs_iald (r := 2050) (pc := 36) C dX7_setNames_36 a_50 (by decide) (by omega) rfl (r_2050 _) (fun v36 e36 l36 u36 => ?_)
    refine zs_aload_n (pc := 37) C dX7_setNames_37 rfl ?_
    refine zs_geti (r := 811) (pc := 38) C dX7_setNames_38 w_X7_79 f_8_11 rfl (r_811 0) (fun v38 e38 l38 u38 => ?_)
    refine zs_aload_n (pc := 41) C dX7_setNames_41 rfl ?_
    refine zs_iload_n (pc := 42) C dX7_setNames_42 rfl ?_
    refine zVip1 (pc := 43) C dX7_setNames_43 v_X7_109 (c_X7_prideOf hX (by omega)) (by decide) (by decide) ⟨Nat.zero_le _, Nat.zero_le _⟩ (Nat.le_of_ble_eq_true rfl) (fun x43 l43 u43 hp43 => ?_)
    have hq43 := hp43
    refine zs_iload_n (pc := 46) C dX7_setNames_46 rfl ?_
    refine zs_aload_n (pc := 47) C dX7_setNames_47 rfl ?_
    refine zs_getd (r := 800) (pc := 48) C dX7_setNames_48 w_X7_40 f_8_0 (by decide) rfl (fun v48 e48 t48 => ?_)
    subst e48
    refine zs_getf (pc := 51) C dX7_setNames_51 w_X7_113 f_6_4 (by decide) ?_
    refine zs_iload_n (pc := 54) C dX7_setNames_54 rfl ?_
    refine zs_iald (r := 2039) (pc := 55) C dX7_setNames_55 a_39 (by decide) (by omega) rfl (r_2039 _) (fun v55 e55 l55 u55 => ?_)
    refine zs_aload_n (pc := 56) C dX7_setNames_56 rfl ?_
    refine zs_geti (r := 809) (pc := 57) C dX7_setNames_57 w_X7_69 f_8_9 rfl (r_809 0) (fun v57 e57 l57 u57 => ?_)
    refine zVv7 (pc := 60) C dX7_setNames_60 v_X7_116 (c_X1_setNames hX ) (by decide) (by decide) ⟨Nat.zero_le _, Nat.zero_le _⟩ (Nat.le_of_ble_eq_true rfl) (fun G60 hp60 => ?_)
    obtain ⟨hz60, hq60⟩ := hp60
    exact zs_vret (pc := 63) C hr hlk dX7_setNames_63 ⟨by repeat (first | exact zsm_rf | assumption | refine zsm_C (by decide) ?_ | refine zsm_I (by decide) ?_ | refine zsm_J ?_ | refine zsm_c (by assumption) (by decide) ?_), trivial⟩
  · skip
    refine zs_iconst (pc := 9) C dX7_setNames_9 (by decide) ?_
    refine zs_goto (tgt := 14) (pc := 10) C dX7_setNames_10 (by decide) ?_
    refine zs_istore_n (pc := 14) C dX7_setNames_14 (by decide) ?_
    dsimp only [zset, zclr, znone]
    refine zs_aload_n (pc := 15) C dX7_setNames_15 rfl ?_
    refine zs_getd (r := 800) (pc := 16) C dX7_setNames_16 w_X7_40 f_8_0 (by decide) rfl (fun v16 e16 t16 => ?_)
    subst e16
    refine zs_getf (pc := 19) C dX7_setNames_19 w_X7_105 f_6_0 (by decide) ?_
    refine zs_aload_n (pc := 22) C dX7_setNames_22 rfl ?_
    refine zs_getd (r := 800) (pc := 23) C dX7_setNames_23 w_X7_40 f_8_0 (by decide) rfl (fun v23 e23 t23 => ?_)
    subst e23
    refine zs_getf (pc := 26) C dX7_setNames_26 w_X7_98 f_6_3 (by decide) ?_
    refine zs_iload_n (pc := 29) C dX7_setNames_29 rfl ?_
    refine zs_iald (r := 2038) (pc := 30) C dX7_setNames_30 a_38 (by decide) (by omega) rfl (r_2038 _) (fun v30 e30 l30 u30 => ?_)
    refine zs_aload_n (pc := 31) C dX7_setNames_31 rfl ?_
    refine zs_getf (pc := 32) C dX7_setNames_32 w_X7_25 f_8_4 (by decide) ?_
    refine zs_iload_n (pc := 35) C dX7_setNames_35 rfl ?_
    refine zs_iald (r := 2050) (pc := 36) C dX7_setNames_36 a_50 (by decide) (by omega) rfl (r_2050 _) (fun v36 e36 l36 u36 => ?_)
    refine zs_aload_n (pc := 37) C dX7_setNames_37 rfl ?_
    refine zs_geti (r := 811) (pc := 38) C dX7_setNames_38 w_X7_79 f_8_11 rfl (r_811 0) (fun v38 e38 l38 u38 => ?_)
    refine zs_aload_n (pc := 41) C dX7_setNames_41 rfl ?_
    refine zs_iload_n (pc := 42) C dX7_setNames_42 rfl ?_
    refine zVip1 (pc := 43) C dX7_setNames_43 v_X7_109 (c_X7_prideOf hX (by omega)) (by decide) (by decide) ⟨Nat.zero_le _, Nat.zero_le _⟩ (Nat.le_of_ble_eq_true rfl) (fun x43 l43 u43 hp43 => ?_)
    have hq43 := hp43
    refine zs_iload_n (pc := 46) C dX7_setNames_46 rfl ?_
    refine zs_aload_n (pc := 47) C dX7_setNames_47 rfl ?_
    refine zs_getd (r := 800) (pc := 48) C dX7_setNames_48 w_X7_40 f_8_0 (by decide) rfl (fun v48 e48 t48 => ?_)
    subst e48
    refine zs_getf (pc := 51) C dX7_setNames_51 w_X7_113 f_6_4 (by decide) ?_
    refine zs_iload_n (pc := 54) C dX7_setNames_54 rfl ?_
    refine zs_iald (r := 2039) (pc := 55) C dX7_setNames_55 a_39 (by decide) (by omega) rfl (r_2039 _) (fun v55 e55 l55 u55 => ?_)
    refine zs_aload_n (pc := 56) C dX7_setNames_56 rfl ?_
    refine zs_geti (r := 809) (pc := 57) C dX7_setNames_57 w_X7_69 f_8_9 rfl (r_809 0) (fun v57 e57 l57 u57 => ?_)
    refine zVv7 (pc := 60) C dX7_setNames_60 v_X7_116 (c_X1_setNames hX ) (by decide) (by decide) ⟨Nat.zero_le _, Nat.zero_le _⟩ (Nat.le_of_ble_eq_true rfl) (fun G60 hp60 => ?_)
    obtain ⟨hz60, hq60⟩ := hp60
    exact zs_vret (pc := 63) C hr hlk dX7_setNames_63 ⟨by repeat (first | exact zsm_rf | assumption | refine zsm_C (by decide) ?_ | refine zsm_I (by decide) ?_ | refine zsm_J ?_ | refine zsm_c (by assumption) (by decide) ?_), trivial⟩

set_option maxHeartbeats 4000000 in
set_option maxRecDepth 100000 in
theorem c_X7_pairValue {l : Launch} {Γ : zΓ} {G : zH} {w : Nat} {p0 s0 : Int} (hX : zXs Γ) (hp : 0 ≤ p0 ∧ p0 ≤ 4)(hs : 0 ≤ s0 ∧ s0 ≤ 4) : zMet l Γ yX7_pairValue cX7_pairValue 3 (some .long) 2 [zr 8 w, zi p0, zi s0] G (zpj (fun x G' => zsm [] G G' ∧ True)) := by
  refine zMet_of RX7 hX (by decide) rfl (Nat.le_of_ble_eq_true rfl) ?_
  intro p e s m args below meth c C hr hlk
  show Z p l e (zrm 2) s m args below meth c Γ 3 0 0 (MQ below (zQc Γ (zpj (fun x G' => zsm [] G G' ∧ True))) args s 0 0 (zA Γ)) 0 [some (zr 8 w), some (zi p0), some (zi s0)] [] G
  refine zs_loc 1 rfl (fun ha1 hb1 => ?_)
  refine zs_loc 2 rfl (fun ha2 hb2 => ?_)
  refine zs_aload_n (pc := 0) C dX7_pairValue_0 rfl ?_
  refine zs_getd (r := 800) (pc := 1) C dX7_pairValue_1 w_X7_40 f_8_0 (by decide) rfl (fun v1 e1 t1 => ?_)
  subst e1
  refine zs_getf (pc := 4) C dX7_pairValue_4 w_X7_105 f_6_0 (by decide) ?_
  refine zs_aload_n (pc := 7) C dX7_pairValue_7 rfl ?_
  refine zs_iload_n (pc := 8) C dX7_pairValue_8 rfl ?_
  refine zVip1 (pc := 9) C dX7_pairValue_9 v_X7_129 (c_X7_worthLeft hX (by omega)) (by decide) (by decide) ⟨Nat.zero_le _, Nat.zero_le _⟩ (Nat.le_of_ble_eq_true rfl) (fun x9 l9 u9 hp9 => ?_)
  have hq9 := hp9
  refine zs_aload_n (pc := 12) C dX7_pairValue_12 rfl ?_
  refine zs_iload_n (pc := 13) C dX7_pairValue_13 rfl ?_
  refine zVip1 (pc := 14) C dX7_pairValue_14 v_X7_129 (c_X7_worthLeft hX (by omega)) (by decide) (by decide) ⟨Nat.zero_le _, Nat.zero_le _⟩ (Nat.le_of_ble_eq_true rfl) (fun x14 l14 u14 hp14 => ?_)
  have hq14 := hp14
  refine zs_aload_n (pc := 17) C dX7_pairValue_17 rfl ?_
  refine zs_geti (r := 811) (pc := 18) C dX7_pairValue_18 w_X7_79 f_8_11 rfl (r_811 0) (fun v18 e18 l18 u18 => ?_)
  refine zs_aload_n (pc := 21) C dX7_pairValue_21 rfl ?_
  refine zs_iload_n (pc := 22) C dX7_pairValue_22 rfl ?_
  refine zVip1 (pc := 23) C dX7_pairValue_23 v_X7_109 (c_X7_prideOf hX (by omega)) (by decide) (by decide) ⟨Nat.zero_le _, Nat.zero_le _⟩ (Nat.le_of_ble_eq_true rfl) (fun x23 l23 u23 hp23 => ?_)
  have hq23 := hp23
  refine zs_iconst (pc := 26) C dX7_pairValue_26 (by decide) ?_
  refine zs_aload_n (pc := 27) C dX7_pairValue_27 rfl ?_
  refine zs_getd (r := 800) (pc := 28) C dX7_pairValue_28 w_X7_40 f_8_0 (by decide) rfl (fun v28 e28 t28 => ?_)
  subst e28
  refine zs_getf (pc := 31) C dX7_pairValue_31 w_X7_113 f_6_4 (by decide) ?_
  refine zs_iload_n (pc := 34) C dX7_pairValue_34 rfl ?_
  refine zs_iald (r := 2039) (pc := 35) C dX7_pairValue_35 a_39 (by decide) (by omega) rfl (r_2039 _) (fun v35 e35 l35 u35 => ?_)
  refine zs_aload_n (pc := 36) C dX7_pairValue_36 rfl ?_
  refine zs_geti (r := 809) (pc := 37) C dX7_pairValue_37 w_X7_69 f_8_9 rfl (r_809 0) (fun v37 e37 l37 u37 => ?_)
  refine zVv7 (pc := 40) C dX7_pairValue_40 v_X7_116 (c_X1_setNames hX ) (by decide) (by decide) ⟨Nat.zero_le _, Nat.zero_le _⟩ (Nat.le_of_ble_eq_true rfl) (fun G40 hp40 => ?_)
  obtain ⟨hz40, hq40⟩ := hp40
  refine zs_aload_n (pc := 43) C dX7_pairValue_43 rfl ?_
  refine zs_getd (r := 800) (pc := 44) C dX7_pairValue_44 w_X7_40 f_8_0 (by decide) rfl (fun v44 e44 t44 => ?_)
  try simp only [hz40.2, zuI_1, zuI_2, zuJ_1, zuJ_2, zuJ_3, zuP_1, zuP_2, zuP_3, zuC_1, zuC_2, reduceIte, Nat.reduceEqDiff, false_and, and_false, true_and, and_true, and_self, or_true, true_or, or_false, false_or] at e44
  subst e44
  refine zs_getf (pc := 47) C dX7_pairValue_47 w_X7_105 f_6_0 (by decide) ?_
  refine zs_iconst (pc := 50) C dX7_pairValue_50 (by decide) ?_
  refine zVj1 (pc := 51) C dX7_pairValue_51 v_X7_125 (c_X1_value hX ) (by decide) (by decide) ⟨Nat.zero_le _, Nat.zero_le _⟩ (Nat.le_of_ble_eq_true rfl) (fun x51 G51 l51 u51 hp51 => ?_)
  obtain ⟨hz51, hq51⟩ := hp51
  exact zs_lret (pc := 54) C hr hlk dX7_pairValue_54 ⟨by repeat (first | exact zsm_rf | assumption | refine zsm_C (by decide) ?_ | refine zsm_I (by decide) ?_ | refine zsm_J ?_ | refine zsm_c (by assumption) (by decide) ?_), trivial⟩

set_option maxHeartbeats 4000000 in
set_option maxRecDepth 100000 in
theorem c_X7_fineOf {l : Launch} {Γ : zΓ} {G : zH} {w : Nat} {p0 s0 : Int} (hX : zXs Γ) (hp : 0 ≤ p0 ∧ p0 ≤ 4)(hs : 0 ≤ s0 ∧ s0 ≤ 3) : zMet l Γ yX7_fineOf cX7_fineOf 3 (some .int) 3 [zr 8 w, zi p0, zi s0] G (zpi (fun x G' => zsm [] G G' ∧ True)) := by
  refine zMet_of RX7 hX (by decide) rfl (Nat.le_of_ble_eq_true rfl) ?_
  intro p e s m args below meth c C hr hlk
  show Z p l e (zrm 3) s m args below meth c Γ 3 0 0 (MQ below (zQc Γ (zpi (fun x G' => zsm [] G G' ∧ True))) args s 0 0 (zA Γ)) 0 [some (zr 8 w), some (zi p0), some (zi s0)] [] G
  refine zs_loc 1 rfl (fun ha1 hb1 => ?_)
  refine zs_loc 2 rfl (fun ha2 hb2 => ?_)
  refine zs_aload_n (pc := 0) C dX7_fineOf_0 rfl ?_
  refine zs_iload_n (pc := 1) C dX7_fineOf_1 rfl ?_
  refine zs_iload_n (pc := 2) C dX7_fineOf_2 rfl ?_
  refine zVv2 (pc := 3) C dX7_fineOf_3 v_X7_122 (c_X7_setNames hX (by omega) (by omega)) (by decide) (by decide) ⟨Nat.zero_le _, Nat.zero_le _⟩ (Nat.le_of_ble_eq_true rfl) (fun G3 hp3 => ?_)
  obtain ⟨hz3, hq3⟩ := hp3
  refine zs_aload_n (pc := 6) C dX7_fineOf_6 rfl ?_
  refine zs_getd (r := 800) (pc := 7) C dX7_fineOf_7 w_X7_40 f_8_0 (by decide) rfl (fun v7 e7 t7 => ?_)
  try simp only [hz3.2, zuI_1, zuI_2, zuJ_1, zuJ_2, zuJ_3, zuP_1, zuP_2, zuP_3, zuC_1, zuC_2, reduceIte, Nat.reduceEqDiff, false_and, and_false, true_and, and_true, and_self, or_true, true_or, or_false, false_or] at e7
  subst e7
  refine zs_iconst (pc := 10) C dX7_fineOf_10 (by decide) ?_
  refine zs_iload_n (pc := 11) C dX7_fineOf_11 rfl ?_
  refine zVi2 (pc := 12) C dX7_fineOf_12 v_X7_132 (c_X5_fineness hX (by omega)) (by decide) (by decide) ⟨Nat.zero_le _, Nat.zero_le _⟩ (Nat.le_of_ble_eq_true rfl) (fun x12 G12 l12 u12 hp12 => ?_)
  obtain ⟨hz12, hq12⟩ := hp12
  exact zs_iret (pc := 15) C hr hlk dX7_fineOf_15 ⟨by repeat (first | exact zsm_rf | assumption | refine zsm_C (by decide) ?_ | refine zsm_I (by decide) ?_ | refine zsm_J ?_ | refine zsm_c (by assumption) (by decide) ?_), trivial⟩

set_option maxHeartbeats 4000000 in
set_option maxRecDepth 100000 in
theorem c_X7_fineThen {l : Launch} {Γ : zΓ} {G : zH} {w : Nat} {a k s0 : Int} (hX : zXs Γ) (ha : 0 ≤ a ∧ a < 60)(hs : 0 ≤ s0 ∧ s0 ≤ 3) : zMet l Γ yX7_fineThen cX7_fineThen 4 (some .int) 3 [zr 8 w, zi a, zi k, zi s0] G (zpi (fun x G' => zsm [] G G' ∧ True)) := by
  refine zMet_of RX7 hX (by decide) rfl (Nat.le_of_ble_eq_true rfl) ?_
  intro p e s m args below meth c C hr hlk
  show Z p l e (zrm 3) s m args below meth c Γ 4 0 0 (MQ below (zQc Γ (zpi (fun x G' => zsm [] G G' ∧ True))) args s 0 0 (zA Γ)) 0 [some (zr 8 w), some (zi a), some (zi k), some (zi s0)] [] G
  refine zs_loc 1 rfl (fun ha1 hb1 => ?_)
  refine zs_loc 2 rfl (fun ha2 hb2 => ?_)
  refine zs_loc 3 rfl (fun ha3 hb3 => ?_)
  refine zs_aload_n (pc := 0) C dX7_fineThen_0 rfl ?_
  refine zs_getd (r := 800) (pc := 1) C dX7_fineThen_1 w_X7_40 f_8_0 (by decide) rfl (fun v1 e1 t1 => ?_)
  subst e1
  refine zs_getf (pc := 4) C dX7_fineThen_4 w_X7_105 f_6_0 (by decide) ?_
  refine zs_aload_n (pc := 7) C dX7_fineThen_7 rfl ?_
  refine zs_getd (r := 800) (pc := 8) C dX7_fineThen_8 w_X7_40 f_8_0 (by decide) rfl (fun v8 e8 t8 => ?_)
  subst e8
  refine zs_getf (pc := 11) C dX7_fineThen_11 w_X7_98 f_6_3 (by decide) ?_
  refine zs_iload_n (pc := 14) C dX7_fineThen_14 rfl ?_
  refine zs_iald (r := 2038) (pc := 15) C dX7_fineThen_15 a_38 (by decide) (by omega) rfl (r_2038 _) (fun v15 e15 l15 u15 => ?_)
  refine zs_aload_n (pc := 16) C dX7_fineThen_16 rfl ?_
  refine zs_getf (pc := 17) C dX7_fineThen_17 w_X7_12 f_8_1 (by decide) ?_
  refine zs_getf (pc := 20) C dX7_fineThen_20 w_X7_135 f_5_5 (by decide) ?_
  refine zs_iload_n (pc := 23) C dX7_fineThen_23 rfl ?_
  refine zs_iald (r := 2031) (pc := 24) C dX7_fineThen_24 a_31 (by decide) (by omega) rfl (r_2031 _) (fun v24 e24 l24 u24 => ?_)
  refine zs_aload_n (pc := 25) C dX7_fineThen_25 rfl ?_
  refine zs_getf (pc := 26) C dX7_fineThen_26 w_X7_12 f_8_1 (by decide) ?_
  refine zs_getf (pc := 29) C dX7_fineThen_29 w_X7_136 f_5_6 (by decide) ?_
  refine zs_iload_n (pc := 32) C dX7_fineThen_32 rfl ?_
  refine zs_iald (r := 2032) (pc := 33) C dX7_fineThen_33 a_32 (by decide) (by omega) rfl (r_2032 _) (fun v33 e33 l33 u33 => ?_)
  refine zs_aload_n (pc := 34) C dX7_fineThen_34 rfl ?_
  refine zs_getf (pc := 35) C dX7_fineThen_35 w_X7_12 f_8_1 (by decide) ?_
  refine zs_getf (pc := 38) C dX7_fineThen_38 w_X7_138 f_5_7 (by decide) ?_
  refine zs_iload_n (pc := 41) C dX7_fineThen_41 rfl ?_
  refine zs_iald (r := 2033) (pc := 42) C dX7_fineThen_42 a_33 (by decide) (by omega) rfl (r_2033 _) (fun v42 e42 l42 u42 => ?_)
  refine zs_aload_n (pc := 43) C dX7_fineThen_43 rfl ?_
  refine zs_getf (pc := 44) C dX7_fineThen_44 w_X7_12 f_8_1 (by decide) ?_
  refine zs_iload_n (pc := 47) C dX7_fineThen_47 rfl ?_
  refine zs_iload_n (pc := 48) C dX7_fineThen_48 rfl ?_
  refine zVip2 (pc := 49) C dX7_fineThen_49 v_X7_141 (c_X4_lieBy hX (by omega)) (by decide) (by decide) ⟨Nat.zero_le _, Nat.zero_le _⟩ (Nat.le_of_ble_eq_true rfl) (fun x49 l49 u49 hp49 => ?_)
  have hq49 := hp49
  refine zs_aload_n (pc := 52) C dX7_fineThen_52 rfl ?_
  refine zs_getd (r := 800) (pc := 53) C dX7_fineThen_53 w_X7_40 f_8_0 (by decide) rfl (fun v53 e53 t53 => ?_)
  subst e53
  refine zs_getf (pc := 56) C dX7_fineThen_56 w_X7_113 f_6_4 (by decide) ?_
  refine zs_aload_n (pc := 59) C dX7_fineThen_59 rfl ?_
  refine zs_getf (pc := 60) C dX7_fineThen_60 w_X7_12 f_8_1 (by decide) ?_
  refine zs_getf (pc := 63) C dX7_fineThen_63 w_X7_144 f_5_0 (by decide) ?_
  refine zs_iload_n (pc := 66) C dX7_fineThen_66 rfl ?_
  refine zs_iald (r := 2026) (pc := 67) C dX7_fineThen_67 a_26 (by decide) (by omega) rfl (r_2026 _) (fun v67 e67 l67 u67 => ?_)
  refine zs_iald (r := 2039) (pc := 68) C dX7_fineThen_68 a_39 (by decide) (by omega) rfl (r_2039 _) (fun v68 e68 l68 u68 => ?_)
  refine zs_aload_n (pc := 69) C dX7_fineThen_69 rfl ?_
  refine zs_getf (pc := 70) C dX7_fineThen_70 w_X7_12 f_8_1 (by decide) ?_
  refine zs_getf (pc := 73) C dX7_fineThen_73 w_X7_147 f_5_8 (by decide) ?_
  refine zs_iload_n (pc := 76) C dX7_fineThen_76 rfl ?_
  refine zs_iald (r := 2034) (pc := 77) C dX7_fineThen_77 a_34 (by decide) (by omega) rfl (r_2034 _) (fun v77 e77 l77 u77 => ?_)
  refine zVv7 (pc := 78) C dX7_fineThen_78 v_X7_116 (c_X1_setNames hX ) (by decide) (by decide) ⟨Nat.zero_le _, Nat.zero_le _⟩ (Nat.le_of_ble_eq_true rfl) (fun G78 hp78 => ?_)
  obtain ⟨hz78, hq78⟩ := hp78
  refine zs_aload_n (pc := 81) C dX7_fineThen_81 rfl ?_
  refine zs_getd (r := 800) (pc := 82) C dX7_fineThen_82 w_X7_40 f_8_0 (by decide) rfl (fun v82 e82 t82 => ?_)
  try simp only [hz78.2, zuI_1, zuI_2, zuJ_1, zuJ_2, zuJ_3, zuP_1, zuP_2, zuP_3, zuC_1, zuC_2, reduceIte, Nat.reduceEqDiff, false_and, and_false, true_and, and_true, and_self, or_true, true_or, or_false, false_or] at e82
  subst e82
  refine zs_iload_n (pc := 85) C dX7_fineThen_85 rfl ?_
  refine zs_iload_n (pc := 86) C dX7_fineThen_86 rfl ?_
  refine zVi2 (pc := 87) C dX7_fineThen_87 v_X7_132 (c_X5_fineness hX (by omega)) (by decide) (by decide) ⟨Nat.zero_le _, Nat.zero_le _⟩ (Nat.le_of_ble_eq_true rfl) (fun x87 G87 l87 u87 hp87 => ?_)
  obtain ⟨hz87, hq87⟩ := hp87
  exact zs_iret (pc := 90) C hr hlk dX7_fineThen_90 ⟨by repeat (first | exact zsm_rf | assumption | refine zsm_C (by decide) ?_ | refine zsm_I (by decide) ?_ | refine zsm_J ?_ | refine zsm_c (by assumption) (by decide) ?_), trivial⟩

set_option maxHeartbeats 4000000 in
set_option maxRecDepth 100000 in
theorem c_X7_canGrind {l : Launch} {Γ : zΓ} {G : zH} {w : Nat}  (hX : zXs Γ)  : zMet l Γ yX7_canGrind cX7_canGrind 1 (some .boolean) 1 [zr 8 w] G (zpi (fun x G' => G' = G ∧ ((x = 0 ∨ x = 1) ∧ (x = 1 → G.1 510 (Γ.2.1 w 1) 0 ≤ 59)))) := by
  refine zMet_of RX7 hX (by decide) rfl (Nat.le_of_ble_eq_true rfl) ?_
  intro p e s m args below meth c C hr hlk
  show Z p l e (zrm 1) s m args below meth c Γ 1 0 0 (MQ below (zQc Γ (zpi (fun x G' => G' = G ∧ ((x = 0 ∨ x = 1) ∧ (x = 1 → G.1 510 (Γ.2.1 w 1) 0 ≤ 59))))) args s 0 0 (zA Γ)) 0 [some (zr 8 w)] [] G
  refine zs_aload_n (pc := 0) C dX7_canGrind_0 rfl ?_
  refine zs_geti (r := 810) (pc := 1) C dX7_canGrind_1 w_X7_75 f_8_10 rfl (r_810 0) (fun v1 e1 l1 u1 => ?_)
  refine zs_if_le (tgt := 21) (pc := 4) C dX7_canGrind_4 (by decide) (fun h4 => ?_) (fun h4 => ?_)
  · skip
    refine zs_iconst (pc := 21) C dX7_canGrind_21 (by decide) ?_
    exact zs_zret (pc := 22) C hr hlk dX7_canGrind_22 (by omega) ⟨rfl, by first | omega | (simp only [zuI_1, zuI_2, zuJ_1, zuJ_2, zuJ_3, zuP_1, zuP_2, zuP_3, zuC_1, zuC_2, reduceIte, Nat.reduceEqDiff, false_and, and_false, true_and, and_true, and_self, or_true, true_or, or_false, false_or]; omega)⟩
  · skip
    refine zs_aload_n (pc := 7) C dX7_canGrind_7 rfl ?_
    refine zs_getf (pc := 8) C dX7_canGrind_8 w_X7_12 f_8_1 (by decide) ?_
    refine zVip0 (pc := 11) C dX7_canGrind_11 v_X7_164 (c_X4_isFull hX ) (by decide) (by decide) ⟨Nat.zero_le _, Nat.zero_le _⟩ (Nat.le_of_ble_eq_true rfl) (fun x11 l11 u11 hp11 => ?_)
    have hq11 := hp11
    refine zs_if_ne (tgt := 21) (pc := 14) C dX7_canGrind_14 (by decide) (fun h14 => ?_) (fun h14 => ?_)
    · skip
      refine zs_iconst (pc := 21) C dX7_canGrind_21 (by decide) ?_
      exact zs_zret (pc := 22) C hr hlk dX7_canGrind_22 (by omega) ⟨rfl, by first | omega | (simp only [zuI_1, zuI_2, zuJ_1, zuJ_2, zuJ_3, zuP_1, zuP_2, zuP_3, zuC_1, zuC_2, reduceIte, Nat.reduceEqDiff, false_and, and_false, true_and, and_true, and_self, or_true, true_or, or_false, false_or]; omega)⟩
    · skip
      refine zs_iconst (pc := 17) C dX7_canGrind_17 (by decide) ?_
      refine zs_goto (tgt := 22) (pc := 18) C dX7_canGrind_18 (by decide) ?_
      exact zs_zret (pc := 22) C hr hlk dX7_canGrind_22 (by omega) ⟨rfl, by first | omega | (simp only [zuI_1, zuI_2, zuJ_1, zuJ_2, zuJ_3, zuP_1, zuP_2, zuP_3, zuC_1, zuC_2, reduceIte, Nat.reduceEqDiff, false_and, and_false, true_and, and_true, and_self, or_true, true_or, or_false, false_or]; omega)⟩

set_option maxHeartbeats 4000000 in
set_option maxRecDepth 100000 in
theorem c_X7_portion {l : Launch} {Γ : zΓ} {G : zH} {w : Nat}  (hX : zXs Γ)  : zMet l Γ yX7_portion cX7_portion 1 (some .int) 1 [zr 8 w] G (zpi (fun x G' => G' = G ∧ True)) := by
  refine zMet_of RX7 hX (by decide) rfl (Nat.le_of_ble_eq_true rfl) ?_
  intro p e s m args below meth c C hr hlk
  show Z p l e (zrm 1) s m args below meth c Γ 1 0 0 (MQ below (zQc Γ (zpi (fun x G' => G' = G ∧ True))) args s 0 0 (zA Γ)) 0 [some (zr 8 w)] [] G
  refine zs_aload_n (pc := 0) C dX7_portion_0 rfl ?_
  refine zs_getd (r := 800) (pc := 1) C dX7_portion_1 w_X7_40 f_8_0 (by decide) rfl (fun v1 e1 t1 => ?_)
  subst e1
  refine zs_geti (r := 610) (pc := 4) C dX7_portion_4 w_X7_168 f_6_10 rfl (r_610 0) (fun v4 e4 l4 u4 => ?_)
  refine zs_aload_n (pc := 7) C dX7_portion_7 rfl ?_
  refine zs_geti (r := 810) (pc := 8) C dX7_portion_8 w_X7_75 f_8_10 rfl (r_810 0) (fun v8 e8 l8 u8 => ?_)
  refine zs_minI (pc := 11) C dX7_portion_11 s_X7_149 (by decide) (Nat.le_of_ble_eq_true rfl) ⟨Nat.zero_le _, Nat.zero_le _⟩ (fun z11 hz11 => ?_)
  exact zs_iret (pc := 14) C hr hlk dX7_portion_14 ⟨rfl, trivial⟩

set_option maxHeartbeats 4000000 in
set_option maxRecDepth 100000 in
theorem c_X7_wearHere {l : Launch} {Γ : zΓ} {G : zH} {w : Nat}  (hX : zXs Γ)  : zMet l Γ yX7_wearHere cX7_wearHere 3 (some .int) 2 [zr 8 w] G (zpi (fun x G' => zsm [] G G' ∧ True)) := by
  refine zMet_of RX7 hX (by decide) rfl (Nat.le_of_ble_eq_true rfl) ?_
  intro p e s m args below meth c C hr hlk
  show Z p l e (zrm 2) s m args below meth c Γ 3 0 0 (MQ below (zQc Γ (zpi (fun x G' => zsm [] G G' ∧ True))) args s 0 0 (zA Γ)) 0 [some (zr 8 w), none, none] [] G
  refine zs_aload_n (pc := 0) C dX7_wearHere_0 rfl ?_
  refine zs_getd (r := 800) (pc := 1) C dX7_wearHere_1 w_X7_40 f_8_0 (by decide) rfl (fun v1 e1 t1 => ?_)
  subst e1
  refine zs_getf (pc := 4) C dX7_wearHere_4 w_X7_105 f_6_0 (by decide) ?_
  refine zs_iconst (pc := 7) C dX7_wearHere_7 (by decide) ?_
  refine zVj1 (pc := 8) C dX7_wearHere_8 v_X7_125 (c_X1_value hX ) (by decide) (by decide) ⟨Nat.zero_le _, Nat.zero_le _⟩ (Nat.le_of_ble_eq_true rfl) (fun x8 G8 l8 u8 hp8 => ?_)
  obtain ⟨hz8, hq8⟩ := hp8
  refine zs_lstore_n (pc := 11) C dX7_wearHere_11 (by decide) ?_
  dsimp only [zset, zclr, znone]
  refine zs_lload_n (pc := 12) C dX7_wearHere_12 rfl ?_
  refine zs_ldc2 (n := -9223372036854775808) (pc := 13) C dX7_wearHere_13 q_X7_194 (by decide) (by decide) ?_
  refine zs_lcmp (pc := 16) C dX7_wearHere_16 (fun z16 hz16 => ?_)
  refine zs_if_ne (tgt := 24) (pc := 17) C dX7_wearHere_17 (by decide) (fun h17 => ?_) (fun h17 => ?_)
  · skip
    refine zs_lconst (n := 0) (pc := 24) C dX7_wearHere_24 rfl (by decide) ?_
    refine zs_ldc2 (n := 99) (pc := 25) C dX7_wearHere_25 q_X7_196 (by decide) (by decide) ?_
    refine zs_lload_n (pc := 28) C dX7_wearHere_28 rfl ?_
    refine zs_minL (pc := 29) C dX7_wearHere_29 s_X7_198 (by decide) (Nat.le_of_ble_eq_true rfl) ⟨Nat.zero_le _, Nat.zero_le _⟩ (fun z29 hz29 => ?_)
    refine zs_maxL (pc := 32) C dX7_wearHere_32 s_X7_201 (by decide) (Nat.le_of_ble_eq_true rfl) ⟨Nat.zero_le _, Nat.zero_le _⟩ (fun z32 hz32 => ?_)
    first | refine zs_l2i (pc := 35) C dX7_wearHere_35 (by omega) ?_ | refine zs_l2iF (pc := 35) C dX7_wearHere_35 (fun z35 hz351 hz352 => ?_)
    exact zs_iret (pc := 36) C hr hlk dX7_wearHere_36 ⟨by repeat (first | exact zsm_rf | assumption | refine zsm_C (by decide) ?_ | refine zsm_I (by decide) ?_ | refine zsm_J ?_ | refine zsm_c (by assumption) (by decide) ?_), trivial⟩
  · skip
    refine zs_iconst (pc := 20) C dX7_wearHere_20 (by decide) ?_
    refine zs_goto (tgt := 36) (pc := 21) C dX7_wearHere_21 (by decide) ?_
    exact zs_iret (pc := 36) C hr hlk dX7_wearHere_36 ⟨by repeat (first | exact zsm_rf | assumption | refine zsm_C (by decide) ?_ | refine zsm_I (by decide) ?_ | refine zsm_J ?_ | refine zsm_c (by assumption) (by decide) ?_), trivial⟩

set_option maxHeartbeats 4000000 in
set_option maxRecDepth 100000 in
theorem c_X7_canFall {l : Launch} {Γ : zΓ} {G : zH} {w : Nat} {p0 s0 : Int} (hX : zXs Γ) (hp : 0 ≤ p0 ∧ p0 ≤ 4)(hs : 0 ≤ s0 ∧ s0 ≤ 3) : zMet l Γ yX7_canFall cX7_canFall 3 (some .boolean) 0 [zr 8 w, zi p0, zi s0] G (zpi (fun x G' => G' = G ∧ (x = 0 ∨ x = 1))) := by
  refine zMet_of RX7 hX (by decide) rfl (Nat.le_of_ble_eq_true rfl) ?_
  intro p e s m args below meth c C hr hlk
  show Z p l e (zrm 0) s m args below meth c Γ 3 0 0 (MQ below (zQc Γ (zpi (fun x G' => G' = G ∧ (x = 0 ∨ x = 1)))) args s 0 0 (zA Γ)) 0 [some (zr 8 w), some (zi p0), some (zi s0)] [] G
  refine zs_loc 1 rfl (fun ha1 hb1 => ?_)
  refine zs_loc 2 rfl (fun ha2 hb2 => ?_)
  refine zs_aload_n (pc := 0) C dX7_canFall_0 rfl ?_
  refine zs_getf (pc := 1) C dX7_canFall_1 w_X7_18 f_8_2 (by decide) ?_
  refine zs_iload_n (pc := 4) C dX7_canFall_4 rfl ?_
  refine zs_iconst (pc := 5) C dX7_canFall_5 (by decide) ?_
  first | refine zs_imul (pc := 6) C dX7_canFall_6 (by omega) ?_ | refine zs_imulF (pc := 6) C dX7_canFall_6 (fun z6 hz61 hz62 => ?_)
  refine zs_iload_n (pc := 7) C dX7_canFall_7 rfl ?_
  first | refine zs_iadd (pc := 8) C dX7_canFall_8 (by omega) ?_ | refine zs_iaddF (pc := 8) C dX7_canFall_8 (fun z8 hz81 hz82 => ?_)
  refine zs_iald (r := 2048) (pc := 9) C dX7_canFall_9 a_48 (by decide) (by omega) rfl (r_2048 _) (fun v9 e9 l9 u9 => ?_)
  refine zs_bipush (pc := 10) C dX7_canFall_10 (by decide) (by decide) ?_
  refine zs_icmp_ge (tgt := 19) (pc := 12) C dX7_canFall_12 (by decide) (fun h12 => ?_) (fun h12 => ?_)
  · skip
    refine zs_iconst (pc := 19) C dX7_canFall_19 (by decide) ?_
    exact zs_zret (pc := 20) C hr hlk dX7_canFall_20 (by omega) ⟨rfl, by first | omega | (simp only [zuI_1, zuI_2, zuJ_1, zuJ_2, zuJ_3, zuP_1, zuP_2, zuP_3, zuC_1, zuC_2, reduceIte, Nat.reduceEqDiff, false_and, and_false, true_and, and_true, and_self, or_true, true_or, or_false, false_or]; omega)⟩
  · skip
    refine zs_iconst (pc := 15) C dX7_canFall_15 (by decide) ?_
    refine zs_goto (tgt := 20) (pc := 16) C dX7_canFall_16 (by decide) ?_
    exact zs_zret (pc := 20) C hr hlk dX7_canFall_20 (by omega) ⟨rfl, by first | omega | (simp only [zuI_1, zuI_2, zuJ_1, zuJ_2, zuJ_3, zuP_1, zuP_2, zuP_3, zuC_1, zuC_2, reduceIte, Nat.reduceEqDiff, false_and, and_false, true_and, and_true, and_self, or_true, true_or, or_false, false_or]; omega)⟩

set_option maxHeartbeats 4000000 in
set_option maxRecDepth 100000 in
theorem c_X7_isBaked {l : Launch} {Γ : zΓ} {G : zH} {w : Nat} {p0 : Int} (hX : zXs Γ) (hp : 0 ≤ p0 ∧ p0 ≤ 4) : zMet l Γ yX7_isBaked cX7_isBaked 2 (some .boolean) 0 [zr 8 w, zi p0] G (zpi (fun x G' => G' = G ∧ (x = 0 ∨ x = 1))) := by
  refine zMet_of RX7 hX (by decide) rfl (Nat.le_of_ble_eq_true rfl) ?_
  intro p e s m args below meth c C hr hlk
  show Z p l e (zrm 0) s m args below meth c Γ 2 0 0 (MQ below (zQc Γ (zpi (fun x G' => G' = G ∧ (x = 0 ∨ x = 1)))) args s 0 0 (zA Γ)) 0 [some (zr 8 w), some (zi p0)] [] G
  refine zs_loc 1 rfl (fun ha1 hb1 => ?_)
  refine zs_aload_n (pc := 0) C dX7_isBaked_0 rfl ?_
  refine zs_getf (pc := 1) C dX7_isBaked_1 w_X7_34 f_8_7 (by decide) ?_
  refine zs_iload_n (pc := 4) C dX7_isBaked_4 rfl ?_
  refine zs_iald (r := 2053) (pc := 5) C dX7_isBaked_5 a_53 (by decide) (by omega) rfl (r_2053 _) (fun v5 e5 l5 u5 => ?_)
  refine zs_iconst (pc := 6) C dX7_isBaked_6 (by decide) ?_
  refine zs_icmp_eq (tgt := 14) (pc := 7) C dX7_isBaked_7 (by decide) (fun h7 => ?_) (fun h7 => ?_)
  · skip
    refine zs_iconst (pc := 14) C dX7_isBaked_14 (by decide) ?_
    exact zs_zret (pc := 15) C hr hlk dX7_isBaked_15 (by omega) ⟨rfl, by first | omega | (simp only [zuI_1, zuI_2, zuJ_1, zuJ_2, zuJ_3, zuP_1, zuP_2, zuP_3, zuC_1, zuC_2, reduceIte, Nat.reduceEqDiff, false_and, and_false, true_and, and_true, and_self, or_true, true_or, or_false, false_or]; omega)⟩
  · skip
    refine zs_iconst (pc := 10) C dX7_isBaked_10 (by decide) ?_
    refine zs_goto (tgt := 15) (pc := 11) C dX7_isBaked_11 (by decide) ?_
    exact zs_zret (pc := 15) C hr hlk dX7_isBaked_15 (by omega) ⟨rfl, by first | omega | (simp only [zuI_1, zuI_2, zuJ_1, zuJ_2, zuJ_3, zuP_1, zuP_2, zuP_3, zuC_1, zuC_2, reduceIte, Nat.reduceEqDiff, false_and, and_false, true_and, and_true, and_self, or_true, true_or, or_false, false_or]; omega)⟩

