set_option maxHeartbeats 4000000 in
set_option maxRecDepth 100000 in
theorem c_X7_leftOf {l : Launch} {Γ : zΓ} {G : zH} {w : Nat} {p0 s0 : Int} (hX : zXs Γ) (hp : 0 ≤ p0 ∧ p0 ≤ 4)(hs : 0 ≤ s0 ∧ s0 ≤ 3) : zMet l Γ yX7_leftOf cX7_leftOf 3 (some .int) 0 [zr 8 w, zi p0, zi s0] G (zpi (fun x G' => G' = G ∧ True)) := by
  refine zMet_of RX7 hX (by decide) rfl (Nat.le_of_ble_eq_true rfl) ?_
  intro p e s m args below meth c C hr hlk
  show Z p l e (zrm 0) s m args below meth c Γ 3 0 0 (MQ below (zQc Γ (zpi (fun x G' => G' = G ∧ True))) args s 0 0 (zA Γ)) 0 [some (zr 8 w), some (zi p0), some (zi s0)] [] G
  refine zs_loc 1 rfl (fun ha1 hb1 => ?_)
  refine zs_loc 2 rfl (fun ha2 hb2 => ?_)
  refine zs_aload_n (pc := 0) C dX7_leftOf_0 rfl ?_
  refine zs_getf (pc := 1) C dX7_leftOf_1 w_X7_22 f_8_3 (by decide) ?_
  refine zs_iload_n (pc := 4) C dX7_leftOf_4 rfl ?_
  refine zs_iconst (pc := 5) C dX7_leftOf_5 (by decide) ?_
  first | refine zs_imul (pc := 6) C dX7_leftOf_6 (by omega) ?_ | refine zs_imulF (pc := 6) C dX7_leftOf_6 (fun z6 hz61 hz62 => ?_)
  refine zs_iload_n (pc := 7) C dX7_leftOf_7 rfl ?_
  first | refine zs_iadd (pc := 8) C dX7_leftOf_8 (by omega) ?_ | refine zs_iaddF (pc := 8) C dX7_leftOf_8 (fun z8 hz81 hz82 => ?_)
  refine zs_iald (r := 2049) (pc := 9) C dX7_leftOf_9 a_49 (by decide) (by omega) rfl (r_2049 _) (fun v9 e9 l9 u9 => ?_)
  exact zs_iret (pc := 10) C hr hlk dX7_leftOf_10 ⟨rfl, trivial⟩

set_option maxHeartbeats 4000000 in
set_option maxRecDepth 100000 in
theorem c_X7_prideOf {l : Launch} {Γ : zΓ} {G : zH} {w : Nat} {p0 : Int} (hX : zXs Γ) (hp : 0 ≤ p0 ∧ p0 ≤ 4) : zMet l Γ yX7_prideOf cX7_prideOf 4 (some .int) 0 [zr 8 w, zi p0] G (zpi (fun x G' => G' = G ∧ True)) := by
  refine zMet_of RX7 hX (by decide) rfl (Nat.le_of_ble_eq_true rfl) ?_
  intro p e s m args below meth c C hr hlk
  show Z p l e (zrm 0) s m args below meth c Γ 4 0 0 (MQ below (zQc Γ (zpi (fun x G' => G' = G ∧ True))) args s 0 0 (zA Γ)) 0 [some (zr 8 w), some (zi p0), none, none] [] G
  refine zs_loc 1 rfl (fun ha1 hb1 => ?_)
  refine zs_iconst (pc := 0) C dX7_prideOf_0 (by decide) ?_
  refine zs_istore_n (pc := 1) C dX7_prideOf_1 (by decide) ?_
  dsimp only [zset, zclr, znone]
  refine zs_iconst (pc := 2) C dX7_prideOf_2 (by decide) ?_
  refine zs_istore_n (pc := 3) C dX7_prideOf_3 (by decide) ?_
  dsimp only [zset, zclr, znone]
  have L4 : ∀ (nn : Nat) (x2 x3 : Int), (0 ≤ x3 ∧ x3 ≤ 4) → (4 - x3).toNat < nn → Z p l e (zrm 0) s m args below meth c Γ 4 0 0 (MQ below (zQc Γ (zpi (fun x G' => G' = G ∧ True))) args s 0 0 (zA Γ)) 4 [some (zr 8 w), some (zi p0), some (zi x2), some (zi x3)] [] G := by
    intro nn
    induction nn with
    | zero => intro x2 x3 h4_0 hm; exact absurd hm (Nat.not_lt_zero _)
    | succ nn ih4 =>
      intro x2 x3 h4_0 hm4
      refine zs_iload_n (pc := 4) C dX7_prideOf_4 rfl ?_
      refine zs_iconst (pc := 5) C dX7_prideOf_5 (by decide) ?_
      refine zs_icmp_ge (tgt := 28) (pc := 6) C dX7_prideOf_6 (by decide) (fun h6 => ?_) (fun h6 => ?_)
      · skip
        refine zs_iload_n (pc := 28) C dX7_prideOf_28 rfl ?_
        exact zs_iret (pc := 29) C hr hlk dX7_prideOf_29 ⟨rfl, trivial⟩
      · skip
        refine zs_iload_n (pc := 9) C dX7_prideOf_9 rfl ?_
        refine zs_aload_n (pc := 10) C dX7_prideOf_10 rfl ?_
        refine zs_getf (pc := 11) C dX7_prideOf_11 w_X7_22 f_8_3 (by decide) ?_
        refine zs_iload_n (pc := 14) C dX7_prideOf_14 rfl ?_
        refine zs_iconst (pc := 15) C dX7_prideOf_15 (by decide) ?_
        first | refine zs_imul (pc := 16) C dX7_prideOf_16 (by omega) ?_ | refine zs_imulF (pc := 16) C dX7_prideOf_16 (fun z16 hz161 hz162 => ?_)
        refine zs_iload_n (pc := 17) C dX7_prideOf_17 rfl ?_
        first | refine zs_iadd (pc := 18) C dX7_prideOf_18 (by omega) ?_ | refine zs_iaddF (pc := 18) C dX7_prideOf_18 (fun z18 hz181 hz182 => ?_)
        refine zs_iald (r := 2049) (pc := 19) C dX7_prideOf_19 a_49 (by decide) (by omega) rfl (r_2049 _) (fun v19 e19 l19 u19 => ?_)
        first | refine zs_iadd (pc := 20) C dX7_prideOf_20 (by omega) ?_ | refine zs_iaddF (pc := 20) C dX7_prideOf_20 (fun z20 hz201 hz202 => ?_)
        refine zs_istore_n (pc := 21) C dX7_prideOf_21 (by decide) ?_
        dsimp only [zset, zclr, znone]
        first | refine zs_iinc (pc := 22) C dX7_prideOf_22 rfl (by decide) (by omega) ?_ | refine zs_iincF (pc := 22) C dX7_prideOf_22 rfl (by decide) (fun z22 hz221 hz222 => ?_)
        dsimp only [zset, zclr, znone]
        refine zs_goto (tgt := 4) (pc := 25) C dX7_prideOf_25 (by decide) ?_
        exact zs_wk (ih4 _ _ (by first | omega | (simp only [zuI_1, zuI_2, zuJ_1, zuJ_2, zuJ_3, zuP_1, zuP_2, zuP_3, zuC_1, zuC_2, reduceIte, Nat.reduceEqDiff, false_and, and_false, true_and, and_true, and_self, or_true, true_or, or_false, false_or]; omega)) (by first | omega | (simp only [zuI_1, zuI_2, zuJ_1, zuJ_2, zuJ_3, zuP_1, zuP_2, zuP_3, zuC_1, zuC_2, reduceIte, Nat.reduceEqDiff, false_and, and_false, true_and, and_true, and_self, or_true, true_or, or_false, false_or]; omega))) (zwk_s rfl (zwk_s rfl (zwk_s rfl (zwk_s rfl zwk_0))))
  exact zs_wk (L4 _ _ _ (by first | omega | (simp only [zuI_1, zuI_2, zuJ_1, zuJ_2, zuJ_3, zuP_1, zuP_2, zuP_3, zuC_1, zuC_2, reduceIte, Nat.reduceEqDiff, false_and, and_false, true_and, and_true, and_self, or_true, true_or, or_false, false_or]; omega)) (Nat.lt_succ_self _)) (zwk_s rfl (zwk_s rfl (zwk_s rfl (zwk_s rfl zwk_0))))

set_option maxHeartbeats 4000000 in
set_option maxRecDepth 100000 in
theorem c_X7_worthLeft {l : Launch} {Γ : zΓ} {G : zH} {w : Nat} {p0 : Int} (hX : zXs Γ) (hp : 0 ≤ p0 ∧ p0 ≤ 4) : zMet l Γ yX7_worthLeft cX7_worthLeft 4 (some .int) 0 [zr 8 w, zi p0] G (zpi (fun x G' => G' = G ∧ True)) := by
  refine zMet_of RX7 hX (by decide) rfl (Nat.le_of_ble_eq_true rfl) ?_
  intro p e s m args below meth c C hr hlk
  show Z p l e (zrm 0) s m args below meth c Γ 4 0 0 (MQ below (zQc Γ (zpi (fun x G' => G' = G ∧ True))) args s 0 0 (zA Γ)) 0 [some (zr 8 w), some (zi p0), none, none] [] G
  refine zs_loc 1 rfl (fun ha1 hb1 => ?_)
  refine zs_iconst (pc := 0) C dX7_worthLeft_0 (by decide) ?_
  refine zs_istore_n (pc := 1) C dX7_worthLeft_1 (by decide) ?_
  dsimp only [zset, zclr, znone]
  refine zs_iconst (pc := 2) C dX7_worthLeft_2 (by decide) ?_
  refine zs_istore_n (pc := 3) C dX7_worthLeft_3 (by decide) ?_
  dsimp only [zset, zclr, znone]
  have L4 : ∀ (nn : Nat) (x2 x3 : Int), (0 ≤ x3 ∧ x3 ≤ 4) → (4 - x3).toNat < nn → Z p l e (zrm 0) s m args below meth c Γ 4 0 0 (MQ below (zQc Γ (zpi (fun x G' => G' = G ∧ True))) args s 0 0 (zA Γ)) 4 [some (zr 8 w), some (zi p0), some (zi x2), some (zi x3)] [] G := by
    intro nn
    induction nn with
    | zero => intro x2 x3 h4_0 hm; exact absurd hm (Nat.not_lt_zero _)
    | succ nn ih4 =>
      intro x2 x3 h4_0 hm4
      refine zs_iload_n (pc := 4) C dX7_worthLeft_4 rfl ?_
      refine zs_aload_n (pc := 5) C dX7_worthLeft_5 rfl ?_
      refine zs_getd (r := 800) (pc := 6) C dX7_worthLeft_6 w_X7_40 f_8_0 (by decide) rfl (fun v6 e6 t6 => ?_)
      subst e6
      refine zs_getf (pc := 9) C dX7_worthLeft_9 w_X7_95 f_6_2 (by decide) ?_
      refine zs_iconst (pc := 12) C dX7_worthLeft_12 (by decide) ?_
      refine zs_iald (r := 2037) (pc := 13) C dX7_worthLeft_13 a_37 (by decide) (by omega) rfl rfl (fun v13 e13 l13 u13 => ?_)
      have hsz := rs_2037 (0 : Int).toNat
      refine zs_icmp_ge (tgt := 46) (pc := 14) C dX7_worthLeft_14 (by decide) (fun h14 => ?_) (fun h14 => ?_)
      · skip
        refine zs_iload_n (pc := 46) C dX7_worthLeft_46 rfl ?_
        exact zs_iret (pc := 47) C hr hlk dX7_worthLeft_47 ⟨rfl, trivial⟩
      · skip
        refine zs_iload_n (pc := 17) C dX7_worthLeft_17 rfl ?_
        refine zs_aload_n (pc := 18) C dX7_worthLeft_18 rfl ?_
        refine zs_getf (pc := 19) C dX7_worthLeft_19 w_X7_22 f_8_3 (by decide) ?_
        refine zs_iload_n (pc := 22) C dX7_worthLeft_22 rfl ?_
        refine zs_iconst (pc := 23) C dX7_worthLeft_23 (by decide) ?_
        first | refine zs_imul (pc := 24) C dX7_worthLeft_24 (by omega) ?_ | refine zs_imulF (pc := 24) C dX7_worthLeft_24 (fun z24 hz241 hz242 => ?_)
        refine zs_iload_n (pc := 25) C dX7_worthLeft_25 rfl ?_
        first | refine zs_iadd (pc := 26) C dX7_worthLeft_26 (by omega) ?_ | refine zs_iaddF (pc := 26) C dX7_worthLeft_26 (fun z26 hz261 hz262 => ?_)
        refine zs_iald (r := 2049) (pc := 27) C dX7_worthLeft_27 a_49 (by decide) (by omega) rfl (r_2049 _) (fun v27 e27 l27 u27 => ?_)
        refine zs_aload_n (pc := 28) C dX7_worthLeft_28 rfl ?_
        refine zs_getd (r := 800) (pc := 29) C dX7_worthLeft_29 w_X7_40 f_8_0 (by decide) rfl (fun v29 e29 t29 => ?_)
        subst e29
        refine zs_getf (pc := 32) C dX7_worthLeft_32 w_X7_98 f_6_3 (by decide) ?_
        refine zs_iload_n (pc := 35) C dX7_worthLeft_35 rfl ?_
        refine zs_iald (r := 2038) (pc := 36) C dX7_worthLeft_36 a_38 (by decide) (by omega) rfl (r_2038 _) (fun v36 e36 l36 u36 => ?_)
        first | refine zs_imul (pc := 37) C dX7_worthLeft_37 (by omega) ?_ | refine zs_imulF (pc := 37) C dX7_worthLeft_37 (fun z37 hz371 hz372 => ?_)
        first | refine zs_iadd (pc := 38) C dX7_worthLeft_38 (by omega) ?_ | refine zs_iaddF (pc := 38) C dX7_worthLeft_38 (fun z38 hz381 hz382 => ?_)
        refine zs_istore_n (pc := 39) C dX7_worthLeft_39 (by decide) ?_
        dsimp only [zset, zclr, znone]
        first | refine zs_iinc (pc := 40) C dX7_worthLeft_40 rfl (by decide) (by omega) ?_ | refine zs_iincF (pc := 40) C dX7_worthLeft_40 rfl (by decide) (fun z40 hz401 hz402 => ?_)
        dsimp only [zset, zclr, znone]
        refine zs_goto (tgt := 4) (pc := 43) C dX7_worthLeft_43 (by decide) ?_
        exact zs_wk (ih4 _ _ (by first | omega | (simp only [zuI_1, zuI_2, zuJ_1, zuJ_2, zuJ_3, zuP_1, zuP_2, zuP_3, zuC_1, zuC_2, reduceIte, Nat.reduceEqDiff, false_and, and_false, true_and, and_true, and_self, or_true, true_or, or_false, false_or]; omega)) (by first | omega | (simp only [zuI_1, zuI_2, zuJ_1, zuJ_2, zuJ_3, zuP_1, zuP_2, zuP_3, zuC_1, zuC_2, reduceIte, Nat.reduceEqDiff, false_and, and_false, true_and, and_true, and_self, or_true, true_or, or_false, false_or]; omega))) (zwk_s rfl (zwk_s rfl (zwk_s rfl (zwk_s rfl zwk_0))))
  exact zs_wk (L4 _ _ _ (by first | omega | (simp only [zuI_1, zuI_2, zuJ_1, zuJ_2, zuJ_3, zuP_1, zuP_2, zuP_3, zuC_1, zuC_2, reduceIte, Nat.reduceEqDiff, false_and, and_false, true_and, and_true, and_self, or_true, true_or, or_false, false_or]; omega)) (Nat.lt_succ_self _)) (zwk_s rfl (zwk_s rfl (zwk_s rfl (zwk_s rfl zwk_0))))

set_option maxHeartbeats 4000000 in
set_option maxRecDepth 100000 in
theorem c_X7_leftBitsOf {l : Launch} {Γ : zΓ} {G : zH} {w : Nat} {p0 : Int} (hX : zXs Γ) (hp : 0 ≤ p0 ∧ p0 ≤ 4) : zMet l Γ yX7_leftBitsOf cX7_leftBitsOf 4 (some .int) 0 [zr 8 w, zi p0] G (zpi (fun x G' => G' = G ∧ True)) := by
  refine zMet_of RX7 hX (by decide) rfl (Nat.le_of_ble_eq_true rfl) ?_
  intro p e s m args below meth c C hr hlk
  show Z p l e (zrm 0) s m args below meth c Γ 4 0 0 (MQ below (zQc Γ (zpi (fun x G' => G' = G ∧ True))) args s 0 0 (zA Γ)) 0 [some (zr 8 w), some (zi p0), none, none] [] G
  refine zs_loc 1 rfl (fun ha1 hb1 => ?_)
  refine zs_iconst (pc := 0) C dX7_leftBitsOf_0 (by decide) ?_
  refine zs_istore_n (pc := 1) C dX7_leftBitsOf_1 (by decide) ?_
  dsimp only [zset, zclr, znone]
  refine zs_iconst (pc := 2) C dX7_leftBitsOf_2 (by decide) ?_
  refine zs_istore_n (pc := 3) C dX7_leftBitsOf_3 (by decide) ?_
  dsimp only [zset, zclr, znone]
  have L4 : ∀ (nn : Nat) (x2 x3 : Int), (0 ≤ x3 ∧ x3 ≤ 4) → (4 - x3).toNat < nn → Z p l e (zrm 0) s m args below meth c Γ 4 0 0 (MQ below (zQc Γ (zpi (fun x G' => G' = G ∧ True))) args s 0 0 (zA Γ)) 4 [some (zr 8 w), some (zi p0), some (zi x2), some (zi x3)] [] G := by
    intro nn
    induction nn with
    | zero => intro x2 x3 h4_0 hm; exact absurd hm (Nat.not_lt_zero _)
    | succ nn ih4 =>
      intro x2 x3 h4_0 hm4
      refine zs_iload_n (pc := 4) C dX7_leftBitsOf_4 rfl ?_
      refine zs_iconst (pc := 5) C dX7_leftBitsOf_5 (by decide) ?_
      refine zs_icmp_ge (tgt := 38) (pc := 6) C dX7_leftBitsOf_6 (by decide) (fun h6 => ?_) (fun h6 => ?_)
      · skip
        refine zs_iload_n (pc := 38) C dX7_leftBitsOf_38 rfl ?_
        exact zs_iret (pc := 39) C hr hlk dX7_leftBitsOf_39 ⟨rfl, trivial⟩
      · skip
        refine zs_iload_n (pc := 9) C dX7_leftBitsOf_9 rfl ?_
        refine zs_aload_n (pc := 10) C dX7_leftBitsOf_10 rfl ?_
        refine zs_getf (pc := 11) C dX7_leftBitsOf_11 w_X7_22 f_8_3 (by decide) ?_
        refine zs_iload_n (pc := 14) C dX7_leftBitsOf_14 rfl ?_
        refine zs_iconst (pc := 15) C dX7_leftBitsOf_15 (by decide) ?_
        first | refine zs_imul (pc := 16) C dX7_leftBitsOf_16 (by omega) ?_ | refine zs_imulF (pc := 16) C dX7_leftBitsOf_16 (fun z16 hz161 hz162 => ?_)
        refine zs_iload_n (pc := 17) C dX7_leftBitsOf_17 rfl ?_
        first | refine zs_iadd (pc := 18) C dX7_leftBitsOf_18 (by omega) ?_ | refine zs_iaddF (pc := 18) C dX7_leftBitsOf_18 (fun z18 hz181 hz182 => ?_)
        refine zs_iald (r := 2049) (pc := 19) C dX7_leftBitsOf_19 a_49 (by decide) (by omega) rfl (r_2049 _) (fun v19 e19 l19 u19 => ?_)
        refine zs_if_le (tgt := 29) (pc := 20) C dX7_leftBitsOf_20 (by decide) (fun h20 => ?_) (fun h20 => ?_)
        · skip
          refine zs_iconst (pc := 29) C dX7_leftBitsOf_29 (by decide) ?_
          refine zs_iorF (pc := 30) C dX7_leftBitsOf_30 (fun z30 hz301 hz302 => ?_)
          refine zs_istore_n (pc := 31) C dX7_leftBitsOf_31 (by decide) ?_
          dsimp only [zset, zclr, znone]
          first | refine zs_iinc (pc := 32) C dX7_leftBitsOf_32 rfl (by decide) (by omega) ?_ | refine zs_iincF (pc := 32) C dX7_leftBitsOf_32 rfl (by decide) (fun z32 hz321 hz322 => ?_)
          dsimp only [zset, zclr, znone]
          refine zs_goto (tgt := 4) (pc := 35) C dX7_leftBitsOf_35 (by decide) ?_
          exact zs_wk (ih4 _ _ (by first | omega | (simp only [zuI_1, zuI_2, zuJ_1, zuJ_2, zuJ_3, zuP_1, zuP_2, zuP_3, zuC_1, zuC_2, reduceIte, Nat.reduceEqDiff, false_and, and_false, true_and, and_true, and_self, or_true, true_or, or_false, false_or]; omega)) (by first | omega | (simp only [zuI_1, zuI_2, zuJ_1, zuJ_2, zuJ_3, zuP_1, zuP_2, zuP_3, zuC_1, zuC_2, reduceIte, Nat.reduceEqDiff, false_and, and_false, true_and, and_true, and_self, or_true, true_or, or_false, false_or]; omega))) (zwk_s rfl (zwk_s rfl (zwk_s rfl (zwk_s rfl zwk_0))))
        · skip
          refine zs_iconst (pc := 23) C dX7_leftBitsOf_23 (by decide) ?_
          refine zs_iload_n (pc := 24) C dX7_leftBitsOf_24 rfl ?_
          refine zs_ishlF (pc := 25) C dX7_leftBitsOf_25 (fun z25 hz251 hz252 => ?_)
          refine zs_goto (tgt := 30) (pc := 26) C dX7_leftBitsOf_26 (by decide) ?_
          refine zs_iorF (pc := 30) C dX7_leftBitsOf_30 (fun z30 hz301 hz302 => ?_)
          refine zs_istore_n (pc := 31) C dX7_leftBitsOf_31 (by decide) ?_
          dsimp only [zset, zclr, znone]
          first | refine zs_iinc (pc := 32) C dX7_leftBitsOf_32 rfl (by decide) (by omega) ?_ | refine zs_iincF (pc := 32) C dX7_leftBitsOf_32 rfl (by decide) (fun z32 hz321 hz322 => ?_)
          dsimp only [zset, zclr, znone]
          refine zs_goto (tgt := 4) (pc := 35) C dX7_leftBitsOf_35 (by decide) ?_
          exact zs_wk (ih4 _ _ (by first | omega | (simp only [zuI_1, zuI_2, zuJ_1, zuJ_2, zuJ_3, zuP_1, zuP_2, zuP_3, zuC_1, zuC_2, reduceIte, Nat.reduceEqDiff, false_and, and_false, true_and, and_true, and_self, or_true, true_or, or_false, false_or]; omega)) (by first | omega | (simp only [zuI_1, zuI_2, zuJ_1, zuJ_2, zuJ_3, zuP_1, zuP_2, zuP_3, zuC_1, zuC_2, reduceIte, Nat.reduceEqDiff, false_and, and_false, true_and, and_true, and_self, or_true, true_or, or_false, false_or]; omega))) (zwk_s rfl (zwk_s rfl (zwk_s rfl (zwk_s rfl zwk_0))))
  exact zs_wk (L4 _ _ _ (by first | omega | (simp only [zuI_1, zuI_2, zuJ_1, zuJ_2, zuJ_3, zuP_1, zuP_2, zuP_3, zuC_1, zuC_2, reduceIte, Nat.reduceEqDiff, false_and, and_false, true_and, and_true, and_self, or_true, true_or, or_false, false_or]; omega)) (Nat.lt_succ_self _)) (zwk_s rfl (zwk_s rfl (zwk_s rfl (zwk_s rfl zwk_0))))

set_option maxHeartbeats 4000000 in
set_option maxRecDepth 100000 in
theorem c_X7_setNames {l : Launch} {Γ : zΓ} {G : zH} {w : Nat} {p0 s0 : Int} (hX : zXs Γ) (hp : 0 ≤ p0 ∧ p0 ≤ 4)(hs : 0 ≤ s0 ∧ s0 ≤ 3) : zMet l Γ yX7_setNames cX7_setNames 4 none 1 [zr 8 w, zi p0, zi s0] G (zpv (fun G' => zsm [] G G' ∧ True)) := by
  refine zMet_of RX7 hX (by decide) rfl (Nat.le_of_ble_eq_true rfl) ?_
  intro p e s m args below meth c C hr hlk
  show Z p l e (zrm 1) s m args below meth c Γ 4 0 0 (MQ below (zQc Γ (zpv (fun G' => zsm [] G G' ∧ True))) args s 0 0 (zA Γ)) 0 [some (zr 8 w), some (zi p0), some (zi s0), none] [] G
  refine zs_loc 1 rfl (fun ha1 hb1 => ?_)
  refine zs_loc 2 rfl (fun ha2 hb2 => ?_)
  refine zs_aload_n (pc := 0) C dX7_setNames_0 rfl ?_
  refine zs_iload_n (pc := 1) C dX7_setNames_1 rfl ?_
  refine zs_iload_n (pc := 2) C dX7_setNames_2 rfl ?_
  refine zVip2 (pc := 3) C dX7_setNames_3 v_X7_101 (c_X7_leftOf hX (by omega) (by omega)) (by decide) (by decide) ⟨Nat.zero_le _, Nat.zero_le _⟩ (Nat.le_of_ble_eq_true rfl) (fun x3 l3 u3 hp3 => ?_)
  have hq3 := hp3
  refine zs_if_le (tgt := 13) (pc := 6) C dX7_setNames_6 (by decide) (fun h6 => ?_) (fun h6 => ?_)
  · skip
    refine zs_iconst (pc := 13) C dX7_setNames_13 (by decide) ?_
    refine zs_istore_n (pc := 14) C dX7_setNames_14 (by decide) ?_
    dsimp only [zset, zclr, znone]
    refine zs_aload_n (pc := 15) C dX7_setNames_15 rfl ?_
    refine zs_getd (r := 800) (pc := 16) C dX7_setNames_16 w_X7_40 f_8_0 (by decide) rfl (fun v16 e16 t16 => ?_)
    subst e16
    refine zs_getf (pc := 19) C dX7_setNames_19 w_X7_105 f_6_0 (by decide) ?_
    refine zs_aload_n (pc := 22) C dX7_setNames_22 rfl ?_
    refine zs_getd (r := 800) (pc := 23) C dX7_setNames_23 w_X7_40 f_8_0 (by decide) rfl (fun v23 e23 t23 => ?_)
    subst e23
    refine zs_getf (pc := 26) C dX7_setNames_26 w_X7_98 f_6_3 (by decide) ?_
    refine zs_iload_n (pc := 29) C dX7_setNames_29 rfl ?_
    refine zs_iald (r := 2038) (pc := 30) C dX7_setNames_30 a_38 (by decide) (by omega) rfl (r_2038 _) (fun v30 e30 l30 u30 => ?_)
    refine zs_aload_n (pc := 31) C dX7_setNames_31 rfl ?_
    refine zs_getf (pc := 32) C dX7_setNames_32 w_X7_25 f_8_4 (by decide) ?_
    refine zs_iload_n (pc := 35) C dX7_setNames_35 rfl ?_
    refine zs_iald (r := 2050) (pc := 36) C dX7_setNames_36 a_50 (by decide) (by omega) rfl (r_2050 _) (fun v36 e36 l36 u36 => ?_)
    refine zs_aload_n (pc := 37) C dX7_setNames_37 rfl ?_
    refine zs_geti (r := 811) (pc := 38) C dX7_setNames_38 w_X7_79 f_8_11 rfl (r_811 0) (fun v38 e38 l38 u38 => ?_)
    refine zs_aload_n (pc := 41) C dX7_setNames_41 rfl ?_
    refine zs_iload_n (pc := 42) C dX7_setNames_42 rfl ?_
    refine zVip1 (pc := 43) C dX7_setNames_43 v_X7_109 (c_X7_prideOf hX (by omega)) (by decide) (by decide) ⟨Nat.zero_le _, Nat.zero_le _⟩ (Nat.le_of_ble_eq_true rfl) (fun x43 l43 u43 hp43 => ?_)
    have hq43 := hp43
    refine zs_iload_n (pc := 46) C dX7_setNames_46 rfl ?_
    refine zs_aload_n (pc := 47) C dX7_setNames_47 rfl ?_
    refine zs_getd (r := 800) (pc := 48) C dX7_setNames_48 w_X7_40 f_8_0 (by decide) rfl (fun v48 e48 t48 => ?_)
    subst e48
    refine zs_getf (pc := 51) C dX7_setNames_51 w_X7_113 f_6_4 (by decide) ?_
    refine zs_iload_n (pc := 54) C dX7_setNames_54 rfl ?_
    refine zs_iald (r := 2039) (pc := 55) C dX7_setNames_55 a_39 (by decide) (by omega) rfl (r_2039 _) (fun v55 e55 l55 u55 => ?_)
    refine zs_aload_n (pc := 56) C dX7_setNames_56 rfl ?_
    refine zs_geti (r := 809) (pc := 57) C dX7_setNames_57 w_X7_69 f_8_9 rfl (r_809 0) (fun v57 e57 l57 u57 => ?_)
    refine zVv7 (pc := 60) C dX7_setNames_60 v_X7_116 (c_X1_setNames hX ) (by decide) (by decide) ⟨Nat.zero_le _, Nat.zero_le _⟩ (Nat.le_of_ble_eq_true rfl) (fun G60 hp60 => ?_)
    obtain ⟨hz60, hq60⟩ := hp60
    exact zs_vret (pc := 63) C hr hlk dX7_setNames_63 ⟨by repeat (first | exact zsm_rf | assumption | refine zsm_C (by decide) ?_ | refine zsm_I (by decide) ?_ | refine zsm_J ?_ | refine zsm_c (by assumption) (by decide) ?_), trivial⟩
  · skip
    refine zs_iconst (pc := 9) C dX7_setNames_9 (by decide) ?_
    refine zs_goto (tgt := 14) (pc := 10) C dX7_setNames_10 (by decide) ?_
    refine zs_istore_n (pc := 14) C dX7_setNames_14 (by decide) ?_
    dsimp only [zset, zclr, znone]
    refine zs_aload_n (pc := 15) C dX7_setNames_15 rfl ?_
    refine zs_getd (r := 800) (pc := 16) C dX7_setNames_16 w_X7_40 f_8_0 (by decide) rfl (fun v16 e16 t16 => ?_)
    subst e16
    refine zs_getf (pc := 19) C dX7_setNames_19 w_X7_105 f_6_0 (by decide) ?_
    refine zs_aload_n (pc := 22) C dX7_setNames_22 rfl ?_
    refine zs_getd (r := 800) (pc := 23) C dX7_setNames_23 w_X7_40 f_8_0 (by decide) rfl (fun v23 e23 t23 => ?_)
    subst e23
    refine zs_getf (pc := 26) C dX7_setNames_26 w_X7_98 f_6_3 (by decide) ?_
    refine zs_iload_n (pc := 29) C dX7_setNames_29 rfl ?_
    refine zs_iald (r := 2038) (pc := 30) C dX7_setNames_30 a_38 (by decide) (by omega) rfl (r_2038 _) (fun v30 e30 l30 u30 => ?_)
    refine zs_aload_n (pc := 31) C dX7_setNames_31 rfl ?_
    refine zs_getf (pc := 32) C dX7_setNames_32 w_X7_25 f_8_4 (by decide) ?_
    refine zs_iload_n (pc := 35) C dX7_setNames_35 rfl ?_
    refine zs_iald (r := 2050) (pc := 36) C dX7_setNames_36 a_50 (by decide) (by omega) rfl (r_2050 _) (fun v36 e36 l36 u36 => ?_)
    refine zs_aload_n (pc := 37) C dX7_setNames_37 rfl ?_
    refine zs_geti (r := 811) (pc := 38) C dX7_setNames_38 w_X7_79 f_8_11 rfl (r_811 0) (fun v38 e38 l38 u38 => ?_)
    refine zs_aload_n (pc := 41) C dX7_setNames_41 rfl ?_
    refine zs_iload_n (pc := 42) C dX7_setNames_42 rfl ?_
    refine zVip1 (pc := 43) C dX7_setNames_43 v_X7_109 (c_X7_prideOf hX (by omega)) (by decide) (by decide) ⟨Nat.zero_le _, Nat.zero_le _⟩ (Nat.le_of_ble_eq_true rfl) (fun x43 l43 u43 hp43 => ?_)
    have hq43 := hp43
    refine zs_iload_n (pc := 46) C dX7_setNames_46 rfl ?_
    refine zs_aload_n (pc := 47) C dX7_setNames_47 rfl ?_
    refine zs_getd (r := 800) (pc := 48) C dX7_setNames_48 w_X7_40 f_8_0 (by decide) rfl (fun v48 e48 t48 => ?_)
    subst e48
    refine zs_getf (pc := 51) C dX7_setNames_51 w_X7_113 f_6_4 (by decide) ?_
    refine zs_iload_n (pc := 54) C dX7_setNames_54 rfl ?_
    refine zs_iald (r := 2039) (pc := 55) C dX7_setNames_55 a_39 (by decide) (by omega) rfl (r_2039 _) (fun v55 e55 l55 u55 => ?_)
    refine zs_aload_n (pc := 56) C dX7_setNames_56 rfl ?_
    refine zs_geti (r := 809) (pc := 57) C dX7_setNames_57 w_X7_69 f_8_9 rfl (r_809 0) (fun v57 e57 l57 u57 => ?_)
    refine zVv7 (pc := 60) C dX7_setNames_60 v_X7_116 (c_X1_setNames hX ) (by decide) (by decide) ⟨Nat.zero_le _, Nat.zero_le _⟩ (Nat.le_of_ble_eq_true rfl) (fun G60 hp60 => ?_)
    obtain ⟨hz60, hq60⟩ := hp60
    exact zs_vret (pc := 63) C hr hlk dX7_setNames_63 ⟨by repeat (first | exact zsm_rf | assumption | refine zsm_C (by decide) ?_ | refine zsm_I (by decide) ?_ | refine zsm_J ?_ | refine zsm_c (by assumption) (by decide) ?_), trivial⟩

set_option maxHeartbeats 4000000 in
set_option maxRecDepth 100000 in
theorem c_X7_valueOf {l : Launch} {Γ : zΓ} {G : zH} {w : Nat} {k p0 s0 : Int} (hX : zXs Γ) (hp : 0 ≤ p0 ∧ p0 ≤ 4)(hs : 0 ≤ s0 ∧ s0 ≤ 3) : zMet l Γ yX7_valueOf cX7_valueOf 4 (some .long) 2 [zr 8 w, zi k, zi p0, zi s0] G (zpj (fun x G' => zsm [] G G' ∧ True)) := by
  refine zMet_of RX7 hX (by decide) rfl (Nat.le_of_ble_eq_true rfl) ?_
  intro p e s m args below meth c C hr hlk
  show Z p l e (zrm 2) s m args below meth c Γ 4 0 0 (MQ below (zQc Γ (zpj (fun x G' => zsm [] G G' ∧ True))) args s 0 0 (zA Γ)) 0 [some (zr 8 w), some (zi k), some (zi p0), some (zi s0)] [] G
  refine zs_loc 1 rfl (fun ha1 hb1 => ?_)
  refine zs_loc 2 rfl (fun ha2 hb2 => ?_)
  refine zs_loc 3 rfl (fun ha3 hb3 => ?_)
  refine zs_aload_n (pc := 0) C dX7_valueOf_0 rfl ?_
  refine zs_iload_n (pc := 1) C dX7_valueOf_1 rfl ?_
  refine zs_iload_n (pc := 2) C dX7_valueOf_2 rfl ?_
  refine zVv2 (pc := 3) C dX7_valueOf_3 v_X7_122 (c_X7_setNames hX (by omega) (by omega)) (by decide) (by decide) ⟨Nat.zero_le _, Nat.zero_le _⟩ (Nat.le_of_ble_eq_true rfl) (fun G3 hp3 => ?_)
  obtain ⟨hz3, hq3⟩ := hp3
  refine zs_aload_n (pc := 6) C dX7_valueOf_6 rfl ?_
  refine zs_getd (r := 800) (pc := 7) C dX7_valueOf_7 w_X7_40 f_8_0 (by decide) rfl (fun v7 e7 t7 => ?_)
  try simp only [hz3.2, zuI_1, zuI_2, zuJ_1, zuJ_2, zuJ_3, zuP_1, zuP_2, zuP_3, zuC_1, zuC_2, reduceIte, Nat.reduceEqDiff, false_and, and_false, true_and, and_true, and_self, or_true, true_or, or_false, false_or] at e7
  subst e7
  refine zs_getf (pc := 10) C dX7_valueOf_10 w_X7_105 f_6_0 (by decide) ?_
  refine zs_iload_n (pc := 13) C dX7_valueOf_13 rfl ?_
  refine zVj1 (pc := 14) C dX7_valueOf_14 v_X7_125 (c_X1_value hX ) (by decide) (by decide) ⟨Nat.zero_le _, Nat.zero_le _⟩ (Nat.le_of_ble_eq_true rfl) (fun x14 G14 l14 u14 hp14 => ?_)
  obtain ⟨hz14, hq14⟩ := hp14
  exact zs_lret (pc := 17) C hr hlk dX7_valueOf_17 ⟨by repeat (first | exact zsm_rf | assumption | refine zsm_C (by decide) ?_ | refine zsm_I (by decide) ?_ | refine zsm_J ?_ | refine zsm_c (by assumption) (by decide) ?_), trivial⟩

set_option maxHeartbeats 4000000 in
set_option maxRecDepth 100000 in
theorem c_X7_pairValue {l : Launch} {Γ : zΓ} {G : zH} {w : Nat} {p0 s0 : Int} (hX : zXs Γ) (hp : 0 ≤ p0 ∧ p0 ≤ 4)(hs : 0 ≤ s0 ∧ s0 ≤ 4) : zMet l Γ yX7_pairValue cX7_pairValue 3 (some .long) 2 [zr 8 w, zi p0, zi s0] G (zpj (fun x G' => zsm [] G G' ∧ True)) := by
  refine zMet_of RX7 hX (by decide) rfl (Nat.le_of_ble_eq_true rfl) ?_
  intro p e s m args below meth c C hr hlk
  show Z p l e (zrm 2) s m args below meth c Γ 3 0 0 (MQ below (zQc Γ (zpj (fun x G' => zsm [] G G' ∧ True))) args s 0 0 (zA Γ)) 0 [some (zr 8 w), some (zi p0), some (zi s0)] [] G
  refine zs_loc 1 rfl (fun ha1 hb1 => ?_)
  refine zs_loc 2 rfl (fun ha2 hb2 => ?_)
  refine zs_aload_n (pc := 0) C dX7_pairValue_0 rfl ?_
  refine zs_getd (r := 800) (pc := 1) C dX7_pairValue_1 w_X7_40 f_8_0 (by decide) rfl (fun v1 e1 t1 => ?_)
  subst e1
  refine zs_getf (pc := 4) C dX7_pairValue_4 w_X7_105 f_6_0 (by decide) ?_
  refine zs_aload_n (pc := 7) C dX7_pairValue_7 rfl ?_
  refine zs_iload_n (pc := 8) C dX7_pairValue_8 rfl ?_
  refine zVip1 (pc := 9) C dX7_pairValue_9 v_X7_129 (c_X7_worthLeft hX (by omega)) (by decide) (by decide) ⟨Nat.zero_le _, Nat.zero_le _⟩ (Nat.le_of_ble_eq_true rfl) (fun x9 l9 u9 hp9 => ?_)
  have hq9 := hp9
  refine zs_aload_n (pc := 12) C dX7_pairValue_12 rfl ?_
  refine zs_iload_n (pc := 13) C dX7_pairValue_13 rfl ?_
  refine zVip1 (pc := 14) C dX7_pairValue_14 v_X7_129 (c_X7_worthLeft hX (by omega)) (by decide) (by decide) ⟨Nat.zero_le _, Nat.zero_le _⟩ (Nat.le_of_ble_eq_true rfl) (fun x14 l14 u14 hp14 => ?_)
  have hq14 := hp14
  refine zs_aload_n (pc := 17) C dX7_pairValue_17 rfl ?_
  refine zs_geti (r := 811) (pc := 18) C dX7_pairValue_18 w_X7_79 f_8_11 rfl (r_811 0) (fun v18 e18 l18 u18 => ?_)
  refine zs_aload_n (pc := 21) C dX7_pairValue_21 rfl ?_
  refine zs_iload_n (pc := 22) C dX7_pairValue_22 rfl ?_
  refine zVip1 (pc := 23) C dX7_pairValue_23 v_X7_109 (c_X7_prideOf hX (by omega)) (by decide) (by decide) ⟨Nat.zero_le _, Nat.zero_le _⟩ (Nat.le_of_ble_eq_true rfl) (fun x23 l23 u23 hp23 => ?_)
  have hq23 := hp23
  refine zs_iconst (pc := 26) C dX7_pairValue_26 (by decide) ?_
  refine zs_aload_n (pc := 27) C dX7_pairValue_27 rfl ?_
  refine zs_getd (r := 800) (pc := 28) C dX7_pairValue_28 w_X7_40 f_8_0 (by decide) rfl (fun v28 e28 t28 => ?_)
  subst e28
  refine zs_getf (pc := 31) C dX7_pairValue_31 w_X7_113 f_6_4 (by decide) ?_
  refine zs_iload_n (pc := 34) C dX7_pairValue_34 rfl ?_
  refine zs_iald (r := 2039) (pc := 35) C dX7_pairValue_35 a_39 (by decide) (by omega) rfl (r_2039 _) (fun v35 e35 l35 u35 => ?_)
  refine zs_aload_n (pc := 36) C dX7_pairValue_36 rfl ?_
  refine zs_geti (r := 809) (pc := 37) C dX7_pairValue_37 w_X7_69 f_8_9 rfl (r_809 0) (fun v37 e37 l37 u37 => ?_)
  refine zVv7 (pc := 40) C dX7_pairValue_40 v_X7_116 (c_X1_setNames hX ) (by decide) (by decide) ⟨Nat.zero_le _, Nat.zero_le _⟩ (Nat.le_of_ble_eq_true rfl) (fun G40 hp40 => ?_)
  obtain ⟨hz40, hq40⟩ := hp40
  refine zs_aload_n (pc := 43) C dX7_pairValue_43 rfl ?_
  refine zs_getd (r := 800) (pc := 44) C dX7_pairValue_44 w_X7_40 f_8_0 (by decide) rfl (fun v44 e44 t44 => ?_)
  try simp only [hz40.2, zuI_1, zuI_2, zuJ_1, zuJ_2, zuJ_3, zuP_1, zuP_2, zuP_3, zuC_1, zuC_2, reduceIte, Nat.reduceEqDiff, false_and, and_false, true_and, and_true, and_self, or_true, true_or, or_false, false_or] at e44
  subst e44
  refine zs_getf (pc := 47) C dX7_pairValue_47 w_X7_105 f_6_0 (by decide) ?_
  refine zs_iconst (pc := 50) C dX7_pairValue_50 (by decide) ?_
  refine zVj1 (pc := 51) C dX7_pairValue_51 v_X7_125 (c_X1_value hX ) (by decide) (by decide) ⟨Nat.zero_le _, Nat.zero_le _⟩ (Nat.le_of_ble_eq_true rfl) (fun x51 G51 l51 u51 hp51 => ?_)
  obtain ⟨hz51, hq51⟩ := hp51
  exact zs_lret (pc := 54) C hr hlk dX7_pairValue_54 ⟨by repeat (first | exact zsm_rf | assumption | refine zsm_C (by decide) ?_ | refine zsm_I (by decide) ?_ | refine zsm_J ?_ | refine zsm_c (by assumption) (by decide) ?_), trivial⟩

set_option maxHeartbeats 4000000 in
set_option maxRecDepth 100000 in
theorem c_X7_fineOf {l : Launch} {Γ : zΓ} {G : zH} {w : Nat} {p0 s0 : Int} (hX : zXs Γ) (hp : 0 ≤ p0 ∧ p0 ≤ 4)(hs : 0 ≤ s0 ∧ s0 ≤ 3) : zMet l Γ yX7_fineOf cX7_fineOf 3 (some .int) 3 [zr 8 w, zi p0, zi s0] G (zpi (fun x G' => zsm [] G G' ∧ True)) := by
  refine zMet_of RX7 hX (by decide) rfl (Nat.le_of_ble_eq_true rfl) ?_
  intro p e s m args below meth c C hr hlk
  show Z p l e (zrm 3) s m args below meth c Γ 3 0 0 (MQ below (zQc Γ (zpi (fun x G' => zsm [] G G' ∧ True))) args s 0 0 (zA Γ)) 0 [some (zr 8 w), some (zi p0), some (zi s0)] [] G
  refine zs_loc 1 rfl (fun ha1 hb1 => ?_)
  refine zs_loc 2 rfl (fun ha2 hb2 => ?_)
  refine zs_aload_n (pc := 0) C dX7_fineOf_0 rfl ?_
  refine zs_iload_n (pc := 1) C dX7_fineOf_1 rfl ?_
  refine zs_iload_n (pc := 2) C dX7_fineOf_2 rfl ?_
  refine zVv2 (pc := 3) C dX7_fineOf_3 v_X7_122 (c_X7_setNames hX (by omega) (by omega)) (by decide) (by decide) ⟨Nat.zero_le _, Nat.zero_le _⟩ (Nat.le_of_ble_eq_true rfl) (fun G3 hp3 => ?_)
  obtain ⟨hz3, hq3⟩ := hp3
  refine zs_aload_n (pc := 6) C dX7_fineOf_6 rfl ?_
  refine zs_getd (r := 800) (pc := 7) C dX7_fineOf_7 w_X7_40 f_8_0 (by decide) rfl (fun v7 e7 t7 => ?_)
  try simp only [hz3.2, zuI_1, zuI_2, zuJ_1, zuJ_2, zuJ_3, zuP_1, zuP_2, zuP_3, zuC_1, zuC_2, reduceIte, Nat.reduceEqDiff, false_and, and_false, true_and, and_true, and_self, or_true, true_or, or_false, false_or] at e7
  subst e7
  refine zs_iconst (pc := 10) C dX7_fineOf_10 (by decide) ?_
  refine zs_iload_n (pc := 11) C dX7_fineOf_11 rfl ?_
  refine zVi2 (pc := 12) C dX7_fineOf_12 v_X7_132 (c_X5_fineness hX (by omega)) (by decide) (by decide) ⟨Nat.zero_le _, Nat.zero_le _⟩ (Nat.le_of_ble_eq_true rfl) (fun x12 G12 l12 u12 hp12 => ?_)
  obtain ⟨hz12, hq12⟩ := hp12
  exact zs_iret (pc := 15) C hr hlk dX7_fineOf_15 ⟨by repeat (first | exact zsm_rf | assumption | refine zsm_C (by decide) ?_ | refine zsm_I (by decide) ?_ | refine zsm_J ?_ | refine zsm_c (by assumption) (by decide) ?_), trivial⟩

set_option maxHeartbeats 4000000 in
set_option maxRecDepth 100000 in
theorem c_X7_fineThen {l : Launch} {Γ : zΓ} {G : zH} {w : Nat} {a k s0 : Int} (hX : zXs Γ) (ha : 0 ≤ a ∧ a < 60)(hs : 0 ≤ s0 ∧ s0 ≤ 3) : zMet l Γ yX7_fineThen cX7_fineThen 4 (some .int) 3 [zr 8 w, zi a, zi k, zi s0] G (zpi (fun x G' => zsm [] G G' ∧ True)) := by
  refine zMet_of RX7 hX (by decide) rfl (Nat.le_of_ble_eq_true rfl) ?_
  intro p e s m args below meth c C hr hlk
  show Z p l e (zrm 3) s m args below meth c Γ 4 0 0 (MQ below (zQc Γ (zpi (fun x G' => zsm [] G G' ∧ True))) args s 0 0 (zA Γ)) 0 [some (zr 8 w), some (zi a), some (zi k), some (zi s0)] [] G
  refine zs_loc 1 rfl (fun ha1 hb1 => ?_)
  refine zs_loc 2 rfl (fun ha2 hb2 => ?_)
  refine zs_loc 3 rfl (fun ha3 hb3 => ?_)
  refine zs_aload_n (pc := 0) C dX7_fineThen_0 rfl ?_
  refine zs_getd (r := 800) (pc := 1) C dX7_fineThen_1 w_X7_40 f_8_0 (by decide) rfl (fun v1 e1 t1 => ?_)
  subst e1
  refine zs_getf (pc := 4) C dX7_fineThen_4 w_X7_105 f_6_0 (by decide) ?_
  refine zs_aload_n (pc := 7) C dX7_fineThen_7 rfl ?_
  refine zs_getd (r := 800) (pc := 8) C dX7_fineThen_8 w_X7_40 f_8_0 (by decide) rfl (fun v8 e8 t8 => ?_)
  subst e8
  refine zs_getf (pc := 11) C dX7_fineThen_11 w_X7_98 f_6_3 (by decide) ?_
  refine zs_iload_n (pc := 14) C dX7_fineThen_14 rfl ?_
  refine zs_iald (r := 2038) (pc := 15) C dX7_fineThen_15 a_38 (by decide) (by omega) rfl (r_2038 _) (fun v15 e15 l15 u15 => ?_)
  refine zs_aload_n (pc := 16) C dX7_fineThen_16 rfl ?_
  refine zs_getf (pc := 17) C dX7_fineThen_17 w_X7_12 f_8_1 (by decide) ?_
  refine zs_getf (pc := 20) C dX7_fineThen_20 w_X7_135 f_5_5 (by decide) ?_
  refine zs_iload_n (pc := 23) C dX7_fineThen_23 rfl ?_
  refine zs_iald (r := 2031) (pc := 24) C dX7_fineThen_24 a_31 (by decide) (by omega) rfl (r_2031 _) (fun v24 e24 l24 u24 => ?_)
  refine zs_aload_n (pc := 25) C dX7_fineThen_25 rfl ?_
  refine zs_getf (pc := 26) C dX7_fineThen_26 w_X7_12 f_8_1 (by decide) ?_
  refine zs_getf (pc := 29) C dX7_fineThen_29 w_X7_136 f_5_6 (by decide) ?_
  refine zs_iload_n (pc := 32) C dX7_fineThen_32 rfl ?_
  refine zs_iald (r := 2032) (pc := 33) C dX7_fineThen_33 a_32 (by decide) (by omega) rfl (r_2032 _) (fun v33 e33 l33 u33 => ?_)
  refine zs_aload_n (pc := 34) C dX7_fineThen_34 rfl ?_
  refine zs_getf (pc := 35) C dX7_fineThen_35 w_X7_12 f_8_1 (by decide) ?_
  refine zs_getf (pc := 38) C dX7_fineThen_38 w_X7_138 f_5_7 (by decide) ?_
  refine zs_iload_n (pc := 41) C dX7_fineThen_41 rfl ?_
  refine zs_iald (r := 2033) (pc := 42) C dX7_fineThen_42 a_33 (by decide) (by omega) rfl (r_2033 _) (fun v42 e42 l42 u42 => ?_)
  refine zs_aload_n (pc := 43) C dX7_fineThen_43 rfl ?_
  refine zs_getf (pc := 44) C dX7_fineThen_44 w_X7_12 f_8_1 (by decide) ?_
  refine zs_iload_n (pc := 47) C dX7_fineThen_47 rfl ?_
  refine zs_iload_n (pc := 48) C dX7_fineThen_48 rfl ?_
  refine zVip2 (pc := 49) C dX7_fineThen_49 v_X7_141 (c_X4_lieBy hX (by omega)) (by decide) (by decide) ⟨Nat.zero_le _, Nat.zero_le _⟩ (Nat.le_of_ble_eq_true rfl) (fun x49 l49 u49 hp49 => ?_)
  have hq49 := hp49
  refine zs_aload_n (pc := 52) C dX7_fineThen_52 rfl ?_
  refine zs_getd (r := 800) (pc := 53) C dX7_fineThen_53 w_X7_40 f_8_0 (by decide) rfl (fun v53 e53 t53 => ?_)
  subst e53
  refine zs_getf (pc := 56) C dX7_fineThen_56 w_X7_113 f_6_4 (by decide) ?_
  refine zs_aload_n (pc := 59) C dX7_fineThen_59 rfl ?_
  refine zs_getf (pc := 60) C dX7_fineThen_60 w_X7_12 f_8_1 (by decide) ?_
  refine zs_getf (pc := 63) C dX7_fineThen_63 w_X7_144 f_5_0 (by decide) ?_
  refine zs_iload_n (pc := 66) C dX7_fineThen_66 rfl ?_
  refine zs_iald (r := 2026) (pc := 67) C dX7_fineThen_67 a_26 (by decide) (by omega) rfl (r_2026 _) (fun v67 e67 l67 u67 => ?_)
  refine zs_iald (r := 2039) (pc := 68) C dX7_fineThen_68 a_39 (by decide) (by omega) rfl (r_2039 _) (fun v68 e68 l68 u68 => ?_)
  refine zs_aload_n (pc := 69) C dX7_fineThen_69 rfl ?_
  refine zs_getf (pc := 70) C dX7_fineThen_70 w_X7_12 f_8_1 (by decide) ?_
  refine zs_getf (pc := 73) C dX7_fineThen_73 w_X7_147 f_5_8 (by decide) ?_
  refine zs_iload_n (pc := 76) C dX7_fineThen_76 rfl ?_
  refine zs_iald (r := 2034) (pc := 77) C dX7_fineThen_77 a_34 (by decide) (by omega) rfl (r_2034 _) (fun v77 e77 l77 u77 => ?_)
  refine zVv7 (pc := 78) C dX7_fineThen_78 v_X7_116 (c_X1_setNames hX ) (by decide) (by decide) ⟨Nat.zero_le _, Nat.zero_le _⟩ (Nat.le_of_ble_eq_true rfl) (fun G78 hp78 => ?_)
  obtain ⟨hz78, hq78⟩ := hp78
  refine zs_aload_n (pc := 81) C dX7_fineThen_81 rfl ?_
  refine zs_getd (r := 800) (pc := 82) C dX7_fineThen_82 w_X7_40 f_8_0 (by decide) rfl (fun v82 e82 t82 => ?_)
  try simp only [hz78.2, zuI_1, zuI_2, zuJ_1, zuJ_2, zuJ_3, zuP_1, zuP_2, zuP_3, zuC_1, zuC_2, reduceIte, Nat.reduceEqDiff, false_and, and_false, true_and, and_true, and_self, or_true, true_or, or_false, false_or] at e82
  subst e82
  refine zs_iload_n (pc := 85) C dX7_fineThen_85 rfl ?_
  refine zs_iload_n (pc := 86) C dX7_fineThen_86 rfl ?_
  refine zVi2 (pc := 87) C dX7_fineThen_87 v_X7_132 (c_X5_fineness hX (by omega)) (by decide) (by decide) ⟨Nat.zero_le _, Nat.zero_le _⟩ (Nat.le_of_ble_eq_true rfl) (fun x87 G87 l87 u87 hp87 => ?_)
  obtain ⟨hz87, hq87⟩ := hp87
  exact zs_iret (pc := 90) C hr hlk dX7_fineThen_90 ⟨by repeat (first | exact zsm_rf | assumption | refine zsm_C (by decide) ?_ | refine zsm_I (by decide) ?_ | refine zsm_J ?_ | refine zsm_c (by assumption) (by decide) ?_), trivial⟩

set_option maxHeartbeats 4000000 in
set_option maxRecDepth 100000 in
theorem c_X7_isFitting {l : Launch} {Γ : zΓ} {G : zH} {w : Nat} {k : Int} (hX : zXs Γ)  : zMet l Γ yX7_isFitting cX7_isFitting 4 (some .boolean) 4 [zr 8 w, zi k] G (zpi (fun x G' => zsm [] G G' ∧ True)) := by
  refine zMet_of RX7 hX (by decide) rfl (Nat.le_of_ble_eq_true rfl) ?_
  intro p e s m args below meth c C hr hlk
  show Z p l e (zrm 4) s m args below meth c Γ 4 0 0 (MQ below (zQc Γ (zpi (fun x G' => zsm [] G G' ∧ True))) args s 0 0 (zA Γ)) 0 [some (zr 8 w), some (zi k), none, none] [] G
  refine zs_loc 1 rfl (fun ha1 hb1 => ?_)
  refine zs_aload_n (pc := 0) C dX7_isFitting_0 rfl ?_
  refine zs_geti (r := 813) (pc := 1) C dX7_isFitting_1 w_X7_88 f_8_13 rfl (r_813 0) (fun v1 e1 l1 u1 => ?_)
  refine zs_iconst (pc := 4) C dX7_isFitting_4 (by decide) ?_
  refine zs_icmp_ne (tgt := 18) (pc := 5) C dX7_isFitting_5 (by decide) (fun h5 => ?_) (fun h5 => ?_)
  · skip
    refine zs_aload_n (pc := 18) C dX7_isFitting_18 rfl ?_
    refine zs_geti (r := 813) (pc := 19) C dX7_isFitting_19 w_X7_88 f_8_13 rfl (r_813 0) (fun v19 e19 l19 u19 => ?_)
    refine zs_aload_n (pc := 22) C dX7_isFitting_22 rfl ?_
    refine zs_getf (pc := 23) C dX7_isFitting_23 w_X7_12 f_8_1 (by decide) ?_
    refine zs_geti (r := 510) (pc := 26) C dX7_isFitting_26 w_X7_48 f_5_10 rfl (r_510 0) (fun v26 e26 l26 u26 => ?_)
    refine zs_minI (pc := 29) C dX7_isFitting_29 s_X7_149 (by decide) (Nat.le_of_ble_eq_true rfl) ⟨Nat.zero_le _, Nat.zero_le _⟩ (fun z29 hz29 => ?_)
    refine zs_istore_n (pc := 32) C dX7_isFitting_32 (by decide) ?_
    dsimp only [zset, zclr, znone]
    refine zs_iconst (pc := 33) C dX7_isFitting_33 (by decide) ?_
    refine zs_istore_n (pc := 34) C dX7_isFitting_34 (by decide) ?_
    dsimp only [zset, zclr, znone]
    have L35 : ∀ (nn : Nat) (x2 x3 : Int) (G1 : zH), (x2 ≤ 60) → (0 ≤ x3 ∧ x3 ≤ 60) → (zsm [] G G1) → (60 - x3).toNat < nn → Z p l e (zrm 4) s m args below meth c Γ 4 0 0 (MQ below (zQc Γ (zpi (fun x G' => zsm [] G G' ∧ True))) args s 0 0 (zA Γ)) 35 [some (zr 8 w), some (zi k), some (zi x2), some (zi x3)] [] G1 := by
      intro nn
      induction nn with
      | zero => intro x2 x3 G1 h35_0 h35_1 h35_2 hm; exact absurd hm (Nat.not_lt_zero _)
      | succ nn ih35 =>
        intro x2 x3 G1 h35_0 h35_1 h35_2 hm35
        refine zs_iload_n (pc := 35) C dX7_isFitting_35 rfl ?_
        refine zs_iload_n (pc := 36) C dX7_isFitting_36 rfl ?_
        refine zs_icmp_ge (tgt := 75) (pc := 37) C dX7_isFitting_37 (by decide) (fun h37 => ?_) (fun h37 => ?_)
        · skip
          refine zs_iconst (pc := 75) C dX7_isFitting_75 (by decide) ?_
          exact zs_zret (pc := 76) C hr hlk dX7_isFitting_76 (by omega) ⟨by repeat (first | exact zsm_rf | assumption | refine zsm_C (by decide) ?_ | refine zsm_I (by decide) ?_ | refine zsm_J ?_ | refine zsm_c (by assumption) (by decide) ?_), trivial⟩
        · skip
          refine zs_aload_n (pc := 40) C dX7_isFitting_40 rfl ?_
          refine zs_iload_n (pc := 41) C dX7_isFitting_41 rfl ?_
          refine zs_iload_n (pc := 42) C dX7_isFitting_42 rfl ?_
          refine zs_aload_n (pc := 43) C dX7_isFitting_43 rfl ?_
          refine zs_getf (pc := 44) C dX7_isFitting_44 w_X7_12 f_8_1 (by decide) ?_
          refine zs_getf (pc := 47) C dX7_isFitting_47 w_X7_154 f_5_1 (by decide) ?_
          refine zs_iload_n (pc := 50) C dX7_isFitting_50 rfl ?_
          refine zs_iald (r := 2027) (pc := 51) C dX7_isFitting_51 a_27 (by decide) (by omega) rfl (r_2027 _) (fun v51 e51 l51 u51 => ?_)
          refine zVi3 (pc := 52) C dX7_isFitting_52 v_X7_157 (c_X7_fineThen hX (by omega) (by omega)) (by decide) (by decide) ⟨Nat.zero_le _, Nat.zero_le _⟩ (Nat.le_of_ble_eq_true rfl) (fun x52 G52 l52 u52 hp52 => ?_)
          obtain ⟨hz52, hq52⟩ := hp52
          refine zs_aload_n (pc := 55) C dX7_isFitting_55 rfl ?_
          refine zs_getf (pc := 56) C dX7_isFitting_56 w_X7_12 f_8_1 (by decide) ?_
          refine zs_getf (pc := 59) C dX7_isFitting_59 w_X7_161 f_5_2 (by decide) ?_
          refine zs_iload_n (pc := 62) C dX7_isFitting_62 rfl ?_
          refine zs_iald (r := 2028) (pc := 63) C dX7_isFitting_63 a_28 (by decide) (by omega) rfl (r_2028 _) (fun v63 e63 l63 u63 => ?_)
          refine zs_icmp_eq (tgt := 69) (pc := 64) C dX7_isFitting_64 (by decide) (fun h64 => ?_) (fun h64 => ?_)
          · skip
            first | refine zs_iinc (pc := 69) C dX7_isFitting_69 rfl (by decide) (by omega) ?_ | refine zs_iincF (pc := 69) C dX7_isFitting_69 rfl (by decide) (fun z69 hz691 hz692 => ?_)
            dsimp only [zset, zclr, znone]
            refine zs_goto (tgt := 35) (pc := 72) C dX7_isFitting_72 (by decide) ?_
            exact zs_wk (ih35 _ _ _ (by first | omega | (simp only [zuI_1, zuI_2, zuJ_1, zuJ_2, zuJ_3, zuP_1, zuP_2, zuP_3, zuC_1, zuC_2, reduceIte, Nat.reduceEqDiff, false_and, and_false, true_and, and_true, and_self, or_true, true_or, or_false, false_or]; omega)) (by first | omega | (simp only [zuI_1, zuI_2, zuJ_1, zuJ_2, zuJ_3, zuP_1, zuP_2, zuP_3, zuC_1, zuC_2, reduceIte, Nat.reduceEqDiff, false_and, and_false, true_and, and_true, and_self, or_true, true_or, or_false, false_or]; omega)) (by repeat (first | exact zsm_rf | assumption | refine zsm_C (by decide) ?_ | refine zsm_I (by decide) ?_ | refine zsm_J ?_ | refine zsm_c (by assumption) (by decide) ?_)) (by first | omega | (simp only [zuI_1, zuI_2, zuJ_1, zuJ_2, zuJ_3, zuP_1, zuP_2, zuP_3, zuC_1, zuC_2, reduceIte, Nat.reduceEqDiff, false_and, and_false, true_and, and_true, and_self, or_true, true_or, or_false, false_or]; omega))) (zwk_s rfl (zwk_s rfl (zwk_s rfl (zwk_s rfl zwk_0))))
          · skip
            refine zs_iconst (pc := 67) C dX7_isFitting_67 (by decide) ?_
            exact zs_zret (pc := 68) C hr hlk dX7_isFitting_68 (by omega) ⟨by repeat (first | exact zsm_rf | assumption | refine zsm_C (by decide) ?_ | refine zsm_I (by decide) ?_ | refine zsm_J ?_ | refine zsm_c (by assumption) (by decide) ?_), trivial⟩
    exact zs_wk (L35 _ _ _ _ (by first | omega | (simp only [zuI_1, zuI_2, zuJ_1, zuJ_2, zuJ_3, zuP_1, zuP_2, zuP_3, zuC_1, zuC_2, reduceIte, Nat.reduceEqDiff, false_and, and_false, true_and, and_true, and_self, or_true, true_or, or_false, false_or]; omega)) (by first | omega | (simp only [zuI_1, zuI_2, zuJ_1, zuJ_2, zuJ_3, zuP_1, zuP_2, zuP_3, zuC_1, zuC_2, reduceIte, Nat.reduceEqDiff, false_and, and_false, true_and, and_true, and_self, or_true, true_or, or_false, false_or]; omega)) (by repeat (first | exact zsm_rf | assumption | refine zsm_C (by decide) ?_ | refine zsm_I (by decide) ?_ | refine zsm_J ?_ | refine zsm_c (by assumption) (by decide) ?_)) (Nat.lt_succ_self _)) (zwk_s rfl (zwk_s rfl (zwk_s rfl (zwk_s rfl zwk_0))))
  · skip
    refine zs_aload_n (pc := 8) C dX7_isFitting_8 rfl ?_
    refine zs_getf (pc := 9) C dX7_isFitting_9 w_X7_12 f_8_1 (by decide) ?_
    refine zs_geti (r := 510) (pc := 12) C dX7_isFitting_12 w_X7_48 f_5_10 rfl (r_510 0) (fun v12 e12 l12 u12 => ?_)
    refine zs_goto (tgt := 32) (pc := 15) C dX7_isFitting_15 (by decide) ?_
    refine zs_istore_n (pc := 32) C dX7_isFitting_32 (by decide) ?_
    dsimp only [zset, zclr, znone]
    refine zs_iconst (pc := 33) C dX7_isFitting_33 (by decide) ?_
    refine zs_istore_n (pc := 34) C dX7_isFitting_34 (by decide) ?_
    dsimp only [zset, zclr, znone]
    have L35 : ∀ (nn : Nat) (x2 x3 : Int) (G1 : zH), (x2 ≤ 60) → (0 ≤ x3 ∧ x3 ≤ 60) → (zsm [] G G1) → (60 - x3).toNat < nn → Z p l e (zrm 4) s m args below meth c Γ 4 0 0 (MQ below (zQc Γ (zpi (fun x G' => zsm [] G G' ∧ True))) args s 0 0 (zA Γ)) 35 [some (zr 8 w), some (zi k), some (zi x2), some (zi x3)] [] G1 := by
      intro nn
      induction nn with
      | zero => intro x2 x3 G1 h35_0 h35_1 h35_2 hm; exact absurd hm (Nat.not_lt_zero _)
      | succ nn ih35 =>
        intro x2 x3 G1 h35_0 h35_1 h35_2 hm35
        refine zs_iload_n (pc := 35) C dX7_isFitting_35 rfl ?_
        refine zs_iload_n (pc := 36) C dX7_isFitting_36 rfl ?_
        refine zs_icmp_ge (tgt := 75) (pc := 37) C dX7_isFitting_37 (by decide) (fun h37 => ?_) (fun h37 => ?_)
        · skip
          refine zs_iconst (pc := 75) C dX7_isFitting_75 (by decide) ?_
          exact zs_zret (pc := 76) C hr hlk dX7_isFitting_76 (by omega) ⟨by repeat (first | exact zsm_rf | assumption | refine zsm_C (by decide) ?_ | refine zsm_I (by decide) ?_ | refine zsm_J ?_ | refine zsm_c (by assumption) (by decide) ?_), trivial⟩
        · skip
          refine zs_aload_n (pc := 40) C dX7_isFitting_40 rfl ?_
          refine zs_iload_n (pc := 41) C dX7_isFitting_41 rfl ?_
          refine zs_iload_n (pc := 42) C dX7_isFitting_42 rfl ?_
          refine zs_aload_n (pc := 43) C dX7_isFitting_43 rfl ?_
          refine zs_getf (pc := 44) C dX7_isFitting_44 w_X7_12 f_8_1 (by decide) ?_
          refine zs_getf (pc := 47) C dX7_isFitting_47 w_X7_154 f_5_1 (by decide) ?_
          refine zs_iload_n (pc := 50) C dX7_isFitting_50 rfl ?_
          refine zs_iald (r := 2027) (pc := 51) C dX7_isFitting_51 a_27 (by decide) (by omega) rfl (r_2027 _) (fun v51 e51 l51 u51 => ?_)
          refine zVi3 (pc := 52) C dX7_isFitting_52 v_X7_157 (c_X7_fineThen hX (by omega) (by omega)) (by decide) (by decide) ⟨Nat.zero_le _, Nat.zero_le _⟩ (Nat.le_of_ble_eq_true rfl) (fun x52 G52 l52 u52 hp52 => ?_)
          obtain ⟨hz52, hq52⟩ := hp52
          refine zs_aload_n (pc := 55) C dX7_isFitting_55 rfl ?_
          refine zs_getf (pc := 56) C dX7_isFitting_56 w_X7_12 f_8_1 (by decide) ?_
          refine zs_getf (pc := 59) C dX7_isFitting_59 w_X7_161 f_5_2 (by decide) ?_
          refine zs_iload_n (pc := 62) C dX7_isFitting_62 rfl ?_
          refine zs_iald (r := 2028) (pc := 63) C dX7_isFitting_63 a_28 (by decide) (by omega) rfl (r_2028 _) (fun v63 e63 l63 u63 => ?_)
          refine zs_icmp_eq (tgt := 69) (pc := 64) C dX7_isFitting_64 (by decide) (fun h64 => ?_) (fun h64 => ?_)
          · skip
            first | refine zs_iinc (pc := 69) C dX7_isFitting_69 rfl (by decide) (by omega) ?_ | refine zs_iincF (pc := 69) C dX7_isFitting_69 rfl (by decide) (fun z69 hz691 hz692 => ?_)
            dsimp only [zset, zclr, znone]
            refine zs_goto (tgt := 35) (pc := 72) C dX7_isFitting_72 (by decide) ?_
            exact zs_wk (ih35 _ _ _ (by first | omega | (simp only [zuI_1, zuI_2, zuJ_1, zuJ_2, zuJ_3, zuP_1, zuP_2, zuP_3, zuC_1, zuC_2, reduceIte, Nat.reduceEqDiff, false_and, and_false, true_and, and_true, and_self, or_true, true_or, or_false, false_or]; omega)) (by first | omega | (simp only [zuI_1, zuI_2, zuJ_1, zuJ_2, zuJ_3, zuP_1, zuP_2, zuP_3, zuC_1, zuC_2, reduceIte, Nat.reduceEqDiff, false_and, and_false, true_and, and_true, and_self, or_true, true_or, or_false, false_or]; omega)) (by repeat (first | exact zsm_rf | assumption | refine zsm_C (by decide) ?_ | refine zsm_I (by decide) ?_ | refine zsm_J ?_ | refine zsm_c (by assumption) (by decide) ?_)) (by first | omega | (simp only [zuI_1, zuI_2, zuJ_1, zuJ_2, zuJ_3, zuP_1, zuP_2, zuP_3, zuC_1, zuC_2, reduceIte, Nat.reduceEqDiff, false_and, and_false, true_and, and_true, and_self, or_true, true_or, or_false, false_or]; omega))) (zwk_s rfl (zwk_s rfl (zwk_s rfl (zwk_s rfl zwk_0))))
          · skip
            refine zs_iconst (pc := 67) C dX7_isFitting_67 (by decide) ?_
            exact zs_zret (pc := 68) C hr hlk dX7_isFitting_68 (by omega) ⟨by repeat (first | exact zsm_rf | assumption | refine zsm_C (by decide) ?_ | refine zsm_I (by decide) ?_ | refine zsm_J ?_ | refine zsm_c (by assumption) (by decide) ?_), trivial⟩
    exact zs_wk (L35 _ _ _ _ (by first | omega | (simp only [zuI_1, zuI_2, zuJ_1, zuJ_2, zuJ_3, zuP_1, zuP_2, zuP_3, zuC_1, zuC_2, reduceIte, Nat.reduceEqDiff, false_and, and_false, true_and, and_true, and_self, or_true, true_or, or_false, false_or]; omega)) (by first | omega | (simp only [zuI_1, zuI_2, zuJ_1, zuJ_2, zuJ_3, zuP_1, zuP_2, zuP_3, zuC_1, zuC_2, reduceIte, Nat.reduceEqDiff, false_and, and_false, true_and, and_true, and_self, or_true, true_or, or_false, false_or]; omega)) (by repeat (first | exact zsm_rf | assumption | refine zsm_C (by decide) ?_ | refine zsm_I (by decide) ?_ | refine zsm_J ?_ | refine zsm_c (by assumption) (by decide) ?_)) (Nat.lt_succ_self _)) (zwk_s rfl (zwk_s rfl (zwk_s rfl (zwk_s rfl zwk_0))))

set_option maxHeartbeats 4000000 in
set_option maxRecDepth 100000 in
theorem c_X7_canGrind {l : Launch} {Γ : zΓ} {G : zH} {w : Nat}  (hX : zXs Γ)  : zMet l Γ yX7_canGrind cX7_canGrind 1 (some .boolean) 1 [zr 8 w] G (zpi (fun x G' => G' = G ∧ ((x = 0 ∨ x = 1) ∧ (x = 1 → G.1 510 (Γ.2.1 w 1) 0 ≤ 59)))) := by
  refine zMet_of RX7 hX (by decide) rfl (Nat.le_of_ble_eq_true rfl) ?_
  intro p e s m args below meth c C hr hlk
  show Z p l e (zrm 1) s m args below meth c Γ 1 0 0 (MQ below (zQc Γ (zpi (fun x G' => G' = G ∧ ((x = 0 ∨ x = 1) ∧ (x = 1 → G.1 510 (Γ.2.1 w 1) 0 ≤ 59))))) args s 0 0 (zA Γ)) 0 [some (zr 8 w)] [] G
  refine zs_aload_n (pc := 0) C dX7_canGrind_0 rfl ?_
  refine zs_geti (r := 810) (pc := 1) C dX7_canGrind_1 w_X7_75 f_8_10 rfl (r_810 0) (fun v1 e1 l1 u1 => ?_)
  refine zs_if_le (tgt := 21) (pc := 4) C dX7_canGrind_4 (by decide) (fun h4 => ?_) (fun h4 => ?_)
  · skip
    refine zs_iconst (pc := 21) C dX7_canGrind_21 (by decide) ?_
    exact zs_zret (pc := 22) C hr hlk dX7_canGrind_22 (by omega) ⟨rfl, by first | omega | (simp only [zuI_1, zuI_2, zuJ_1, zuJ_2, zuJ_3, zuP_1, zuP_2, zuP_3, zuC_1, zuC_2, reduceIte, Nat.reduceEqDiff, false_and, and_false, true_and, and_true, and_self, or_true, true_or, or_false, false_or]; omega)⟩
  · skip
    refine zs_aload_n (pc := 7) C dX7_canGrind_7 rfl ?_
    refine zs_getf (pc := 8) C dX7_canGrind_8 w_X7_12 f_8_1 (by decide) ?_
    refine zVip0 (pc := 11) C dX7_canGrind_11 v_X7_164 (c_X4_isFull hX ) (by decide) (by decide) ⟨Nat.zero_le _, Nat.zero_le _⟩ (Nat.le_of_ble_eq_true rfl) (fun x11 l11 u11 hp11 => ?_)
    have hq11 := hp11
    refine zs_if_ne (tgt := 21) (pc := 14) C dX7_canGrind_14 (by decide) (fun h14 => ?_) (fun h14 => ?_)
    · skip
      refine zs_iconst (pc := 21) C dX7_canGrind_21 (by decide) ?_
      exact zs_zret (pc := 22) C hr hlk dX7_canGrind_22 (by omega) ⟨rfl, by first | omega | (simp only [zuI_1, zuI_2, zuJ_1, zuJ_2, zuJ_3, zuP_1, zuP_2, zuP_3, zuC_1, zuC_2, reduceIte, Nat.reduceEqDiff, false_and, and_false, true_and, and_true, and_self, or_true, true_or, or_false, false_or]; omega)⟩
    · skip
      refine zs_iconst (pc := 17) C dX7_canGrind_17 (by decide) ?_
      refine zs_goto (tgt := 22) (pc := 18) C dX7_canGrind_18 (by decide) ?_
      exact zs_zret (pc := 22) C hr hlk dX7_canGrind_22 (by omega) ⟨rfl, by first | omega | (simp only [zuI_1, zuI_2, zuJ_1, zuJ_2, zuJ_3, zuP_1, zuP_2, zuP_3, zuC_1, zuC_2, reduceIte, Nat.reduceEqDiff, false_and, and_false, true_and, and_true, and_self, or_true, true_or, or_false, false_or]; omega)⟩

set_option maxHeartbeats 4000000 in
set_option maxRecDepth 100000 in
theorem c_X7_portion {l : Launch} {Γ : zΓ} {G : zH} {w : Nat}  (hX : zXs Γ)  : zMet l Γ yX7_portion cX7_portion 1 (some .int) 1 [zr 8 w] G (zpi (fun x G' => G' = G ∧ True)) := by
  refine zMet_of RX7 hX (by decide) rfl (Nat.le_of_ble_eq_true rfl) ?_
  intro p e s m args below meth c C hr hlk
  show Z p l e (zrm 1) s m args below meth c Γ 1 0 0 (MQ below (zQc Γ (zpi (fun x G' => G' = G ∧ True))) args s 0 0 (zA Γ)) 0 [some (zr 8 w)] [] G
  refine zs_aload_n (pc := 0) C dX7_portion_0 rfl ?_
  refine zs_getd (r := 800) (pc := 1) C dX7_portion_1 w_X7_40 f_8_0 (by decide) rfl (fun v1 e1 t1 => ?_)
  subst e1
  refine zs_geti (r := 610) (pc := 4) C dX7_portion_4 w_X7_168 f_6_10 rfl (r_610 0) (fun v4 e4 l4 u4 => ?_)
  refine zs_aload_n (pc := 7) C dX7_portion_7 rfl ?_
  refine zs_geti (r := 810) (pc := 8) C dX7_portion_8 w_X7_75 f_8_10 rfl (r_810 0) (fun v8 e8 l8 u8 => ?_)
  refine zs_minI (pc := 11) C dX7_portion_11 s_X7_149 (by decide) (Nat.le_of_ble_eq_true rfl) ⟨Nat.zero_le _, Nat.zero_le _⟩ (fun z11 hz11 => ?_)
  exact zs_iret (pc := 14) C hr hlk dX7_portion_14 ⟨rfl, trivial⟩

set_option maxHeartbeats 4000000 in
set_option maxRecDepth 100000 in
theorem c_X7_wearHere {l : Launch} {Γ : zΓ} {G : zH} {w : Nat}  (hX : zXs Γ)  : zMet l Γ yX7_wearHere cX7_wearHere 3 (some .int) 2 [zr 8 w] G (zpi (fun x G' => zsm [] G G' ∧ True)) := by
  refine zMet_of RX7 hX (by decide) rfl (Nat.le_of_ble_eq_true rfl) ?_
  intro p e s m args below meth c C hr hlk
  show Z p l e (zrm 2) s m args below meth c Γ 3 0 0 (MQ below (zQc Γ (zpi (fun x G' => zsm [] G G' ∧ True))) args s 0 0 (zA Γ)) 0 [some (zr 8 w), none, none] [] G
  refine zs_aload_n (pc := 0) C dX7_wearHere_0 rfl ?_
  refine zs_getd (r := 800) (pc := 1) C dX7_wearHere_1 w_X7_40 f_8_0 (by decide) rfl (fun v1 e1 t1 => ?_)
  subst e1
  refine zs_getf (pc := 4) C dX7_wearHere_4 w_X7_105 f_6_0 (by decide) ?_
  refine zs_iconst (pc := 7) C dX7_wearHere_7 (by decide) ?_
  refine zVj1 (pc := 8) C dX7_wearHere_8 v_X7_125 (c_X1_value hX ) (by decide) (by decide) ⟨Nat.zero_le _, Nat.zero_le _⟩ (Nat.le_of_ble_eq_true rfl) (fun x8 G8 l8 u8 hp8 => ?_)
  obtain ⟨hz8, hq8⟩ := hp8
  refine zs_lstore_n (pc := 11) C dX7_wearHere_11 (by decide) ?_
  dsimp only [zset, zclr, znone]
  refine zs_lload_n (pc := 12) C dX7_wearHere_12 rfl ?_
  refine zs_ldc2 (n := -9223372036854775808) (pc := 13) C dX7_wearHere_13 q_X7_194 (by decide) (by decide) ?_
  refine zs_lcmp (pc := 16) C dX7_wearHere_16 (fun z16 hz16 => ?_)
  refine zs_if_ne (tgt := 24) (pc := 17) C dX7_wearHere_17 (by decide) (fun h17 => ?_) (fun h17 => ?_)
  · skip
    refine zs_lconst (n := 0) (pc := 24) C dX7_wearHere_24 rfl (by decide) ?_
    refine zs_ldc2 (n := 99) (pc := 25) C dX7_wearHere_25 q_X7_196 (by decide) (by decide) ?_
    refine zs_lload_n (pc := 28) C dX7_wearHere_28 rfl ?_
    refine zs_minL (pc := 29) C dX7_wearHere_29 s_X7_198 (by decide) (Nat.le_of_ble_eq_true rfl) ⟨Nat.zero_le _, Nat.zero_le _⟩ (fun z29 hz29 => ?_)
    refine zs_maxL (pc := 32) C dX7_wearHere_32 s_X7_201 (by decide) (Nat.le_of_ble_eq_true rfl) ⟨Nat.zero_le _, Nat.zero_le _⟩ (fun z32 hz32 => ?_)
    first | refine zs_l2i (pc := 35) C dX7_wearHere_35 (by omega) ?_ | refine zs_l2iF (pc := 35) C dX7_wearHere_35 (fun z35 hz351 hz352 => ?_)
    exact zs_iret (pc := 36) C hr hlk dX7_wearHere_36 ⟨by repeat (first | exact zsm_rf | assumption | refine zsm_C (by decide) ?_ | refine zsm_I (by decide) ?_ | refine zsm_J ?_ | refine zsm_c (by assumption) (by decide) ?_), trivial⟩
  · skip
    refine zs_iconst (pc := 20) C dX7_wearHere_20 (by decide) ?_
    refine zs_goto (tgt := 36) (pc := 21) C dX7_wearHere_21 (by decide) ?_
    exact zs_iret (pc := 36) C hr hlk dX7_wearHere_36 ⟨by repeat (first | exact zsm_rf | assumption | refine zsm_C (by decide) ?_ | refine zsm_I (by decide) ?_ | refine zsm_J ?_ | refine zsm_c (by assumption) (by decide) ?_), trivial⟩

set_option maxHeartbeats 4000000 in
set_option maxRecDepth 100000 in
theorem c_X7_grindOne {l : Launch} {Γ : zΓ} {G : zH} {w : Nat} {p0 s0 k : Int} (hX : zXs Γ) (hp : 0 ≤ p0 ∧ p0 ≤ 4)(hs : 0 ≤ s0 ∧ s0 ≤ 3) : zMet l Γ yX7_grindOne cX7_grindOne 5 none 3 [zr 8 w, zi p0, zi s0, zi k] G (zpv (fun G' => zsm [510, 2026, 2027, 2028, 2029, 2030, 2031, 2032, 2033, 2034, 2035, 810, 811, 2049, 2050, 2051] G G' ∧ True)) := by
  refine zMet_of RX7 hX (by decide) rfl (Nat.le_of_ble_eq_true rfl) ?_
  intro p e s m args below meth c C hr hlk
  show Z p l e (zrm 3) s m args below meth c Γ 5 0 0 (MQ below (zQc Γ (zpv (fun G' => zsm [510, 2026, 2027, 2028, 2029, 2030, 2031, 2032, 2033, 2034, 2035, 810, 811, 2049, 2050, 2051] G G' ∧ True))) args s 0 0 (zA Γ)) 0 [some (zr 8 w), some (zi p0), some (zi s0), some (zi k), none] [] G
  refine zs_loc 1 rfl (fun ha1 hb1 => ?_)
  refine zs_loc 2 rfl (fun ha2 hb2 => ?_)
  refine zs_loc 3 rfl (fun ha3 hb3 => ?_)
  refine zs_aload_n (pc := 0) C dX7_grindOne_0 rfl ?_
  refine zVip0 (pc := 1) C dX7_grindOne_1 v_X7_171 (c_X7_canGrind hX ) (by decide) (by decide) ⟨Nat.zero_le _, Nat.zero_le _⟩ (Nat.le_of_ble_eq_true rfl) (fun x1 l1 u1 hp1 => ?_)
  have hq1 := hp1
  refine zs_if_ne (tgt := 8) (pc := 4) C dX7_grindOne_4 (by decide) (fun h4 => ?_) (fun h4 => ?_)
  · skip
    refine zs_aload_n (pc := 8) C dX7_grindOne_8 rfl ?_
    refine zs_getf (pc := 9) C dX7_grindOne_9 w_X7_12 f_8_1 (by decide) ?_
    refine zs_geti (r := 510) (pc := 12) C dX7_grindOne_12 w_X7_48 f_5_10 rfl (r_510 0) (fun v12 e12 l12 u12 => ?_)
    refine zs_istore (pc := 15) C dX7_grindOne_15 (by decide) ?_
    dsimp only [zset, zclr, znone]
    refine zs_aload_n (pc := 17) C dX7_grindOne_17 rfl ?_
    refine zs_iload_n (pc := 18) C dX7_grindOne_18 rfl ?_
    refine zs_iload_n (pc := 19) C dX7_grindOne_19 rfl ?_
    refine zVv2 (pc := 20) C dX7_grindOne_20 v_X7_122 (c_X7_setNames hX (by omega) (by omega)) (by decide) (by decide) ⟨Nat.zero_le _, Nat.zero_le _⟩ (Nat.le_of_ble_eq_true rfl) (fun G20 hp20 => ?_)
    obtain ⟨hz20, hq20⟩ := hp20
    have tr20_510 := zsm_at hz20 510 (Γ.2.1 w 1) 0 (by decide)
    try simp only [zuI_1, zuI_2, zuJ_1, zuJ_2, zuJ_3, zuP_1, zuP_2, zuP_3, zuC_1, zuC_2, reduceIte, Nat.reduceEqDiff, false_and, and_false, true_and, and_true, and_self, or_true, true_or, or_false, false_or] at tr20_510
    refine zs_aload_n (pc := 23) C dX7_grindOne_23 rfl ?_
    refine zs_getf (pc := 24) C dX7_grindOne_24 w_X7_12 f_8_1 (by decide) ?_
    refine zs_getf (pc := 27) C dX7_grindOne_27 w_X7_144 f_5_0 (by decide) ?_
    refine zs_iload (pc := 30) C dX7_grindOne_30 rfl ?_
    refine zs_iload_n (pc := 32) C dX7_grindOne_32 rfl ?_
    refine zs_iast (r := 2026) (pc := 33) C dX7_grindOne_33 a_26 (by decide) (by omega) rfl (r_2026 _) (by omega) ?_
    refine zs_aload_n (pc := 34) C dX7_grindOne_34 rfl ?_
    refine zs_getf (pc := 35) C dX7_grindOne_35 w_X7_12 f_8_1 (by decide) ?_
    refine zs_getf (pc := 38) C dX7_grindOne_38 w_X7_154 f_5_1 (by decide) ?_
    refine zs_iload (pc := 41) C dX7_grindOne_41 rfl ?_
    refine zs_iload_n (pc := 43) C dX7_grindOne_43 rfl ?_
    refine zs_iast (r := 2027) (pc := 44) C dX7_grindOne_44 a_27 (by decide) (by omega) rfl (r_2027 _) (by omega) ?_
    refine zs_aload_n (pc := 45) C dX7_grindOne_45 rfl ?_
    refine zs_getf (pc := 46) C dX7_grindOne_46 w_X7_12 f_8_1 (by decide) ?_
    refine zs_getf (pc := 49) C dX7_grindOne_49 w_X7_161 f_5_2 (by decide) ?_
    refine zs_iload (pc := 52) C dX7_grindOne_52 rfl ?_
    refine zs_aload_n (pc := 54) C dX7_grindOne_54 rfl ?_
    refine zs_getd (r := 800) (pc := 55) C dX7_grindOne_55 w_X7_40 f_8_0 (by decide) rfl (fun v55 e55 t55 => ?_)
    try simp only [hz20.2, zuI_1, zuI_2, zuJ_1, zuJ_2, zuJ_3, zuP_1, zuP_2, zuP_3, zuC_1, zuC_2, reduceIte, Nat.reduceEqDiff, false_and, and_false, true_and, and_true, and_self, or_true, true_or, or_false, false_or] at e55
    subst e55
    refine zs_iconst (pc := 58) C dX7_grindOne_58 (by decide) ?_
    refine zs_iload_n (pc := 59) C dX7_grindOne_59 rfl ?_
    refine zVi2 (pc := 60) C dX7_grindOne_60 v_X7_132 (c_X5_fineness hX (by first | omega | (simp only [zuI_1, zuI_2, zuJ_1, zuJ_2, zuJ_3, zuP_1, zuP_2, zuP_3, zuC_1, zuC_2, reduceIte, Nat.reduceEqDiff, false_and, and_false, true_and, and_true, and_self, or_true, true_or, or_false, false_or]; omega))) (by decide) (by decide) ⟨Nat.zero_le _, Nat.zero_le _⟩ (Nat.le_of_ble_eq_true rfl) (fun x60 G60 l60 u60 hp60 => ?_)
    obtain ⟨hz60, hq60⟩ := hp60
    try simp only [zuI_1, zuI_2, zuJ_1, zuJ_2, zuJ_3, zuP_1, zuP_2, zuP_3, zuC_1, zuC_2, reduceIte, Nat.reduceEqDiff, false_and, and_false, true_and, and_true, and_self, or_true, true_or, or_false, false_or] at hq60
    have tr60_510 := zsm_at hz60 510 (Γ.2.1 w 1) 0 (by decide)
    try simp only [zuI_1, zuI_2, zuJ_1, zuJ_2, zuJ_3, zuP_1, zuP_2, zuP_3, zuC_1, zuC_2, reduceIte, Nat.reduceEqDiff, false_and, and_false, true_and, and_true, and_self, or_true, true_or, or_false, false_or] at tr60_510
    refine zs_iast (r := 2028) (pc := 63) C dX7_grindOne_63 a_28 (by decide) (by omega) rfl (r_2028 _) (by omega) ?_
    refine zs_aload_n (pc := 64) C dX7_grindOne_64 rfl ?_
    refine zs_getf (pc := 65) C dX7_grindOne_65 w_X7_12 f_8_1 (by decide) ?_
    refine zs_getf (pc := 68) C dX7_grindOne_68 w_X7_174 f_5_3 (by decide) ?_
    refine zs_iload (pc := 71) C dX7_grindOne_71 rfl ?_
    refine zs_aload_n (pc := 73) C dX7_grindOne_73 rfl ?_
    refine zVip0 (pc := 74) C dX7_grindOne_74 v_X7_177 (c_X7_portion hX ) (by decide) (by decide) ⟨Nat.zero_le _, Nat.zero_le _⟩ (Nat.le_of_ble_eq_true rfl) (fun x74 l74 u74 hp74 => ?_)
    have hq74 := hp74
    try simp only [zuI_1, zuI_2, zuJ_1, zuJ_2, zuJ_3, zuP_1, zuP_2, zuP_3, zuC_1, zuC_2, reduceIte, Nat.reduceEqDiff, false_and, and_false, true_and, and_true, and_self, or_true, true_or, or_false, false_or] at hq74
    refine zs_iast (r := 2029) (pc := 77) C dX7_grindOne_77 a_29 (by decide) (by omega) rfl (r_2029 _) (by omega) ?_
    refine zs_aload_n (pc := 78) C dX7_grindOne_78 rfl ?_
    refine zs_getf (pc := 79) C dX7_grindOne_79 w_X7_12 f_8_1 (by decide) ?_
    refine zs_getf (pc := 82) C dX7_grindOne_82 w_X7_181 f_5_4 (by decide) ?_
    refine zs_iload (pc := 85) C dX7_grindOne_85 rfl ?_
    refine zs_aload_n (pc := 87) C dX7_grindOne_87 rfl ?_
    refine zVip0 (pc := 88) C dX7_grindOne_88 v_X7_177 (c_X7_portion hX ) (by decide) (by decide) ⟨Nat.zero_le _, Nat.zero_le _⟩ (Nat.le_of_ble_eq_true rfl) (fun x88 l88 u88 hp88 => ?_)
    have hq88 := hp88
    try simp only [zuI_1, zuI_2, zuJ_1, zuJ_2, zuJ_3, zuP_1, zuP_2, zuP_3, zuC_1, zuC_2, reduceIte, Nat.reduceEqDiff, false_and, and_false, true_and, and_true, and_self, or_true, true_or, or_false, false_or] at hq88
    refine zs_iast (r := 2030) (pc := 91) C dX7_grindOne_91 a_30 (by decide) (by omega) rfl (r_2030 _) (by omega) ?_
    refine zs_aload_n (pc := 92) C dX7_grindOne_92 rfl ?_
    refine zs_getf (pc := 93) C dX7_grindOne_93 w_X7_12 f_8_1 (by decide) ?_
    refine zs_getf (pc := 96) C dX7_grindOne_96 w_X7_135 f_5_5 (by decide) ?_
    refine zs_iload (pc := 99) C dX7_grindOne_99 rfl ?_
    refine zs_aload_n (pc := 101) C dX7_grindOne_101 rfl ?_
    refine zs_getf (pc := 102) C dX7_grindOne_102 w_X7_25 f_8_4 (by decide) ?_
    refine zs_iload_n (pc := 105) C dX7_grindOne_105 rfl ?_
    refine zs_iald (r := 2050) (pc := 106) C dX7_grindOne_106 a_50 (by decide) (by omega) rfl (r_2050 _) (fun v106 e106 l106 u106 => ?_)
    try simp only [zuI_1, zuI_2, zuJ_1, zuJ_2, zuJ_3, zuP_1, zuP_2, zuP_3, zuC_1, zuC_2, reduceIte, Nat.reduceEqDiff, false_and, and_false, true_and, and_true, and_self, or_true, true_or, or_false, false_or] at e106
    refine zs_iast (r := 2031) (pc := 107) C dX7_grindOne_107 a_31 (by decide) (by omega) rfl (r_2031 _) (by omega) ?_
    refine zs_aload_n (pc := 108) C dX7_grindOne_108 rfl ?_
    refine zs_getf (pc := 109) C dX7_grindOne_109 w_X7_12 f_8_1 (by decide) ?_
    refine zs_getf (pc := 112) C dX7_grindOne_112 w_X7_136 f_5_6 (by decide) ?_
    refine zs_iload (pc := 115) C dX7_grindOne_115 rfl ?_
    refine zs_aload_n (pc := 117) C dX7_grindOne_117 rfl ?_
    refine zs_geti (r := 811) (pc := 118) C dX7_grindOne_118 w_X7_79 f_8_11 rfl (r_811 0) (fun v118 e118 l118 u118 => ?_)
    try simp only [zuI_1, zuI_2, zuJ_1, zuJ_2, zuJ_3, zuP_1, zuP_2, zuP_3, zuC_1, zuC_2, reduceIte, Nat.reduceEqDiff, false_and, and_false, true_and, and_true, and_self, or_true, true_or, or_false, false_or] at e118
    refine zs_iast (r := 2032) (pc := 121) C dX7_grindOne_121 a_32 (by decide) (by omega) rfl (r_2032 _) (by omega) ?_
    refine zs_aload_n (pc := 122) C dX7_grindOne_122 rfl ?_
    refine zs_getf (pc := 123) C dX7_grindOne_123 w_X7_12 f_8_1 (by decide) ?_
    refine zs_getf (pc := 126) C dX7_grindOne_126 w_X7_138 f_5_7 (by decide) ?_
    refine zs_iload (pc := 129) C dX7_grindOne_129 rfl ?_
    refine zs_aload_n (pc := 131) C dX7_grindOne_131 rfl ?_
    refine zs_iload_n (pc := 132) C dX7_grindOne_132 rfl ?_
    refine zVip1 (pc := 133) C dX7_grindOne_133 v_X7_109 (c_X7_prideOf hX (by first | omega | (simp only [zuI_1, zuI_2, zuJ_1, zuJ_2, zuJ_3, zuP_1, zuP_2, zuP_3, zuC_1, zuC_2, reduceIte, Nat.reduceEqDiff, false_and, and_false, true_and, and_true, and_self, or_true, true_or, or_false, false_or]; omega))) (by decide) (by decide) ⟨Nat.zero_le _, Nat.zero_le _⟩ (Nat.le_of_ble_eq_true rfl) (fun x133 l133 u133 hp133 => ?_)
    have hq133 := hp133
    try simp only [zuI_1, zuI_2, zuJ_1, zuJ_2, zuJ_3, zuP_1, zuP_2, zuP_3, zuC_1, zuC_2, reduceIte, Nat.reduceEqDiff, false_and, and_false, true_and, and_true, and_self, or_true, true_or, or_false, false_or] at hq133
    refine zs_iast (r := 2033) (pc := 136) C dX7_grindOne_136 a_33 (by decide) (by omega) rfl (r_2033 _) (by omega) ?_
    refine zs_aload_n (pc := 137) C dX7_grindOne_137 rfl ?_
    refine zs_getf (pc := 138) C dX7_grindOne_138 w_X7_12 f_8_1 (by decide) ?_
    refine zs_getf (pc := 141) C dX7_grindOne_141 w_X7_147 f_5_8 (by decide) ?_
    refine zs_iload (pc := 144) C dX7_grindOne_144 rfl ?_
    refine zs_aload_n (pc := 146) C dX7_grindOne_146 rfl ?_
    refine zs_geti (r := 809) (pc := 147) C dX7_grindOne_147 w_X7_69 f_8_9 rfl (r_809 0) (fun v147 e147 l147 u147 => ?_)
    try simp only [zuI_1, zuI_2, zuJ_1, zuJ_2, zuJ_3, zuP_1, zuP_2, zuP_3, zuC_1, zuC_2, reduceIte, Nat.reduceEqDiff, false_and, and_false, true_and, and_true, and_self, or_true, true_or, or_false, false_or] at e147
    refine zs_iast (r := 2034) (pc := 150) C dX7_grindOne_150 a_34 (by decide) (by omega) rfl (r_2034 _) (by omega) ?_
    refine zs_aload_n (pc := 151) C dX7_grindOne_151 rfl ?_
    refine zs_getf (pc := 152) C dX7_grindOne_152 w_X7_12 f_8_1 (by decide) ?_
    refine zs_getf (pc := 155) C dX7_grindOne_155 w_X7_184 f_5_9 (by decide) ?_
    refine zs_iload (pc := 158) C dX7_grindOne_158 rfl ?_
    refine zs_aload_n (pc := 160) C dX7_grindOne_160 rfl ?_
    refine zs_iload_n (pc := 161) C dX7_grindOne_161 rfl ?_
    refine zVip1 (pc := 162) C dX7_grindOne_162 v_X7_187 (c_X7_leftBitsOf hX (by first | omega | (simp only [zuI_1, zuI_2, zuJ_1, zuJ_2, zuJ_3, zuP_1, zuP_2, zuP_3, zuC_1, zuC_2, reduceIte, Nat.reduceEqDiff, false_and, and_false, true_and, and_true, and_self, or_true, true_or, or_false, false_or]; omega))) (by decide) (by decide) ⟨Nat.zero_le _, Nat.zero_le _⟩ (Nat.le_of_ble_eq_true rfl) (fun x162 l162 u162 hp162 => ?_)
    have hq162 := hp162
    try simp only [zuI_1, zuI_2, zuJ_1, zuJ_2, zuJ_3, zuP_1, zuP_2, zuP_3, zuC_1, zuC_2, reduceIte, Nat.reduceEqDiff, false_and, and_false, true_and, and_true, and_self, or_true, true_or, or_false, false_or] at hq162
    refine zs_iast (r := 2035) (pc := 165) C dX7_grindOne_165 a_35 (by decide) (by omega) rfl (r_2035 _) (by omega) ?_
    refine zs_aload_n (pc := 166) C dX7_grindOne_166 rfl ?_
    refine zs_getf (pc := 167) C dX7_grindOne_167 w_X7_12 f_8_1 (by decide) ?_
    refine zs_dupa (pc := 170) C dX7_grindOne_170 ?_
    refine zs_geti (r := 510) (pc := 171) C dX7_grindOne_171 w_X7_48 f_5_10 rfl (r_510 0) (fun v171 e171 l171 u171 => ?_)
    try simp only [zuI_1, zuI_2, zuJ_1, zuJ_2, zuJ_3, zuP_1, zuP_2, zuP_3, zuC_1, zuC_2, reduceIte, Nat.reduceEqDiff, false_and, and_false, true_and, and_true, and_self, or_true, true_or, or_false, false_or] at e171
    refine zs_iconst (pc := 174) C dX7_grindOne_174 (by decide) ?_
    first | refine zs_iadd (pc := 175) C dX7_grindOne_175 (by omega) ?_ | refine zs_iaddF (pc := 175) C dX7_grindOne_175 (fun z175 hz1751 hz1752 => ?_)
    refine zs_puti (r := 510) (pc := 176) C dX7_grindOne_176 w_X7_48 f_5_10 rfl (r_510 0) (by omega) ?_
    refine zs_aload_n (pc := 179) C dX7_grindOne_179 rfl ?_
    refine zs_dupa (pc := 180) C dX7_grindOne_180 ?_
    refine zs_geti (r := 810) (pc := 181) C dX7_grindOne_181 w_X7_75 f_8_10 rfl (r_810 0) (fun v181 e181 l181 u181 => ?_)
    try simp only [zuI_1, zuI_2, zuJ_1, zuJ_2, zuJ_3, zuP_1, zuP_2, zuP_3, zuC_1, zuC_2, reduceIte, Nat.reduceEqDiff, false_and, and_false, true_and, and_true, and_self, or_true, true_or, or_false, false_or] at e181
    refine zs_aload_n (pc := 184) C dX7_grindOne_184 rfl ?_
    refine zVip0 (pc := 185) C dX7_grindOne_185 v_X7_177 (c_X7_portion hX ) (by decide) (by decide) ⟨Nat.zero_le _, Nat.zero_le _⟩ (Nat.le_of_ble_eq_true rfl) (fun x185 l185 u185 hp185 => ?_)
    have hq185 := hp185
    try simp only [zuI_1, zuI_2, zuJ_1, zuJ_2, zuJ_3, zuP_1, zuP_2, zuP_3, zuC_1, zuC_2, reduceIte, Nat.reduceEqDiff, false_and, and_false, true_and, and_true, and_self, or_true, true_or, or_false, false_or] at hq185
    first | refine zs_isub (pc := 188) C dX7_grindOne_188 (by omega) ?_ | refine zs_isubF (pc := 188) C dX7_grindOne_188 (fun z188 hz1881 hz1882 => ?_)
    refine zs_puti (r := 810) (pc := 189) C dX7_grindOne_189 w_X7_75 f_8_10 rfl (r_810 0) (by omega) ?_
    refine zs_aload_n (pc := 192) C dX7_grindOne_192 rfl ?_
    refine zs_iload_n (pc := 193) C dX7_grindOne_193 rfl ?_
    refine zs_if_eq (tgt := 214) (pc := 194) C dX7_grindOne_194 (by decide) (fun h194 => ?_) (fun h194 => ?_)
    · skip
      refine zs_aload_n (pc := 214) C dX7_grindOne_214 rfl ?_
      refine zs_geti (r := 811) (pc := 215) C dX7_grindOne_215 w_X7_79 f_8_11 rfl (r_811 0) (fun v215 e215 l215 u215 => ?_)
      try simp only [zuI_1, zuI_2, zuJ_1, zuJ_2, zuJ_3, zuP_1, zuP_2, zuP_3, zuC_1, zuC_2, reduceIte, Nat.reduceEqDiff, false_and, and_false, true_and, and_true, and_self, or_true, true_or, or_false, false_or] at e215
      refine zs_puti (r := 811) (pc := 218) C dX7_grindOne_218 w_X7_79 f_8_11 rfl (r_811 0) (by omega) ?_
      refine zs_aload_n (pc := 221) C dX7_grindOne_221 rfl ?_
      refine zs_getf (pc := 222) C dX7_grindOne_222 w_X7_25 f_8_4 (by decide) ?_
      refine zs_iload_n (pc := 225) C dX7_grindOne_225 rfl ?_
      refine zs_dup2 (pc := 226) C dX7_grindOne_226 ?_
      refine zs_iald (r := 2050) (pc := 227) C dX7_grindOne_227 a_50 (by decide) (by omega) rfl (r_2050 _) (fun v227 e227 l227 u227 => ?_)
      try simp only [zuI_1, zuI_2, zuJ_1, zuJ_2, zuJ_3, zuP_1, zuP_2, zuP_3, zuC_1, zuC_2, reduceIte, Nat.reduceEqDiff, false_and, and_false, true_and, and_true, and_self, or_true, true_or, or_false, false_or] at e227
      refine zs_iconst (pc := 228) C dX7_grindOne_228 (by decide) ?_
      first | refine zs_iadd (pc := 229) C dX7_grindOne_229 (by omega) ?_ | refine zs_iaddF (pc := 229) C dX7_grindOne_229 (fun z229 hz2291 hz2292 => ?_)
      refine zs_iast (r := 2050) (pc := 230) C dX7_grindOne_230 a_50 (by decide) (by omega) rfl (r_2050 _) (by omega) ?_
      refine zs_aload_n (pc := 231) C dX7_grindOne_231 rfl ?_
      refine zs_getf (pc := 232) C dX7_grindOne_232 w_X7_12 f_8_1 (by decide) ?_
      refine zs_iload (pc := 235) C dX7_grindOne_235 rfl ?_
      refine zs_iload_n (pc := 237) C dX7_grindOne_237 rfl ?_
      refine zVip2 (pc := 238) C dX7_grindOne_238 v_X7_141 (c_X4_lieBy hX (by first | omega | (simp only [zuI_1, zuI_2, zuJ_1, zuJ_2, zuJ_3, zuP_1, zuP_2, zuP_3, zuC_1, zuC_2, reduceIte, Nat.reduceEqDiff, false_and, and_false, true_and, and_true, and_self, or_true, true_or, or_false, false_or]; omega))) (by decide) (by decide) ⟨Nat.zero_le _, Nat.zero_le _⟩ (Nat.le_of_ble_eq_true rfl) (fun x238 l238 u238 hp238 => ?_)
      have hq238 := hp238
      try simp only [zuI_1, zuI_2, zuJ_1, zuJ_2, zuJ_3, zuP_1, zuP_2, zuP_3, zuC_1, zuC_2, reduceIte, Nat.reduceEqDiff, false_and, and_false, true_and, and_true, and_self, or_true, true_or, or_false, false_or] at hq238
      refine zs_if_ne (tgt := 261) (pc := 241) C dX7_grindOne_241 (by decide) (fun h241 => ?_) (fun h241 => ?_)
      · skip
        refine zs_aload_n (pc := 261) C dX7_grindOne_261 rfl ?_
        refine zs_getf (pc := 262) C dX7_grindOne_262 w_X7_28 f_8_5 (by decide) ?_
        refine zs_iload_n (pc := 265) C dX7_grindOne_265 rfl ?_
        refine zs_dup2 (pc := 266) C dX7_grindOne_266 ?_
        refine zs_iald (r := 2051) (pc := 267) C dX7_grindOne_267 a_51 (by decide) (by omega) rfl (r_2051 _) (fun v267 e267 l267 u267 => ?_)
        try simp only [zuI_1, zuI_2, zuJ_1, zuJ_2, zuJ_3, zuP_1, zuP_2, zuP_3, zuC_1, zuC_2, reduceIte, Nat.reduceEqDiff, false_and, and_false, true_and, and_true, and_self, or_true, true_or, or_false, false_or] at e267
        refine zs_iconst (pc := 268) C dX7_grindOne_268 (by decide) ?_
        first | refine zs_iadd (pc := 269) C dX7_grindOne_269 (by omega) ?_ | refine zs_iaddF (pc := 269) C dX7_grindOne_269 (fun z269 hz2691 hz2692 => ?_)
        refine zs_iast (r := 2051) (pc := 270) C dX7_grindOne_270 a_51 (by decide) (by omega) rfl (r_2051 _) (by omega) ?_
        exact zs_vret (pc := 271) C hr hlk dX7_grindOne_271 ⟨by repeat (first | exact zsm_rf | assumption | refine zsm_C (by decide) ?_ | refine zsm_I (by decide) ?_ | refine zsm_J ?_ | refine zsm_c (by assumption) (by decide) ?_), trivial⟩
      · skip
        refine zs_aload_n (pc := 244) C dX7_grindOne_244 rfl ?_
        refine zs_getf (pc := 245) C dX7_grindOne_245 w_X7_22 f_8_3 (by decide) ?_
        refine zs_iload_n (pc := 248) C dX7_grindOne_248 rfl ?_
        refine zs_iconst (pc := 249) C dX7_grindOne_249 (by decide) ?_
        first | refine zs_imul (pc := 250) C dX7_grindOne_250 (by omega) ?_ | refine zs_imulF (pc := 250) C dX7_grindOne_250 (fun z250 hz2501 hz2502 => ?_)
        refine zs_iload_n (pc := 251) C dX7_grindOne_251 rfl ?_
        first | refine zs_iadd (pc := 252) C dX7_grindOne_252 (by omega) ?_ | refine zs_iaddF (pc := 252) C dX7_grindOne_252 (fun z252 hz2521 hz2522 => ?_)
        refine zs_dup2 (pc := 253) C dX7_grindOne_253 ?_
        refine zs_iald (r := 2049) (pc := 254) C dX7_grindOne_254 a_49 (by decide) (by omega) rfl (r_2049 _) (fun v254 e254 l254 u254 => ?_)
        try simp only [zuI_1, zuI_2, zuJ_1, zuJ_2, zuJ_3, zuP_1, zuP_2, zuP_3, zuC_1, zuC_2, reduceIte, Nat.reduceEqDiff, false_and, and_false, true_and, and_true, and_self, or_true, true_or, or_false, false_or] at e254
        refine zs_iconst (pc := 255) C dX7_grindOne_255 (by decide) ?_
        first | refine zs_isub (pc := 256) C dX7_grindOne_256 (by omega) ?_ | refine zs_isubF (pc := 256) C dX7_grindOne_256 (fun z256 hz2561 hz2562 => ?_)
        refine zs_iast (r := 2049) (pc := 257) C dX7_grindOne_257 a_49 (by decide) (by omega) rfl (r_2049 _) (by omega) ?_
        refine zs_goto (tgt := 271) (pc := 258) C dX7_grindOne_258 (by decide) ?_
        exact zs_vret (pc := 271) C hr hlk dX7_grindOne_271 ⟨by repeat (first | exact zsm_rf | assumption | refine zsm_C (by decide) ?_ | refine zsm_I (by decide) ?_ | refine zsm_J ?_ | refine zsm_c (by assumption) (by decide) ?_), trivial⟩
    · skip
      refine zs_ldc (n := 99999) (pc := 197) C dX7_grindOne_197 q_X7_190 (by decide) (by decide) ?_
      refine zs_aload_n (pc := 199) C dX7_grindOne_199 rfl ?_
      refine zs_geti (r := 811) (pc := 200) C dX7_grindOne_200 w_X7_79 f_8_11 rfl (r_811 0) (fun v200 e200 l200 u200 => ?_)
      try simp only [zuI_1, zuI_2, zuJ_1, zuJ_2, zuJ_3, zuP_1, zuP_2, zuP_3, zuC_1, zuC_2, reduceIte, Nat.reduceEqDiff, false_and, and_false, true_and, and_true, and_self, or_true, true_or, or_false, false_or] at e200
      refine zs_aload_n (pc := 203) C dX7_grindOne_203 rfl ?_
      refine zVi0 (pc := 204) C dX7_grindOne_204 v_X7_191 (c_X7_wearHere hX ) (by decide) (by decide) ⟨Nat.zero_le _, Nat.zero_le _⟩ (Nat.le_of_ble_eq_true rfl) (fun x204 G204 l204 u204 hp204 => ?_)
      obtain ⟨hz204, hq204⟩ := hp204
      try simp only [zuI_1, zuI_2, zuJ_1, zuJ_2, zuJ_3, zuP_1, zuP_2, zuP_3, zuC_1, zuC_2, reduceIte, Nat.reduceEqDiff, false_and, and_false, true_and, and_true, and_self, or_true, true_or, or_false, false_or] at hq204
      have tr204_510 := zsm_at hz204 510 (Γ.2.1 w 1) 0 (by decide)
      try simp only [zuI_1, zuI_2, zuJ_1, zuJ_2, zuJ_3, zuP_1, zuP_2, zuP_3, zuC_1, zuC_2, reduceIte, Nat.reduceEqDiff, false_and, and_false, true_and, and_true, and_self, or_true, true_or, or_false, false_or] at tr204_510
      first | refine zs_iadd (pc := 207) C dX7_grindOne_207 (by omega) ?_ | refine zs_iaddF (pc := 207) C dX7_grindOne_207 (fun z207 hz2071 hz2072 => ?_)
      refine zs_minI (pc := 208) C dX7_grindOne_208 s_X7_149 (by decide) (Nat.le_of_ble_eq_true rfl) ⟨Nat.zero_le _, Nat.zero_le _⟩ (fun z208 hz208 => ?_)
      refine zs_goto (tgt := 218) (pc := 211) C dX7_grindOne_211 (by decide) ?_
      refine zs_puti (r := 811) (pc := 218) C dX7_grindOne_218 w_X7_79 f_8_11 rfl (r_811 0) (by omega) ?_
      refine zs_aload_n (pc := 221) C dX7_grindOne_221 rfl ?_
      refine zs_getf (pc := 222) C dX7_grindOne_222 w_X7_25 f_8_4 (by decide) ?_
      refine zs_iload_n (pc := 225) C dX7_grindOne_225 rfl ?_
      refine zs_dup2 (pc := 226) C dX7_grindOne_226 ?_
      refine zs_iald (r := 2050) (pc := 227) C dX7_grindOne_227 a_50 (by decide) (by omega) rfl (r_2050 _) (fun v227 e227 l227 u227 => ?_)
      try simp only [zuI_1, zuI_2, zuJ_1, zuJ_2, zuJ_3, zuP_1, zuP_2, zuP_3, zuC_1, zuC_2, reduceIte, Nat.reduceEqDiff, false_and, and_false, true_and, and_true, and_self, or_true, true_or, or_false, false_or] at e227
      refine zs_iconst (pc := 228) C dX7_grindOne_228 (by decide) ?_
      first | refine zs_iadd (pc := 229) C dX7_grindOne_229 (by omega) ?_ | refine zs_iaddF (pc := 229) C dX7_grindOne_229 (fun z229 hz2291 hz2292 => ?_)
      refine zs_iast (r := 2050) (pc := 230) C dX7_grindOne_230 a_50 (by decide) (by omega) rfl (r_2050 _) (by omega) ?_
      refine zs_aload_n (pc := 231) C dX7_grindOne_231 rfl ?_
      refine zs_getf (pc := 232) C dX7_grindOne_232 w_X7_12 f_8_1 (by decide) ?_
      refine zs_iload (pc := 235) C dX7_grindOne_235 rfl ?_
      refine zs_iload_n (pc := 237) C dX7_grindOne_237 rfl ?_
      refine zVip2 (pc := 238) C dX7_grindOne_238 v_X7_141 (c_X4_lieBy hX (by first | omega | (simp only [zuI_1, zuI_2, zuJ_1, zuJ_2, zuJ_3, zuP_1, zuP_2, zuP_3, zuC_1, zuC_2, reduceIte, Nat.reduceEqDiff, false_and, and_false, true_and, and_true, and_self, or_true, true_or, or_false, false_or]; omega))) (by decide) (by decide) ⟨Nat.zero_le _, Nat.zero_le _⟩ (Nat.le_of_ble_eq_true rfl) (fun x238 l238 u238 hp238 => ?_)
      have hq238 := hp238
      try simp only [zuI_1, zuI_2, zuJ_1, zuJ_2, zuJ_3, zuP_1, zuP_2, zuP_3, zuC_1, zuC_2, reduceIte, Nat.reduceEqDiff, false_and, and_false, true_and, and_true, and_self, or_true, true_or, or_false, false_or] at hq238
      refine zs_if_ne (tgt := 261) (pc := 241) C dX7_grindOne_241 (by decide) (fun h241 => ?_) (fun h241 => ?_)
      · skip
        refine zs_aload_n (pc := 261) C dX7_grindOne_261 rfl ?_
        refine zs_getf (pc := 262) C dX7_grindOne_262 w_X7_28 f_8_5 (by decide) ?_
        refine zs_iload_n (pc := 265) C dX7_grindOne_265 rfl ?_
        refine zs_dup2 (pc := 266) C dX7_grindOne_266 ?_
        refine zs_iald (r := 2051) (pc := 267) C dX7_grindOne_267 a_51 (by decide) (by omega) rfl (r_2051 _) (fun v267 e267 l267 u267 => ?_)
        try simp only [zuI_1, zuI_2, zuJ_1, zuJ_2, zuJ_3, zuP_1, zuP_2, zuP_3, zuC_1, zuC_2, reduceIte, Nat.reduceEqDiff, false_and, and_false, true_and, and_true, and_self, or_true, true_or, or_false, false_or] at e267
        refine zs_iconst (pc := 268) C dX7_grindOne_268 (by decide) ?_
        first | refine zs_iadd (pc := 269) C dX7_grindOne_269 (by omega) ?_ | refine zs_iaddF (pc := 269) C dX7_grindOne_269 (fun z269 hz2691 hz2692 => ?_)
        refine zs_iast (r := 2051) (pc := 270) C dX7_grindOne_270 a_51 (by decide) (by omega) rfl (r_2051 _) (by omega) ?_
        exact zs_vret (pc := 271) C hr hlk dX7_grindOne_271 ⟨by repeat (first | exact zsm_rf | assumption | refine zsm_C (by decide) ?_ | refine zsm_I (by decide) ?_ | refine zsm_J ?_ | refine zsm_c (by assumption) (by decide) ?_), trivial⟩
      · skip
        refine zs_aload_n (pc := 244) C dX7_grindOne_244 rfl ?_
        refine zs_getf (pc := 245) C dX7_grindOne_245 w_X7_22 f_8_3 (by decide) ?_
        refine zs_iload_n (pc := 248) C dX7_grindOne_248 rfl ?_
        refine zs_iconst (pc := 249) C dX7_grindOne_249 (by decide) ?_
        first | refine zs_imul (pc := 250) C dX7_grindOne_250 (by omega) ?_ | refine zs_imulF (pc := 250) C dX7_grindOne_250 (fun z250 hz2501 hz2502 => ?_)
        refine zs_iload_n (pc := 251) C dX7_grindOne_251 rfl ?_
        first | refine zs_iadd (pc := 252) C dX7_grindOne_252 (by omega) ?_ | refine zs_iaddF (pc := 252) C dX7_grindOne_252 (fun z252 hz2521 hz2522 => ?_)
        refine zs_dup2 (pc := 253) C dX7_grindOne_253 ?_
        refine zs_iald (r := 2049) (pc := 254) C dX7_grindOne_254 a_49 (by decide) (by omega) rfl (r_2049 _) (fun v254 e254 l254 u254 => ?_)
        try simp only [zuI_1, zuI_2, zuJ_1, zuJ_2, zuJ_3, zuP_1, zuP_2, zuP_3, zuC_1, zuC_2, reduceIte, Nat.reduceEqDiff, false_and, and_false, true_and, and_true, and_self, or_true, true_or, or_false, false_or] at e254
        refine zs_iconst (pc := 255) C dX7_grindOne_255 (by decide) ?_
        first | refine zs_isub (pc := 256) C dX7_grindOne_256 (by omega) ?_ | refine zs_isubF (pc := 256) C dX7_grindOne_256 (fun z256 hz2561 hz2562 => ?_)
        refine zs_iast (r := 2049) (pc := 257) C dX7_grindOne_257 a_49 (by decide) (by omega) rfl (r_2049 _) (by omega) ?_
        refine zs_goto (tgt := 271) (pc := 258) C dX7_grindOne_258 (by decide) ?_
        exact zs_vret (pc := 271) C hr hlk dX7_grindOne_271 ⟨by repeat (first | exact zsm_rf | assumption | refine zsm_C (by decide) ?_ | refine zsm_I (by decide) ?_ | refine zsm_J ?_ | refine zsm_c (by assumption) (by decide) ?_), trivial⟩
  · skip
    exact zs_vret (pc := 7) C hr hlk dX7_grindOne_7 ⟨by repeat (first | exact zsm_rf | assumption | refine zsm_C (by decide) ?_ | refine zsm_I (by decide) ?_ | refine zsm_J ?_ | refine zsm_c (by assumption) (by decide) ?_), trivial⟩

set_option maxHeartbeats 4000000 in
set_option maxRecDepth 100000 in
theorem c_X7_ungrind {l : Launch} {Γ : zΓ} {G : zH} {w : Nat}  (hX : zXs Γ)  : zMet l Γ yX7_ungrind cX7_ungrind 4 none 1 [zr 8 w] G (zpv (fun G' => zsm [510, 2026, 2027, 2028, 2029, 2030, 2031, 2032, 2033, 2034, 2035, 810, 811, 2049, 2050, 2051] G G' ∧ True)) := by
  refine zMet_of RX7 hX (by decide) rfl (Nat.le_of_ble_eq_true rfl) ?_
  intro p e s m args below meth c C hr hlk
  show Z p l e (zrm 1) s m args below meth c Γ 4 0 0 (MQ below (zQc Γ (zpv (fun G' => zsm [510, 2026, 2027, 2028, 2029, 2030, 2031, 2032, 2033, 2034, 2035, 810, 811, 2049, 2050, 2051] G G' ∧ True))) args s 0 0 (zA Γ)) 0 [some (zr 8 w), none, none, none] [] G
  refine zs_aload_n (pc := 0) C dX7_ungrind_0 rfl ?_
  refine zs_getf (pc := 1) C dX7_ungrind_1 w_X7_12 f_8_1 (by decide) ?_
  refine zs_geti (r := 510) (pc := 4) C dX7_ungrind_4 w_X7_48 f_5_10 rfl (r_510 0) (fun v4 e4 l4 u4 => ?_)
  refine zs_if_gt (tgt := 11) (pc := 7) C dX7_ungrind_7 (by decide) (fun h7 => ?_) (fun h7 => ?_)
  · skip
    refine zs_aload_n (pc := 11) C dX7_ungrind_11 rfl ?_
    refine zs_getf (pc := 12) C dX7_ungrind_12 w_X7_12 f_8_1 (by decide) ?_
    refine zs_dupa (pc := 15) C dX7_ungrind_15 ?_
    refine zs_geti (r := 510) (pc := 16) C dX7_ungrind_16 w_X7_48 f_5_10 rfl (r_510 0) (fun v16 e16 l16 u16 => ?_)
    refine zs_iconst (pc := 19) C dX7_ungrind_19 (by decide) ?_
    first | refine zs_isub (pc := 20) C dX7_ungrind_20 (by omega) ?_ | refine zs_isubF (pc := 20) C dX7_ungrind_20 (fun z20 hz201 hz202 => ?_)
    refine zs_puti (r := 510) (pc := 21) C dX7_ungrind_21 w_X7_48 f_5_10 rfl (r_510 0) (by omega) ?_
    refine zs_aload_n (pc := 24) C dX7_ungrind_24 rfl ?_
    refine zs_getf (pc := 25) C dX7_ungrind_25 w_X7_12 f_8_1 (by decide) ?_
    refine zs_geti (r := 510) (pc := 28) C dX7_ungrind_28 w_X7_48 f_5_10 rfl (r_510 0) (fun v28 e28 l28 u28 => ?_)
    try simp only [zuI_1, zuI_2, zuJ_1, zuJ_2, zuJ_3, zuP_1, zuP_2, zuP_3, zuC_1, zuC_2, reduceIte, Nat.reduceEqDiff, false_and, and_false, true_and, and_true, and_self, or_true, true_or, or_false, false_or] at e28
    refine zs_istore_n (pc := 31) C dX7_ungrind_31 (by decide) ?_
    dsimp only [zset, zclr, znone]
    refine zs_aload_n (pc := 32) C dX7_ungrind_32 rfl ?_
    refine zs_getf (pc := 33) C dX7_ungrind_33 w_X7_12 f_8_1 (by decide) ?_
    refine zs_getf (pc := 36) C dX7_ungrind_36 w_X7_144 f_5_0 (by decide) ?_
    refine zs_iload_n (pc := 39) C dX7_ungrind_39 rfl ?_
    refine zs_iald (r := 2026) (pc := 40) C dX7_ungrind_40 a_26 (by decide) (by omega) rfl (r_2026 _) (fun v40 e40 l40 u40 => ?_)
    try simp only [zuI_1, zuI_2, zuJ_1, zuJ_2, zuJ_3, zuP_1, zuP_2, zuP_3, zuC_1, zuC_2, reduceIte, Nat.reduceEqDiff, false_and, and_false, true_and, and_true, and_self, or_true, true_or, or_false, false_or] at e40
    refine zs_istore_n (pc := 41) C dX7_ungrind_41 (by decide) ?_
    dsimp only [zset, zclr, znone]
    refine zs_aload_n (pc := 42) C dX7_ungrind_42 rfl ?_
    refine zs_getf (pc := 43) C dX7_ungrind_43 w_X7_12 f_8_1 (by decide) ?_
    refine zs_getf (pc := 46) C dX7_ungrind_46 w_X7_154 f_5_1 (by decide) ?_
    refine zs_iload_n (pc := 49) C dX7_ungrind_49 rfl ?_
    refine zs_iald (r := 2027) (pc := 50) C dX7_ungrind_50 a_27 (by decide) (by omega) rfl (r_2027 _) (fun v50 e50 l50 u50 => ?_)
    try simp only [zuI_1, zuI_2, zuJ_1, zuJ_2, zuJ_3, zuP_1, zuP_2, zuP_3, zuC_1, zuC_2, reduceIte, Nat.reduceEqDiff, false_and, and_false, true_and, and_true, and_self, or_true, true_or, or_false, false_or] at e50
    refine zs_istore_n (pc := 51) C dX7_ungrind_51 (by decide) ?_
    dsimp only [zset, zclr, znone]
    refine zs_aload_n (pc := 52) C dX7_ungrind_52 rfl ?_
    refine zs_dupa (pc := 53) C dX7_ungrind_53 ?_
    refine zs_geti (r := 810) (pc := 54) C dX7_ungrind_54 w_X7_75 f_8_10 rfl (r_810 0) (fun v54 e54 l54 u54 => ?_)
    try simp only [zuI_1, zuI_2, zuJ_1, zuJ_2, zuJ_3, zuP_1, zuP_2, zuP_3, zuC_1, zuC_2, reduceIte, Nat.reduceEqDiff, false_and, and_false, true_and, and_true, and_self, or_true, true_or, or_false, false_or] at e54
    refine zs_aload_n (pc := 57) C dX7_ungrind_57 rfl ?_
    refine zs_getf (pc := 58) C dX7_ungrind_58 w_X7_12 f_8_1 (by decide) ?_
    refine zs_getf (pc := 61) C dX7_ungrind_61 w_X7_174 f_5_3 (by decide) ?_
    refine zs_iload_n (pc := 64) C dX7_ungrind_64 rfl ?_
    refine zs_iald (r := 2029) (pc := 65) C dX7_ungrind_65 a_29 (by decide) (by omega) rfl (r_2029 _) (fun v65 e65 l65 u65 => ?_)
    try simp only [zuI_1, zuI_2, zuJ_1, zuJ_2, zuJ_3, zuP_1, zuP_2, zuP_3, zuC_1, zuC_2, reduceIte, Nat.reduceEqDiff, false_and, and_false, true_and, and_true, and_self, or_true, true_or, or_false, false_or] at e65
    first | refine zs_iadd (pc := 66) C dX7_ungrind_66 (by omega) ?_ | refine zs_iaddF (pc := 66) C dX7_ungrind_66 (fun z66 hz661 hz662 => ?_)
    refine zs_puti (r := 810) (pc := 67) C dX7_ungrind_67 w_X7_75 f_8_10 rfl (r_810 0) (by omega) ?_
    refine zs_aload_n (pc := 70) C dX7_ungrind_70 rfl ?_
    refine zs_aload_n (pc := 71) C dX7_ungrind_71 rfl ?_
    refine zs_getf (pc := 72) C dX7_ungrind_72 w_X7_12 f_8_1 (by decide) ?_
    refine zs_getf (pc := 75) C dX7_ungrind_75 w_X7_136 f_5_6 (by decide) ?_
    refine zs_iload_n (pc := 78) C dX7_ungrind_78 rfl ?_
    refine zs_iald (r := 2032) (pc := 79) C dX7_ungrind_79 a_32 (by decide) (by omega) rfl (r_2032 _) (fun v79 e79 l79 u79 => ?_)
    try simp only [zuI_1, zuI_2, zuJ_1, zuJ_2, zuJ_3, zuP_1, zuP_2, zuP_3, zuC_1, zuC_2, reduceIte, Nat.reduceEqDiff, false_and, and_false, true_and, and_true, and_self, or_true, true_or, or_false, false_or] at e79
    refine zs_puti (r := 811) (pc := 80) C dX7_ungrind_80 w_X7_79 f_8_11 rfl (r_811 0) (by omega) ?_
    refine zs_aload_n (pc := 83) C dX7_ungrind_83 rfl ?_
    refine zs_getf (pc := 84) C dX7_ungrind_84 w_X7_25 f_8_4 (by decide) ?_
    refine zs_iload_n (pc := 87) C dX7_ungrind_87 rfl ?_
    refine zs_aload_n (pc := 88) C dX7_ungrind_88 rfl ?_
    refine zs_getf (pc := 89) C dX7_ungrind_89 w_X7_12 f_8_1 (by decide) ?_
    refine zs_getf (pc := 92) C dX7_ungrind_92 w_X7_135 f_5_5 (by decide) ?_
    refine zs_iload_n (pc := 95) C dX7_ungrind_95 rfl ?_
    refine zs_iald (r := 2031) (pc := 96) C dX7_ungrind_96 a_31 (by decide) (by omega) rfl (r_2031 _) (fun v96 e96 l96 u96 => ?_)
    try simp only [zuI_1, zuI_2, zuJ_1, zuJ_2, zuJ_3, zuP_1, zuP_2, zuP_3, zuC_1, zuC_2, reduceIte, Nat.reduceEqDiff, false_and, and_false, true_and, and_true, and_self, or_true, true_or, or_false, false_or] at e96
    refine zs_iast (r := 2050) (pc := 97) C dX7_ungrind_97 a_50 (by decide) (by omega) rfl (r_2050 _) (by omega) ?_
    refine zs_aload_n (pc := 98) C dX7_ungrind_98 rfl ?_
    refine zs_getf (pc := 99) C dX7_ungrind_99 w_X7_12 f_8_1 (by decide) ?_
    refine zs_iload_n (pc := 102) C dX7_ungrind_102 rfl ?_
    refine zs_iload_n (pc := 103) C dX7_ungrind_103 rfl ?_
    refine zVip2 (pc := 104) C dX7_ungrind_104 v_X7_141 (c_X4_lieBy hX (by first | omega | (simp only [zuI_1, zuI_2, zuJ_1, zuJ_2, zuJ_3, zuP_1, zuP_2, zuP_3, zuC_1, zuC_2, reduceIte, Nat.reduceEqDiff, false_and, and_false, true_and, and_true, and_self, or_true, true_or, or_false, false_or]; omega))) (by decide) (by decide) ⟨Nat.zero_le _, Nat.zero_le _⟩ (Nat.le_of_ble_eq_true rfl) (fun x104 l104 u104 hp104 => ?_)
    have hq104 := hp104
    try simp only [zuI_1, zuI_2, zuJ_1, zuJ_2, zuJ_3, zuP_1, zuP_2, zuP_3, zuC_1, zuC_2, reduceIte, Nat.reduceEqDiff, false_and, and_false, true_and, and_true, and_self, or_true, true_or, or_false, false_or] at hq104
    refine zs_if_ne (tgt := 127) (pc := 107) C dX7_ungrind_107 (by decide) (fun h107 => ?_) (fun h107 => ?_)
    · skip
      refine zs_aload_n (pc := 127) C dX7_ungrind_127 rfl ?_
      refine zs_getf (pc := 128) C dX7_ungrind_128 w_X7_28 f_8_5 (by decide) ?_
      refine zs_iload_n (pc := 131) C dX7_ungrind_131 rfl ?_
      refine zs_dup2 (pc := 132) C dX7_ungrind_132 ?_
      refine zs_iald (r := 2051) (pc := 133) C dX7_ungrind_133 a_51 (by decide) (by omega) rfl (r_2051 _) (fun v133 e133 l133 u133 => ?_)
      try simp only [zuI_1, zuI_2, zuJ_1, zuJ_2, zuJ_3, zuP_1, zuP_2, zuP_3, zuC_1, zuC_2, reduceIte, Nat.reduceEqDiff, false_and, and_false, true_and, and_true, and_self, or_true, true_or, or_false, false_or] at e133
      refine zs_iconst (pc := 134) C dX7_ungrind_134 (by decide) ?_
      first | refine zs_isub (pc := 135) C dX7_ungrind_135 (by omega) ?_ | refine zs_isubF (pc := 135) C dX7_ungrind_135 (fun z135 hz1351 hz1352 => ?_)
      refine zs_iast (r := 2051) (pc := 136) C dX7_ungrind_136 a_51 (by decide) (by omega) rfl (r_2051 _) (by omega) ?_
      exact zs_vret (pc := 137) C hr hlk dX7_ungrind_137 ⟨by repeat (first | exact zsm_rf | assumption | refine zsm_C (by decide) ?_ | refine zsm_I (by decide) ?_ | refine zsm_J ?_ | refine zsm_c (by assumption) (by decide) ?_), trivial⟩
    · skip
      refine zs_aload_n (pc := 110) C dX7_ungrind_110 rfl ?_
      refine zs_getf (pc := 111) C dX7_ungrind_111 w_X7_22 f_8_3 (by decide) ?_
      refine zs_iload_n (pc := 114) C dX7_ungrind_114 rfl ?_
      refine zs_iconst (pc := 115) C dX7_ungrind_115 (by decide) ?_
      first | refine zs_imul (pc := 116) C dX7_ungrind_116 (by omega) ?_ | refine zs_imulF (pc := 116) C dX7_ungrind_116 (fun z116 hz1161 hz1162 => ?_)
      refine zs_iload_n (pc := 117) C dX7_ungrind_117 rfl ?_
      first | refine zs_iadd (pc := 118) C dX7_ungrind_118 (by omega) ?_ | refine zs_iaddF (pc := 118) C dX7_ungrind_118 (fun z118 hz1181 hz1182 => ?_)
      refine zs_dup2 (pc := 119) C dX7_ungrind_119 ?_
      refine zs_iald (r := 2049) (pc := 120) C dX7_ungrind_120 a_49 (by decide) (by omega) rfl (r_2049 _) (fun v120 e120 l120 u120 => ?_)
      try simp only [zuI_1, zuI_2, zuJ_1, zuJ_2, zuJ_3, zuP_1, zuP_2, zuP_3, zuC_1, zuC_2, reduceIte, Nat.reduceEqDiff, false_and, and_false, true_and, and_true, and_self, or_true, true_or, or_false, false_or] at e120
      refine zs_iconst (pc := 121) C dX7_ungrind_121 (by decide) ?_
      first | refine zs_iadd (pc := 122) C dX7_ungrind_122 (by omega) ?_ | refine zs_iaddF (pc := 122) C dX7_ungrind_122 (fun z122 hz1221 hz1222 => ?_)
      refine zs_iast (r := 2049) (pc := 123) C dX7_ungrind_123 a_49 (by decide) (by omega) rfl (r_2049 _) (by omega) ?_
      refine zs_goto (tgt := 137) (pc := 124) C dX7_ungrind_124 (by decide) ?_
      exact zs_vret (pc := 137) C hr hlk dX7_ungrind_137 ⟨by repeat (first | exact zsm_rf | assumption | refine zsm_C (by decide) ?_ | refine zsm_I (by decide) ?_ | refine zsm_J ?_ | refine zsm_c (by assumption) (by decide) ?_), trivial⟩
  · skip
    exact zs_vret (pc := 10) C hr hlk dX7_ungrind_10 ⟨by repeat (first | exact zsm_rf | assumption | refine zsm_C (by decide) ?_ | refine zsm_I (by decide) ?_ | refine zsm_J ?_ | refine zsm_c (by assumption) (by decide) ?_), trivial⟩

set_option maxHeartbeats 4000000 in
set_option maxRecDepth 100000 in
theorem c_X7_draw {l : Launch} {Γ : zΓ} {G : zH} {w : Nat}  (hX : zXs Γ)  : zMet l Γ yX7_draw cX7_draw 1 (some .int) 0 [zr 8 w] G (zpi (fun x G' => zsm [812] G G' ∧ True)) := by
  refine zMet_of RX7 hX (by decide) rfl (Nat.le_of_ble_eq_true rfl) ?_
  intro p e s m args below meth c C hr hlk
  show Z p l e (zrm 0) s m args below meth c Γ 1 0 0 (MQ below (zQc Γ (zpi (fun x G' => zsm [812] G G' ∧ True))) args s 0 0 (zA Γ)) 0 [some (zr 8 w)] [] G
  refine zs_aload_n (pc := 0) C dX7_draw_0 rfl ?_
  refine zs_aload_n (pc := 1) C dX7_draw_1 rfl ?_
  refine zs_geti (r := 812) (pc := 2) C dX7_draw_2 w_X7_85 f_8_12 rfl (r_812 0) (fun v2 e2 l2 u2 => ?_)
  refine zs_i2l (pc := 5) C dX7_draw_5 ?_
  refine zs_ldc2 (n := 1103515245) (pc := 6) C dX7_draw_6 q_X7_204 (by decide) (by decide) ?_
  refine zs_lmulF (pc := 9) C dX7_draw_9 (fun z9 hz91 hz92 => ?_)
  refine zs_ldc2 (n := 12345) (pc := 10) C dX7_draw_10 q_X7_206 (by decide) (by decide) ?_
  refine zs_laddF (pc := 13) C dX7_draw_13 (fun z13 hz131 hz132 => ?_)
  refine zs_ldc2 (n := 2147483647) (pc := 14) C dX7_draw_14 q_X7_208 (by decide) (by decide) ?_
  refine zs_landF (pc := 17) C dX7_draw_17 (fun z17 hz171 hz172 => ?_)
  first | refine zs_l2i (pc := 18) C dX7_draw_18 (by omega) ?_ | refine zs_l2iF (pc := 18) C dX7_draw_18 (fun z18 hz181 hz182 => ?_)
  refine zs_puti (r := 812) (pc := 19) C dX7_draw_19 w_X7_85 f_8_12 rfl (r_812 0) (by omega) ?_
  refine zs_aload_n (pc := 22) C dX7_draw_22 rfl ?_
  refine zs_geti (r := 812) (pc := 23) C dX7_draw_23 w_X7_85 f_8_12 rfl (r_812 0) (fun v23 e23 l23 u23 => ?_)
  try simp only [zuI_1, zuI_2, zuJ_1, zuJ_2, zuJ_3, zuP_1, zuP_2, zuP_3, zuC_1, zuC_2, reduceIte, Nat.reduceEqDiff, false_and, and_false, true_and, and_true, and_self, or_true, true_or, or_false, false_or] at e23
  refine zs_ldc (n := 65536) (pc := 26) C dX7_draw_26 q_X7_210 (by decide) (by decide) ?_
  first | refine zs_idiv (pc := 28) C dX7_draw_28 (by omega) (by omega) (fun hz281 hz282 => ?_) | refine zs_idivF (pc := 28) C dX7_draw_28 (by omega) (fun z28 hz281 hz282 => ?_)
  exact zs_iret (pc := 29) C hr hlk dX7_draw_29 ⟨by repeat (first | exact zsm_rf | assumption | refine zsm_C (by decide) ?_ | refine zsm_I (by decide) ?_ | refine zsm_J ?_ | refine zsm_c (by assumption) (by decide) ?_), trivial⟩

set_option maxHeartbeats 4000000 in
set_option maxRecDepth 100000 in
theorem c_X7_worstLeft {l : Launch} {Γ : zΓ} {G : zH} {w : Nat} {p0 : Int} (hX : zXs Γ) (hp : 0 ≤ p0 ∧ p0 ≤ 4) : zMet l Γ yX7_worstLeft cX7_worstLeft 4 (some .int) 1 [zr 8 w, zi p0] G (zpi (fun x G' => G' = G ∧ (-1 ≤ x ∧ x ≤ 3))) := by
  refine zMet_of RX7 hX (by decide) rfl (Nat.le_of_ble_eq_true rfl) ?_
  intro p e s m args below meth c C hr hlk
  show Z p l e (zrm 1) s m args below meth c Γ 4 0 0 (MQ below (zQc Γ (zpi (fun x G' => G' = G ∧ (-1 ≤ x ∧ x ≤ 3)))) args s 0 0 (zA Γ)) 0 [some (zr 8 w), some (zi p0), none, none] [] G
  refine zs_loc 1 rfl (fun ha1 hb1 => ?_)
  refine zs_iconst (pc := 0) C dX7_worstLeft_0 (by decide) ?_
  refine zs_istore_n (pc := 1) C dX7_worstLeft_1 (by decide) ?_
  dsimp only [zset, zclr, znone]
  refine zs_iconst (pc := 2) C dX7_worstLeft_2 (by decide) ?_
  refine zs_istore_n (pc := 3) C dX7_worstLeft_3 (by decide) ?_
  dsimp only [zset, zclr, znone]
  have L4 : ∀ (nn : Nat) (x2 x3 : Int), (0 ≤ x3 ∧ x3 ≤ 4) → (-1 ≤ x2 ∧ x2 ≤ 3) → (4 - x3).toNat < nn → Z p l e (zrm 1) s m args below meth c Γ 4 0 0 (MQ below (zQc Γ (zpi (fun x G' => G' = G ∧ (-1 ≤ x ∧ x ≤ 3)))) args s 0 0 (zA Γ)) 4 [some (zr 8 w), some (zi p0), some (zi x2), some (zi x3)] [] G := by
    intro nn
    induction nn with
    | zero => intro x2 x3 h4_0 h4_1 hm; exact absurd hm (Nat.not_lt_zero _)
    | succ nn ih4 =>
      intro x2 x3 h4_0 h4_1 hm4
      refine zs_iload_n (pc := 4) C dX7_worstLeft_4 rfl ?_
      refine zs_aload_n (pc := 5) C dX7_worstLeft_5 rfl ?_
      refine zs_getd (r := 800) (pc := 6) C dX7_worstLeft_6 w_X7_40 f_8_0 (by decide) rfl (fun v6 e6 t6 => ?_)
      subst e6
      refine zs_getf (pc := 9) C dX7_worstLeft_9 w_X7_95 f_6_2 (by decide) ?_
      refine zs_iconst (pc := 12) C dX7_worstLeft_12 (by decide) ?_
      refine zs_iald (r := 2037) (pc := 13) C dX7_worstLeft_13 a_37 (by decide) (by omega) rfl rfl (fun v13 e13 l13 u13 => ?_)
      have hsz := rs_2037 (0 : Int).toNat
      refine zs_icmp_ge (tgt := 60) (pc := 14) C dX7_worstLeft_14 (by decide) (fun h14 => ?_) (fun h14 => ?_)
      · skip
        refine zs_iload_n (pc := 60) C dX7_worstLeft_60 rfl ?_
        exact zs_iret (pc := 61) C hr hlk dX7_worstLeft_61 ⟨rfl, by first | omega | (simp only [zuI_1, zuI_2, zuJ_1, zuJ_2, zuJ_3, zuP_1, zuP_2, zuP_3, zuC_1, zuC_2, reduceIte, Nat.reduceEqDiff, false_and, and_false, true_and, and_true, and_self, or_true, true_or, or_false, false_or]; omega)⟩
      · skip
        refine zs_aload_n (pc := 17) C dX7_worstLeft_17 rfl ?_
        refine zs_iload_n (pc := 18) C dX7_worstLeft_18 rfl ?_
        refine zs_iload_n (pc := 19) C dX7_worstLeft_19 rfl ?_
        refine zVip2 (pc := 20) C dX7_worstLeft_20 v_X7_101 (c_X7_leftOf hX (by omega) (by omega)) (by decide) (by decide) ⟨Nat.zero_le _, Nat.zero_le _⟩ (Nat.le_of_ble_eq_true rfl) (fun x20 l20 u20 hp20 => ?_)
        have hq20 := hp20
        refine zs_if_le (tgt := 54) (pc := 23) C dX7_worstLeft_23 (by decide) (fun h23 => ?_) (fun h23 => ?_)
        · skip
          first | refine zs_iinc (pc := 54) C dX7_worstLeft_54 rfl (by decide) (by omega) ?_ | refine zs_iincF (pc := 54) C dX7_worstLeft_54 rfl (by decide) (fun z54 hz541 hz542 => ?_)
          dsimp only [zset, zclr, znone]
          refine zs_goto (tgt := 4) (pc := 57) C dX7_worstLeft_57 (by decide) ?_
          exact zs_wk (ih4 _ _ (by first | omega | (simp only [zuI_1, zuI_2, zuJ_1, zuJ_2, zuJ_3, zuP_1, zuP_2, zuP_3, zuC_1, zuC_2, reduceIte, Nat.reduceEqDiff, false_and, and_false, true_and, and_true, and_self, or_true, true_or, or_false, false_or]; omega)) (by first | omega | (simp only [zuI_1, zuI_2, zuJ_1, zuJ_2, zuJ_3, zuP_1, zuP_2, zuP_3, zuC_1, zuC_2, reduceIte, Nat.reduceEqDiff, false_and, and_false, true_and, and_true, and_self, or_true, true_or, or_false, false_or]; omega)) (by first | omega | (simp only [zuI_1, zuI_2, zuJ_1, zuJ_2, zuJ_3, zuP_1, zuP_2, zuP_3, zuC_1, zuC_2, reduceIte, Nat.reduceEqDiff, false_and, and_false, true_and, and_true, and_self, or_true, true_or, or_false, false_or]; omega))) (zwk_s rfl (zwk_s rfl (zwk_s rfl (zwk_s rfl zwk_0))))
        · skip
          refine zs_iload_n (pc := 26) C dX7_worstLeft_26 rfl ?_
          refine zs_iconst (pc := 27) C dX7_worstLeft_27 (by decide) ?_
          refine zs_icmp_eq (tgt := 52) (pc := 28) C dX7_worstLeft_28 (by decide) (fun h28 => ?_) (fun h28 => ?_)
          · skip
            refine zs_iload_n (pc := 52) C dX7_worstLeft_52 rfl ?_
            refine zs_istore_n (pc := 53) C dX7_worstLeft_53 (by decide) ?_
            dsimp only [zset, zclr, znone]
            first | refine zs_iinc (pc := 54) C dX7_worstLeft_54 rfl (by decide) (by omega) ?_ | refine zs_iincF (pc := 54) C dX7_worstLeft_54 rfl (by decide) (fun z54 hz541 hz542 => ?_)
            dsimp only [zset, zclr, znone]
            refine zs_goto (tgt := 4) (pc := 57) C dX7_worstLeft_57 (by decide) ?_
            exact zs_wk (ih4 _ _ (by first | omega | (simp only [zuI_1, zuI_2, zuJ_1, zuJ_2, zuJ_3, zuP_1, zuP_2, zuP_3, zuC_1, zuC_2, reduceIte, Nat.reduceEqDiff, false_and, and_false, true_and, and_true, and_self, or_true, true_or, or_false, false_or]; omega)) (by first | omega | (simp only [zuI_1, zuI_2, zuJ_1, zuJ_2, zuJ_3, zuP_1, zuP_2, zuP_3, zuC_1, zuC_2, reduceIte, Nat.reduceEqDiff, false_and, and_false, true_and, and_true, and_self, or_true, true_or, or_false, false_or]; omega)) (by first | omega | (simp only [zuI_1, zuI_2, zuJ_1, zuJ_2, zuJ_3, zuP_1, zuP_2, zuP_3, zuC_1, zuC_2, reduceIte, Nat.reduceEqDiff, false_and, and_false, true_and, and_true, and_self, or_true, true_or, or_false, false_or]; omega))) (zwk_s rfl (zwk_s rfl (zwk_s rfl (zwk_s rfl zwk_0))))
          · skip
            refine zs_aload_n (pc := 31) C dX7_worstLeft_31 rfl ?_
            refine zs_getd (r := 800) (pc := 32) C dX7_worstLeft_32 w_X7_40 f_8_0 (by decide) rfl (fun v32 e32 t32 => ?_)
            subst e32
            refine zs_getf (pc := 35) C dX7_worstLeft_35 w_X7_98 f_6_3 (by decide) ?_
            refine zs_iload_n (pc := 38) C dX7_worstLeft_38 rfl ?_
            refine zs_iald (r := 2038) (pc := 39) C dX7_worstLeft_39 a_38 (by decide) (by omega) rfl (r_2038 _) (fun v39 e39 l39 u39 => ?_)
            refine zs_aload_n (pc := 40) C dX7_worstLeft_40 rfl ?_
            refine zs_getd (r := 800) (pc := 41) C dX7_worstLeft_41 w_X7_40 f_8_0 (by decide) rfl (fun v41 e41 t41 => ?_)
            subst e41
            refine zs_getf (pc := 44) C dX7_worstLeft_44 w_X7_98 f_6_3 (by decide) ?_
            refine zs_iload_n (pc := 47) C dX7_worstLeft_47 rfl ?_
            refine zs_iald (r := 2038) (pc := 48) C dX7_worstLeft_48 a_38 (by decide) (by omega) rfl (r_2038 _) (fun v48 e48 l48 u48 => ?_)
            refine zs_icmp_le (tgt := 54) (pc := 49) C dX7_worstLeft_49 (by decide) (fun h49 => ?_) (fun h49 => ?_)
            · skip
              first | refine zs_iinc (pc := 54) C dX7_worstLeft_54 rfl (by decide) (by omega) ?_ | refine zs_iincF (pc := 54) C dX7_worstLeft_54 rfl (by decide) (fun z54 hz541 hz542 => ?_)
              dsimp only [zset, zclr, znone]
              refine zs_goto (tgt := 4) (pc := 57) C dX7_worstLeft_57 (by decide) ?_
              exact zs_wk (ih4 _ _ (by first | omega | (simp only [zuI_1, zuI_2, zuJ_1, zuJ_2, zuJ_3, zuP_1, zuP_2, zuP_3, zuC_1, zuC_2, reduceIte, Nat.reduceEqDiff, false_and, and_false, true_and, and_true, and_self, or_true, true_or, or_false, false_or]; omega)) (by first | omega | (simp only [zuI_1, zuI_2, zuJ_1, zuJ_2, zuJ_3, zuP_1, zuP_2, zuP_3, zuC_1, zuC_2, reduceIte, Nat.reduceEqDiff, false_and, and_false, true_and, and_true, and_self, or_true, true_or, or_false, false_or]; omega)) (by first | omega | (simp only [zuI_1, zuI_2, zuJ_1, zuJ_2, zuJ_3, zuP_1, zuP_2, zuP_3, zuC_1, zuC_2, reduceIte, Nat.reduceEqDiff, false_and, and_false, true_and, and_true, and_self, or_true, true_or, or_false, false_or]; omega))) (zwk_s rfl (zwk_s rfl (zwk_s rfl (zwk_s rfl zwk_0))))
            · skip
              refine zs_iload_n (pc := 52) C dX7_worstLeft_52 rfl ?_
              refine zs_istore_n (pc := 53) C dX7_worstLeft_53 (by decide) ?_
              dsimp only [zset, zclr, znone]
              first | refine zs_iinc (pc := 54) C dX7_worstLeft_54 rfl (by decide) (by omega) ?_ | refine zs_iincF (pc := 54) C dX7_worstLeft_54 rfl (by decide) (fun z54 hz541 hz542 => ?_)
              dsimp only [zset, zclr, znone]
              refine zs_goto (tgt := 4) (pc := 57) C dX7_worstLeft_57 (by decide) ?_
              exact zs_wk (ih4 _ _ (by first | omega | (simp only [zuI_1, zuI_2, zuJ_1, zuJ_2, zuJ_3, zuP_1, zuP_2, zuP_3, zuC_1, zuC_2, reduceIte, Nat.reduceEqDiff, false_and, and_false, true_and, and_true, and_self, or_true, true_or, or_false, false_or]; omega)) (by first | omega | (simp only [zuI_1, zuI_2, zuJ_1, zuJ_2, zuJ_3, zuP_1, zuP_2, zuP_3, zuC_1, zuC_2, reduceIte, Nat.reduceEqDiff, false_and, and_false, true_and, and_true, and_self, or_true, true_or, or_false, false_or]; omega)) (by first | omega | (simp only [zuI_1, zuI_2, zuJ_1, zuJ_2, zuJ_3, zuP_1, zuP_2, zuP_3, zuC_1, zuC_2, reduceIte, Nat.reduceEqDiff, false_and, and_false, true_and, and_true, and_self, or_true, true_or, or_false, false_or]; omega))) (zwk_s rfl (zwk_s rfl (zwk_s rfl (zwk_s rfl zwk_0))))
  exact zs_wk (L4 _ _ _ (by first | omega | (simp only [zuI_1, zuI_2, zuJ_1, zuJ_2, zuJ_3, zuP_1, zuP_2, zuP_3, zuC_1, zuC_2, reduceIte, Nat.reduceEqDiff, false_and, and_false, true_and, and_true, and_self, or_true, true_or, or_false, false_or]; omega)) (by first | omega | (simp only [zuI_1, zuI_2, zuJ_1, zuJ_2, zuJ_3, zuP_1, zuP_2, zuP_3, zuC_1, zuC_2, reduceIte, Nat.reduceEqDiff, false_and, and_false, true_and, and_true, and_self, or_true, true_or, or_false, false_or]; omega)) (Nat.lt_succ_self _)) (zwk_s rfl (zwk_s rfl (zwk_s rfl (zwk_s rfl zwk_0))))

set_option maxHeartbeats 4000000 in
set_option maxRecDepth 100000 in
theorem c_X7_freeSin {l : Launch} {Γ : zΓ} {G : zH} {w : Nat} {p0 k : Int} (hX : zXs Γ) (hp : 0 ≤ p0 ∧ p0 ≤ 4) : zMet l Γ yX7_freeSin cX7_freeSin 5 (some .int) 1 [zr 8 w, zi p0, zi k] G (zpi (fun x G' => G' = G ∧ (-1 ≤ x ∧ x ≤ 3))) := by
  refine zMet_of RX7 hX (by decide) rfl (Nat.le_of_ble_eq_true rfl) ?_
  intro p e s m args below meth c C hr hlk
  show Z p l e (zrm 1) s m args below meth c Γ 5 0 0 (MQ below (zQc Γ (zpi (fun x G' => G' = G ∧ (-1 ≤ x ∧ x ≤ 3)))) args s 0 0 (zA Γ)) 0 [some (zr 8 w), some (zi p0), some (zi k), none, none] [] G
  refine zs_loc 1 rfl (fun ha1 hb1 => ?_)
  refine zs_loc 2 rfl (fun ha2 hb2 => ?_)
  refine zs_iconst (pc := 0) C dX7_freeSin_0 (by decide) ?_
  refine zs_istore_n (pc := 1) C dX7_freeSin_1 (by decide) ?_
  dsimp only [zset, zclr, znone]
  refine zs_iconst (pc := 2) C dX7_freeSin_2 (by decide) ?_
  refine zs_istore (pc := 3) C dX7_freeSin_3 (by decide) ?_
  dsimp only [zset, zclr, znone]
  have L5 : ∀ (nn : Nat) (x3 x4 : Int), (0 ≤ x4 ∧ x4 ≤ 4) → (4 - x4).toNat < nn → Z p l e (zrm 1) s m args below meth c Γ 5 0 0 (MQ below (zQc Γ (zpi (fun x G' => G' = G ∧ (-1 ≤ x ∧ x ≤ 3)))) args s 0 0 (zA Γ)) 5 [some (zr 8 w), some (zi p0), some (zi k), some (zi x3), some (zi x4)] [] G := by
    intro nn
    induction nn with
    | zero => intro x3 x4 h5_0 hm; exact absurd hm (Nat.not_lt_zero _)
    | succ nn ih5 =>
      intro x3 x4 h5_0 hm5
      refine zs_iload (pc := 5) C dX7_freeSin_5 rfl ?_
      refine zs_aload_n (pc := 7) C dX7_freeSin_7 rfl ?_
      refine zs_getd (r := 800) (pc := 8) C dX7_freeSin_8 w_X7_40 f_8_0 (by decide) rfl (fun v8 e8 t8 => ?_)
      subst e8
      refine zs_getf (pc := 11) C dX7_freeSin_11 w_X7_95 f_6_2 (by decide) ?_
      refine zs_iconst (pc := 14) C dX7_freeSin_14 (by decide) ?_
      refine zs_iald (r := 2037) (pc := 15) C dX7_freeSin_15 a_37 (by decide) (by omega) rfl rfl (fun v15 e15 l15 u15 => ?_)
      have hsz := rs_2037 (0 : Int).toNat
      refine zs_icmp_ge (tgt := 49) (pc := 16) C dX7_freeSin_16 (by decide) (fun h16 => ?_) (fun h16 => ?_)
      · skip
        refine zs_iconst (pc := 49) C dX7_freeSin_49 (by decide) ?_
        exact zs_iret (pc := 50) C hr hlk dX7_freeSin_50 ⟨rfl, by first | omega | (simp only [zuI_1, zuI_2, zuJ_1, zuJ_2, zuJ_3, zuP_1, zuP_2, zuP_3, zuC_1, zuC_2, reduceIte, Nat.reduceEqDiff, false_and, and_false, true_and, and_true, and_self, or_true, true_or, or_false, false_or]; omega)⟩
      · skip
        refine zs_aload_n (pc := 19) C dX7_freeSin_19 rfl ?_
        refine zs_iload_n (pc := 20) C dX7_freeSin_20 rfl ?_
        refine zs_iload (pc := 21) C dX7_freeSin_21 rfl ?_
        refine zVip2 (pc := 23) C dX7_freeSin_23 v_X7_101 (c_X7_leftOf hX (by omega) (by omega)) (by decide) (by decide) ⟨Nat.zero_le _, Nat.zero_le _⟩ (Nat.le_of_ble_eq_true rfl) (fun x23 l23 u23 hp23 => ?_)
        have hq23 := hp23
        refine zs_if_le (tgt := 32) (pc := 26) C dX7_freeSin_26 (by decide) (fun h26 => ?_) (fun h26 => ?_)
        · skip
          refine zs_iload_n (pc := 32) C dX7_freeSin_32 rfl ?_
          refine zs_iload_n (pc := 33) C dX7_freeSin_33 rfl ?_
          refine zs_icmp_ne (tgt := 40) (pc := 34) C dX7_freeSin_34 (by decide) (fun h34 => ?_) (fun h34 => ?_)
          · skip
            first | refine zs_iinc (pc := 40) C dX7_freeSin_40 rfl (by decide) (by omega) ?_ | refine zs_iincF (pc := 40) C dX7_freeSin_40 rfl (by decide) (fun z40 hz401 hz402 => ?_)
            dsimp only [zset, zclr, znone]
            first | refine zs_iinc (pc := 43) C dX7_freeSin_43 rfl (by decide) (by omega) ?_ | refine zs_iincF (pc := 43) C dX7_freeSin_43 rfl (by decide) (fun z43 hz431 hz432 => ?_)
            dsimp only [zset, zclr, znone]
            refine zs_goto (tgt := 5) (pc := 46) C dX7_freeSin_46 (by decide) ?_
            exact zs_wk (ih5 _ _ (by first | omega | (simp only [zuI_1, zuI_2, zuJ_1, zuJ_2, zuJ_3, zuP_1, zuP_2, zuP_3, zuC_1, zuC_2, reduceIte, Nat.reduceEqDiff, false_and, and_false, true_and, and_true, and_self, or_true, true_or, or_false, false_or]; omega)) (by first | omega | (simp only [zuI_1, zuI_2, zuJ_1, zuJ_2, zuJ_3, zuP_1, zuP_2, zuP_3, zuC_1, zuC_2, reduceIte, Nat.reduceEqDiff, false_and, and_false, true_and, and_true, and_self, or_true, true_or, or_false, false_or]; omega))) (zwk_s rfl (zwk_s rfl (zwk_s rfl (zwk_s rfl (zwk_s rfl zwk_0)))))
          · skip
            refine zs_iload (pc := 37) C dX7_freeSin_37 rfl ?_
            exact zs_iret (pc := 39) C hr hlk dX7_freeSin_39 ⟨rfl, by first | omega | (simp only [zuI_1, zuI_2, zuJ_1, zuJ_2, zuJ_3, zuP_1, zuP_2, zuP_3, zuC_1, zuC_2, reduceIte, Nat.reduceEqDiff, false_and, and_false, true_and, and_true, and_self, or_true, true_or, or_false, false_or]; omega)⟩
        · skip
          refine zs_goto (tgt := 43) (pc := 29) C dX7_freeSin_29 (by decide) ?_
          first | refine zs_iinc (pc := 43) C dX7_freeSin_43 rfl (by decide) (by omega) ?_ | refine zs_iincF (pc := 43) C dX7_freeSin_43 rfl (by decide) (fun z43 hz431 hz432 => ?_)
          dsimp only [zset, zclr, znone]
          refine zs_goto (tgt := 5) (pc := 46) C dX7_freeSin_46 (by decide) ?_
          exact zs_wk (ih5 _ _ (by first | omega | (simp only [zuI_1, zuI_2, zuJ_1, zuJ_2, zuJ_3, zuP_1, zuP_2, zuP_3, zuC_1, zuC_2, reduceIte, Nat.reduceEqDiff, false_and, and_false, true_and, and_true, and_self, or_true, true_or, or_false, false_or]; omega)) (by first | omega | (simp only [zuI_1, zuI_2, zuJ_1, zuJ_2, zuJ_3, zuP_1, zuP_2, zuP_3, zuC_1, zuC_2, reduceIte, Nat.reduceEqDiff, false_and, and_false, true_and, and_true, and_self, or_true, true_or, or_false, false_or]; omega))) (zwk_s rfl (zwk_s rfl (zwk_s rfl (zwk_s rfl (zwk_s rfl zwk_0)))))
  exact zs_wk (L5 _ _ _ (by first | omega | (simp only [zuI_1, zuI_2, zuJ_1, zuJ_2, zuJ_3, zuP_1, zuP_2, zuP_3, zuC_1, zuC_2, reduceIte, Nat.reduceEqDiff, false_and, and_false, true_and, and_true, and_self, or_true, true_or, or_false, false_or]; omega)) (Nat.lt_succ_self _)) (zwk_s rfl (zwk_s rfl (zwk_s rfl (zwk_s rfl (zwk_s rfl zwk_0)))))

set_option maxHeartbeats 4000000 in
set_option maxRecDepth 100000 in
theorem c_X7_sinByChance {l : Launch} {Γ : zΓ} {G : zH} {w : Nat} {p0 : Int} (hX : zXs Γ) (hp : 0 ≤ p0 ∧ p0 ≤ 4) : zMet l Γ yX7_sinByChance cX7_sinByChance 5 (some .int) 2 [zr 8 w, zi p0] G (zpi (fun x G' => zsm [812] G G' ∧ (-1 ≤ x ∧ x ≤ 3))) := by
  refine zMet_of RX7 hX (by decide) rfl (Nat.le_of_ble_eq_true rfl) ?_
  intro p e s m args below meth c C hr hlk
  show Z p l e (zrm 2) s m args below meth c Γ 5 0 0 (MQ below (zQc Γ (zpi (fun x G' => zsm [812] G G' ∧ (-1 ≤ x ∧ x ≤ 3)))) args s 0 0 (zA Γ)) 0 [some (zr 8 w), some (zi p0), none, none, none] [] G
  refine zs_loc 1 rfl (fun ha1 hb1 => ?_)
  refine zs_aload_n (pc := 0) C dX7_sinByChance_0 rfl ?_
  refine zVi0 (pc := 1) C dX7_sinByChance_1 v_X7_211 (c_X7_draw hX ) (by decide) (by decide) ⟨Nat.zero_le _, Nat.zero_le _⟩ (Nat.le_of_ble_eq_true rfl) (fun x1 G1 l1 u1 hp1 => ?_)
  obtain ⟨hz1, hq1⟩ := hp1
  refine zs_bipush (pc := 4) C dX7_sinByChance_4 (by decide) (by decide) ?_
  first | refine zs_irem (pc := 6) C dX7_sinByChance_6 (by omega) (by omega) (fun hz61 hz62 => ?_) | refine zs_iremF (pc := 6) C dX7_sinByChance_6 (by omega) (fun z6 hz61 hz62 => ?_)
  refine zs_aload_n (pc := 7) C dX7_sinByChance_7 rfl ?_
  refine zs_getd (r := 800) (pc := 8) C dX7_sinByChance_8 w_X7_40 f_8_0 (by decide) rfl (fun v8 e8 t8 => ?_)
  try simp only [hz1.2, zuI_1, zuI_2, zuJ_1, zuJ_2, zuJ_3, zuP_1, zuP_2, zuP_3, zuC_1, zuC_2, reduceIte, Nat.reduceEqDiff, false_and, and_false, true_and, and_true, and_self, or_true, true_or, or_false, false_or] at e8
  subst e8
  refine zs_getf (pc := 11) C dX7_sinByChance_11 w_X7_113 f_6_4 (by decide) ?_
  refine zs_iload_n (pc := 14) C dX7_sinByChance_14 rfl ?_
  refine zs_iald (r := 2039) (pc := 15) C dX7_sinByChance_15 a_39 (by decide) (by omega) rfl (r_2039 _) (fun v15 e15 l15 u15 => ?_)
  refine zs_icmp_ge (tgt := 23) (pc := 16) C dX7_sinByChance_16 (by decide) (fun h16 => ?_) (fun h16 => ?_)
  · skip
    refine zs_iconst (pc := 23) C dX7_sinByChance_23 (by decide) ?_
    refine zs_istore_n (pc := 24) C dX7_sinByChance_24 (by decide) ?_
    dsimp only [zset, zclr, znone]
    refine zs_aload_n (pc := 25) C dX7_sinByChance_25 rfl ?_
    refine zs_iload_n (pc := 26) C dX7_sinByChance_26 rfl ?_
    refine zVip1 (pc := 27) C dX7_sinByChance_27 v_X7_214 (c_X7_worstLeft hX (by omega)) (by decide) (by decide) ⟨Nat.zero_le _, Nat.zero_le _⟩ (Nat.le_of_ble_eq_true rfl) (fun x27 l27 u27 hp27 => ?_)
    have hq27 := hp27
    refine zs_istore_n (pc := 30) C dX7_sinByChance_30 (by decide) ?_
    dsimp only [zset, zclr, znone]
    refine zs_iload_n (pc := 31) C dX7_sinByChance_31 rfl ?_
    refine zs_if_eq (tgt := 42) (pc := 32) C dX7_sinByChance_32 (by decide) (fun h32 => ?_) (fun h32 => ?_)
    · skip
      refine zs_aload_n (pc := 42) C dX7_sinByChance_42 rfl ?_
      refine zs_getd (r := 800) (pc := 43) C dX7_sinByChance_43 w_X7_40 f_8_0 (by decide) rfl (fun v43 e43 t43 => ?_)
      try simp only [hz1.2, zuI_1, zuI_2, zuJ_1, zuJ_2, zuJ_3, zuP_1, zuP_2, zuP_3, zuC_1, zuC_2, reduceIte, Nat.reduceEqDiff, false_and, and_false, true_and, and_true, and_self, or_true, true_or, or_false, false_or] at e43
      subst e43
      refine zs_getf (pc := 46) C dX7_sinByChance_46 w_X7_95 f_6_2 (by decide) ?_
      refine zs_iconst (pc := 49) C dX7_sinByChance_49 (by decide) ?_
      refine zs_iald (r := 2037) (pc := 50) C dX7_sinByChance_50 a_37 (by decide) (by omega) rfl rfl (fun v50 e50 l50 u50 => ?_)
      refine zs_aload_n (pc := 51) C dX7_sinByChance_51 rfl ?_
      refine zs_iload_n (pc := 52) C dX7_sinByChance_52 rfl ?_
      refine zVip1 (pc := 53) C dX7_sinByChance_53 v_X7_187 (c_X7_leftBitsOf hX (by omega)) (by decide) (by decide) ⟨Nat.zero_le _, Nat.zero_le _⟩ (Nat.le_of_ble_eq_true rfl) (fun x53 l53 u53 hp53 => ?_)
      have hq53 := hp53
      refine zSip1 (pc := 56) C dX7_sinByChance_56 s_X7_217 (c_J6_bitCount_0f7a4 hX ) (by decide) ⟨Nat.zero_le _, Nat.zero_le _⟩ (Nat.le_of_ble_eq_true rfl) (fun x56 l56 u56 hp56 => ?_)
      have hq56 := hp56
      first | refine zs_isub (pc := 59) C dX7_sinByChance_59 (by omega) ?_ | refine zs_isubF (pc := 59) C dX7_sinByChance_59 (fun z59 hz591 hz592 => ?_)
      refine zs_istore (pc := 60) C dX7_sinByChance_60 (by decide) ?_
      dsimp only [zset, zclr, znone]
      refine zs_iload (pc := 62) C dX7_sinByChance_62 rfl ?_
      refine zs_if_le (tgt := 82) (pc := 64) C dX7_sinByChance_64 (by decide) (fun h64 => ?_) (fun h64 => ?_)
      · skip
        refine zs_iconst (pc := 82) C dX7_sinByChance_82 (by decide) ?_
        exact zs_iret (pc := 83) C hr hlk dX7_sinByChance_83 ⟨by repeat (first | exact zsm_rf | assumption | refine zsm_C (by decide) ?_ | refine zsm_I (by decide) ?_ | refine zsm_J ?_ | refine zsm_c (by assumption) (by decide) ?_), by first | omega | (simp only [zuI_1, zuI_2, zuJ_1, zuJ_2, zuJ_3, zuP_1, zuP_2, zuP_3, zuC_1, zuC_2, reduceIte, Nat.reduceEqDiff, false_and, and_false, true_and, and_true, and_self, or_true, true_or, or_false, false_or]; omega)⟩
      · skip
        refine zs_aload_n (pc := 67) C dX7_sinByChance_67 rfl ?_
        refine zs_iload_n (pc := 68) C dX7_sinByChance_68 rfl ?_
        refine zs_aload_n (pc := 69) C dX7_sinByChance_69 rfl ?_
        refine zVi0 (pc := 70) C dX7_sinByChance_70 v_X7_211 (c_X7_draw hX ) (by decide) (by decide) ⟨Nat.zero_le _, Nat.zero_le _⟩ (Nat.le_of_ble_eq_true rfl) (fun x70 G70 l70 u70 hp70 => ?_)
        obtain ⟨hz70, hq70⟩ := hp70
        refine zs_iload (pc := 73) C dX7_sinByChance_73 rfl ?_
        first | refine zs_irem (pc := 75) C dX7_sinByChance_75 (by omega) (by omega) (fun hz751 hz752 => ?_) | refine zs_iremF (pc := 75) C dX7_sinByChance_75 (by omega) (fun z75 hz751 hz752 => ?_)
        refine zVip2 (pc := 76) C dX7_sinByChance_76 v_X7_222 (c_X7_freeSin hX (by omega)) (by decide) (by decide) ⟨Nat.zero_le _, Nat.zero_le _⟩ (Nat.le_of_ble_eq_true rfl) (fun x76 l76 u76 hp76 => ?_)
        have hq76 := hp76
        refine zs_goto (tgt := 83) (pc := 79) C dX7_sinByChance_79 (by decide) ?_
        exact zs_iret (pc := 83) C hr hlk dX7_sinByChance_83 ⟨by repeat (first | exact zsm_rf | assumption | refine zsm_C (by decide) ?_ | refine zsm_I (by decide) ?_ | refine zsm_J ?_ | refine zsm_c (by assumption) (by decide) ?_), by first | omega | (simp only [zuI_1, zuI_2, zuJ_1, zuJ_2, zuJ_3, zuP_1, zuP_2, zuP_3, zuC_1, zuC_2, reduceIte, Nat.reduceEqDiff, false_and, and_false, true_and, and_true, and_self, or_true, true_or, or_false, false_or]; omega)⟩
    · skip
      refine zs_iload_n (pc := 35) C dX7_sinByChance_35 rfl ?_
      refine zs_iconst (pc := 36) C dX7_sinByChance_36 (by decide) ?_
      refine zs_icmp_eq (tgt := 42) (pc := 37) C dX7_sinByChance_37 (by decide) (fun h37 => ?_) (fun h37 => ?_)
      · skip
        refine zs_aload_n (pc := 42) C dX7_sinByChance_42 rfl ?_
        refine zs_getd (r := 800) (pc := 43) C dX7_sinByChance_43 w_X7_40 f_8_0 (by decide) rfl (fun v43 e43 t43 => ?_)
        try simp only [hz1.2, zuI_1, zuI_2, zuJ_1, zuJ_2, zuJ_3, zuP_1, zuP_2, zuP_3, zuC_1, zuC_2, reduceIte, Nat.reduceEqDiff, false_and, and_false, true_and, and_true, and_self, or_true, true_or, or_false, false_or] at e43
        subst e43
        refine zs_getf (pc := 46) C dX7_sinByChance_46 w_X7_95 f_6_2 (by decide) ?_
        refine zs_iconst (pc := 49) C dX7_sinByChance_49 (by decide) ?_
        refine zs_iald (r := 2037) (pc := 50) C dX7_sinByChance_50 a_37 (by decide) (by omega) rfl rfl (fun v50 e50 l50 u50 => ?_)
        refine zs_aload_n (pc := 51) C dX7_sinByChance_51 rfl ?_
        refine zs_iload_n (pc := 52) C dX7_sinByChance_52 rfl ?_
        refine zVip1 (pc := 53) C dX7_sinByChance_53 v_X7_187 (c_X7_leftBitsOf hX (by omega)) (by decide) (by decide) ⟨Nat.zero_le _, Nat.zero_le _⟩ (Nat.le_of_ble_eq_true rfl) (fun x53 l53 u53 hp53 => ?_)
        have hq53 := hp53
        refine zSip1 (pc := 56) C dX7_sinByChance_56 s_X7_217 (c_J6_bitCount_0f7a4 hX ) (by decide) ⟨Nat.zero_le _, Nat.zero_le _⟩ (Nat.le_of_ble_eq_true rfl) (fun x56 l56 u56 hp56 => ?_)
        have hq56 := hp56
        first | refine zs_isub (pc := 59) C dX7_sinByChance_59 (by omega) ?_ | refine zs_isubF (pc := 59) C dX7_sinByChance_59 (fun z59 hz591 hz592 => ?_)
        refine zs_istore (pc := 60) C dX7_sinByChance_60 (by decide) ?_
        dsimp only [zset, zclr, znone]
        refine zs_iload (pc := 62) C dX7_sinByChance_62 rfl ?_
        refine zs_if_le (tgt := 82) (pc := 64) C dX7_sinByChance_64 (by decide) (fun h64 => ?_) (fun h64 => ?_)
        · skip
          refine zs_iconst (pc := 82) C dX7_sinByChance_82 (by decide) ?_
          exact zs_iret (pc := 83) C hr hlk dX7_sinByChance_83 ⟨by repeat (first | exact zsm_rf | assumption | refine zsm_C (by decide) ?_ | refine zsm_I (by decide) ?_ | refine zsm_J ?_ | refine zsm_c (by assumption) (by decide) ?_), by first | omega | (simp only [zuI_1, zuI_2, zuJ_1, zuJ_2, zuJ_3, zuP_1, zuP_2, zuP_3, zuC_1, zuC_2, reduceIte, Nat.reduceEqDiff, false_and, and_false, true_and, and_true, and_self, or_true, true_or, or_false, false_or]; omega)⟩
        · skip
          refine zs_aload_n (pc := 67) C dX7_sinByChance_67 rfl ?_
          refine zs_iload_n (pc := 68) C dX7_sinByChance_68 rfl ?_
          refine zs_aload_n (pc := 69) C dX7_sinByChance_69 rfl ?_
          refine zVi0 (pc := 70) C dX7_sinByChance_70 v_X7_211 (c_X7_draw hX ) (by decide) (by decide) ⟨Nat.zero_le _, Nat.zero_le _⟩ (Nat.le_of_ble_eq_true rfl) (fun x70 G70 l70 u70 hp70 => ?_)
          obtain ⟨hz70, hq70⟩ := hp70
          refine zs_iload (pc := 73) C dX7_sinByChance_73 rfl ?_
          first | refine zs_irem (pc := 75) C dX7_sinByChance_75 (by omega) (by omega) (fun hz751 hz752 => ?_) | refine zs_iremF (pc := 75) C dX7_sinByChance_75 (by omega) (fun z75 hz751 hz752 => ?_)
          refine zVip2 (pc := 76) C dX7_sinByChance_76 v_X7_222 (c_X7_freeSin hX (by omega)) (by decide) (by decide) ⟨Nat.zero_le _, Nat.zero_le _⟩ (Nat.le_of_ble_eq_true rfl) (fun x76 l76 u76 hp76 => ?_)
          have hq76 := hp76
          refine zs_goto (tgt := 83) (pc := 79) C dX7_sinByChance_79 (by decide) ?_
          exact zs_iret (pc := 83) C hr hlk dX7_sinByChance_83 ⟨by repeat (first | exact zsm_rf | assumption | refine zsm_C (by decide) ?_ | refine zsm_I (by decide) ?_ | refine zsm_J ?_ | refine zsm_c (by assumption) (by decide) ?_), by first | omega | (simp only [zuI_1, zuI_2, zuJ_1, zuJ_2, zuJ_3, zuP_1, zuP_2, zuP_3, zuC_1, zuC_2, reduceIte, Nat.reduceEqDiff, false_and, and_false, true_and, and_true, and_self, or_true, true_or, or_false, false_or]; omega)⟩
      · skip
        refine zs_iload_n (pc := 40) C dX7_sinByChance_40 rfl ?_
        exact zs_iret (pc := 41) C hr hlk dX7_sinByChance_41 ⟨by repeat (first | exact zsm_rf | assumption | refine zsm_C (by decide) ?_ | refine zsm_I (by decide) ?_ | refine zsm_J ?_ | refine zsm_c (by assumption) (by decide) ?_), by first | omega | (simp only [zuI_1, zuI_2, zuJ_1, zuJ_2, zuJ_3, zuP_1, zuP_2, zuP_3, zuC_1, zuC_2, reduceIte, Nat.reduceEqDiff, false_and, and_false, true_and, and_true, and_self, or_true, true_or, or_false, false_or]; omega)⟩
  · skip
    refine zs_iconst (pc := 19) C dX7_sinByChance_19 (by decide) ?_
    refine zs_goto (tgt := 24) (pc := 20) C dX7_sinByChance_20 (by decide) ?_
    refine zs_istore_n (pc := 24) C dX7_sinByChance_24 (by decide) ?_
    dsimp only [zset, zclr, znone]
    refine zs_aload_n (pc := 25) C dX7_sinByChance_25 rfl ?_
    refine zs_iload_n (pc := 26) C dX7_sinByChance_26 rfl ?_
    refine zVip1 (pc := 27) C dX7_sinByChance_27 v_X7_214 (c_X7_worstLeft hX (by omega)) (by decide) (by decide) ⟨Nat.zero_le _, Nat.zero_le _⟩ (Nat.le_of_ble_eq_true rfl) (fun x27 l27 u27 hp27 => ?_)
    have hq27 := hp27
    refine zs_istore_n (pc := 30) C dX7_sinByChance_30 (by decide) ?_
    dsimp only [zset, zclr, znone]
    refine zs_iload_n (pc := 31) C dX7_sinByChance_31 rfl ?_
    refine zs_if_eq (tgt := 42) (pc := 32) C dX7_sinByChance_32 (by decide) (fun h32 => ?_) (fun h32 => ?_)
    · skip
      refine zs_aload_n (pc := 42) C dX7_sinByChance_42 rfl ?_
      refine zs_getd (r := 800) (pc := 43) C dX7_sinByChance_43 w_X7_40 f_8_0 (by decide) rfl (fun v43 e43 t43 => ?_)
      try simp only [hz1.2, zuI_1, zuI_2, zuJ_1, zuJ_2, zuJ_3, zuP_1, zuP_2, zuP_3, zuC_1, zuC_2, reduceIte, Nat.reduceEqDiff, false_and, and_false, true_and, and_true, and_self, or_true, true_or, or_false, false_or] at e43
      subst e43
      refine zs_getf (pc := 46) C dX7_sinByChance_46 w_X7_95 f_6_2 (by decide) ?_
      refine zs_iconst (pc := 49) C dX7_sinByChance_49 (by decide) ?_
      refine zs_iald (r := 2037) (pc := 50) C dX7_sinByChance_50 a_37 (by decide) (by omega) rfl rfl (fun v50 e50 l50 u50 => ?_)
      refine zs_aload_n (pc := 51) C dX7_sinByChance_51 rfl ?_
      refine zs_iload_n (pc := 52) C dX7_sinByChance_52 rfl ?_
      refine zVip1 (pc := 53) C dX7_sinByChance_53 v_X7_187 (c_X7_leftBitsOf hX (by omega)) (by decide) (by decide) ⟨Nat.zero_le _, Nat.zero_le _⟩ (Nat.le_of_ble_eq_true rfl) (fun x53 l53 u53 hp53 => ?_)
      have hq53 := hp53
      refine zSip1 (pc := 56) C dX7_sinByChance_56 s_X7_217 (c_J6_bitCount_0f7a4 hX ) (by decide) ⟨Nat.zero_le _, Nat.zero_le _⟩ (Nat.le_of_ble_eq_true rfl) (fun x56 l56 u56 hp56 => ?_)
      have hq56 := hp56
      first | refine zs_isub (pc := 59) C dX7_sinByChance_59 (by omega) ?_ | refine zs_isubF (pc := 59) C dX7_sinByChance_59 (fun z59 hz591 hz592 => ?_)
      refine zs_istore (pc := 60) C dX7_sinByChance_60 (by decide) ?_
      dsimp only [zset, zclr, znone]
      refine zs_iload (pc := 62) C dX7_sinByChance_62 rfl ?_
      refine zs_if_le (tgt := 82) (pc := 64) C dX7_sinByChance_64 (by decide) (fun h64 => ?_) (fun h64 => ?_)
      · skip
        refine zs_iconst (pc := 82) C dX7_sinByChance_82 (by decide) ?_
        exact zs_iret (pc := 83) C hr hlk dX7_sinByChance_83 ⟨by repeat (first | exact zsm_rf | assumption | refine zsm_C (by decide) ?_ | refine zsm_I (by decide) ?_ | refine zsm_J ?_ | refine zsm_c (by assumption) (by decide) ?_), by first | omega | (simp only [zuI_1, zuI_2, zuJ_1, zuJ_2, zuJ_3, zuP_1, zuP_2, zuP_3, zuC_1, zuC_2, reduceIte, Nat.reduceEqDiff, false_and, and_false, true_and, and_true, and_self, or_true, true_or, or_false, false_or]; omega)⟩
      · skip
        refine zs_aload_n (pc := 67) C dX7_sinByChance_67 rfl ?_
        refine zs_iload_n (pc := 68) C dX7_sinByChance_68 rfl ?_
        refine zs_aload_n (pc := 69) C dX7_sinByChance_69 rfl ?_
        refine zVi0 (pc := 70) C dX7_sinByChance_70 v_X7_211 (c_X7_draw hX ) (by decide) (by decide) ⟨Nat.zero_le _, Nat.zero_le _⟩ (Nat.le_of_ble_eq_true rfl) (fun x70 G70 l70 u70 hp70 => ?_)
        obtain ⟨hz70, hq70⟩ := hp70
        refine zs_iload (pc := 73) C dX7_sinByChance_73 rfl ?_
        first | refine zs_irem (pc := 75) C dX7_sinByChance_75 (by omega) (by omega) (fun hz751 hz752 => ?_) | refine zs_iremF (pc := 75) C dX7_sinByChance_75 (by omega) (fun z75 hz751 hz752 => ?_)
        refine zVip2 (pc := 76) C dX7_sinByChance_76 v_X7_222 (c_X7_freeSin hX (by omega)) (by decide) (by decide) ⟨Nat.zero_le _, Nat.zero_le _⟩ (Nat.le_of_ble_eq_true rfl) (fun x76 l76 u76 hp76 => ?_)
        have hq76 := hp76
        refine zs_goto (tgt := 83) (pc := 79) C dX7_sinByChance_79 (by decide) ?_
        exact zs_iret (pc := 83) C hr hlk dX7_sinByChance_83 ⟨by repeat (first | exact zsm_rf | assumption | refine zsm_C (by decide) ?_ | refine zsm_I (by decide) ?_ | refine zsm_J ?_ | refine zsm_c (by assumption) (by decide) ?_), by first | omega | (simp only [zuI_1, zuI_2, zuJ_1, zuJ_2, zuJ_3, zuP_1, zuP_2, zuP_3, zuC_1, zuC_2, reduceIte, Nat.reduceEqDiff, false_and, and_false, true_and, and_true, and_self, or_true, true_or, or_false, false_or]; omega)⟩
    · skip
      refine zs_iload_n (pc := 35) C dX7_sinByChance_35 rfl ?_
      refine zs_iconst (pc := 36) C dX7_sinByChance_36 (by decide) ?_
      refine zs_icmp_eq (tgt := 42) (pc := 37) C dX7_sinByChance_37 (by decide) (fun h37 => ?_) (fun h37 => ?_)
      · skip
        refine zs_aload_n (pc := 42) C dX7_sinByChance_42 rfl ?_
        refine zs_getd (r := 800) (pc := 43) C dX7_sinByChance_43 w_X7_40 f_8_0 (by decide) rfl (fun v43 e43 t43 => ?_)
        try simp only [hz1.2, zuI_1, zuI_2, zuJ_1, zuJ_2, zuJ_3, zuP_1, zuP_2, zuP_3, zuC_1, zuC_2, reduceIte, Nat.reduceEqDiff, false_and, and_false, true_and, and_true, and_self, or_true, true_or, or_false, false_or] at e43
        subst e43
        refine zs_getf (pc := 46) C dX7_sinByChance_46 w_X7_95 f_6_2 (by decide) ?_
        refine zs_iconst (pc := 49) C dX7_sinByChance_49 (by decide) ?_
        refine zs_iald (r := 2037) (pc := 50) C dX7_sinByChance_50 a_37 (by decide) (by omega) rfl rfl (fun v50 e50 l50 u50 => ?_)
        refine zs_aload_n (pc := 51) C dX7_sinByChance_51 rfl ?_
        refine zs_iload_n (pc := 52) C dX7_sinByChance_52 rfl ?_
        refine zVip1 (pc := 53) C dX7_sinByChance_53 v_X7_187 (c_X7_leftBitsOf hX (by omega)) (by decide) (by decide) ⟨Nat.zero_le _, Nat.zero_le _⟩ (Nat.le_of_ble_eq_true rfl) (fun x53 l53 u53 hp53 => ?_)
        have hq53 := hp53
        refine zSip1 (pc := 56) C dX7_sinByChance_56 s_X7_217 (c_J6_bitCount_0f7a4 hX ) (by decide) ⟨Nat.zero_le _, Nat.zero_le _⟩ (Nat.le_of_ble_eq_true rfl) (fun x56 l56 u56 hp56 => ?_)
        have hq56 := hp56
        first | refine zs_isub (pc := 59) C dX7_sinByChance_59 (by omega) ?_ | refine zs_isubF (pc := 59) C dX7_sinByChance_59 (fun z59 hz591 hz592 => ?_)
        refine zs_istore (pc := 60) C dX7_sinByChance_60 (by decide) ?_
        dsimp only [zset, zclr, znone]
        refine zs_iload (pc := 62) C dX7_sinByChance_62 rfl ?_
        refine zs_if_le (tgt := 82) (pc := 64) C dX7_sinByChance_64 (by decide) (fun h64 => ?_) (fun h64 => ?_)
        · skip
          refine zs_iconst (pc := 82) C dX7_sinByChance_82 (by decide) ?_
          exact zs_iret (pc := 83) C hr hlk dX7_sinByChance_83 ⟨by repeat (first | exact zsm_rf | assumption | refine zsm_C (by decide) ?_ | refine zsm_I (by decide) ?_ | refine zsm_J ?_ | refine zsm_c (by assumption) (by decide) ?_), by first | omega | (simp only [zuI_1, zuI_2, zuJ_1, zuJ_2, zuJ_3, zuP_1, zuP_2, zuP_3, zuC_1, zuC_2, reduceIte, Nat.reduceEqDiff, false_and, and_false, true_and, and_true, and_self, or_true, true_or, or_false, false_or]; omega)⟩
        · skip
          refine zs_aload_n (pc := 67) C dX7_sinByChance_67 rfl ?_
          refine zs_iload_n (pc := 68) C dX7_sinByChance_68 rfl ?_
          refine zs_aload_n (pc := 69) C dX7_sinByChance_69 rfl ?_
          refine zVi0 (pc := 70) C dX7_sinByChance_70 v_X7_211 (c_X7_draw hX ) (by decide) (by decide) ⟨Nat.zero_le _, Nat.zero_le _⟩ (Nat.le_of_ble_eq_true rfl) (fun x70 G70 l70 u70 hp70 => ?_)
          obtain ⟨hz70, hq70⟩ := hp70
          refine zs_iload (pc := 73) C dX7_sinByChance_73 rfl ?_
          first | refine zs_irem (pc := 75) C dX7_sinByChance_75 (by omega) (by omega) (fun hz751 hz752 => ?_) | refine zs_iremF (pc := 75) C dX7_sinByChance_75 (by omega) (fun z75 hz751 hz752 => ?_)
          refine zVip2 (pc := 76) C dX7_sinByChance_76 v_X7_222 (c_X7_freeSin hX (by omega)) (by decide) (by decide) ⟨Nat.zero_le _, Nat.zero_le _⟩ (Nat.le_of_ble_eq_true rfl) (fun x76 l76 u76 hp76 => ?_)
          have hq76 := hp76
          refine zs_goto (tgt := 83) (pc := 79) C dX7_sinByChance_79 (by decide) ?_
          exact zs_iret (pc := 83) C hr hlk dX7_sinByChance_83 ⟨by repeat (first | exact zsm_rf | assumption | refine zsm_C (by decide) ?_ | refine zsm_I (by decide) ?_ | refine zsm_J ?_ | refine zsm_c (by assumption) (by decide) ?_), by first | omega | (simp only [zuI_1, zuI_2, zuJ_1, zuJ_2, zuJ_3, zuP_1, zuP_2, zuP_3, zuC_1, zuC_2, reduceIte, Nat.reduceEqDiff, false_and, and_false, true_and, and_true, and_self, or_true, true_or, or_false, false_or]; omega)⟩
      · skip
        refine zs_iload_n (pc := 40) C dX7_sinByChance_40 rfl ?_
        exact zs_iret (pc := 41) C hr hlk dX7_sinByChance_41 ⟨by repeat (first | exact zsm_rf | assumption | refine zsm_C (by decide) ?_ | refine zsm_I (by decide) ?_ | refine zsm_J ?_ | refine zsm_c (by assumption) (by decide) ?_), by first | omega | (simp only [zuI_1, zuI_2, zuJ_1, zuJ_2, zuJ_3, zuP_1, zuP_2, zuP_3, zuC_1, zuC_2, reduceIte, Nat.reduceEqDiff, false_and, and_false, true_and, and_true, and_self, or_true, true_or, or_false, false_or]; omega)⟩

set_option maxHeartbeats 4000000 in
set_option maxRecDepth 100000 in
theorem c_X7_canFall {l : Launch} {Γ : zΓ} {G : zH} {w : Nat} {p0 s0 : Int} (hX : zXs Γ) (hp : 0 ≤ p0 ∧ p0 ≤ 4)(hs : 0 ≤ s0 ∧ s0 ≤ 3) : zMet l Γ yX7_canFall cX7_canFall 3 (some .boolean) 0 [zr 8 w, zi p0, zi s0] G (zpi (fun x G' => G' = G ∧ (x = 0 ∨ x = 1))) := by
  refine zMet_of RX7 hX (by decide) rfl (Nat.le_of_ble_eq_true rfl) ?_
  intro p e s m args below meth c C hr hlk
  show Z p l e (zrm 0) s m args below meth c Γ 3 0 0 (MQ below (zQc Γ (zpi (fun x G' => G' = G ∧ (x = 0 ∨ x = 1)))) args s 0 0 (zA Γ)) 0 [some (zr 8 w), some (zi p0), some (zi s0)] [] G
  refine zs_loc 1 rfl (fun ha1 hb1 => ?_)
  refine zs_loc 2 rfl (fun ha2 hb2 => ?_)
  refine zs_aload_n (pc := 0) C dX7_canFall_0 rfl ?_
  refine zs_getf (pc := 1) C dX7_canFall_1 w_X7_18 f_8_2 (by decide) ?_
  refine zs_iload_n (pc := 4) C dX7_canFall_4 rfl ?_
  refine zs_iconst (pc := 5) C dX7_canFall_5 (by decide) ?_
  first | refine zs_imul (pc := 6) C dX7_canFall_6 (by omega) ?_ | refine zs_imulF (pc := 6) C dX7_canFall_6 (fun z6 hz61 hz62 => ?_)
  refine zs_iload_n (pc := 7) C dX7_canFall_7 rfl ?_
  first | refine zs_iadd (pc := 8) C dX7_canFall_8 (by omega) ?_ | refine zs_iaddF (pc := 8) C dX7_canFall_8 (fun z8 hz81 hz82 => ?_)
  refine zs_iald (r := 2048) (pc := 9) C dX7_canFall_9 a_48 (by decide) (by omega) rfl (r_2048 _) (fun v9 e9 l9 u9 => ?_)
  refine zs_bipush (pc := 10) C dX7_canFall_10 (by decide) (by decide) ?_
  refine zs_icmp_ge (tgt := 19) (pc := 12) C dX7_canFall_12 (by decide) (fun h12 => ?_) (fun h12 => ?_)
  · skip
    refine zs_iconst (pc := 19) C dX7_canFall_19 (by decide) ?_
    exact zs_zret (pc := 20) C hr hlk dX7_canFall_20 (by omega) ⟨rfl, by first | omega | (simp only [zuI_1, zuI_2, zuJ_1, zuJ_2, zuJ_3, zuP_1, zuP_2, zuP_3, zuC_1, zuC_2, reduceIte, Nat.reduceEqDiff, false_and, and_false, true_and, and_true, and_self, or_true, true_or, or_false, false_or]; omega)⟩
  · skip
    refine zs_iconst (pc := 15) C dX7_canFall_15 (by decide) ?_
    refine zs_goto (tgt := 20) (pc := 16) C dX7_canFall_16 (by decide) ?_
    exact zs_zret (pc := 20) C hr hlk dX7_canFall_20 (by omega) ⟨rfl, by first | omega | (simp only [zuI_1, zuI_2, zuJ_1, zuJ_2, zuJ_3, zuP_1, zuP_2, zuP_3, zuC_1, zuC_2, reduceIte, Nat.reduceEqDiff, false_and, and_false, true_and, and_true, and_self, or_true, true_or, or_false, false_or]; omega)⟩

set_option maxHeartbeats 4000000 in
set_option maxRecDepth 100000 in
theorem c_X7_fallOnce {l : Launch} {Γ : zΓ} {G : zH} {w : Nat} {p0 s0 : Int} (hX : zXs Γ) (hp : 0 ≤ p0 ∧ p0 ≤ 4)(hs : 0 ≤ s0 ∧ s0 ≤ 3) : zMet l Γ yX7_fallOnce cX7_fallOnce 3 none 0 [zr 8 w, zi p0, zi s0] G (zpv (fun G' => zsm [2048, 2049, 2052] G G' ∧ True)) := by
  refine zMet_of RX7 hX (by decide) rfl (Nat.le_of_ble_eq_true rfl) ?_
  intro p e s m args below meth c C hr hlk
  show Z p l e (zrm 0) s m args below meth c Γ 3 0 0 (MQ below (zQc Γ (zpv (fun G' => zsm [2048, 2049, 2052] G G' ∧ True))) args s 0 0 (zA Γ)) 0 [some (zr 8 w), some (zi p0), some (zi s0)] [] G
  refine zs_loc 1 rfl (fun ha1 hb1 => ?_)
  refine zs_loc 2 rfl (fun ha2 hb2 => ?_)
  refine zs_aload_n (pc := 0) C dX7_fallOnce_0 rfl ?_
  refine zs_getf (pc := 1) C dX7_fallOnce_1 w_X7_18 f_8_2 (by decide) ?_
  refine zs_iload_n (pc := 4) C dX7_fallOnce_4 rfl ?_
  refine zs_iconst (pc := 5) C dX7_fallOnce_5 (by decide) ?_
  first | refine zs_imul (pc := 6) C dX7_fallOnce_6 (by omega) ?_ | refine zs_imulF (pc := 6) C dX7_fallOnce_6 (fun z6 hz61 hz62 => ?_)
  refine zs_iload_n (pc := 7) C dX7_fallOnce_7 rfl ?_
  first | refine zs_iadd (pc := 8) C dX7_fallOnce_8 (by omega) ?_ | refine zs_iaddF (pc := 8) C dX7_fallOnce_8 (fun z8 hz81 hz82 => ?_)
  refine zs_dup2 (pc := 9) C dX7_fallOnce_9 ?_
  refine zs_iald (r := 2048) (pc := 10) C dX7_fallOnce_10 a_48 (by decide) (by omega) rfl (r_2048 _) (fun v10 e10 l10 u10 => ?_)
  refine zs_iconst (pc := 11) C dX7_fallOnce_11 (by decide) ?_
  first | refine zs_iadd (pc := 12) C dX7_fallOnce_12 (by omega) ?_ | refine zs_iaddF (pc := 12) C dX7_fallOnce_12 (fun z12 hz121 hz122 => ?_)
  refine zs_iast (r := 2048) (pc := 13) C dX7_fallOnce_13 a_48 (by decide) (by omega) rfl (r_2048 _) (by omega) ?_
  refine zs_aload_n (pc := 14) C dX7_fallOnce_14 rfl ?_
  refine zs_getf (pc := 15) C dX7_fallOnce_15 w_X7_22 f_8_3 (by decide) ?_
  refine zs_iload_n (pc := 18) C dX7_fallOnce_18 rfl ?_
  refine zs_iconst (pc := 19) C dX7_fallOnce_19 (by decide) ?_
  first | refine zs_imul (pc := 20) C dX7_fallOnce_20 (by omega) ?_ | refine zs_imulF (pc := 20) C dX7_fallOnce_20 (fun z20 hz201 hz202 => ?_)
  refine zs_iload_n (pc := 21) C dX7_fallOnce_21 rfl ?_
  first | refine zs_iadd (pc := 22) C dX7_fallOnce_22 (by omega) ?_ | refine zs_iaddF (pc := 22) C dX7_fallOnce_22 (fun z22 hz221 hz222 => ?_)
  refine zs_dup2 (pc := 23) C dX7_fallOnce_23 ?_
  refine zs_iald (r := 2049) (pc := 24) C dX7_fallOnce_24 a_49 (by decide) (by omega) rfl (r_2049 _) (fun v24 e24 l24 u24 => ?_)
  try simp only [zuI_1, zuI_2, zuJ_1, zuJ_2, zuJ_3, zuP_1, zuP_2, zuP_3, zuC_1, zuC_2, reduceIte, Nat.reduceEqDiff, false_and, and_false, true_and, and_true, and_self, or_true, true_or, or_false, false_or] at e24
  refine zs_iconst (pc := 25) C dX7_fallOnce_25 (by decide) ?_
  first | refine zs_iadd (pc := 26) C dX7_fallOnce_26 (by omega) ?_ | refine zs_iaddF (pc := 26) C dX7_fallOnce_26 (fun z26 hz261 hz262 => ?_)
  refine zs_iast (r := 2049) (pc := 27) C dX7_fallOnce_27 a_49 (by decide) (by omega) rfl (r_2049 _) (by omega) ?_
  refine zs_aload_n (pc := 28) C dX7_fallOnce_28 rfl ?_
  refine zs_getf (pc := 29) C dX7_fallOnce_29 w_X7_31 f_8_6 (by decide) ?_
  refine zs_iload_n (pc := 32) C dX7_fallOnce_32 rfl ?_
  refine zs_dup2 (pc := 33) C dX7_fallOnce_33 ?_
  refine zs_iald (r := 2052) (pc := 34) C dX7_fallOnce_34 a_52 (by decide) (by omega) rfl (r_2052 _) (fun v34 e34 l34 u34 => ?_)
  try simp only [zuI_1, zuI_2, zuJ_1, zuJ_2, zuJ_3, zuP_1, zuP_2, zuP_3, zuC_1, zuC_2, reduceIte, Nat.reduceEqDiff, false_and, and_false, true_and, and_true, and_self, or_true, true_or, or_false, false_or] at e34
  refine zs_iconst (pc := 35) C dX7_fallOnce_35 (by decide) ?_
  first | refine zs_iadd (pc := 36) C dX7_fallOnce_36 (by omega) ?_ | refine zs_iaddF (pc := 36) C dX7_fallOnce_36 (fun z36 hz361 hz362 => ?_)
  refine zs_iast (r := 2052) (pc := 37) C dX7_fallOnce_37 a_52 (by decide) (by omega) rfl (r_2052 _) (by omega) ?_
  exact zs_vret (pc := 38) C hr hlk dX7_fallOnce_38 ⟨by repeat (first | exact zsm_rf | assumption | refine zsm_C (by decide) ?_ | refine zsm_I (by decide) ?_ | refine zsm_J ?_ | refine zsm_c (by assumption) (by decide) ?_), trivial⟩

set_option maxHeartbeats 4000000 in
set_option maxRecDepth 100000 in
theorem c_X7_unfall {l : Launch} {Γ : zΓ} {G : zH} {w : Nat} {p0 s0 : Int} (hX : zXs Γ) (hp : 0 ≤ p0 ∧ p0 ≤ 4)(hs : 0 ≤ s0 ∧ s0 ≤ 3) : zMet l Γ yX7_unfall cX7_unfall 3 none 0 [zr 8 w, zi p0, zi s0] G (zpv (fun G' => zsm [2048, 2049, 2052] G G' ∧ True)) := by
  refine zMet_of RX7 hX (by decide) rfl (Nat.le_of_ble_eq_true rfl) ?_
  intro p e s m args below meth c C hr hlk
  show Z p l e (zrm 0) s m args below meth c Γ 3 0 0 (MQ below (zQc Γ (zpv (fun G' => zsm [2048, 2049, 2052] G G' ∧ True))) args s 0 0 (zA Γ)) 0 [some (zr 8 w), some (zi p0), some (zi s0)] [] G
  refine zs_loc 1 rfl (fun ha1 hb1 => ?_)
  refine zs_loc 2 rfl (fun ha2 hb2 => ?_)
  refine zs_aload_n (pc := 0) C dX7_unfall_0 rfl ?_
  refine zs_getf (pc := 1) C dX7_unfall_1 w_X7_18 f_8_2 (by decide) ?_
  refine zs_iload_n (pc := 4) C dX7_unfall_4 rfl ?_
  refine zs_iconst (pc := 5) C dX7_unfall_5 (by decide) ?_
  first | refine zs_imul (pc := 6) C dX7_unfall_6 (by omega) ?_ | refine zs_imulF (pc := 6) C dX7_unfall_6 (fun z6 hz61 hz62 => ?_)
  refine zs_iload_n (pc := 7) C dX7_unfall_7 rfl ?_
  first | refine zs_iadd (pc := 8) C dX7_unfall_8 (by omega) ?_ | refine zs_iaddF (pc := 8) C dX7_unfall_8 (fun z8 hz81 hz82 => ?_)
  refine zs_dup2 (pc := 9) C dX7_unfall_9 ?_
  refine zs_iald (r := 2048) (pc := 10) C dX7_unfall_10 a_48 (by decide) (by omega) rfl (r_2048 _) (fun v10 e10 l10 u10 => ?_)
  refine zs_iconst (pc := 11) C dX7_unfall_11 (by decide) ?_
  first | refine zs_isub (pc := 12) C dX7_unfall_12 (by omega) ?_ | refine zs_isubF (pc := 12) C dX7_unfall_12 (fun z12 hz121 hz122 => ?_)
  refine zs_iast (r := 2048) (pc := 13) C dX7_unfall_13 a_48 (by decide) (by omega) rfl (r_2048 _) (by omega) ?_
  refine zs_aload_n (pc := 14) C dX7_unfall_14 rfl ?_
  refine zs_getf (pc := 15) C dX7_unfall_15 w_X7_22 f_8_3 (by decide) ?_
  refine zs_iload_n (pc := 18) C dX7_unfall_18 rfl ?_
  refine zs_iconst (pc := 19) C dX7_unfall_19 (by decide) ?_
  first | refine zs_imul (pc := 20) C dX7_unfall_20 (by omega) ?_ | refine zs_imulF (pc := 20) C dX7_unfall_20 (fun z20 hz201 hz202 => ?_)
  refine zs_iload_n (pc := 21) C dX7_unfall_21 rfl ?_
  first | refine zs_iadd (pc := 22) C dX7_unfall_22 (by omega) ?_ | refine zs_iaddF (pc := 22) C dX7_unfall_22 (fun z22 hz221 hz222 => ?_)
  refine zs_dup2 (pc := 23) C dX7_unfall_23 ?_
  refine zs_iald (r := 2049) (pc := 24) C dX7_unfall_24 a_49 (by decide) (by omega) rfl (r_2049 _) (fun v24 e24 l24 u24 => ?_)
  try simp only [zuI_1, zuI_2, zuJ_1, zuJ_2, zuJ_3, zuP_1, zuP_2, zuP_3, zuC_1, zuC_2, reduceIte, Nat.reduceEqDiff, false_and, and_false, true_and, and_true, and_self, or_true, true_or, or_false, false_or] at e24
  refine zs_iconst (pc := 25) C dX7_unfall_25 (by decide) ?_
  first | refine zs_isub (pc := 26) C dX7_unfall_26 (by omega) ?_ | refine zs_isubF (pc := 26) C dX7_unfall_26 (fun z26 hz261 hz262 => ?_)
  refine zs_iast (r := 2049) (pc := 27) C dX7_unfall_27 a_49 (by decide) (by omega) rfl (r_2049 _) (by omega) ?_
  refine zs_aload_n (pc := 28) C dX7_unfall_28 rfl ?_
  refine zs_getf (pc := 29) C dX7_unfall_29 w_X7_31 f_8_6 (by decide) ?_
  refine zs_iload_n (pc := 32) C dX7_unfall_32 rfl ?_
  refine zs_dup2 (pc := 33) C dX7_unfall_33 ?_
  refine zs_iald (r := 2052) (pc := 34) C dX7_unfall_34 a_52 (by decide) (by omega) rfl (r_2052 _) (fun v34 e34 l34 u34 => ?_)
  try simp only [zuI_1, zuI_2, zuJ_1, zuJ_2, zuJ_3, zuP_1, zuP_2, zuP_3, zuC_1, zuC_2, reduceIte, Nat.reduceEqDiff, false_and, and_false, true_and, and_true, and_self, or_true, true_or, or_false, false_or] at e34
  refine zs_iconst (pc := 35) C dX7_unfall_35 (by decide) ?_
  first | refine zs_isub (pc := 36) C dX7_unfall_36 (by omega) ?_ | refine zs_isubF (pc := 36) C dX7_unfall_36 (fun z36 hz361 hz362 => ?_)
  refine zs_iast (r := 2052) (pc := 37) C dX7_unfall_37 a_52 (by decide) (by omega) rfl (r_2052 _) (by omega) ?_
  exact zs_vret (pc := 38) C hr hlk dX7_unfall_38 ⟨by repeat (first | exact zsm_rf | assumption | refine zsm_C (by decide) ?_ | refine zsm_I (by decide) ?_ | refine zsm_J ?_ | refine zsm_c (by assumption) (by decide) ?_), trivial⟩

set_option maxHeartbeats 4000000 in
set_option maxRecDepth 100000 in
theorem c_X7_isBaked {l : Launch} {Γ : zΓ} {G : zH} {w : Nat} {p0 : Int} (hX : zXs Γ) (hp : 0 ≤ p0 ∧ p0 ≤ 4) : zMet l Γ yX7_isBaked cX7_isBaked 2 (some .boolean) 0 [zr 8 w, zi p0] G (zpi (fun x G' => G' = G ∧ (x = 0 ∨ x = 1))) := by
  refine zMet_of RX7 hX (by decide) rfl (Nat.le_of_ble_eq_true rfl) ?_
  intro p e s m args below meth c C hr hlk
  show Z p l e (zrm 0) s m args below meth c Γ 2 0 0 (MQ below (zQc Γ (zpi (fun x G' => G' = G ∧ (x = 0 ∨ x = 1)))) args s 0 0 (zA Γ)) 0 [some (zr 8 w), some (zi p0)] [] G
  refine zs_loc 1 rfl (fun ha1 hb1 => ?_)
  refine zs_aload_n (pc := 0) C dX7_isBaked_0 rfl ?_
  refine zs_getf (pc := 1) C dX7_isBaked_1 w_X7_34 f_8_7 (by decide) ?_
  refine zs_iload_n (pc := 4) C dX7_isBaked_4 rfl ?_
  refine zs_iald (r := 2053) (pc := 5) C dX7_isBaked_5 a_53 (by decide) (by omega) rfl (r_2053 _) (fun v5 e5 l5 u5 => ?_)
  refine zs_iconst (pc := 6) C dX7_isBaked_6 (by decide) ?_
  refine zs_icmp_eq (tgt := 14) (pc := 7) C dX7_isBaked_7 (by decide) (fun h7 => ?_) (fun h7 => ?_)
  · skip
    refine zs_iconst (pc := 14) C dX7_isBaked_14 (by decide) ?_
    exact zs_zret (pc := 15) C hr hlk dX7_isBaked_15 (by omega) ⟨rfl, by first | omega | (simp only [zuI_1, zuI_2, zuJ_1, zuJ_2, zuJ_3, zuP_1, zuP_2, zuP_3, zuC_1, zuC_2, reduceIte, Nat.reduceEqDiff, false_and, and_false, true_and, and_true, and_self, or_true, true_or, or_false, false_or]; omega)⟩
  · skip
    refine zs_iconst (pc := 10) C dX7_isBaked_10 (by decide) ?_
    refine zs_goto (tgt := 15) (pc := 11) C dX7_isBaked_11 (by decide) ?_
    exact zs_zret (pc := 15) C hr hlk dX7_isBaked_15 (by omega) ⟨rfl, by first | omega | (simp only [zuI_1, zuI_2, zuJ_1, zuJ_2, zuJ_3, zuP_1, zuP_2, zuP_3, zuC_1, zuC_2, reduceIte, Nat.reduceEqDiff, false_and, and_false, true_and, and_true, and_self, or_true, true_or, or_false, false_or]; omega)⟩

set_option maxHeartbeats 4000000 in
set_option maxRecDepth 100000 in
theorem c_X7_bakeOne {l : Launch} {Γ : zΓ} {G : zH} {w : Nat} {p0 : Int} (hX : zXs Γ) (hp : 0 ≤ p0 ∧ p0 ≤ 4) : zMet l Γ yX7_bakeOne cX7_bakeOne 7 (some .boolean) 1 [zr 8 w, zi p0] G (zpi (fun x G' => zsm [2054, 2030, 2053] G G' ∧ (x = 0 ∨ x = 1))) := by
  refine zMet_of RX7 hX (by decide) rfl (Nat.le_of_ble_eq_true rfl) ?_
  intro p e s m args below meth c C hr hlk
  show Z p l e (zrm 1) s m args below meth c Γ 7 0 0 (MQ below (zQc Γ (zpi (fun x G' => zsm [2054, 2030, 2053] G G' ∧ (x = 0 ∨ x = 1)))) args s 0 0 (zA Γ)) 0 [some (zr 8 w), some (zi p0), none, none, none, none, none] [] G
  refine zs_loc 1 rfl (fun ha1 hb1 => ?_)
  refine zs_aload_n (pc := 0) C dX7_bakeOne_0 rfl ?_
  refine zs_getd (r := 800) (pc := 1) C dX7_bakeOne_1 w_X7_40 f_8_0 (by decide) rfl (fun v1 e1 t1 => ?_)
  subst e1
  refine zs_getf (pc := 4) C dX7_bakeOne_4 w_X7_225 f_6_6 (by decide) ?_
  refine zs_iload_n (pc := 7) C dX7_bakeOne_7 rfl ?_
  refine zs_iald (r := 2041) (pc := 8) C dX7_bakeOne_8 a_41 (by decide) (by omega) rfl (r_2041 _) (fun v8 e8 l8 u8 => ?_)
  refine zs_istore_n (pc := 9) C dX7_bakeOne_9 (by decide) ?_
  dsimp only [zset, zclr, znone]
  refine zs_aload_n (pc := 10) C dX7_bakeOne_10 rfl ?_
  refine zs_getd (r := 800) (pc := 11) C dX7_bakeOne_11 w_X7_40 f_8_0 (by decide) rfl (fun v11 e11 t11 => ?_)
  subst e11
  refine zs_getf (pc := 14) C dX7_bakeOne_14 w_X7_228 f_6_7 (by decide) ?_
  refine zs_iload_n (pc := 17) C dX7_bakeOne_17 rfl ?_
  refine zs_iald (r := 2042) (pc := 18) C dX7_bakeOne_18 a_42 (by decide) (by omega) rfl (r_2042 _) (fun v18 e18 l18 u18 => ?_)
  refine zs_istore_n (pc := 19) C dX7_bakeOne_19 (by decide) ?_
  dsimp only [zset, zclr, znone]
  refine zs_aload_n (pc := 20) C dX7_bakeOne_20 rfl ?_
  refine zs_iload_n (pc := 21) C dX7_bakeOne_21 rfl ?_
  refine zVip1 (pc := 22) C dX7_bakeOne_22 v_X7_231 (c_X7_isBaked hX (by omega)) (by decide) (by decide) ⟨Nat.zero_le _, Nat.zero_le _⟩ (Nat.le_of_ble_eq_true rfl) (fun x22 l22 u22 hp22 => ?_)
  have hq22 := hp22
  refine zs_if_ne (tgt := 40) (pc := 25) C dX7_bakeOne_25 (by decide) (fun h25 => ?_) (fun h25 => ?_)
  · skip
    refine zs_iconst (pc := 40) C dX7_bakeOne_40 (by decide) ?_
    exact zs_zret (pc := 41) C hr hlk dX7_bakeOne_41 (by omega) ⟨by repeat (first | exact zsm_rf | assumption | refine zsm_C (by decide) ?_ | refine zsm_I (by decide) ?_ | refine zsm_J ?_ | refine zsm_c (by assumption) (by decide) ?_), by first | omega | (simp only [zuI_1, zuI_2, zuJ_1, zuJ_2, zuJ_3, zuP_1, zuP_2, zuP_3, zuC_1, zuC_2, reduceIte, Nat.reduceEqDiff, false_and, and_false, true_and, and_true, and_self, or_true, true_or, or_false, false_or]; omega)⟩
  · skip
    refine zs_aload_n (pc := 28) C dX7_bakeOne_28 rfl ?_
    refine zs_getf (pc := 29) C dX7_bakeOne_29 w_X7_12 f_8_1 (by decide) ?_
    refine zs_iload_n (pc := 32) C dX7_bakeOne_32 rfl ?_
    refine zVip1 (pc := 33) C dX7_bakeOne_33 v_X7_235 (c_X4_flourFrom hX ) (by decide) (by decide) ⟨Nat.zero_le _, Nat.zero_le _⟩ (Nat.le_of_ble_eq_true rfl) (fun x33 l33 u33 hp33 => ?_)
    have hq33 := hp33
    refine zs_iload_n (pc := 36) C dX7_bakeOne_36 rfl ?_
    refine zs_icmp_ge (tgt := 42) (pc := 37) C dX7_bakeOne_37 (by decide) (fun h37 => ?_) (fun h37 => ?_)
    · skip
      refine zs_iconst (pc := 42) C dX7_bakeOne_42 (by decide) ?_
      refine zs_istore (pc := 43) C dX7_bakeOne_43 (by decide) ?_
      dsimp only [zset, zclr, znone]
      have L45 : ∀ (nn : Nat) (x2 x3 x4 : Int) (G1 : zH), (0 ≤ x4 ∧ x4 ≤ 60) → (zsm [2054, 2030, 2053] G G1) → (60 - x4).toNat < nn → Z p l e (zrm 1) s m args below meth c Γ 7 0 0 (MQ below (zQc Γ (zpi (fun x G' => zsm [2054, 2030, 2053] G G' ∧ (x = 0 ∨ x = 1)))) args s 0 0 (zA Γ)) 45 [some (zr 8 w), some (zi p0), some (zi x2), some (zi x3), some (zi x4), none, none] [] G1 := by
        intro nn
        induction nn with
        | zero => intro x2 x3 x4 G1 h45_0 h45_1 hm; exact absurd hm (Nat.not_lt_zero _)
        | succ nn ih45 =>
          intro x2 x3 x4 G1 h45_0 h45_1 hm45
          refine zs_iload (pc := 45) C dX7_bakeOne_45 rfl ?_
          refine zs_bipush (pc := 47) C dX7_bakeOne_47 (by decide) (by decide) ?_
          refine zs_icmp_ge (tgt := 71) (pc := 49) C dX7_bakeOne_49 (by decide) (fun h49 => ?_) (fun h49 => ?_)
          · skip
            refine zs_iconst (pc := 71) C dX7_bakeOne_71 (by decide) ?_
            refine zs_istore (pc := 72) C dX7_bakeOne_72 (by decide) ?_
            dsimp only [zset, zclr, znone]
            have L74 : ∀ (nn : Nat) (x2 x3 x4 : Int) (G2 : zH), (0 ≤ x4 ∧ x4 ≤ 60) → (zsm [2054, 2030, 2053] G G2) → (60 - x4).toNat < nn → Z p l e (zrm 1) s m args below meth c Γ 7 0 0 (MQ below (zQc Γ (zpi (fun x G' => zsm [2054, 2030, 2053] G G' ∧ (x = 0 ∨ x = 1)))) args s 0 0 (zA Γ)) 74 [some (zr 8 w), some (zi p0), some (zi x2), some (zi x3), some (zi x4), none, none] [] G2 := by
              intro nn
              induction nn with
              | zero => intro x2 x3 x4 G2 h74_0 h74_1 hm; exact absurd hm (Nat.not_lt_zero _)
              | succ nn ih74 =>
                intro x2 x3 x4 G2 h74_0 h74_1 hm74
                refine zs_iload (pc := 74) C dX7_bakeOne_74 rfl ?_
                refine zs_bipush (pc := 76) C dX7_bakeOne_76 (by decide) (by decide) ?_
                refine zs_icmp_ge (tgt := 160) (pc := 78) C dX7_bakeOne_78 (by decide) (fun h78 => ?_) (fun h78 => ?_)
                · skip
                  refine zs_aload_n (pc := 160) C dX7_bakeOne_160 rfl ?_
                  refine zs_getf (pc := 161) C dX7_bakeOne_161 w_X7_34 f_8_7 (by decide) ?_
                  refine zs_iload_n (pc := 164) C dX7_bakeOne_164 rfl ?_
                  refine zs_aload_n (pc := 165) C dX7_bakeOne_165 rfl ?_
                  refine zs_geti (r := 809) (pc := 166) C dX7_bakeOne_166 w_X7_69 f_8_9 rfl (r_809 0) (fun v166 e166 l166 u166 => ?_)
                  refine zs_iast (r := 2053) (pc := 169) C dX7_bakeOne_169 a_53 (by decide) (by omega) rfl (r_2053 _) (by omega) ?_
                  refine zs_iconst (pc := 170) C dX7_bakeOne_170 (by decide) ?_
                  exact zs_zret (pc := 171) C hr hlk dX7_bakeOne_171 (by omega) ⟨by repeat (first | exact zsm_rf | assumption | refine zsm_C (by decide) ?_ | refine zsm_I (by decide) ?_ | refine zsm_J ?_ | refine zsm_c (by assumption) (by decide) ?_), by first | omega | (simp only [zuI_1, zuI_2, zuJ_1, zuJ_2, zuJ_3, zuP_1, zuP_2, zuP_3, zuC_1, zuC_2, reduceIte, Nat.reduceEqDiff, false_and, and_false, true_and, and_true, and_self, or_true, true_or, or_false, false_or]; omega)⟩
                · skip
                  refine zs_iload_n (pc := 81) C dX7_bakeOne_81 rfl ?_
                  refine zs_if_le (tgt := 160) (pc := 82) C dX7_bakeOne_82 (by decide) (fun h82 => ?_) (fun h82 => ?_)
                  · skip
                    refine zs_aload_n (pc := 160) C dX7_bakeOne_160 rfl ?_
                    refine zs_getf (pc := 161) C dX7_bakeOne_161 w_X7_34 f_8_7 (by decide) ?_
                    refine zs_iload_n (pc := 164) C dX7_bakeOne_164 rfl ?_
                    refine zs_aload_n (pc := 165) C dX7_bakeOne_165 rfl ?_
                    refine zs_geti (r := 809) (pc := 166) C dX7_bakeOne_166 w_X7_69 f_8_9 rfl (r_809 0) (fun v166 e166 l166 u166 => ?_)
                    refine zs_iast (r := 2053) (pc := 169) C dX7_bakeOne_169 a_53 (by decide) (by omega) rfl (r_2053 _) (by omega) ?_
                    refine zs_iconst (pc := 170) C dX7_bakeOne_170 (by decide) ?_
                    exact zs_zret (pc := 171) C hr hlk dX7_bakeOne_171 (by omega) ⟨by repeat (first | exact zsm_rf | assumption | refine zsm_C (by decide) ?_ | refine zsm_I (by decide) ?_ | refine zsm_J ?_ | refine zsm_c (by assumption) (by decide) ?_), by first | omega | (simp only [zuI_1, zuI_2, zuJ_1, zuJ_2, zuJ_3, zuP_1, zuP_2, zuP_3, zuC_1, zuC_2, reduceIte, Nat.reduceEqDiff, false_and, and_false, true_and, and_true, and_self, or_true, true_or, or_false, false_or]; omega)⟩
                  · skip
                    refine zs_aload_n (pc := 85) C dX7_bakeOne_85 rfl ?_
                    refine zs_getf (pc := 86) C dX7_bakeOne_86 w_X7_12 f_8_1 (by decide) ?_
                    refine zs_iload_n (pc := 89) C dX7_bakeOne_89 rfl ?_
                    refine zVip1 (pc := 90) C dX7_bakeOne_90 v_X7_238 (c_X4_coarsestFrom hX ) (by decide) (by decide) ⟨Nat.zero_le _, Nat.zero_le _⟩ (Nat.le_of_ble_eq_true rfl) (fun x90 l90 u90 hp90 => ?_)
                    have hq90 := hp90
                    refine zs_istore (pc := 93) C dX7_bakeOne_93 (by decide) ?_
                    dsimp only [zset, zclr, znone]
                    refine zs_iload (pc := 95) C dX7_bakeOne_95 rfl ?_
                    refine zs_iconst (pc := 97) C dX7_bakeOne_97 (by decide) ?_
                    refine zs_icmp_ne (tgt := 104) (pc := 98) C dX7_bakeOne_98 (by decide) (fun h98 => ?_) (fun h98 => ?_)
                    · skip
                      refine zs_iload_n (pc := 104) C dX7_bakeOne_104 rfl ?_
                      refine zs_aload_n (pc := 105) C dX7_bakeOne_105 rfl ?_
                      refine zs_getf (pc := 106) C dX7_bakeOne_106 w_X7_12 f_8_1 (by decide) ?_
                      refine zs_getf (pc := 109) C dX7_bakeOne_109 w_X7_181 f_5_4 (by decide) ?_
                      refine zs_iload (pc := 112) C dX7_bakeOne_112 rfl ?_
                      refine zs_iald (r := 2030) (pc := 114) C dX7_bakeOne_114 a_30 (by decide) (by omega) rfl (r_2030 _) (fun v114 e114 l114 u114 => ?_)
                      refine zs_minI (pc := 115) C dX7_bakeOne_115 s_X7_149 (by decide) (Nat.le_of_ble_eq_true rfl) ⟨Nat.zero_le _, Nat.zero_le _⟩ (fun z115 hz115 => ?_)
                      refine zs_istore (pc := 118) C dX7_bakeOne_118 (by decide) ?_
                      dsimp only [zset, zclr, znone]
                      refine zs_aload_n (pc := 120) C dX7_bakeOne_120 rfl ?_
                      refine zs_getf (pc := 121) C dX7_bakeOne_121 w_X7_12 f_8_1 (by decide) ?_
                      refine zs_getf (pc := 124) C dX7_bakeOne_124 w_X7_181 f_5_4 (by decide) ?_
                      refine zs_iload (pc := 127) C dX7_bakeOne_127 rfl ?_
                      refine zs_dup2 (pc := 129) C dX7_bakeOne_129 ?_
                      refine zs_iald (r := 2030) (pc := 130) C dX7_bakeOne_130 a_30 (by decide) (by omega) rfl (r_2030 _) (fun v130 e130 l130 u130 => ?_)
                      refine zs_iload (pc := 131) C dX7_bakeOne_131 rfl ?_
                      first | refine zs_isub (pc := 133) C dX7_bakeOne_133 (by omega) ?_ | refine zs_isubF (pc := 133) C dX7_bakeOne_133 (fun z133 hz1331 hz1332 => ?_)
                      refine zs_iast (r := 2030) (pc := 134) C dX7_bakeOne_134 a_30 (by decide) (by omega) rfl (r_2030 _) (by omega) ?_
                      refine zs_aload_n (pc := 135) C dX7_bakeOne_135 rfl ?_
                      refine zs_getf (pc := 136) C dX7_bakeOne_136 w_X7_37 f_8_8 (by decide) ?_
                      refine zs_iload_n (pc := 139) C dX7_bakeOne_139 rfl ?_
                      refine zs_bipush (pc := 140) C dX7_bakeOne_140 (by decide) (by decide) ?_
                      first | refine zs_imul (pc := 142) C dX7_bakeOne_142 (by omega) ?_ | refine zs_imulF (pc := 142) C dX7_bakeOne_142 (fun z142 hz1421 hz1422 => ?_)
                      refine zs_iload (pc := 143) C dX7_bakeOne_143 rfl ?_
                      first | refine zs_iadd (pc := 145) C dX7_bakeOne_145 (by omega) ?_ | refine zs_iaddF (pc := 145) C dX7_bakeOne_145 (fun z145 hz1451 hz1452 => ?_)
                      refine zs_iload (pc := 146) C dX7_bakeOne_146 rfl ?_
                      refine zs_iast (r := 2054) (pc := 148) C dX7_bakeOne_148 a_54 (by decide) (by omega) rfl (r_2054 _) (by omega) ?_
                      refine zs_iload_n (pc := 149) C dX7_bakeOne_149 rfl ?_
                      refine zs_iload (pc := 150) C dX7_bakeOne_150 rfl ?_
                      first | refine zs_isub (pc := 152) C dX7_bakeOne_152 (by omega) ?_ | refine zs_isubF (pc := 152) C dX7_bakeOne_152 (fun z152 hz1521 hz1522 => ?_)
                      refine zs_istore_n (pc := 153) C dX7_bakeOne_153 (by decide) ?_
                      dsimp only [zset, zclr, znone]
                      first | refine zs_iinc (pc := 154) C dX7_bakeOne_154 rfl (by decide) (by omega) ?_ | refine zs_iincF (pc := 154) C dX7_bakeOne_154 rfl (by decide) (fun z154 hz1541 hz1542 => ?_)
                      dsimp only [zset, zclr, znone]
                      refine zs_goto (tgt := 74) (pc := 157) C dX7_bakeOne_157 (by decide) ?_
                      exact zs_wk (ih74 _ _ _ _ (by first | omega | (simp only [zuI_1, zuI_2, zuJ_1, zuJ_2, zuJ_3, zuP_1, zuP_2, zuP_3, zuC_1, zuC_2, reduceIte, Nat.reduceEqDiff, false_and, and_false, true_and, and_true, and_self, or_true, true_or, or_false, false_or]; omega)) (by repeat (first | exact zsm_rf | assumption | refine zsm_C (by decide) ?_ | refine zsm_I (by decide) ?_ | refine zsm_J ?_ | refine zsm_c (by assumption) (by decide) ?_)) (by first | omega | (simp only [zuI_1, zuI_2, zuJ_1, zuJ_2, zuJ_3, zuP_1, zuP_2, zuP_3, zuC_1, zuC_2, reduceIte, Nat.reduceEqDiff, false_and, and_false, true_and, and_true, and_self, or_true, true_or, or_false, false_or]; omega))) (zwk_s rfl (zwk_s rfl (zwk_s rfl (zwk_s rfl (zwk_s rfl (zwk_n (zwk_n zwk_0)))))))
                    · skip
                      refine zs_goto (tgt := 160) (pc := 101) C dX7_bakeOne_101 (by decide) ?_
                      refine zs_aload_n (pc := 160) C dX7_bakeOne_160 rfl ?_
                      refine zs_getf (pc := 161) C dX7_bakeOne_161 w_X7_34 f_8_7 (by decide) ?_
                      refine zs_iload_n (pc := 164) C dX7_bakeOne_164 rfl ?_
                      refine zs_aload_n (pc := 165) C dX7_bakeOne_165 rfl ?_
                      refine zs_geti (r := 809) (pc := 166) C dX7_bakeOne_166 w_X7_69 f_8_9 rfl (r_809 0) (fun v166 e166 l166 u166 => ?_)
                      refine zs_iast (r := 2053) (pc := 169) C dX7_bakeOne_169 a_53 (by decide) (by omega) rfl (r_2053 _) (by omega) ?_
                      refine zs_iconst (pc := 170) C dX7_bakeOne_170 (by decide) ?_
                      exact zs_zret (pc := 171) C hr hlk dX7_bakeOne_171 (by omega) ⟨by repeat (first | exact zsm_rf | assumption | refine zsm_C (by decide) ?_ | refine zsm_I (by decide) ?_ | refine zsm_J ?_ | refine zsm_c (by assumption) (by decide) ?_), by first | omega | (simp only [zuI_1, zuI_2, zuJ_1, zuJ_2, zuJ_3, zuP_1, zuP_2, zuP_3, zuC_1, zuC_2, reduceIte, Nat.reduceEqDiff, false_and, and_false, true_and, and_true, and_self, or_true, true_or, or_false, false_or]; omega)⟩
            exact zs_wk (L74 _ _ _ _ _ (by first | omega | (simp only [zuI_1, zuI_2, zuJ_1, zuJ_2, zuJ_3, zuP_1, zuP_2, zuP_3, zuC_1, zuC_2, reduceIte, Nat.reduceEqDiff, false_and, and_false, true_and, and_true, and_self, or_true, true_or, or_false, false_or]; omega)) (by repeat (first | exact zsm_rf | assumption | refine zsm_C (by decide) ?_ | refine zsm_I (by decide) ?_ | refine zsm_J ?_ | refine zsm_c (by assumption) (by decide) ?_)) (Nat.lt_succ_self _)) (zwk_s rfl (zwk_s rfl (zwk_s rfl (zwk_s rfl (zwk_s rfl (zwk_n (zwk_n zwk_0)))))))
          · skip
            refine zs_aload_n (pc := 52) C dX7_bakeOne_52 rfl ?_
            refine zs_getf (pc := 53) C dX7_bakeOne_53 w_X7_37 f_8_8 (by decide) ?_
            refine zs_iload_n (pc := 56) C dX7_bakeOne_56 rfl ?_
            refine zs_bipush (pc := 57) C dX7_bakeOne_57 (by decide) (by decide) ?_
            first | refine zs_imul (pc := 59) C dX7_bakeOne_59 (by omega) ?_ | refine zs_imulF (pc := 59) C dX7_bakeOne_59 (fun z59 hz591 hz592 => ?_)
            refine zs_iload (pc := 60) C dX7_bakeOne_60 rfl ?_
            first | refine zs_iadd (pc := 62) C dX7_bakeOne_62 (by omega) ?_ | refine zs_iaddF (pc := 62) C dX7_bakeOne_62 (fun z62 hz621 hz622 => ?_)
            refine zs_iconst (pc := 63) C dX7_bakeOne_63 (by decide) ?_
            refine zs_iast (r := 2054) (pc := 64) C dX7_bakeOne_64 a_54 (by decide) (by omega) rfl (r_2054 _) (by omega) ?_
            first | refine zs_iinc (pc := 65) C dX7_bakeOne_65 rfl (by decide) (by omega) ?_ | refine zs_iincF (pc := 65) C dX7_bakeOne_65 rfl (by decide) (fun z65 hz651 hz652 => ?_)
            dsimp only [zset, zclr, znone]
            refine zs_goto (tgt := 45) (pc := 68) C dX7_bakeOne_68 (by decide) ?_
            exact zs_wk (ih45 _ _ _ _ (by first | omega | (simp only [zuI_1, zuI_2, zuJ_1, zuJ_2, zuJ_3, zuP_1, zuP_2, zuP_3, zuC_1, zuC_2, reduceIte, Nat.reduceEqDiff, false_and, and_false, true_and, and_true, and_self, or_true, true_or, or_false, false_or]; omega)) (by repeat (first | exact zsm_rf | assumption | refine zsm_C (by decide) ?_ | refine zsm_I (by decide) ?_ | refine zsm_J ?_ | refine zsm_c (by assumption) (by decide) ?_)) (by first | omega | (simp only [zuI_1, zuI_2, zuJ_1, zuJ_2, zuJ_3, zuP_1, zuP_2, zuP_3, zuC_1, zuC_2, reduceIte, Nat.reduceEqDiff, false_and, and_false, true_and, and_true, and_self, or_true, true_or, or_false, false_or]; omega))) (zwk_s rfl (zwk_s rfl (zwk_s rfl (zwk_s rfl (zwk_s rfl (zwk_n (zwk_n zwk_0)))))))
      exact zs_wk (L45 _ _ _ _ _ (by first | omega | (simp only [zuI_1, zuI_2, zuJ_1, zuJ_2, zuJ_3, zuP_1, zuP_2, zuP_3, zuC_1, zuC_2, reduceIte, Nat.reduceEqDiff, false_and, and_false, true_and, and_true, and_self, or_true, true_or, or_false, false_or]; omega)) (by repeat (first | exact zsm_rf | assumption | refine zsm_C (by decide) ?_ | refine zsm_I (by decide) ?_ | refine zsm_J ?_ | refine zsm_c (by assumption) (by decide) ?_)) (Nat.lt_succ_self _)) (zwk_s rfl (zwk_s rfl (zwk_s rfl (zwk_s rfl (zwk_s rfl (zwk_n (zwk_n zwk_0)))))))
    · skip
      refine zs_iconst (pc := 40) C dX7_bakeOne_40 (by decide) ?_
      exact zs_zret (pc := 41) C hr hlk dX7_bakeOne_41 (by omega) ⟨by repeat (first | exact zsm_rf | assumption | refine zsm_C (by decide) ?_ | refine zsm_I (by decide) ?_ | refine zsm_J ?_ | refine zsm_c (by assumption) (by decide) ?_), by first | omega | (simp only [zuI_1, zuI_2, zuJ_1, zuJ_2, zuJ_3, zuP_1, zuP_2, zuP_3, zuC_1, zuC_2, reduceIte, Nat.reduceEqDiff, false_and, and_false, true_and, and_true, and_self, or_true, true_or, or_false, false_or]; omega)⟩

set_option maxHeartbeats 4000000 in
set_option maxRecDepth 100000 in
theorem c_X7_unbake {l : Launch} {Γ : zΓ} {G : zH} {w : Nat} {p0 : Int} (hX : zXs Γ) (hp : 0 ≤ p0 ∧ p0 ≤ 4) : zMet l Γ yX7_unbake cX7_unbake 3 none 0 [zr 8 w, zi p0] G (zpv (fun G' => zsm [2030, 2053] G G' ∧ True)) := by
  refine zMet_of RX7 hX (by decide) rfl (Nat.le_of_ble_eq_true rfl) ?_
  intro p e s m args below meth c C hr hlk
  show Z p l e (zrm 0) s m args below meth c Γ 3 0 0 (MQ below (zQc Γ (zpv (fun G' => zsm [2030, 2053] G G' ∧ True))) args s 0 0 (zA Γ)) 0 [some (zr 8 w), some (zi p0), none] [] G
  refine zs_loc 1 rfl (fun ha1 hb1 => ?_)
  refine zs_iconst (pc := 0) C dX7_unbake_0 (by decide) ?_
  refine zs_istore_n (pc := 1) C dX7_unbake_1 (by decide) ?_
  dsimp only [zset, zclr, znone]
  have L2 : ∀ (nn : Nat) (x2 : Int) (G1 : zH), (0 ≤ x2 ∧ x2 ≤ 60) → (zsm [2030, 2053] G G1) → (60 - x2).toNat < nn → Z p l e (zrm 0) s m args below meth c Γ 3 0 0 (MQ below (zQc Γ (zpv (fun G' => zsm [2030, 2053] G G' ∧ True))) args s 0 0 (zA Γ)) 2 [some (zr 8 w), some (zi p0), some (zi x2)] [] G1 := by
    intro nn
    induction nn with
    | zero => intro x2 G1 h2_0 h2_1 hm; exact absurd hm (Nat.not_lt_zero _)
    | succ nn ih2 =>
      intro x2 G1 h2_0 h2_1 hm2
      refine zs_iload_n (pc := 2) C dX7_unbake_2 rfl ?_
      refine zs_aload_n (pc := 3) C dX7_unbake_3 rfl ?_
      refine zs_getf (pc := 4) C dX7_unbake_4 w_X7_12 f_8_1 (by decide) ?_
      refine zs_geti (r := 510) (pc := 7) C dX7_unbake_7 w_X7_48 f_5_10 rfl (r_510 0) (fun v7 e7 l7 u7 => ?_)
      refine zs_icmp_ge (tgt := 42) (pc := 10) C dX7_unbake_10 (by decide) (fun h10 => ?_) (fun h10 => ?_)
      · skip
        refine zs_aload_n (pc := 42) C dX7_unbake_42 rfl ?_
        refine zs_getf (pc := 43) C dX7_unbake_43 w_X7_34 f_8_7 (by decide) ?_
        refine zs_iload_n (pc := 46) C dX7_unbake_46 rfl ?_
        refine zs_iconst (pc := 47) C dX7_unbake_47 (by decide) ?_
        refine zs_iast (r := 2053) (pc := 48) C dX7_unbake_48 a_53 (by decide) (by omega) rfl (r_2053 _) (by omega) ?_
        exact zs_vret (pc := 49) C hr hlk dX7_unbake_49 ⟨by repeat (first | exact zsm_rf | assumption | refine zsm_C (by decide) ?_ | refine zsm_I (by decide) ?_ | refine zsm_J ?_ | refine zsm_c (by assumption) (by decide) ?_), trivial⟩
      · skip
        refine zs_aload_n (pc := 13) C dX7_unbake_13 rfl ?_
        refine zs_getf (pc := 14) C dX7_unbake_14 w_X7_12 f_8_1 (by decide) ?_
        refine zs_getf (pc := 17) C dX7_unbake_17 w_X7_181 f_5_4 (by decide) ?_
        refine zs_iload_n (pc := 20) C dX7_unbake_20 rfl ?_
        refine zs_dup2 (pc := 21) C dX7_unbake_21 ?_
        refine zs_iald (r := 2030) (pc := 22) C dX7_unbake_22 a_30 (by decide) (by omega) rfl (r_2030 _) (fun v22 e22 l22 u22 => ?_)
        refine zs_aload_n (pc := 23) C dX7_unbake_23 rfl ?_
        refine zs_getf (pc := 24) C dX7_unbake_24 w_X7_37 f_8_8 (by decide) ?_
        refine zs_iload_n (pc := 27) C dX7_unbake_27 rfl ?_
        refine zs_bipush (pc := 28) C dX7_unbake_28 (by decide) (by decide) ?_
        first | refine zs_imul (pc := 30) C dX7_unbake_30 (by omega) ?_ | refine zs_imulF (pc := 30) C dX7_unbake_30 (fun z30 hz301 hz302 => ?_)
        refine zs_iload_n (pc := 31) C dX7_unbake_31 rfl ?_
        first | refine zs_iadd (pc := 32) C dX7_unbake_32 (by omega) ?_ | refine zs_iaddF (pc := 32) C dX7_unbake_32 (fun z32 hz321 hz322 => ?_)
        refine zs_iald (r := 2054) (pc := 33) C dX7_unbake_33 a_54 (by decide) (by omega) rfl (r_2054 _) (fun v33 e33 l33 u33 => ?_)
        first | refine zs_iadd (pc := 34) C dX7_unbake_34 (by omega) ?_ | refine zs_iaddF (pc := 34) C dX7_unbake_34 (fun z34 hz341 hz342 => ?_)
        refine zs_iast (r := 2030) (pc := 35) C dX7_unbake_35 a_30 (by decide) (by omega) rfl (r_2030 _) (by omega) ?_
        first | refine zs_iinc (pc := 36) C dX7_unbake_36 rfl (by decide) (by omega) ?_ | refine zs_iincF (pc := 36) C dX7_unbake_36 rfl (by decide) (fun z36 hz361 hz362 => ?_)
        dsimp only [zset, zclr, znone]
        refine zs_goto (tgt := 2) (pc := 39) C dX7_unbake_39 (by decide) ?_
        exact zs_wk (ih2 _ _ (by first | omega | (simp only [zuI_1, zuI_2, zuJ_1, zuJ_2, zuJ_3, zuP_1, zuP_2, zuP_3, zuC_1, zuC_2, reduceIte, Nat.reduceEqDiff, false_and, and_false, true_and, and_true, and_self, or_true, true_or, or_false, false_or]; omega)) (by repeat (first | exact zsm_rf | assumption | refine zsm_C (by decide) ?_ | refine zsm_I (by decide) ?_ | refine zsm_J ?_ | refine zsm_c (by assumption) (by decide) ?_)) (by first | omega | (simp only [zuI_1, zuI_2, zuJ_1, zuJ_2, zuJ_3, zuP_1, zuP_2, zuP_3, zuC_1, zuC_2, reduceIte, Nat.reduceEqDiff, false_and, and_false, true_and, and_true, and_self, or_true, true_or, or_false, false_or]; omega))) (zwk_s rfl (zwk_s rfl (zwk_s rfl zwk_0)))
  exact zs_wk (L2 _ _ _ (by first | omega | (simp only [zuI_1, zuI_2, zuJ_1, zuJ_2, zuJ_3, zuP_1, zuP_2, zuP_3, zuC_1, zuC_2, reduceIte, Nat.reduceEqDiff, false_and, and_false, true_and, and_true, and_self, or_true, true_or, or_false, false_or]; omega)) (by repeat (first | exact zsm_rf | assumption | refine zsm_C (by decide) ?_ | refine zsm_I (by decide) ?_ | refine zsm_J ?_ | refine zsm_c (by assumption) (by decide) ?_)) (Nat.lt_succ_self _)) (zwk_s rfl (zwk_s rfl (zwk_s rfl zwk_0)))

set_option maxHeartbeats 4000000 in
set_option maxRecDepth 100000 in
theorem c_X7_bakeOfDay {l : Launch} {Γ : zΓ} {G : zH} {w : Nat}  (hX : zXs Γ)  : zMet l Γ yX7_bakeOfDay cX7_bakeOfDay 2 none 2 [zr 8 w] G (zpv (fun G' => zsm [2054, 2030, 2053] G G' ∧ True)) := by
  refine zMet_of RX7 hX (by decide) rfl (Nat.le_of_ble_eq_true rfl) ?_
  intro p e s m args below meth c C hr hlk
  show Z p l e (zrm 2) s m args below meth c Γ 2 0 0 (MQ below (zQc Γ (zpv (fun G' => zsm [2054, 2030, 2053] G G' ∧ True))) args s 0 0 (zA Γ)) 0 [some (zr 8 w), none] [] G
  refine zs_iconst (pc := 0) C dX7_bakeOfDay_0 (by decide) ?_
  refine zs_istore_n (pc := 1) C dX7_bakeOfDay_1 (by decide) ?_
  dsimp only [zset, zclr, znone]
  have L2 : ∀ (nn : Nat) (x1 : Int) (G1 : zH), (0 ≤ x1 ∧ x1 ≤ 5) → (zsm [2054, 2030, 2053] G G1) → (5 - x1).toNat < nn → Z p l e (zrm 2) s m args below meth c Γ 2 0 0 (MQ below (zQc Γ (zpv (fun G' => zsm [2054, 2030, 2053] G G' ∧ True))) args s 0 0 (zA Γ)) 2 [some (zr 8 w), some (zi x1)] [] G1 := by
    intro nn
    induction nn with
    | zero => intro x1 G1 h2_0 h2_1 hm; exact absurd hm (Nat.not_lt_zero _)
    | succ nn ih2 =>
      intro x1 G1 h2_0 h2_1 hm2
      refine zs_iload_n (pc := 2) C dX7_bakeOfDay_2 rfl ?_
      refine zs_aload_n (pc := 3) C dX7_bakeOfDay_3 rfl ?_
      refine zs_getd (r := 800) (pc := 4) C dX7_bakeOfDay_4 w_X7_40 f_8_0 (by decide) rfl (fun v4 e4 t4 => ?_)
      try simp only [h2_1.2, zuI_1, zuI_2, zuJ_1, zuJ_2, zuJ_3, zuP_1, zuP_2, zuP_3, zuC_1, zuC_2, reduceIte, Nat.reduceEqDiff, false_and, and_false, true_and, and_true, and_self, or_true, true_or, or_false, false_or] at e4
      subst e4
      refine zs_getf (pc := 7) C dX7_bakeOfDay_7 w_X7_95 f_6_2 (by decide) ?_
      refine zs_iconst (pc := 10) C dX7_bakeOfDay_10 (by decide) ?_
      refine zs_iald (r := 2037) (pc := 11) C dX7_bakeOfDay_11 a_37 (by decide) (by omega) rfl rfl (fun v11 e11 l11 u11 => ?_)
      have hsz := rs_2037 (2 : Int).toNat
      refine zs_icmp_ge (tgt := 43) (pc := 12) C dX7_bakeOfDay_12 (by decide) (fun h12 => ?_) (fun h12 => ?_)
      · skip
        exact zs_vret (pc := 43) C hr hlk dX7_bakeOfDay_43 ⟨by repeat (first | exact zsm_rf | assumption | refine zsm_C (by decide) ?_ | refine zsm_I (by decide) ?_ | refine zsm_J ?_ | refine zsm_c (by assumption) (by decide) ?_), trivial⟩
      · skip
        refine zs_aload_n (pc := 15) C dX7_bakeOfDay_15 rfl ?_
        refine zs_getd (r := 800) (pc := 16) C dX7_bakeOfDay_16 w_X7_40 f_8_0 (by decide) rfl (fun v16 e16 t16 => ?_)
        try simp only [h2_1.2, zuI_1, zuI_2, zuJ_1, zuJ_2, zuJ_3, zuP_1, zuP_2, zuP_3, zuC_1, zuC_2, reduceIte, Nat.reduceEqDiff, false_and, and_false, true_and, and_true, and_self, or_true, true_or, or_false, false_or] at e16
        subst e16
        refine zs_getf (pc := 19) C dX7_bakeOfDay_19 w_X7_241 f_6_8 (by decide) ?_
        refine zs_iload_n (pc := 22) C dX7_bakeOfDay_22 rfl ?_
        refine zs_iald (r := 2043) (pc := 23) C dX7_bakeOfDay_23 a_43 (by decide) (by omega) rfl (r_2043 _) (fun v23 e23 l23 u23 => ?_)
        refine zs_aload_n (pc := 24) C dX7_bakeOfDay_24 rfl ?_
        refine zs_geti (r := 809) (pc := 25) C dX7_bakeOfDay_25 w_X7_69 f_8_9 rfl (r_809 0) (fun v25 e25 l25 u25 => ?_)
        refine zs_icmp_ne (tgt := 37) (pc := 28) C dX7_bakeOfDay_28 (by decide) (fun h28 => ?_) (fun h28 => ?_)
        · skip
          first | refine zs_iinc (pc := 37) C dX7_bakeOfDay_37 rfl (by decide) (by omega) ?_ | refine zs_iincF (pc := 37) C dX7_bakeOfDay_37 rfl (by decide) (fun z37 hz371 hz372 => ?_)
          dsimp only [zset, zclr, znone]
          refine zs_goto (tgt := 2) (pc := 40) C dX7_bakeOfDay_40 (by decide) ?_
          exact zs_wk (ih2 _ _ (by first | omega | (simp only [zuI_1, zuI_2, zuJ_1, zuJ_2, zuJ_3, zuP_1, zuP_2, zuP_3, zuC_1, zuC_2, reduceIte, Nat.reduceEqDiff, false_and, and_false, true_and, and_true, and_self, or_true, true_or, or_false, false_or]; omega)) (by repeat (first | exact zsm_rf | assumption | refine zsm_C (by decide) ?_ | refine zsm_I (by decide) ?_ | refine zsm_J ?_ | refine zsm_c (by assumption) (by decide) ?_)) (by first | omega | (simp only [zuI_1, zuI_2, zuJ_1, zuJ_2, zuJ_3, zuP_1, zuP_2, zuP_3, zuC_1, zuC_2, reduceIte, Nat.reduceEqDiff, false_and, and_false, true_and, and_true, and_self, or_true, true_or, or_false, false_or]; omega))) (zwk_s rfl (zwk_s rfl zwk_0))
        · skip
          refine zs_aload_n (pc := 31) C dX7_bakeOfDay_31 rfl ?_
          refine zs_iload_n (pc := 32) C dX7_bakeOfDay_32 rfl ?_
          refine zVi1 (pc := 33) C dX7_bakeOfDay_33 v_X7_244 (c_X7_bakeOne hX (by omega)) (by decide) (by decide) ⟨Nat.zero_le _, Nat.zero_le _⟩ (Nat.le_of_ble_eq_true rfl) (fun x33 G33 l33 u33 hp33 => ?_)
          obtain ⟨hz33, hq33⟩ := hp33
          refine zs_popi (pc := 36) C dX7_bakeOfDay_36 ?_
          first | refine zs_iinc (pc := 37) C dX7_bakeOfDay_37 rfl (by decide) (by omega) ?_ | refine zs_iincF (pc := 37) C dX7_bakeOfDay_37 rfl (by decide) (fun z37 hz371 hz372 => ?_)
          dsimp only [zset, zclr, znone]
          refine zs_goto (tgt := 2) (pc := 40) C dX7_bakeOfDay_40 (by decide) ?_
          exact zs_wk (ih2 _ _ (by first | omega | (simp only [zuI_1, zuI_2, zuJ_1, zuJ_2, zuJ_3, zuP_1, zuP_2, zuP_3, zuC_1, zuC_2, reduceIte, Nat.reduceEqDiff, false_and, and_false, true_and, and_true, and_self, or_true, true_or, or_false, false_or]; omega)) (by repeat (first | exact zsm_rf | assumption | refine zsm_C (by decide) ?_ | refine zsm_I (by decide) ?_ | refine zsm_J ?_ | refine zsm_c (by assumption) (by decide) ?_)) (by first | omega | (simp only [zuI_1, zuI_2, zuJ_1, zuJ_2, zuJ_3, zuP_1, zuP_2, zuP_3, zuC_1, zuC_2, reduceIte, Nat.reduceEqDiff, false_and, and_false, true_and, and_true, and_self, or_true, true_or, or_false, false_or]; omega))) (zwk_s rfl (zwk_s rfl zwk_0))
  exact zs_wk (L2 _ _ _ (by first | omega | (simp only [zuI_1, zuI_2, zuJ_1, zuJ_2, zuJ_3, zuP_1, zuP_2, zuP_3, zuC_1, zuC_2, reduceIte, Nat.reduceEqDiff, false_and, and_false, true_and, and_true, and_self, or_true, true_or, or_false, false_or]; omega)) (by repeat (first | exact zsm_rf | assumption | refine zsm_C (by decide) ?_ | refine zsm_I (by decide) ?_ | refine zsm_J ?_ | refine zsm_c (by assumption) (by decide) ?_)) (Nat.lt_succ_self _)) (zwk_s rfl (zwk_s rfl zwk_0))

set_option maxHeartbeats 4000000 in
set_option maxRecDepth 100000 in
theorem c_X7_urgeOf {l : Launch} {Γ : zΓ} {G : zH} {w : Nat} {p0 s0 k i0 : Int} (hX : zXs Γ) (hp : 0 ≤ p0 ∧ p0 ≤ 4)(hs : 0 ≤ s0 ∧ s0 ≤ 3) : zMet l Γ yX7_urgeOf cX7_urgeOf 7 (some .long) 3 [zr 8 w, zi p0, zi s0, zi k, zi i0] G (zpj (fun x G' => zsm [] G G' ∧ True)) := by
  refine zMet_of RX7 hX (by decide) rfl (Nat.le_of_ble_eq_true rfl) ?_
  intro p e s m args below meth c C hr hlk
  show Z p l e (zrm 3) s m args below meth c Γ 7 0 0 (MQ below (zQc Γ (zpj (fun x G' => zsm [] G G' ∧ True))) args s 0 0 (zA Γ)) 0 [some (zr 8 w), some (zi p0), some (zi s0), some (zi k), some (zi i0), none, none] [] G
  refine zs_loc 1 rfl (fun ha1 hb1 => ?_)
  refine zs_loc 2 rfl (fun ha2 hb2 => ?_)
  refine zs_loc 3 rfl (fun ha3 hb3 => ?_)
  refine zs_loc 4 rfl (fun ha4 hb4 => ?_)
  refine zs_iload_n (pc := 0) C dX7_urgeOf_0 rfl ?_
  refine zs_iconst (pc := 1) C dX7_urgeOf_1 (by decide) ?_
  refine zs_icmp_ne (tgt := 11) (pc := 2) C dX7_urgeOf_2 (by decide) (fun h2 => ?_) (fun h2 => ?_)
  · skip
    refine zs_iload_n (pc := 11) C dX7_urgeOf_11 rfl ?_
    refine zs_iconst (pc := 12) C dX7_urgeOf_12 (by decide) ?_
    refine zs_icmp_ne (tgt := 24) (pc := 13) C dX7_urgeOf_13 (by decide) (fun h13 => ?_) (fun h13 => ?_)
    · skip
      refine zs_iload_n (pc := 24) C dX7_urgeOf_24 rfl ?_
      refine zs_iconst (pc := 25) C dX7_urgeOf_25 (by decide) ?_
      refine zs_icmp_ne (tgt := 43) (pc := 26) C dX7_urgeOf_26 (by decide) (fun h26 => ?_) (fun h26 => ?_)
      · skip
        refine zs_iload_n (pc := 43) C dX7_urgeOf_43 rfl ?_
        refine zs_iconst (pc := 44) C dX7_urgeOf_44 (by decide) ?_
        refine zs_icmp_eq (tgt := 62) (pc := 45) C dX7_urgeOf_45 (by decide) (fun h45 => ?_) (fun h45 => ?_)
        · skip
          refine zs_aload_n (pc := 62) C dX7_urgeOf_62 rfl ?_
          refine zs_getd (r := 800) (pc := 63) C dX7_urgeOf_63 w_X7_40 f_8_0 (by decide) rfl (fun v63 e63 t63 => ?_)
          subst e63
          refine zs_getf (pc := 66) C dX7_urgeOf_66 w_X7_98 f_6_3 (by decide) ?_
          refine zs_iload_n (pc := 69) C dX7_urgeOf_69 rfl ?_
          refine zs_iald (r := 2038) (pc := 70) C dX7_urgeOf_70 a_38 (by decide) (by omega) rfl (r_2038 _) (fun v70 e70 l70 u70 => ?_)
          refine zs_i2l (pc := 71) C dX7_urgeOf_71 ?_
          exact zs_lret (pc := 72) C hr hlk dX7_urgeOf_72 ⟨by repeat (first | exact zsm_rf | assumption | refine zsm_C (by decide) ?_ | refine zsm_I (by decide) ?_ | refine zsm_J ?_ | refine zsm_c (by assumption) (by decide) ?_), trivial⟩
        · skip
          refine zs_aload_n (pc := 48) C dX7_urgeOf_48 rfl ?_
          refine zs_getd (r := 800) (pc := 49) C dX7_urgeOf_49 w_X7_40 f_8_0 (by decide) rfl (fun v49 e49 t49 => ?_)
          subst e49
          refine zs_getf (pc := 52) C dX7_urgeOf_52 w_X7_105 f_6_0 (by decide) ?_
          refine zs_iconst (pc := 55) C dX7_urgeOf_55 (by decide) ?_
          refine zVip1 (pc := 56) C dX7_urgeOf_56 v_X7_255 (c_X1_isTold hX ) (by decide) (by decide) ⟨Nat.zero_le _, Nat.zero_le _⟩ (Nat.le_of_ble_eq_true rfl) (fun x56 l56 u56 hp56 => ?_)
          have hq56 := hp56
          refine zs_if_ne (tgt := 73) (pc := 59) C dX7_urgeOf_59 (by decide) (fun h59 => ?_) (fun h59 => ?_)
          · skip
            refine zs_aload_n (pc := 73) C dX7_urgeOf_73 rfl ?_
            refine zs_iconst (pc := 74) C dX7_urgeOf_74 (by decide) ?_
            refine zs_iload_n (pc := 75) C dX7_urgeOf_75 rfl ?_
            refine zs_iload_n (pc := 76) C dX7_urgeOf_76 rfl ?_
            refine zVj3 (pc := 77) C dX7_urgeOf_77 v_X7_258 (c_X7_valueOf hX (by omega) (by omega)) (by decide) (by decide) ⟨Nat.zero_le _, Nat.zero_le _⟩ (Nat.le_of_ble_eq_true rfl) (fun x77 G77 l77 u77 hp77 => ?_)
            obtain ⟨hz77, hq77⟩ := hp77
            refine zs_lstore (pc := 80) C dX7_urgeOf_80 (by decide) ?_
            dsimp only [zset, zclr, znone]
            refine zs_lload (pc := 82) C dX7_urgeOf_82 rfl ?_
            refine zs_ldc2 (n := -9223372036854775808) (pc := 84) C dX7_urgeOf_84 q_X7_194 (by decide) (by decide) ?_
            refine zs_lcmp (pc := 87) C dX7_urgeOf_87 (fun z87 hz87 => ?_)
            refine zs_if_ne (tgt := 95) (pc := 88) C dX7_urgeOf_88 (by decide) (fun h88 => ?_) (fun h88 => ?_)
            · skip
              refine zs_lload (pc := 95) C dX7_urgeOf_95 rfl ?_
              exact zs_lret (pc := 97) C hr hlk dX7_urgeOf_97 ⟨by repeat (first | exact zsm_rf | assumption | refine zsm_C (by decide) ?_ | refine zsm_I (by decide) ?_ | refine zsm_J ?_ | refine zsm_c (by assumption) (by decide) ?_), trivial⟩
            · skip
              refine zs_lconst (n := 0) (pc := 91) C dX7_urgeOf_91 rfl (by decide) ?_
              refine zs_goto (tgt := 97) (pc := 92) C dX7_urgeOf_92 (by decide) ?_
              exact zs_lret (pc := 97) C hr hlk dX7_urgeOf_97 ⟨by repeat (first | exact zsm_rf | assumption | refine zsm_C (by decide) ?_ | refine zsm_I (by decide) ?_ | refine zsm_J ?_ | refine zsm_c (by assumption) (by decide) ?_), trivial⟩
          · skip
            refine zs_aload_n (pc := 62) C dX7_urgeOf_62 rfl ?_
            refine zs_getd (r := 800) (pc := 63) C dX7_urgeOf_63 w_X7_40 f_8_0 (by decide) rfl (fun v63 e63 t63 => ?_)
            subst e63
            refine zs_getf (pc := 66) C dX7_urgeOf_66 w_X7_98 f_6_3 (by decide) ?_
            refine zs_iload_n (pc := 69) C dX7_urgeOf_69 rfl ?_
            refine zs_iald (r := 2038) (pc := 70) C dX7_urgeOf_70 a_38 (by decide) (by omega) rfl (r_2038 _) (fun v70 e70 l70 u70 => ?_)
            refine zs_i2l (pc := 71) C dX7_urgeOf_71 ?_
            exact zs_lret (pc := 72) C hr hlk dX7_urgeOf_72 ⟨by repeat (first | exact zsm_rf | assumption | refine zsm_C (by decide) ?_ | refine zsm_I (by decide) ?_ | refine zsm_J ?_ | refine zsm_c (by assumption) (by decide) ?_), trivial⟩
      · skip
        refine zs_bipush (pc := 29) C dX7_urgeOf_29 (by decide) (by decide) ?_
        refine zs_aload_n (pc := 31) C dX7_urgeOf_31 rfl ?_
        refine zs_getd (r := 800) (pc := 32) C dX7_urgeOf_32 w_X7_40 f_8_0 (by decide) rfl (fun v32 e32 t32 => ?_)
        subst e32
        refine zs_getf (pc := 35) C dX7_urgeOf_35 w_X7_98 f_6_3 (by decide) ?_
        refine zs_iload_n (pc := 38) C dX7_urgeOf_38 rfl ?_
        refine zs_iald (r := 2038) (pc := 39) C dX7_urgeOf_39 a_38 (by decide) (by omega) rfl (r_2038 _) (fun v39 e39 l39 u39 => ?_)
        first | refine zs_isub (pc := 40) C dX7_urgeOf_40 (by omega) ?_ | refine zs_isubF (pc := 40) C dX7_urgeOf_40 (fun z40 hz401 hz402 => ?_)
        refine zs_i2l (pc := 41) C dX7_urgeOf_41 ?_
        exact zs_lret (pc := 42) C hr hlk dX7_urgeOf_42 ⟨by repeat (first | exact zsm_rf | assumption | refine zsm_C (by decide) ?_ | refine zsm_I (by decide) ?_ | refine zsm_J ?_ | refine zsm_c (by assumption) (by decide) ?_), trivial⟩
    · skip
      refine zs_iload_n (pc := 16) C dX7_urgeOf_16 rfl ?_
      refine zs_iload (pc := 17) C dX7_urgeOf_17 rfl ?_
      refine zs_icmp_ne (tgt := 24) (pc := 19) C dX7_urgeOf_19 (by decide) (fun h19 => ?_) (fun h19 => ?_)
      · skip
        refine zs_iload_n (pc := 24) C dX7_urgeOf_24 rfl ?_
        refine zs_iconst (pc := 25) C dX7_urgeOf_25 (by decide) ?_
        refine zs_icmp_ne (tgt := 43) (pc := 26) C dX7_urgeOf_26 (by decide) (fun h26 => ?_) (fun h26 => ?_)
        · skip
          refine zs_iload_n (pc := 43) C dX7_urgeOf_43 rfl ?_
          refine zs_iconst (pc := 44) C dX7_urgeOf_44 (by decide) ?_
          refine zs_icmp_eq (tgt := 62) (pc := 45) C dX7_urgeOf_45 (by decide) (fun h45 => ?_) (fun h45 => ?_)
          · skip
            refine zs_aload_n (pc := 62) C dX7_urgeOf_62 rfl ?_
            refine zs_getd (r := 800) (pc := 63) C dX7_urgeOf_63 w_X7_40 f_8_0 (by decide) rfl (fun v63 e63 t63 => ?_)
            subst e63
            refine zs_getf (pc := 66) C dX7_urgeOf_66 w_X7_98 f_6_3 (by decide) ?_
            refine zs_iload_n (pc := 69) C dX7_urgeOf_69 rfl ?_
            refine zs_iald (r := 2038) (pc := 70) C dX7_urgeOf_70 a_38 (by decide) (by omega) rfl (r_2038 _) (fun v70 e70 l70 u70 => ?_)
            refine zs_i2l (pc := 71) C dX7_urgeOf_71 ?_
            exact zs_lret (pc := 72) C hr hlk dX7_urgeOf_72 ⟨by repeat (first | exact zsm_rf | assumption | refine zsm_C (by decide) ?_ | refine zsm_I (by decide) ?_ | refine zsm_J ?_ | refine zsm_c (by assumption) (by decide) ?_), trivial⟩
          · skip
            refine zs_aload_n (pc := 48) C dX7_urgeOf_48 rfl ?_
            refine zs_getd (r := 800) (pc := 49) C dX7_urgeOf_49 w_X7_40 f_8_0 (by decide) rfl (fun v49 e49 t49 => ?_)
            subst e49
            refine zs_getf (pc := 52) C dX7_urgeOf_52 w_X7_105 f_6_0 (by decide) ?_
            refine zs_iconst (pc := 55) C dX7_urgeOf_55 (by decide) ?_
            refine zVip1 (pc := 56) C dX7_urgeOf_56 v_X7_255 (c_X1_isTold hX ) (by decide) (by decide) ⟨Nat.zero_le _, Nat.zero_le _⟩ (Nat.le_of_ble_eq_true rfl) (fun x56 l56 u56 hp56 => ?_)
            have hq56 := hp56
            refine zs_if_ne (tgt := 73) (pc := 59) C dX7_urgeOf_59 (by decide) (fun h59 => ?_) (fun h59 => ?_)
            · skip
              refine zs_aload_n (pc := 73) C dX7_urgeOf_73 rfl ?_
              refine zs_iconst (pc := 74) C dX7_urgeOf_74 (by decide) ?_
              refine zs_iload_n (pc := 75) C dX7_urgeOf_75 rfl ?_
              refine zs_iload_n (pc := 76) C dX7_urgeOf_76 rfl ?_
              refine zVj3 (pc := 77) C dX7_urgeOf_77 v_X7_258 (c_X7_valueOf hX (by omega) (by omega)) (by decide) (by decide) ⟨Nat.zero_le _, Nat.zero_le _⟩ (Nat.le_of_ble_eq_true rfl) (fun x77 G77 l77 u77 hp77 => ?_)
              obtain ⟨hz77, hq77⟩ := hp77
              refine zs_lstore (pc := 80) C dX7_urgeOf_80 (by decide) ?_
              dsimp only [zset, zclr, znone]
              refine zs_lload (pc := 82) C dX7_urgeOf_82 rfl ?_
              refine zs_ldc2 (n := -9223372036854775808) (pc := 84) C dX7_urgeOf_84 q_X7_194 (by decide) (by decide) ?_
              refine zs_lcmp (pc := 87) C dX7_urgeOf_87 (fun z87 hz87 => ?_)
              refine zs_if_ne (tgt := 95) (pc := 88) C dX7_urgeOf_88 (by decide) (fun h88 => ?_) (fun h88 => ?_)
              · skip
                refine zs_lload (pc := 95) C dX7_urgeOf_95 rfl ?_
                exact zs_lret (pc := 97) C hr hlk dX7_urgeOf_97 ⟨by repeat (first | exact zsm_rf | assumption | refine zsm_C (by decide) ?_ | refine zsm_I (by decide) ?_ | refine zsm_J ?_ | refine zsm_c (by assumption) (by decide) ?_), trivial⟩
              · skip
                refine zs_lconst (n := 0) (pc := 91) C dX7_urgeOf_91 rfl (by decide) ?_
                refine zs_goto (tgt := 97) (pc := 92) C dX7_urgeOf_92 (by decide) ?_
                exact zs_lret (pc := 97) C hr hlk dX7_urgeOf_97 ⟨by repeat (first | exact zsm_rf | assumption | refine zsm_C (by decide) ?_ | refine zsm_I (by decide) ?_ | refine zsm_J ?_ | refine zsm_c (by assumption) (by decide) ?_), trivial⟩
            · skip
              refine zs_aload_n (pc := 62) C dX7_urgeOf_62 rfl ?_
              refine zs_getd (r := 800) (pc := 63) C dX7_urgeOf_63 w_X7_40 f_8_0 (by decide) rfl (fun v63 e63 t63 => ?_)
              subst e63
              refine zs_getf (pc := 66) C dX7_urgeOf_66 w_X7_98 f_6_3 (by decide) ?_
              refine zs_iload_n (pc := 69) C dX7_urgeOf_69 rfl ?_
              refine zs_iald (r := 2038) (pc := 70) C dX7_urgeOf_70 a_38 (by decide) (by omega) rfl (r_2038 _) (fun v70 e70 l70 u70 => ?_)
              refine zs_i2l (pc := 71) C dX7_urgeOf_71 ?_
              exact zs_lret (pc := 72) C hr hlk dX7_urgeOf_72 ⟨by repeat (first | exact zsm_rf | assumption | refine zsm_C (by decide) ?_ | refine zsm_I (by decide) ?_ | refine zsm_J ?_ | refine zsm_c (by assumption) (by decide) ?_), trivial⟩
        · skip
          refine zs_bipush (pc := 29) C dX7_urgeOf_29 (by decide) (by decide) ?_
          refine zs_aload_n (pc := 31) C dX7_urgeOf_31 rfl ?_
          refine zs_getd (r := 800) (pc := 32) C dX7_urgeOf_32 w_X7_40 f_8_0 (by decide) rfl (fun v32 e32 t32 => ?_)
          subst e32
          refine zs_getf (pc := 35) C dX7_urgeOf_35 w_X7_98 f_6_3 (by decide) ?_
          refine zs_iload_n (pc := 38) C dX7_urgeOf_38 rfl ?_
          refine zs_iald (r := 2038) (pc := 39) C dX7_urgeOf_39 a_38 (by decide) (by omega) rfl (r_2038 _) (fun v39 e39 l39 u39 => ?_)
          first | refine zs_isub (pc := 40) C dX7_urgeOf_40 (by omega) ?_ | refine zs_isubF (pc := 40) C dX7_urgeOf_40 (fun z40 hz401 hz402 => ?_)
          refine zs_i2l (pc := 41) C dX7_urgeOf_41 ?_
          exact zs_lret (pc := 42) C hr hlk dX7_urgeOf_42 ⟨by repeat (first | exact zsm_rf | assumption | refine zsm_C (by decide) ?_ | refine zsm_I (by decide) ?_ | refine zsm_J ?_ | refine zsm_c (by assumption) (by decide) ?_), trivial⟩
      · skip
        refine zs_lconst (n := 0) (pc := 22) C dX7_urgeOf_22 rfl (by decide) ?_
        exact zs_lret (pc := 23) C hr hlk dX7_urgeOf_23 ⟨by repeat (first | exact zsm_rf | assumption | refine zsm_C (by decide) ?_ | refine zsm_I (by decide) ?_ | refine zsm_J ?_ | refine zsm_c (by assumption) (by decide) ?_), trivial⟩
  · skip
    refine zs_iload_n (pc := 5) C dX7_urgeOf_5 rfl ?_
    refine zs_iload (pc := 6) C dX7_urgeOf_6 rfl ?_
    refine zs_icmp_eq (tgt := 22) (pc := 8) C dX7_urgeOf_8 (by decide) (fun h8 => ?_) (fun h8 => ?_)
    · skip
      refine zs_lconst (n := 0) (pc := 22) C dX7_urgeOf_22 rfl (by decide) ?_
      exact zs_lret (pc := 23) C hr hlk dX7_urgeOf_23 ⟨by repeat (first | exact zsm_rf | assumption | refine zsm_C (by decide) ?_ | refine zsm_I (by decide) ?_ | refine zsm_J ?_ | refine zsm_c (by assumption) (by decide) ?_), trivial⟩
    · skip
      refine zs_iload_n (pc := 11) C dX7_urgeOf_11 rfl ?_
      refine zs_iconst (pc := 12) C dX7_urgeOf_12 (by decide) ?_
      refine zs_icmp_ne (tgt := 24) (pc := 13) C dX7_urgeOf_13 (by decide) (fun h13 => ?_) (fun h13 => ?_)
      · skip
        refine zs_iload_n (pc := 24) C dX7_urgeOf_24 rfl ?_
        refine zs_iconst (pc := 25) C dX7_urgeOf_25 (by decide) ?_
        refine zs_icmp_ne (tgt := 43) (pc := 26) C dX7_urgeOf_26 (by decide) (fun h26 => ?_) (fun h26 => ?_)
        · skip
          refine zs_iload_n (pc := 43) C dX7_urgeOf_43 rfl ?_
          refine zs_iconst (pc := 44) C dX7_urgeOf_44 (by decide) ?_
          refine zs_icmp_eq (tgt := 62) (pc := 45) C dX7_urgeOf_45 (by decide) (fun h45 => ?_) (fun h45 => ?_)
          · skip
            refine zs_aload_n (pc := 62) C dX7_urgeOf_62 rfl ?_
            refine zs_getd (r := 800) (pc := 63) C dX7_urgeOf_63 w_X7_40 f_8_0 (by decide) rfl (fun v63 e63 t63 => ?_)
            subst e63
            refine zs_getf (pc := 66) C dX7_urgeOf_66 w_X7_98 f_6_3 (by decide) ?_
            refine zs_iload_n (pc := 69) C dX7_urgeOf_69 rfl ?_
            refine zs_iald (r := 2038) (pc := 70) C dX7_urgeOf_70 a_38 (by decide) (by omega) rfl (r_2038 _) (fun v70 e70 l70 u70 => ?_)
            refine zs_i2l (pc := 71) C dX7_urgeOf_71 ?_
            exact zs_lret (pc := 72) C hr hlk dX7_urgeOf_72 ⟨by repeat (first | exact zsm_rf | assumption | refine zsm_C (by decide) ?_ | refine zsm_I (by decide) ?_ | refine zsm_J ?_ | refine zsm_c (by assumption) (by decide) ?_), trivial⟩
          · skip
            refine zs_aload_n (pc := 48) C dX7_urgeOf_48 rfl ?_
            refine zs_getd (r := 800) (pc := 49) C dX7_urgeOf_49 w_X7_40 f_8_0 (by decide) rfl (fun v49 e49 t49 => ?_)
            subst e49
            refine zs_getf (pc := 52) C dX7_urgeOf_52 w_X7_105 f_6_0 (by decide) ?_
            refine zs_iconst (pc := 55) C dX7_urgeOf_55 (by decide) ?_
            refine zVip1 (pc := 56) C dX7_urgeOf_56 v_X7_255 (c_X1_isTold hX ) (by decide) (by decide) ⟨Nat.zero_le _, Nat.zero_le _⟩ (Nat.le_of_ble_eq_true rfl) (fun x56 l56 u56 hp56 => ?_)
            have hq56 := hp56
            refine zs_if_ne (tgt := 73) (pc := 59) C dX7_urgeOf_59 (by decide) (fun h59 => ?_) (fun h59 => ?_)
            · skip
              refine zs_aload_n (pc := 73) C dX7_urgeOf_73 rfl ?_
              refine zs_iconst (pc := 74) C dX7_urgeOf_74 (by decide) ?_
              refine zs_iload_n (pc := 75) C dX7_urgeOf_75 rfl ?_
              refine zs_iload_n (pc := 76) C dX7_urgeOf_76 rfl ?_
              refine zVj3 (pc := 77) C dX7_urgeOf_77 v_X7_258 (c_X7_valueOf hX (by omega) (by omega)) (by decide) (by decide) ⟨Nat.zero_le _, Nat.zero_le _⟩ (Nat.le_of_ble_eq_true rfl) (fun x77 G77 l77 u77 hp77 => ?_)
              obtain ⟨hz77, hq77⟩ := hp77
              refine zs_lstore (pc := 80) C dX7_urgeOf_80 (by decide) ?_
              dsimp only [zset, zclr, znone]
              refine zs_lload (pc := 82) C dX7_urgeOf_82 rfl ?_
              refine zs_ldc2 (n := -9223372036854775808) (pc := 84) C dX7_urgeOf_84 q_X7_194 (by decide) (by decide) ?_
              refine zs_lcmp (pc := 87) C dX7_urgeOf_87 (fun z87 hz87 => ?_)
              refine zs_if_ne (tgt := 95) (pc := 88) C dX7_urgeOf_88 (by decide) (fun h88 => ?_) (fun h88 => ?_)
              · skip
                refine zs_lload (pc := 95) C dX7_urgeOf_95 rfl ?_
                exact zs_lret (pc := 97) C hr hlk dX7_urgeOf_97 ⟨by repeat (first | exact zsm_rf | assumption | refine zsm_C (by decide) ?_ | refine zsm_I (by decide) ?_ | refine zsm_J ?_ | refine zsm_c (by assumption) (by decide) ?_), trivial⟩
              · skip
                refine zs_lconst (n := 0) (pc := 91) C dX7_urgeOf_91 rfl (by decide) ?_
                refine zs_goto (tgt := 97) (pc := 92) C dX7_urgeOf_92 (by decide) ?_
                exact zs_lret (pc := 97) C hr hlk dX7_urgeOf_97 ⟨by repeat (first | exact zsm_rf | assumption | refine zsm_C (by decide) ?_ | refine zsm_I (by decide) ?_ | refine zsm_J ?_ | refine zsm_c (by assumption) (by decide) ?_), trivial⟩
            · skip
              refine zs_aload_n (pc := 62) C dX7_urgeOf_62 rfl ?_
              refine zs_getd (r := 800) (pc := 63) C dX7_urgeOf_63 w_X7_40 f_8_0 (by decide) rfl (fun v63 e63 t63 => ?_)
              subst e63
              refine zs_getf (pc := 66) C dX7_urgeOf_66 w_X7_98 f_6_3 (by decide) ?_
              refine zs_iload_n (pc := 69) C dX7_urgeOf_69 rfl ?_
              refine zs_iald (r := 2038) (pc := 70) C dX7_urgeOf_70 a_38 (by decide) (by omega) rfl (r_2038 _) (fun v70 e70 l70 u70 => ?_)
              refine zs_i2l (pc := 71) C dX7_urgeOf_71 ?_
              exact zs_lret (pc := 72) C hr hlk dX7_urgeOf_72 ⟨by repeat (first | exact zsm_rf | assumption | refine zsm_C (by decide) ?_ | refine zsm_I (by decide) ?_ | refine zsm_J ?_ | refine zsm_c (by assumption) (by decide) ?_), trivial⟩
        · skip
          refine zs_bipush (pc := 29) C dX7_urgeOf_29 (by decide) (by decide) ?_
          refine zs_aload_n (pc := 31) C dX7_urgeOf_31 rfl ?_
          refine zs_getd (r := 800) (pc := 32) C dX7_urgeOf_32 w_X7_40 f_8_0 (by decide) rfl (fun v32 e32 t32 => ?_)
          subst e32
          refine zs_getf (pc := 35) C dX7_urgeOf_35 w_X7_98 f_6_3 (by decide) ?_
          refine zs_iload_n (pc := 38) C dX7_urgeOf_38 rfl ?_
          refine zs_iald (r := 2038) (pc := 39) C dX7_urgeOf_39 a_38 (by decide) (by omega) rfl (r_2038 _) (fun v39 e39 l39 u39 => ?_)
          first | refine zs_isub (pc := 40) C dX7_urgeOf_40 (by omega) ?_ | refine zs_isubF (pc := 40) C dX7_urgeOf_40 (fun z40 hz401 hz402 => ?_)
          refine zs_i2l (pc := 41) C dX7_urgeOf_41 ?_
          exact zs_lret (pc := 42) C hr hlk dX7_urgeOf_42 ⟨by repeat (first | exact zsm_rf | assumption | refine zsm_C (by decide) ?_ | refine zsm_I (by decide) ?_ | refine zsm_J ?_ | refine zsm_c (by assumption) (by decide) ?_), trivial⟩
      · skip
        refine zs_iload_n (pc := 16) C dX7_urgeOf_16 rfl ?_
        refine zs_iload (pc := 17) C dX7_urgeOf_17 rfl ?_
        refine zs_icmp_ne (tgt := 24) (pc := 19) C dX7_urgeOf_19 (by decide) (fun h19 => ?_) (fun h19 => ?_)
        · skip
          refine zs_iload_n (pc := 24) C dX7_urgeOf_24 rfl ?_
          refine zs_iconst (pc := 25) C dX7_urgeOf_25 (by decide) ?_
          refine zs_icmp_ne (tgt := 43) (pc := 26) C dX7_urgeOf_26 (by decide) (fun h26 => ?_) (fun h26 => ?_)
          · skip
            refine zs_iload_n (pc := 43) C dX7_urgeOf_43 rfl ?_
            refine zs_iconst (pc := 44) C dX7_urgeOf_44 (by decide) ?_
            refine zs_icmp_eq (tgt := 62) (pc := 45) C dX7_urgeOf_45 (by decide) (fun h45 => ?_) (fun h45 => ?_)
            · skip
              refine zs_aload_n (pc := 62) C dX7_urgeOf_62 rfl ?_
              refine zs_getd (r := 800) (pc := 63) C dX7_urgeOf_63 w_X7_40 f_8_0 (by decide) rfl (fun v63 e63 t63 => ?_)
              subst e63
              refine zs_getf (pc := 66) C dX7_urgeOf_66 w_X7_98 f_6_3 (by decide) ?_
              refine zs_iload_n (pc := 69) C dX7_urgeOf_69 rfl ?_
              refine zs_iald (r := 2038) (pc := 70) C dX7_urgeOf_70 a_38 (by decide) (by omega) rfl (r_2038 _) (fun v70 e70 l70 u70 => ?_)
              refine zs_i2l (pc := 71) C dX7_urgeOf_71 ?_
              exact zs_lret (pc := 72) C hr hlk dX7_urgeOf_72 ⟨by repeat (first | exact zsm_rf | assumption | refine zsm_C (by decide) ?_ | refine zsm_I (by decide) ?_ | refine zsm_J ?_ | refine zsm_c (by assumption) (by decide) ?_), trivial⟩
            · skip
              refine zs_aload_n (pc := 48) C dX7_urgeOf_48 rfl ?_
              refine zs_getd (r := 800) (pc := 49) C dX7_urgeOf_49 w_X7_40 f_8_0 (by decide) rfl (fun v49 e49 t49 => ?_)
              subst e49
              refine zs_getf (pc := 52) C dX7_urgeOf_52 w_X7_105 f_6_0 (by decide) ?_
              refine zs_iconst (pc := 55) C dX7_urgeOf_55 (by decide) ?_
              refine zVip1 (pc := 56) C dX7_urgeOf_56 v_X7_255 (c_X1_isTold hX ) (by decide) (by decide) ⟨Nat.zero_le _, Nat.zero_le _⟩ (Nat.le_of_ble_eq_true rfl) (fun x56 l56 u56 hp56 => ?_)
              have hq56 := hp56
              refine zs_if_ne (tgt := 73) (pc := 59) C dX7_urgeOf_59 (by decide) (fun h59 => ?_) (fun h59 => ?_)
              · skip
                refine zs_aload_n (pc := 73) C dX7_urgeOf_73 rfl ?_
                refine zs_iconst (pc := 74) C dX7_urgeOf_74 (by decide) ?_
                refine zs_iload_n (pc := 75) C dX7_urgeOf_75 rfl ?_
                refine zs_iload_n (pc := 76) C dX7_urgeOf_76 rfl ?_
                refine zVj3 (pc := 77) C dX7_urgeOf_77 v_X7_258 (c_X7_valueOf hX (by omega) (by omega)) (by decide) (by decide) ⟨Nat.zero_le _, Nat.zero_le _⟩ (Nat.le_of_ble_eq_true rfl) (fun x77 G77 l77 u77 hp77 => ?_)
                obtain ⟨hz77, hq77⟩ := hp77
                refine zs_lstore (pc := 80) C dX7_urgeOf_80 (by decide) ?_
                dsimp only [zset, zclr, znone]
                refine zs_lload (pc := 82) C dX7_urgeOf_82 rfl ?_
                refine zs_ldc2 (n := -9223372036854775808) (pc := 84) C dX7_urgeOf_84 q_X7_194 (by decide) (by decide) ?_
                refine zs_lcmp (pc := 87) C dX7_urgeOf_87 (fun z87 hz87 => ?_)
                refine zs_if_ne (tgt := 95) (pc := 88) C dX7_urgeOf_88 (by decide) (fun h88 => ?_) (fun h88 => ?_)
                · skip
                  refine zs_lload (pc := 95) C dX7_urgeOf_95 rfl ?_
                  exact zs_lret (pc := 97) C hr hlk dX7_urgeOf_97 ⟨by repeat (first | exact zsm_rf | assumption | refine zsm_C (by decide) ?_ | refine zsm_I (by decide) ?_ | refine zsm_J ?_ | refine zsm_c (by assumption) (by decide) ?_), trivial⟩
                · skip
                  refine zs_lconst (n := 0) (pc := 91) C dX7_urgeOf_91 rfl (by decide) ?_
                  refine zs_goto (tgt := 97) (pc := 92) C dX7_urgeOf_92 (by decide) ?_
                  exact zs_lret (pc := 97) C hr hlk dX7_urgeOf_97 ⟨by repeat (first | exact zsm_rf | assumption | refine zsm_C (by decide) ?_ | refine zsm_I (by decide) ?_ | refine zsm_J ?_ | refine zsm_c (by assumption) (by decide) ?_), trivial⟩
              · skip
                refine zs_aload_n (pc := 62) C dX7_urgeOf_62 rfl ?_
                refine zs_getd (r := 800) (pc := 63) C dX7_urgeOf_63 w_X7_40 f_8_0 (by decide) rfl (fun v63 e63 t63 => ?_)
                subst e63
                refine zs_getf (pc := 66) C dX7_urgeOf_66 w_X7_98 f_6_3 (by decide) ?_
                refine zs_iload_n (pc := 69) C dX7_urgeOf_69 rfl ?_
                refine zs_iald (r := 2038) (pc := 70) C dX7_urgeOf_70 a_38 (by decide) (by omega) rfl (r_2038 _) (fun v70 e70 l70 u70 => ?_)
                refine zs_i2l (pc := 71) C dX7_urgeOf_71 ?_
                exact zs_lret (pc := 72) C hr hlk dX7_urgeOf_72 ⟨by repeat (first | exact zsm_rf | assumption | refine zsm_C (by decide) ?_ | refine zsm_I (by decide) ?_ | refine zsm_J ?_ | refine zsm_c (by assumption) (by decide) ?_), trivial⟩
          · skip
            refine zs_bipush (pc := 29) C dX7_urgeOf_29 (by decide) (by decide) ?_
            refine zs_aload_n (pc := 31) C dX7_urgeOf_31 rfl ?_
            refine zs_getd (r := 800) (pc := 32) C dX7_urgeOf_32 w_X7_40 f_8_0 (by decide) rfl (fun v32 e32 t32 => ?_)
            subst e32
            refine zs_getf (pc := 35) C dX7_urgeOf_35 w_X7_98 f_6_3 (by decide) ?_
            refine zs_iload_n (pc := 38) C dX7_urgeOf_38 rfl ?_
            refine zs_iald (r := 2038) (pc := 39) C dX7_urgeOf_39 a_38 (by decide) (by omega) rfl (r_2038 _) (fun v39 e39 l39 u39 => ?_)
            first | refine zs_isub (pc := 40) C dX7_urgeOf_40 (by omega) ?_ | refine zs_isubF (pc := 40) C dX7_urgeOf_40 (fun z40 hz401 hz402 => ?_)
            refine zs_i2l (pc := 41) C dX7_urgeOf_41 ?_
            exact zs_lret (pc := 42) C hr hlk dX7_urgeOf_42 ⟨by repeat (first | exact zsm_rf | assumption | refine zsm_C (by decide) ?_ | refine zsm_I (by decide) ?_ | refine zsm_J ?_ | refine zsm_c (by assumption) (by decide) ?_), trivial⟩
        · skip
          refine zs_lconst (n := 0) (pc := 22) C dX7_urgeOf_22 rfl (by decide) ?_
          exact zs_lret (pc := 23) C hr hlk dX7_urgeOf_23 ⟨by repeat (first | exact zsm_rf | assumption | refine zsm_C (by decide) ?_ | refine zsm_I (by decide) ?_ | refine zsm_J ?_ | refine zsm_c (by assumption) (by decide) ?_), trivial⟩

set_option maxHeartbeats 4000000 in
set_option maxRecDepth 100000 in
theorem c_X7_confessOfDay {l : Launch} {Γ : zΓ} {G : zH} {w : Nat} {k i0 : Int} (hX : zXs Γ)  : zMet l Γ yX7_confessOfDay cX7_confessOfDay 9 none 4 [zr 8 w, zi k, zi i0] G (zpv (fun G' => zsm [510, 2026, 2027, 2028, 2029, 2030, 2031, 2032, 2033, 2034, 2035, 810, 811, 2049, 2050, 2051] G G' ∧ True)) := by
  refine zMet_of RX7 hX (by decide) rfl (Nat.le_of_ble_eq_true rfl) ?_
  intro p e s m args below meth c C hr hlk
  show Z p l e (zrm 4) s m args below meth c Γ 9 0 0 (MQ below (zQc Γ (zpv (fun G' => zsm [510, 2026, 2027, 2028, 2029, 2030, 2031, 2032, 2033, 2034, 2035, 810, 811, 2049, 2050, 2051] G G' ∧ True))) args s 0 0 (zA Γ)) 0 [some (zr 8 w), some (zi k), some (zi i0), none, none, none, none, none, none] [] G
  refine zs_loc 1 rfl (fun ha1 hb1 => ?_)
  refine zs_loc 2 rfl (fun ha2 hb2 => ?_)
  refine zs_iconst (pc := 0) C dX7_confessOfDay_0 (by decide) ?_
  refine zs_istore_n (pc := 1) C dX7_confessOfDay_1 (by decide) ?_
  dsimp only [zset, zclr, znone]
  refine zs_lconst (n := 0) (pc := 2) C dX7_confessOfDay_2 rfl (by decide) ?_
  refine zs_lstore (pc := 3) C dX7_confessOfDay_3 (by decide) ?_
  dsimp only [zset, zclr, znone]
  refine zs_iconst (pc := 5) C dX7_confessOfDay_5 (by decide) ?_
  refine zs_istore (pc := 6) C dX7_confessOfDay_6 (by decide) ?_
  dsimp only [zset, zclr, znone]
  have L8 : ∀ (nn : Nat) (x3 x4 x6 : Int) (G1 : zH), (-1 ≤ x3 ∧ x3 ≤ 19) → (0 ≤ x6 ∧ x6 ≤ 20) → (zsm [] G G1) → (20 - x6).toNat < nn → Z p l e (zrm 4) s m args below meth c Γ 9 0 0 (MQ below (zQc Γ (zpv (fun G' => zsm [510, 2026, 2027, 2028, 2029, 2030, 2031, 2032, 2033, 2034, 2035, 810, 811, 2049, 2050, 2051] G G' ∧ True))) args s 0 0 (zA Γ)) 8 [some (zr 8 w), some (zi k), some (zi i0), some (zi x3), some (zj x4), none, some (zi x6), none, none] [] G1 := by
    intro nn
    induction nn with
    | zero => intro x3 x4 x6 G1 h8_0 h8_1 h8_2 hm; exact absurd hm (Nat.not_lt_zero _)
    | succ nn ih8 =>
      intro x3 x4 x6 G1 h8_0 h8_1 h8_2 hm8
      refine zs_iload (pc := 8) C dX7_confessOfDay_8 rfl ?_
      refine zs_aload_n (pc := 10) C dX7_confessOfDay_10 rfl ?_
      refine zs_getd (r := 800) (pc := 11) C dX7_confessOfDay_11 w_X7_40 f_8_0 (by decide) rfl (fun v11 e11 t11 => ?_)
      try simp only [h8_2.2, zuI_1, zuI_2, zuJ_1, zuJ_2, zuJ_3, zuP_1, zuP_2, zuP_3, zuC_1, zuC_2, reduceIte, Nat.reduceEqDiff, false_and, and_false, true_and, and_true, and_self, or_true, true_or, or_false, false_or] at e11
      subst e11
      refine zs_getf (pc := 14) C dX7_confessOfDay_14 w_X7_95 f_6_2 (by decide) ?_
      refine zs_iconst (pc := 17) C dX7_confessOfDay_17 (by decide) ?_
      refine zs_iald (r := 2037) (pc := 18) C dX7_confessOfDay_18 a_37 (by decide) (by omega) rfl rfl (fun v18 e18 l18 u18 => ?_)
      have hsz := rs_2037 (1 : Int).toNat
      refine zs_iconst (pc := 19) C dX7_confessOfDay_19 (by decide) ?_
      first | refine zs_imul (pc := 20) C dX7_confessOfDay_20 (by omega) ?_ | refine zs_imulF (pc := 20) C dX7_confessOfDay_20 (fun z20 hz201 hz202 => ?_)
      refine zs_icmp_ge (tgt := 82) (pc := 21) C dX7_confessOfDay_21 (by decide) (fun h21 => ?_) (fun h21 => ?_)
      · skip
        refine zs_iload_n (pc := 82) C dX7_confessOfDay_82 rfl ?_
        refine zs_iconst (pc := 83) C dX7_confessOfDay_83 (by decide) ?_
        refine zs_icmp_eq (tgt := 106) (pc := 84) C dX7_confessOfDay_84 (by decide) (fun h84 => ?_) (fun h84 => ?_)
        · skip
          exact zs_vret (pc := 106) C hr hlk dX7_confessOfDay_106 ⟨by repeat (first | exact zsm_rf | assumption | refine zsm_C (by decide) ?_ | refine zsm_I (by decide) ?_ | refine zsm_J ?_ | refine zsm_c (by assumption) (by decide) ?_), trivial⟩
        · skip
          refine zs_aload_n (pc := 87) C dX7_confessOfDay_87 rfl ?_
          refine zs_iload_n (pc := 88) C dX7_confessOfDay_88 rfl ?_
          refine zs_iconst (pc := 89) C dX7_confessOfDay_89 (by decide) ?_
          first | refine zs_idiv (pc := 90) C dX7_confessOfDay_90 (by omega) (by omega) (fun hz901 hz902 => ?_) | refine zs_idivF (pc := 90) C dX7_confessOfDay_90 (by omega) (fun z90 hz901 hz902 => ?_)
          refine zs_iload_n (pc := 91) C dX7_confessOfDay_91 rfl ?_
          refine zs_iconst (pc := 92) C dX7_confessOfDay_92 (by decide) ?_
          first | refine zs_irem (pc := 93) C dX7_confessOfDay_93 (by omega) (by omega) (fun hz931 hz932 => ?_) | refine zs_iremF (pc := 93) C dX7_confessOfDay_93 (by omega) (fun z93 hz931 hz932 => ?_)
          refine zs_iload_n (pc := 94) C dX7_confessOfDay_94 rfl ?_
          refine zs_if_eq (tgt := 102) (pc := 95) C dX7_confessOfDay_95 (by decide) (fun h95 => ?_) (fun h95 => ?_)
          · skip
            refine zs_iconst (pc := 102) C dX7_confessOfDay_102 (by decide) ?_
            refine zVv3 (pc := 103) C dX7_confessOfDay_103 v_X7_251 (c_X7_grindOne hX (by omega) (by omega)) (by decide) (by decide) ⟨Nat.zero_le _, Nat.zero_le _⟩ (Nat.le_of_ble_eq_true rfl) (fun G103 hp103 => ?_)
            obtain ⟨hz103, hq103⟩ := hp103
            exact zs_vret (pc := 106) C hr hlk dX7_confessOfDay_106 ⟨by repeat (first | exact zsm_rf | assumption | refine zsm_C (by decide) ?_ | refine zsm_I (by decide) ?_ | refine zsm_J ?_ | refine zsm_c (by assumption) (by decide) ?_), trivial⟩
          · skip
            refine zs_iconst (pc := 98) C dX7_confessOfDay_98 (by decide) ?_
            refine zs_goto (tgt := 103) (pc := 99) C dX7_confessOfDay_99 (by decide) ?_
            refine zVv3 (pc := 103) C dX7_confessOfDay_103 v_X7_251 (c_X7_grindOne hX (by omega) (by omega)) (by decide) (by decide) ⟨Nat.zero_le _, Nat.zero_le _⟩ (Nat.le_of_ble_eq_true rfl) (fun G103 hp103 => ?_)
            obtain ⟨hz103, hq103⟩ := hp103
            exact zs_vret (pc := 106) C hr hlk dX7_confessOfDay_106 ⟨by repeat (first | exact zsm_rf | assumption | refine zsm_C (by decide) ?_ | refine zsm_I (by decide) ?_ | refine zsm_J ?_ | refine zsm_c (by assumption) (by decide) ?_), trivial⟩
      · skip
        refine zs_aload_n (pc := 24) C dX7_confessOfDay_24 rfl ?_
        refine zVip0 (pc := 25) C dX7_confessOfDay_25 v_X7_171 (c_X7_canGrind hX ) (by decide) (by decide) ⟨Nat.zero_le _, Nat.zero_le _⟩ (Nat.le_of_ble_eq_true rfl) (fun x25 l25 u25 hp25 => ?_)
        have hq25 := hp25
        refine zs_if_eq (tgt := 82) (pc := 28) C dX7_confessOfDay_28 (by decide) (fun h28 => ?_) (fun h28 => ?_)
        · skip
          refine zs_iload_n (pc := 82) C dX7_confessOfDay_82 rfl ?_
          refine zs_iconst (pc := 83) C dX7_confessOfDay_83 (by decide) ?_
          refine zs_icmp_eq (tgt := 106) (pc := 84) C dX7_confessOfDay_84 (by decide) (fun h84 => ?_) (fun h84 => ?_)
          · skip
            exact zs_vret (pc := 106) C hr hlk dX7_confessOfDay_106 ⟨by repeat (first | exact zsm_rf | assumption | refine zsm_C (by decide) ?_ | refine zsm_I (by decide) ?_ | refine zsm_J ?_ | refine zsm_c (by assumption) (by decide) ?_), trivial⟩
          · skip
            refine zs_aload_n (pc := 87) C dX7_confessOfDay_87 rfl ?_
            refine zs_iload_n (pc := 88) C dX7_confessOfDay_88 rfl ?_
            refine zs_iconst (pc := 89) C dX7_confessOfDay_89 (by decide) ?_
            first | refine zs_idiv (pc := 90) C dX7_confessOfDay_90 (by omega) (by omega) (fun hz901 hz902 => ?_) | refine zs_idivF (pc := 90) C dX7_confessOfDay_90 (by omega) (fun z90 hz901 hz902 => ?_)
            refine zs_iload_n (pc := 91) C dX7_confessOfDay_91 rfl ?_
            refine zs_iconst (pc := 92) C dX7_confessOfDay_92 (by decide) ?_
            first | refine zs_irem (pc := 93) C dX7_confessOfDay_93 (by omega) (by omega) (fun hz931 hz932 => ?_) | refine zs_iremF (pc := 93) C dX7_confessOfDay_93 (by omega) (fun z93 hz931 hz932 => ?_)
            refine zs_iload_n (pc := 94) C dX7_confessOfDay_94 rfl ?_
            refine zs_if_eq (tgt := 102) (pc := 95) C dX7_confessOfDay_95 (by decide) (fun h95 => ?_) (fun h95 => ?_)
            · skip
              refine zs_iconst (pc := 102) C dX7_confessOfDay_102 (by decide) ?_
              refine zVv3 (pc := 103) C dX7_confessOfDay_103 v_X7_251 (c_X7_grindOne hX (by omega) (by omega)) (by decide) (by decide) ⟨Nat.zero_le _, Nat.zero_le _⟩ (Nat.le_of_ble_eq_true rfl) (fun G103 hp103 => ?_)
              obtain ⟨hz103, hq103⟩ := hp103
              exact zs_vret (pc := 106) C hr hlk dX7_confessOfDay_106 ⟨by repeat (first | exact zsm_rf | assumption | refine zsm_C (by decide) ?_ | refine zsm_I (by decide) ?_ | refine zsm_J ?_ | refine zsm_c (by assumption) (by decide) ?_), trivial⟩
            · skip
              refine zs_iconst (pc := 98) C dX7_confessOfDay_98 (by decide) ?_
              refine zs_goto (tgt := 103) (pc := 99) C dX7_confessOfDay_99 (by decide) ?_
              refine zVv3 (pc := 103) C dX7_confessOfDay_103 v_X7_251 (c_X7_grindOne hX (by omega) (by omega)) (by decide) (by decide) ⟨Nat.zero_le _, Nat.zero_le _⟩ (Nat.le_of_ble_eq_true rfl) (fun G103 hp103 => ?_)
              obtain ⟨hz103, hq103⟩ := hp103
              exact zs_vret (pc := 106) C hr hlk dX7_confessOfDay_106 ⟨by repeat (first | exact zsm_rf | assumption | refine zsm_C (by decide) ?_ | refine zsm_I (by decide) ?_ | refine zsm_J ?_ | refine zsm_c (by assumption) (by decide) ?_), trivial⟩
        · skip
          refine zs_aload_n (pc := 31) C dX7_confessOfDay_31 rfl ?_
          refine zs_getf (pc := 32) C dX7_confessOfDay_32 w_X7_22 f_8_3 (by decide) ?_
          refine zs_iload (pc := 35) C dX7_confessOfDay_35 rfl ?_
          refine zs_iald (r := 2049) (pc := 37) C dX7_confessOfDay_37 a_49 (by decide) (by omega) rfl (r_2049 _) (fun v37 e37 l37 u37 => ?_)
          refine zs_if_le (tgt := 58) (pc := 38) C dX7_confessOfDay_38 (by decide) (fun h38 => ?_) (fun h38 => ?_)
          · skip
            refine zs_lconst (n := 0) (pc := 58) C dX7_confessOfDay_58 rfl (by decide) ?_
            refine zs_lstore (pc := 59) C dX7_confessOfDay_59 (by decide) ?_
            dsimp only [zset, zclr, znone]
            refine zs_lload (pc := 61) C dX7_confessOfDay_61 rfl ?_
            refine zs_lload (pc := 63) C dX7_confessOfDay_63 rfl ?_
            refine zs_lcmp (pc := 65) C dX7_confessOfDay_65 (fun z65 hz65 => ?_)
            refine zs_if_le (tgt := 76) (pc := 66) C dX7_confessOfDay_66 (by decide) (fun h66 => ?_) (fun h66 => ?_)
            · skip
              first | refine zs_iinc (pc := 76) C dX7_confessOfDay_76 rfl (by decide) (by omega) ?_ | refine zs_iincF (pc := 76) C dX7_confessOfDay_76 rfl (by decide) (fun z76 hz761 hz762 => ?_)
              dsimp only [zset, zclr, znone]
              refine zs_goto (tgt := 8) (pc := 79) C dX7_confessOfDay_79 (by decide) ?_
              exact zs_wk (ih8 _ _ _ _ (by first | omega | (simp only [zuI_1, zuI_2, zuJ_1, zuJ_2, zuJ_3, zuP_1, zuP_2, zuP_3, zuC_1, zuC_2, reduceIte, Nat.reduceEqDiff, false_and, and_false, true_and, and_true, and_self, or_true, true_or, or_false, false_or]; omega)) (by first | omega | (simp only [zuI_1, zuI_2, zuJ_1, zuJ_2, zuJ_3, zuP_1, zuP_2, zuP_3, zuC_1, zuC_2, reduceIte, Nat.reduceEqDiff, false_and, and_false, true_and, and_true, and_self, or_true, true_or, or_false, false_or]; omega)) (by repeat (first | exact zsm_rf | assumption | refine zsm_C (by decide) ?_ | refine zsm_I (by decide) ?_ | refine zsm_J ?_ | refine zsm_c (by assumption) (by decide) ?_)) (by first | omega | (simp only [zuI_1, zuI_2, zuJ_1, zuJ_2, zuJ_3, zuP_1, zuP_2, zuP_3, zuC_1, zuC_2, reduceIte, Nat.reduceEqDiff, false_and, and_false, true_and, and_true, and_self, or_true, true_or, or_false, false_or]; omega))) (zwk_s rfl (zwk_s rfl (zwk_s rfl (zwk_s rfl (zwk_s rfl (zwk_n (zwk_s rfl (zwk_n (zwk_n zwk_0)))))))))
            · skip
              refine zs_lload (pc := 69) C dX7_confessOfDay_69 rfl ?_
              refine zs_lstore (pc := 71) C dX7_confessOfDay_71 (by decide) ?_
              dsimp only [zset, zclr, znone]
              refine zs_iload (pc := 73) C dX7_confessOfDay_73 rfl ?_
              refine zs_istore_n (pc := 75) C dX7_confessOfDay_75 (by decide) ?_
              dsimp only [zset, zclr, znone]
              first | refine zs_iinc (pc := 76) C dX7_confessOfDay_76 rfl (by decide) (by omega) ?_ | refine zs_iincF (pc := 76) C dX7_confessOfDay_76 rfl (by decide) (fun z76 hz761 hz762 => ?_)
              dsimp only [zset, zclr, znone]
              refine zs_goto (tgt := 8) (pc := 79) C dX7_confessOfDay_79 (by decide) ?_
              exact zs_wk (ih8 _ _ _ _ (by first | omega | (simp only [zuI_1, zuI_2, zuJ_1, zuJ_2, zuJ_3, zuP_1, zuP_2, zuP_3, zuC_1, zuC_2, reduceIte, Nat.reduceEqDiff, false_and, and_false, true_and, and_true, and_self, or_true, true_or, or_false, false_or]; omega)) (by first | omega | (simp only [zuI_1, zuI_2, zuJ_1, zuJ_2, zuJ_3, zuP_1, zuP_2, zuP_3, zuC_1, zuC_2, reduceIte, Nat.reduceEqDiff, false_and, and_false, true_and, and_true, and_self, or_true, true_or, or_false, false_or]; omega)) (by repeat (first | exact zsm_rf | assumption | refine zsm_C (by decide) ?_ | refine zsm_I (by decide) ?_ | refine zsm_J ?_ | refine zsm_c (by assumption) (by decide) ?_)) (by first | omega | (simp only [zuI_1, zuI_2, zuJ_1, zuJ_2, zuJ_3, zuP_1, zuP_2, zuP_3, zuC_1, zuC_2, reduceIte, Nat.reduceEqDiff, false_and, and_false, true_and, and_true, and_self, or_true, true_or, or_false, false_or]; omega))) (zwk_s rfl (zwk_s rfl (zwk_s rfl (zwk_s rfl (zwk_s rfl (zwk_n (zwk_s rfl (zwk_n (zwk_n zwk_0)))))))))
          · skip
            refine zs_aload_n (pc := 41) C dX7_confessOfDay_41 rfl ?_
            refine zs_iload (pc := 42) C dX7_confessOfDay_42 rfl ?_
            refine zs_iconst (pc := 44) C dX7_confessOfDay_44 (by decide) ?_
            first | refine zs_idiv (pc := 45) C dX7_confessOfDay_45 (by omega) (by omega) (fun hz451 hz452 => ?_) | refine zs_idivF (pc := 45) C dX7_confessOfDay_45 (by omega) (fun z45 hz451 hz452 => ?_)
            refine zs_iload (pc := 46) C dX7_confessOfDay_46 rfl ?_
            refine zs_iconst (pc := 48) C dX7_confessOfDay_48 (by decide) ?_
            first | refine zs_irem (pc := 49) C dX7_confessOfDay_49 (by omega) (by omega) (fun hz491 hz492 => ?_) | refine zs_iremF (pc := 49) C dX7_confessOfDay_49 (by omega) (fun z49 hz491 hz492 => ?_)
            refine zs_iload_n (pc := 50) C dX7_confessOfDay_50 rfl ?_
            refine zs_iload_n (pc := 51) C dX7_confessOfDay_51 rfl ?_
            refine zVj4 (pc := 52) C dX7_confessOfDay_52 v_X7_247 (c_X7_urgeOf hX (by omega) (by omega)) (by decide) (by decide) ⟨Nat.zero_le _, Nat.zero_le _⟩ (Nat.le_of_ble_eq_true rfl) (fun x52 G52 l52 u52 hp52 => ?_)
            obtain ⟨hz52, hq52⟩ := hp52
            refine zs_goto (tgt := 59) (pc := 55) C dX7_confessOfDay_55 (by decide) ?_
            refine zs_lstore (pc := 59) C dX7_confessOfDay_59 (by decide) ?_
            dsimp only [zset, zclr, znone]
            refine zs_lload (pc := 61) C dX7_confessOfDay_61 rfl ?_
            refine zs_lload (pc := 63) C dX7_confessOfDay_63 rfl ?_
            refine zs_lcmp (pc := 65) C dX7_confessOfDay_65 (fun z65 hz65 => ?_)
            refine zs_if_le (tgt := 76) (pc := 66) C dX7_confessOfDay_66 (by decide) (fun h66 => ?_) (fun h66 => ?_)
            · skip
              first | refine zs_iinc (pc := 76) C dX7_confessOfDay_76 rfl (by decide) (by omega) ?_ | refine zs_iincF (pc := 76) C dX7_confessOfDay_76 rfl (by decide) (fun z76 hz761 hz762 => ?_)
              dsimp only [zset, zclr, znone]
              refine zs_goto (tgt := 8) (pc := 79) C dX7_confessOfDay_79 (by decide) ?_
              exact zs_wk (ih8 _ _ _ _ (by first | omega | (simp only [zuI_1, zuI_2, zuJ_1, zuJ_2, zuJ_3, zuP_1, zuP_2, zuP_3, zuC_1, zuC_2, reduceIte, Nat.reduceEqDiff, false_and, and_false, true_and, and_true, and_self, or_true, true_or, or_false, false_or]; omega)) (by first | omega | (simp only [zuI_1, zuI_2, zuJ_1, zuJ_2, zuJ_3, zuP_1, zuP_2, zuP_3, zuC_1, zuC_2, reduceIte, Nat.reduceEqDiff, false_and, and_false, true_and, and_true, and_self, or_true, true_or, or_false, false_or]; omega)) (by repeat (first | exact zsm_rf | assumption | refine zsm_C (by decide) ?_ | refine zsm_I (by decide) ?_ | refine zsm_J ?_ | refine zsm_c (by assumption) (by decide) ?_)) (by first | omega | (simp only [zuI_1, zuI_2, zuJ_1, zuJ_2, zuJ_3, zuP_1, zuP_2, zuP_3, zuC_1, zuC_2, reduceIte, Nat.reduceEqDiff, false_and, and_false, true_and, and_true, and_self, or_true, true_or, or_false, false_or]; omega))) (zwk_s rfl (zwk_s rfl (zwk_s rfl (zwk_s rfl (zwk_s rfl (zwk_n (zwk_s rfl (zwk_n (zwk_n zwk_0)))))))))
            · skip
              refine zs_lload (pc := 69) C dX7_confessOfDay_69 rfl ?_
              refine zs_lstore (pc := 71) C dX7_confessOfDay_71 (by decide) ?_
              dsimp only [zset, zclr, znone]
              refine zs_iload (pc := 73) C dX7_confessOfDay_73 rfl ?_
              refine zs_istore_n (pc := 75) C dX7_confessOfDay_75 (by decide) ?_
              dsimp only [zset, zclr, znone]
              first | refine zs_iinc (pc := 76) C dX7_confessOfDay_76 rfl (by decide) (by omega) ?_ | refine zs_iincF (pc := 76) C dX7_confessOfDay_76 rfl (by decide) (fun z76 hz761 hz762 => ?_)
              dsimp only [zset, zclr, znone]
              refine zs_goto (tgt := 8) (pc := 79) C dX7_confessOfDay_79 (by decide) ?_
              exact zs_wk (ih8 _ _ _ _ (by first | omega | (simp only [zuI_1, zuI_2, zuJ_1, zuJ_2, zuJ_3, zuP_1, zuP_2, zuP_3, zuC_1, zuC_2, reduceIte, Nat.reduceEqDiff, false_and, and_false, true_and, and_true, and_self, or_true, true_or, or_false, false_or]; omega)) (by first | omega | (simp only [zuI_1, zuI_2, zuJ_1, zuJ_2, zuJ_3, zuP_1, zuP_2, zuP_3, zuC_1, zuC_2, reduceIte, Nat.reduceEqDiff, false_and, and_false, true_and, and_true, and_self, or_true, true_or, or_false, false_or]; omega)) (by repeat (first | exact zsm_rf | assumption | refine zsm_C (by decide) ?_ | refine zsm_I (by decide) ?_ | refine zsm_J ?_ | refine zsm_c (by assumption) (by decide) ?_)) (by first | omega | (simp only [zuI_1, zuI_2, zuJ_1, zuJ_2, zuJ_3, zuP_1, zuP_2, zuP_3, zuC_1, zuC_2, reduceIte, Nat.reduceEqDiff, false_and, and_false, true_and, and_true, and_self, or_true, true_or, or_false, false_or]; omega))) (zwk_s rfl (zwk_s rfl (zwk_s rfl (zwk_s rfl (zwk_s rfl (zwk_n (zwk_s rfl (zwk_n (zwk_n zwk_0)))))))))
  exact zs_wk (L8 _ _ _ _ _ (by first | omega | (simp only [zuI_1, zuI_2, zuJ_1, zuJ_2, zuJ_3, zuP_1, zuP_2, zuP_3, zuC_1, zuC_2, reduceIte, Nat.reduceEqDiff, false_and, and_false, true_and, and_true, and_self, or_true, true_or, or_false, false_or]; omega)) (by first | omega | (simp only [zuI_1, zuI_2, zuJ_1, zuJ_2, zuJ_3, zuP_1, zuP_2, zuP_3, zuC_1, zuC_2, reduceIte, Nat.reduceEqDiff, false_and, and_false, true_and, and_true, and_self, or_true, true_or, or_false, false_or]; omega)) (by repeat (first | exact zsm_rf | assumption | refine zsm_C (by decide) ?_ | refine zsm_I (by decide) ?_ | refine zsm_J ?_ | refine zsm_c (by assumption) (by decide) ?_)) (Nat.lt_succ_self _)) (zwk_s rfl (zwk_s rfl (zwk_s rfl (zwk_s rfl (zwk_s rfl (zwk_n (zwk_s rfl (zwk_n (zwk_n zwk_0)))))))))
