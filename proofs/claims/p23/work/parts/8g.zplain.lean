set_option maxHeartbeats 4000000 in
set_option maxRecDepth 100000 in
theorem c_X5_find {l : Launch} {Γ : zΓ} {G : zH} {w : Nat} {kd k : Int} (hX : zXs Γ) (hk : 0 ≤ kd ∧ kd ≤ 3) : zMet l Γ yX5_find cX5_find 4 (some .int) 0 [zr 6 w, zi kd, zi k] G (zpi (fun x G' => G' = G ∧ (-1 ≤ x ∧ x < 5 ∧ (kd = 0 → x < 4) ∧ (kd = 3 → x < 3)))) := by
  refine zMet_of RX5 hX (by decide) rfl (Nat.le_of_ble_eq_true rfl) ?_
  intro p e s m args below meth c C hr hlk
  show Z p l e (zrm 0) s m args below meth c Γ 4 0 0 (MQ below (zQc Γ (zpi (fun x G' => G' = G ∧ (-1 ≤ x ∧ x < 5 ∧ (kd = 0 → x < 4) ∧ (kd = 3 → x < 3))))) args s 0 0 (zA Γ)) 0 [some (zr 6 w), some (zi kd), some (zi k), none] [] G
  refine zs_loc 1 rfl (fun ha1 hb1 => ?_)
  refine zs_loc 2 rfl (fun ha2 hb2 => ?_)
  refine zs_iconst (pc := 0) C dX5_find_0 (by decide) ?_
  refine zs_istore_n (pc := 1) C dX5_find_1 (by decide) ?_
  dsimp only [zset, zclr, znone]
  have L2 : ∀ (nn : Nat) (x3 : Int), (0 ≤ x3 ∧ x3 ≤ 5) → (5 - x3).toNat < nn → Z p l e (zrm 0) s m args below meth c Γ 4 0 0 (MQ below (zQc Γ (zpi (fun x G' => G' = G ∧ (-1 ≤ x ∧ x < 5 ∧ (kd = 0 → x < 4) ∧ (kd = 3 → x < 3))))) args s 0 0 (zA Γ)) 2 [some (zr 6 w), some (zi kd), some (zi k), some (zi x3)] [] G := by
    intro nn
    induction nn with
    | zero => intro x3 h2_0 hm; exact absurd hm (Nat.not_lt_zero _)
    | succ nn ih2 =>
      intro x3 h2_0 hm2
      refine zs_iload_n (pc := 2) C dX5_find_2 rfl ?_
      refine zs_aload_n (pc := 3) C dX5_find_3 rfl ?_
      refine zs_getf (pc := 4) C dX5_find_4 w_X5_22 f_6_2 (by decide) ?_
      refine zs_iload_n (pc := 7) C dX5_find_7 rfl ?_
      refine zs_iald (r := 2037) (pc := 8) C dX5_find_8 a_37 (by decide) (by omega) rfl rfl (fun v8 e8 l8 u8 => ?_)
      have hs := rs_2037 kd.toNat
      refine zs_icmp_ge (tgt := 34) (pc := 9) C dX5_find_9 (by decide) (fun h9 => ?_) (fun h9 => ?_)
      · skip
        refine zs_iconst (pc := 34) C dX5_find_34 (by decide) ?_
        exact zs_iret (pc := 35) C hr hlk dX5_find_35 ⟨rfl, by first | omega | (simp only [zuI_1, zuI_2, zuJ_1, zuJ_2, zuJ_3, zuP_1, zuP_2, zuP_3, zuC_1, zuC_2, reduceIte, Nat.reduceEqDiff, false_and, and_false, true_and, and_true, and_self, or_true, true_or, or_false, false_or]; omega)⟩
      · skip
        refine zs_aload_n (pc := 12) C dX5_find_12 rfl ?_
        refine zs_getf (pc := 13) C dX5_find_13 w_X5_18 f_6_1 (by decide) ?_
        refine zs_iload_n (pc := 16) C dX5_find_16 rfl ?_
        refine zs_iconst (pc := 17) C dX5_find_17 (by decide) ?_
        first | refine zs_imul (pc := 18) C dX5_find_18 (by omega) ?_ | refine zs_imulF (pc := 18) C dX5_find_18 (fun z18 hz181 hz182 => ?_)
        refine zs_iload_n (pc := 19) C dX5_find_19 rfl ?_
        first | refine zs_iadd (pc := 20) C dX5_find_20 (by omega) ?_ | refine zs_iaddF (pc := 20) C dX5_find_20 (fun z20 hz201 hz202 => ?_)
        refine zs_iald (r := 2036) (pc := 21) C dX5_find_21 a_36 (by decide) (by omega) rfl (r_2036 _) (fun v21 e21 l21 u21 => ?_)
        refine zs_iload_n (pc := 22) C dX5_find_22 rfl ?_
        refine zs_icmp_ne (tgt := 28) (pc := 23) C dX5_find_23 (by decide) (fun h23 => ?_) (fun h23 => ?_)
        · skip
          first | refine zs_iinc (pc := 28) C dX5_find_28 rfl (by decide) (by omega) ?_ | refine zs_iincF (pc := 28) C dX5_find_28 rfl (by decide) (fun z28 hz281 hz282 => ?_)
          dsimp only [zset, zclr, znone]
          refine zs_goto (tgt := 2) (pc := 31) C dX5_find_31 (by decide) ?_
          exact zs_wk (ih2 _ (by first | omega | (simp only [zuI_1, zuI_2, zuJ_1, zuJ_2, zuJ_3, zuP_1, zuP_2, zuP_3, zuC_1, zuC_2, reduceIte, Nat.reduceEqDiff, false_and, and_false, true_and, and_true, and_self, or_true, true_or, or_false, false_or]; omega)) (by first | omega | (simp only [zuI_1, zuI_2, zuJ_1, zuJ_2, zuJ_3, zuP_1, zuP_2, zuP_3, zuC_1, zuC_2, reduceIte, Nat.reduceEqDiff, false_and, and_false, true_and, and_true, and_self, or_true, true_or, or_false, false_or]; omega))) (zwk_s rfl (zwk_s rfl (zwk_s rfl (zwk_s rfl zwk_0))))
        · skip
          refine zs_iload_n (pc := 26) C dX5_find_26 rfl ?_
          exact zs_iret (pc := 27) C hr hlk dX5_find_27 ⟨rfl, by first | omega | (simp only [zuI_1, zuI_2, zuJ_1, zuJ_2, zuJ_3, zuP_1, zuP_2, zuP_3, zuC_1, zuC_2, reduceIte, Nat.reduceEqDiff, false_and, and_false, true_and, and_true, and_self, or_true, true_or, or_false, false_or]; omega)⟩
  exact zs_wk (L2 _ _ (by first | omega | (simp only [zuI_1, zuI_2, zuJ_1, zuJ_2, zuJ_3, zuP_1, zuP_2, zuP_3, zuC_1, zuC_2, reduceIte, Nat.reduceEqDiff, false_and, and_false, true_and, and_true, and_self, or_true, true_or, or_false, false_or]; omega)) (Nat.lt_succ_self _)) (zwk_s rfl (zwk_s rfl (zwk_s rfl (zwk_s rfl zwk_0))))


set_option maxHeartbeats 4000000 in
set_option maxRecDepth 100000 in
theorem c_X8_named {l : Launch} {Γ : zΓ} {G : zH} {w : Nat} {a b : Int} (hX : zXs Γ)  : zMet l Γ yX8_named cX8_named 3 (some .int) 1 [zr 9 w, zi a, zi b] G (zpi (fun x G' => G' = G ∧ True)) := by
  refine zMet_of RX8 hX (by decide) rfl (Nat.le_of_ble_eq_true rfl) ?_
  intro p e s m args below meth c C hr hlk
  show Z p l e (zrm 1) s m args below meth c Γ 3 0 0 (MQ below (zQc Γ (zpi (fun x G' => G' = G ∧ True))) args s 0 0 (zA Γ)) 0 [some (zr 9 w), some (zi a), some (zi b)] [] G
  refine zs_loc 1 rfl (fun ha1 hb1 => ?_)
  refine zs_loc 2 rfl (fun ha2 hb2 => ?_)
  refine zs_iload_n (pc := 0) C dX8_named_0 rfl ?_
  refine zs_if_lt (tgt := 9) (pc := 1) C dX8_named_1 (by decide) (fun h1 => ?_) (fun h1 => ?_)
  · skip
    refine zs_iconst (pc := 9) C dX8_named_9 (by decide) ?_
    refine zs_goto (tgt := 22) (pc := 10) C dX8_named_10 (by decide) ?_
    exact zs_iret (pc := 22) C hr hlk dX8_named_22 ⟨rfl, trivial⟩
  · skip
    refine zs_iload_n (pc := 4) C dX8_named_4 rfl ?_
    refine zs_iconst (pc := 5) C dX8_named_5 (by decide) ?_
    refine zs_icmp_lt (tgt := 13) (pc := 6) C dX8_named_6 (by decide) (fun h6 => ?_) (fun h6 => ?_)
    · skip
      refine zs_aload_n (pc := 13) C dX8_named_13 rfl ?_
      refine zs_getd (r := 903) (pc := 14) C dX8_named_14 w_X8_25 f_9_3 (by decide) rfl (fun v14 e14 t14 => ?_)
      refine zs_iload_n (pc := 17) C dX8_named_17 rfl ?_
      refine zs_iload_n (pc := 18) C dX8_named_18 rfl ?_
      refine zVip2 (pc := 19) C dX8_named_19 v_X8_100 (c_X5_find hX (by omega)) (by decide) (by decide) ⟨Nat.zero_le _, Nat.zero_le _⟩ (Nat.le_of_ble_eq_true rfl) (fun x19 l19 u19 hp19 => ?_)
      have hq19 := hp19
      exact zs_iret (pc := 22) C hr hlk dX8_named_22 ⟨rfl, trivial⟩
    · skip
      refine zs_iconst (pc := 9) C dX8_named_9 (by decide) ?_
      refine zs_goto (tgt := 22) (pc := 10) C dX8_named_10 (by decide) ?_
      exact zs_iret (pc := 22) C hr hlk dX8_named_22 ⟨rfl, trivial⟩


set_option maxHeartbeats 4000000 in
set_option maxRecDepth 100000 in
theorem c_X9_find {l : Launch} {Γ : zΓ} {G : zH} {t a m : Nat} {b n k : Int} (hX : zXs Γ) (hz : zat t = (0, m)) (ht : t < 200) (hm : m ≤ 10000) (hn : 0 ≤ b ∧ 0 ≤ n ∧ b + n ≤ m) : zMet l Γ yX9_find cX9_find 5 (some .int) 0 [zr t a, zi b, zi n, zi k] G (zpi (fun x G' => G' = G ∧ (-1 ≤ x ∧ (x < n ∨ x = -1)))) := by
  refine zMet_of RX9 hX (by decide) rfl (Nat.le_of_ble_eq_true rfl) ?_
  intro p e s mx9 args below meth c C hr hlk
  show Z p l e (zrm 0) s mx9 args below meth c Γ 5 0 0 (MQ below (zQc Γ (zpi (fun x G' => G' = G ∧ (-1 ≤ x ∧ (x < n ∨ x = -1))))) args s 0 0 (zA Γ)) 0 [some (zr t a), some (zi b), some (zi n), some (zi k), none] [] G
  refine zs_loc 1 rfl (fun ha1 hb1 => ?_)
  refine zs_loc 2 rfl (fun ha2 hb2 => ?_)
  refine zs_loc 3 rfl (fun ha3 hb3 => ?_)
  refine zs_iconst (pc := 0) C dX9_find_0 (by decide) ?_
  refine zs_istore (pc := 1) C dX9_find_1 (by decide) ?_
  dsimp only [zset, zclr, znone]
  have L3 : ∀ (nn : Nat) (x4 : Int), (0 ≤ x4 ∧ x4 ≤ n) → (n - x4).toNat < nn → Z p l e (zrm 0) s mx9 args below meth c Γ 5 0 0 (MQ below (zQc Γ (zpi (fun x G' => G' = G ∧ (-1 ≤ x ∧ (x < n ∨ x = -1))))) args s 0 0 (zA Γ)) 3 [some (zr t a), some (zi b), some (zi n), some (zi k), some (zi x4)] [] G := by
    intro nn
    induction nn with
    | zero => intro x4 h3_0 hm; exact absurd hm (Nat.not_lt_zero _)
    | succ nn ih3 =>
      intro x4 h3_0 hm3
      refine zs_iload (pc := 3) C dX9_find_3 rfl ?_
      refine zs_iload_n (pc := 5) C dX9_find_5 rfl ?_
      refine zs_icmp_ge (tgt := 28) (pc := 6) C dX9_find_6 (by decide) (fun h6 => ?_) (fun h6 => ?_)
      · skip
        refine zs_iconst (pc := 28) C dX9_find_28 (by decide) ?_
        exact zs_iret (pc := 29) C hr hlk dX9_find_29 ⟨rfl, by first | omega | (simp only [zuI_1, zuI_2, zuJ_1, zuJ_2, zuJ_3, zuP_1, zuP_2, zuP_3, zuC_1, zuC_2, reduceIte, Nat.reduceEqDiff, false_and, and_false, true_and, and_true, and_self, or_true, true_or, or_false, false_or]; omega)⟩
      · skip
        refine zs_aload_n (pc := 9) C dX9_find_9 rfl ?_
        refine zs_iload_n (pc := 10) C dX9_find_10 rfl ?_
        refine zs_iload (pc := 11) C dX9_find_11 rfl ?_
        first | refine zs_iadd (pc := 13) C dX9_find_13 (by omega) ?_ | refine zs_iaddF (pc := 13) C dX9_find_13 (fun z13 hz131 hz132 => ?_)
        refine zs_iald (r := (2000 + t)) (pc := 14) C dX9_find_14 hz ht (by omega) rfl rfl (fun v14 e14 l14 u14 => ?_)
        refine zs_iload_n (pc := 15) C dX9_find_15 rfl ?_
        refine zs_icmp_ne (tgt := 22) (pc := 16) C dX9_find_16 (by decide) (fun h16 => ?_) (fun h16 => ?_)
        · skip
          first | refine zs_iinc (pc := 22) C dX9_find_22 rfl (by decide) (by omega) ?_ | refine zs_iincF (pc := 22) C dX9_find_22 rfl (by decide) (fun z22 hz221 hz222 => ?_)
          dsimp only [zset, zclr, znone]
          refine zs_goto (tgt := 3) (pc := 25) C dX9_find_25 (by decide) ?_
          exact zs_wk (ih3 _ (by first | omega | (simp only [zuI_1, zuI_2, zuJ_1, zuJ_2, zuJ_3, zuP_1, zuP_2, zuP_3, zuC_1, zuC_2, reduceIte, Nat.reduceEqDiff, false_and, and_false, true_and, and_true, and_self, or_true, true_or, or_false, false_or]; omega)) (by first | omega | (simp only [zuI_1, zuI_2, zuJ_1, zuJ_2, zuJ_3, zuP_1, zuP_2, zuP_3, zuC_1, zuC_2, reduceIte, Nat.reduceEqDiff, false_and, and_false, true_and, and_true, and_self, or_true, true_or, or_false, false_or]; omega))) (zwk_s rfl (zwk_s rfl (zwk_s rfl (zwk_s rfl (zwk_s rfl zwk_0)))))
        · skip
          refine zs_iload (pc := 19) C dX9_find_19 rfl ?_
          exact zs_iret (pc := 21) C hr hlk dX9_find_21 ⟨rfl, by first | omega | (simp only [zuI_1, zuI_2, zuJ_1, zuJ_2, zuJ_3, zuP_1, zuP_2, zuP_3, zuC_1, zuC_2, reduceIte, Nat.reduceEqDiff, false_and, and_false, true_and, and_true, and_self, or_true, true_or, or_false, false_or]; omega)⟩
  exact zs_wk (L3 _ _ (by first | omega | (simp only [zuI_1, zuI_2, zuJ_1, zuJ_2, zuJ_3, zuP_1, zuP_2, zuP_3, zuC_1, zuC_2, reduceIte, Nat.reduceEqDiff, false_and, and_false, true_and, and_true, and_self, or_true, true_or, or_false, false_or]; omega)) (Nat.lt_succ_self _)) (zwk_s rfl (zwk_s rfl (zwk_s rfl (zwk_s rfl (zwk_s rfl zwk_0)))))


set_option maxHeartbeats 4000000 in
set_option maxRecDepth 100000 in
theorem c_X9_named {l : Launch} {Γ : zΓ} {G : zH} {w : Nat} {k a : Int} (hX : zXs Γ)  : zMet l Γ yX9_named cX9_named 3 (some .int) 1 [zr 10 w, zi k, zi a] G (zpi (fun x G' => zsm [1002] G G' ∧ True)) := by
  refine zMet_of RX9 hX (by decide) rfl (Nat.le_of_ble_eq_true rfl) ?_
  intro p e s m args below meth c C hr hlk
  show Z p l e (zrm 1) s m args below meth c Γ 3 0 0 (MQ below (zQc Γ (zpi (fun x G' => zsm [1002] G G' ∧ True))) args s 0 0 (zA Γ)) 0 [some (zr 10 w), some (zi k), some (zi a)] [] G
  refine zs_loc 1 rfl (fun ha1 hb1 => ?_)
  refine zs_loc 2 rfl (fun ha2 hb2 => ?_)
  refine zs_aload_n (pc := 0) C dX9_named_0 rfl ?_
  refine zs_iconst (pc := 1) C dX9_named_1 (by decide) ?_
  refine zs_puti (r := 1002) (pc := 2) C dX9_named_2 w_X9_178 f_10_2 rfl (r_1002 0) (by omega) ?_
  refine zs_iload_n (pc := 5) C dX9_named_5 rfl ?_
  refine zs_name (fun y6 ey6 => ?_)
  rcases (show y6 = 0 ∨ y6 = 1 ∨ y6 = 2 ∨ y6 = 3 ∨ (y6 < 0 ∨ 3 < y6) by omega) with h6 | h6 | h6 | h6 | h6
  · skip
    refine zs_tabIn (pc := 6) (tgt := 36) C 0 dX9_named_6 h6 (by decide) rfl (by decide) ?_
    refine zs_aload_n (pc := 36) C dX9_named_36 rfl ?_
    refine zs_getf (pc := 37) C dX9_named_37 w_X9_27 f_10_24 (by decide) ?_
    refine zs_iconst (pc := 40) C dX9_named_40 (by decide) ?_
    refine zs_aload_n (pc := 41) C dX9_named_41 rfl ?_
    refine zs_geti (r := 1012) (pc := 42) C dX9_named_42 w_X9_258 f_10_12 rfl (r_1012 0) (fun v42 e42 l42 u42 => ?_)
    try simp only [zuI_1, zuI_2, zuJ_1, zuJ_2, zuJ_3, zuP_1, zuP_2, zuP_3, zuC_1, zuC_2, reduceIte, Nat.reduceEqDiff, false_and, and_false, true_and, and_true, and_self, or_true, true_or, or_false, false_or] at e42
    refine zs_iload_n (pc := 45) C dX9_named_45 rfl ?_
    refine zSip4 (pc := 46) C dX9_named_46 s_X9_280 (c_X9_find hX a_61 (by decide) (by decide) (by omega)) (by decide) ⟨Nat.zero_le _, Nat.zero_le _⟩ (Nat.le_of_ble_eq_true rfl) (fun x46 l46 u46 hp46 => ?_)
    have hq46 := hp46
    try simp only [zuI_1, zuI_2, zuJ_1, zuJ_2, zuJ_3, zuP_1, zuP_2, zuP_3, zuC_1, zuC_2, reduceIte, Nat.reduceEqDiff, false_and, and_false, true_and, and_true, and_self, or_true, true_or, or_false, false_or] at hq46
    exact zs_iret (pc := 49) C hr hlk dX9_named_49 ⟨by repeat (first | exact zsm_rf | assumption | refine zsm_C (by decide) ?_ | refine zsm_I (by decide) ?_ | refine zsm_J ?_ | refine zsm_c (by assumption) (by decide) ?_), trivial⟩
  · skip
    refine zs_tabIn (pc := 6) (tgt := 50) C 1 dX9_named_6 h6 (by decide) rfl (by decide) ?_
    refine zs_aload_n (pc := 50) C dX9_named_50 rfl ?_
    refine zs_getf (pc := 51) C dX9_named_51 w_X9_33 f_10_26 (by decide) ?_
    refine zs_iconst (pc := 54) C dX9_named_54 (by decide) ?_
    refine zs_aload_n (pc := 55) C dX9_named_55 rfl ?_
    refine zs_geti (r := 1013) (pc := 56) C dX9_named_56 w_X9_261 f_10_13 rfl (r_1013 0) (fun v56 e56 l56 u56 => ?_)
    try simp only [zuI_1, zuI_2, zuJ_1, zuJ_2, zuJ_3, zuP_1, zuP_2, zuP_3, zuC_1, zuC_2, reduceIte, Nat.reduceEqDiff, false_and, and_false, true_and, and_true, and_self, or_true, true_or, or_false, false_or] at e56
    refine zs_iload_n (pc := 59) C dX9_named_59 rfl ?_
    refine zSip4 (pc := 60) C dX9_named_60 s_X9_280 (c_X9_find hX a_63 (by decide) (by decide) (by omega)) (by decide) ⟨Nat.zero_le _, Nat.zero_le _⟩ (Nat.le_of_ble_eq_true rfl) (fun x60 l60 u60 hp60 => ?_)
    have hq60 := hp60
    try simp only [zuI_1, zuI_2, zuJ_1, zuJ_2, zuJ_3, zuP_1, zuP_2, zuP_3, zuC_1, zuC_2, reduceIte, Nat.reduceEqDiff, false_and, and_false, true_and, and_true, and_self, or_true, true_or, or_false, false_or] at hq60
    exact zs_iret (pc := 63) C hr hlk dX9_named_63 ⟨by repeat (first | exact zsm_rf | assumption | refine zsm_C (by decide) ?_ | refine zsm_I (by decide) ?_ | refine zsm_J ?_ | refine zsm_c (by assumption) (by decide) ?_), trivial⟩
  · skip
    refine zs_tabIn (pc := 6) (tgt := 64) C 2 dX9_named_6 h6 (by decide) rfl (by decide) ?_
    refine zs_aload_n (pc := 64) C dX9_named_64 rfl ?_
    refine zs_getf (pc := 65) C dX9_named_65 w_X9_42 f_10_29 (by decide) ?_
    refine zs_iconst (pc := 68) C dX9_named_68 (by decide) ?_
    refine zs_aload_n (pc := 69) C dX9_named_69 rfl ?_
    refine zs_geti (r := 1014) (pc := 70) C dX9_named_70 w_X9_264 f_10_14 rfl (r_1014 0) (fun v70 e70 l70 u70 => ?_)
    try simp only [zuI_1, zuI_2, zuJ_1, zuJ_2, zuJ_3, zuP_1, zuP_2, zuP_3, zuC_1, zuC_2, reduceIte, Nat.reduceEqDiff, false_and, and_false, true_and, and_true, and_self, or_true, true_or, or_false, false_or] at e70
    refine zs_iload_n (pc := 73) C dX9_named_73 rfl ?_
    refine zSip4 (pc := 74) C dX9_named_74 s_X9_280 (c_X9_find hX a_66 (by decide) (by decide) (by omega)) (by decide) ⟨Nat.zero_le _, Nat.zero_le _⟩ (Nat.le_of_ble_eq_true rfl) (fun x74 l74 u74 hp74 => ?_)
    have hq74 := hp74
    try simp only [zuI_1, zuI_2, zuJ_1, zuJ_2, zuJ_3, zuP_1, zuP_2, zuP_3, zuC_1, zuC_2, reduceIte, Nat.reduceEqDiff, false_and, and_false, true_and, and_true, and_self, or_true, true_or, or_false, false_or] at hq74
    exact zs_iret (pc := 77) C hr hlk dX9_named_77 ⟨by repeat (first | exact zsm_rf | assumption | refine zsm_C (by decide) ?_ | refine zsm_I (by decide) ?_ | refine zsm_J ?_ | refine zsm_c (by assumption) (by decide) ?_), trivial⟩
  · skip
    refine zs_tabIn (pc := 6) (tgt := 78) C 3 dX9_named_6 h6 (by decide) rfl (by decide) ?_
    refine zs_aload_n (pc := 78) C dX9_named_78 rfl ?_
    refine zs_getf (pc := 79) C dX9_named_79 w_X9_54 f_10_33 (by decide) ?_
    refine zs_iconst (pc := 82) C dX9_named_82 (by decide) ?_
    refine zs_aload_n (pc := 83) C dX9_named_83 rfl ?_
    refine zs_geti (r := 1015) (pc := 84) C dX9_named_84 w_X9_267 f_10_15 rfl (r_1015 0) (fun v84 e84 l84 u84 => ?_)
    try simp only [zuI_1, zuI_2, zuJ_1, zuJ_2, zuJ_3, zuP_1, zuP_2, zuP_3, zuC_1, zuC_2, reduceIte, Nat.reduceEqDiff, false_and, and_false, true_and, and_true, and_self, or_true, true_or, or_false, false_or] at e84
    refine zs_iload_n (pc := 87) C dX9_named_87 rfl ?_
    refine zSip4 (pc := 88) C dX9_named_88 s_X9_280 (c_X9_find hX a_70 (by decide) (by decide) (by omega)) (by decide) ⟨Nat.zero_le _, Nat.zero_le _⟩ (Nat.le_of_ble_eq_true rfl) (fun x88 l88 u88 hp88 => ?_)
    have hq88 := hp88
    try simp only [zuI_1, zuI_2, zuJ_1, zuJ_2, zuJ_3, zuP_1, zuP_2, zuP_3, zuC_1, zuC_2, reduceIte, Nat.reduceEqDiff, false_and, and_false, true_and, and_true, and_self, or_true, true_or, or_false, false_or] at hq88
    exact zs_iret (pc := 91) C hr hlk dX9_named_91 ⟨by repeat (first | exact zsm_rf | assumption | refine zsm_C (by decide) ?_ | refine zsm_I (by decide) ?_ | refine zsm_J ?_ | refine zsm_c (by assumption) (by decide) ?_), trivial⟩
  · skip
    refine zs_tabOut (tgt := 92) (pc := 6) C dX9_named_6 h6 (by decide) ?_
    refine zs_iconst (pc := 92) C dX9_named_92 (by decide) ?_
    exact zs_iret (pc := 93) C hr hlk dX9_named_93 ⟨by repeat (first | exact zsm_rf | assumption | refine zsm_C (by decide) ?_ | refine zsm_I (by decide) ?_ | refine zsm_J ?_ | refine zsm_c (by assumption) (by decide) ?_), trivial⟩

