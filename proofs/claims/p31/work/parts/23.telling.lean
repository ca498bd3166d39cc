set_option maxHeartbeats 4000000 in
set_option maxRecDepth 100000 in
theorem c_X5_clear {l : Launch} {Γ : zΓ} {G : zH} {w : Nat} (hX : zXs Γ)  : zMet l Γ yX5_clear cX5_clear 1 none 2 [zr 6 w] G (zpv (fun G' => zsm [206, 207, 2016, 2017, 2037, 2040, 609, 610, 611, 612] G G' ∧ True)) := by
  refine zMet_of RX5 hX (by decide) rfl (Nat.le_of_ble_eq_true rfl) ?_
  intro p e s m args below meth c C hr hlk
  show Z p l e (zrm 2) s m args below meth c Γ 1 0 0 (MQ below (zQc Γ (zpv (fun G' => zsm [206, 207, 2016, 2017, 2037, 2040, 609, 610, 611, 612] G G' ∧ True))) args s 0 0 (zA Γ)) 0 [some (zr 6 w)] [] G
  refine zs_aload_n (pc := 0) C dX5_clear_0 rfl ?_
  refine zs_getf (pc := 1) C dX5_clear_1 w_X5_12 f_6_0 (by decide) ?_
  refine zVv0 (pc := 4) C dX5_clear_4 v_X5_50 (c_X1_clear hX ) (by decide) (by decide) ⟨Nat.zero_le _, Nat.zero_le _⟩ (Nat.le_of_ble_eq_true rfl) (fun G4 hp4 => ?_)
  obtain ⟨hz4, hq4⟩ := hp4
  refine zs_aload_n (pc := 7) C dX5_clear_7 rfl ?_
  refine zs_getf (pc := 8) C dX5_clear_8 w_X5_22 f_6_2 (by decide) ?_
  refine zs_iconst (pc := 11) C dX5_clear_11 (by decide) ?_
  refine zSv2 (pc := 12) C dX5_clear_12 s_X5_53 (c_J7_fill_53178 hX a_37 (by decide) (by decide) (fun i => by show (zrg 2037 i).1 ≤ 0 ∧ 0 ≤ (zrg 2037 i).2; have := rs_2037 i; omega)) (by decide) ⟨Nat.zero_le _, Nat.zero_le _⟩ (Nat.le_of_ble_eq_true rfl) (fun G12 hp12 => ?_)
  obtain ⟨hz12, hq12⟩ := hp12
  refine zs_aload_n (pc := 15) C dX5_clear_15 rfl ?_
  refine zs_getf (pc := 16) C dX5_clear_16 w_X5_31 f_6_5 (by decide) ?_
  refine zs_iconst (pc := 19) C dX5_clear_19 (by decide) ?_
  refine zSv2 (pc := 20) C dX5_clear_20 s_X5_53 (c_J7_fill_53178 hX a_40 (by decide) (by decide) (fun i => by rw [r_2040]; decide)) (by decide) ⟨Nat.zero_le _, Nat.zero_le _⟩ (Nat.le_of_ble_eq_true rfl) (fun G20 hp20 => ?_)
  obtain ⟨hz20, hq20⟩ := hp20
  refine zs_aload_n (pc := 23) C dX5_clear_23 rfl ?_
  refine zs_bipush (pc := 24) C dX5_clear_24 (by decide) (by decide) ?_
  refine zs_puti (r := 609) (pc := 26) C dX5_clear_26 w_X5_43 f_6_9 rfl (r_609 0) (by omega) ?_
  refine zs_aload_n (pc := 29) C dX5_clear_29 rfl ?_
  refine zs_iconst (pc := 30) C dX5_clear_30 (by decide) ?_
  refine zs_puti (r := 610) (pc := 31) C dX5_clear_31 w_X5_47 f_6_10 rfl (r_610 0) (by omega) ?_
  refine zs_aload_n (pc := 34) C dX5_clear_34 rfl ?_
  refine zs_iconst (pc := 35) C dX5_clear_35 (by decide) ?_
  refine zs_puti (r := 611) (pc := 36) C dX5_clear_36 w_X5_59 f_6_11 rfl (r_611 0) (by omega) ?_
  refine zs_aload_n (pc := 39) C dX5_clear_39 rfl ?_
  refine zs_iconst (pc := 40) C dX5_clear_40 (by decide) ?_
  refine zs_puti (r := 612) (pc := 41) C dX5_clear_41 w_X5_62 f_6_12 rfl (r_612 0) (by omega) ?_
  exact zs_vret (pc := 44) C hr hlk dX5_clear_44 ⟨by repeat (first | exact zsm_rf | assumption | refine zsm_C (by decide) ?_ | refine zsm_I (by decide) ?_ | refine zsm_J ?_ | refine zsm_c (by assumption) (by decide) ?_), trivial⟩

set_option maxHeartbeats 4000000 in
set_option maxRecDepth 100000 in
theorem c_X5_has {l : Launch} {Γ : zΓ} {G : zH} {w : Nat} {kd k : Int} (hX : zXs Γ) (hk : 0 ≤ kd ∧ kd ≤ 3) : zMet l Γ yX5_has cX5_has 3 (some .boolean) 0 [zr 6 w, zi kd, zi k] G (zpi (fun x G' => G' = G ∧ ((x = 0 ∨ x = 1) ∧ (x = 1 → 0 ≤ k ∧ k < 5 ∧ (kd = 0 → k < 4) ∧ (kd = 3 → k < 3))))) := by
  refine zMet_of RX5 hX (by decide) rfl (Nat.le_of_ble_eq_true rfl) ?_
  intro p e s m args below meth c C hr hlk
  show Z p l e (zrm 0) s m args below meth c Γ 3 0 0 (MQ below (zQc Γ (zpi (fun x G' => G' = G ∧ ((x = 0 ∨ x = 1) ∧ (x = 1 → 0 ≤ k ∧ k < 5 ∧ (kd = 0 → k < 4) ∧ (kd = 3 → k < 3)))))) args s 0 0 (zA Γ)) 0 [some (zr 6 w), some (zi kd), some (zi k)] [] G
  refine zs_loc 1 rfl (fun ha1 hb1 => ?_)
  refine zs_loc 2 rfl (fun ha2 hb2 => ?_)
  refine zs_iload_n (pc := 0) C dX5_has_0 rfl ?_
  refine zs_if_lt (tgt := 18) (pc := 1) C dX5_has_1 (by decide) (fun h1 => ?_) (fun h1 => ?_)
  · skip
    refine zs_iconst (pc := 18) C dX5_has_18 (by decide) ?_
    exact zs_zret (pc := 19) C hr hlk dX5_has_19 (by omega) ⟨rfl, by first | omega | (simp only [zuI_1, zuI_2, zuJ_1, zuJ_2, zuJ_3, zuP_1, zuP_2, zuP_3, zuC_1, zuC_2, reduceIte, Nat.reduceEqDiff, false_and, and_false, true_and, and_true, and_self, or_true, true_or, or_false, false_or]; omega)⟩
  · skip
    refine zs_iload_n (pc := 4) C dX5_has_4 rfl ?_
    refine zs_aload_n (pc := 5) C dX5_has_5 rfl ?_
    refine zs_getf (pc := 6) C dX5_has_6 w_X5_22 f_6_2 (by decide) ?_
    refine zs_iload_n (pc := 9) C dX5_has_9 rfl ?_
    refine zs_iald (r := 2037) (pc := 10) C dX5_has_10 a_37 (by decide) (by omega) rfl rfl (fun v10 e10 l10 u10 => ?_)
    have hs := rs_2037 kd.toNat
    refine zs_icmp_ge (tgt := 18) (pc := 11) C dX5_has_11 (by decide) (fun h11 => ?_) (fun h11 => ?_)
    · skip
      refine zs_iconst (pc := 18) C dX5_has_18 (by decide) ?_
      exact zs_zret (pc := 19) C hr hlk dX5_has_19 (by omega) ⟨rfl, by first | omega | (simp only [zuI_1, zuI_2, zuJ_1, zuJ_2, zuJ_3, zuP_1, zuP_2, zuP_3, zuC_1, zuC_2, reduceIte, Nat.reduceEqDiff, false_and, and_false, true_and, and_true, and_self, or_true, true_or, or_false, false_or]; omega)⟩
    · skip
      refine zs_iconst (pc := 14) C dX5_has_14 (by decide) ?_
      refine zs_goto (tgt := 19) (pc := 15) C dX5_has_15 (by decide) ?_
      exact zs_zret (pc := 19) C hr hlk dX5_has_19 (by omega) ⟨rfl, by first | omega | (simp only [zuI_1, zuI_2, zuJ_1, zuJ_2, zuJ_3, zuP_1, zuP_2, zuP_3, zuC_1, zuC_2, reduceIte, Nat.reduceEqDiff, false_and, and_false, true_and, and_true, and_self, or_true, true_or, or_false, false_or]; omega)⟩

set_option maxHeartbeats 4000000 in
set_option maxRecDepth 100000 in
theorem c_X5_hasBoth {l : Launch} {Γ : zΓ} {G : zH} {w : Nat} {p0 s0 : Int} (hX : zXs Γ)  : zMet l Γ yX5_hasBoth cX5_hasBoth 3 (some .boolean) 1 [zr 6 w, zi p0, zi s0] G (zpi (fun x G' => G' = G ∧ ((x = 0 ∨ x = 1) ∧ (x = 1 → 0 ≤ p0 ∧ p0 < 5 ∧ 0 ≤ s0 ∧ s0 < 4)))) := by
  refine zMet_of RX5 hX (by decide) rfl (Nat.le_of_ble_eq_true rfl) ?_
  intro p e s m args below meth c C hr hlk
  show Z p l e (zrm 1) s m args below meth c Γ 3 0 0 (MQ below (zQc Γ (zpi (fun x G' => G' = G ∧ ((x = 0 ∨ x = 1) ∧ (x = 1 → 0 ≤ p0 ∧ p0 < 5 ∧ 0 ≤ s0 ∧ s0 < 4))))) args s 0 0 (zA Γ)) 0 [some (zr 6 w), some (zi p0), some (zi s0)] [] G
  refine zs_loc 1 rfl (fun ha1 hb1 => ?_)
  refine zs_loc 2 rfl (fun ha2 hb2 => ?_)
  refine zs_aload_n (pc := 0) C dX5_hasBoth_0 rfl ?_
  refine zs_iconst (pc := 1) C dX5_hasBoth_1 (by decide) ?_
  refine zs_iload_n (pc := 2) C dX5_hasBoth_2 rfl ?_
  refine zVip2 (pc := 3) C dX5_hasBoth_3 v_X5_65 (c_X5_has hX (by omega)) (by decide) (by decide) ⟨Nat.zero_le _, Nat.zero_le _⟩ (Nat.le_of_ble_eq_true rfl) (fun x3 l3 u3 hp3 => ?_)
  have hq3 := hp3
  refine zs_if_eq (tgt := 22) (pc := 6) C dX5_hasBoth_6 (by decide) (fun h6 => ?_) (fun h6 => ?_)
  · skip
    refine zs_iconst (pc := 22) C dX5_hasBoth_22 (by decide) ?_
    exact zs_zret (pc := 23) C hr hlk dX5_hasBoth_23 (by omega) ⟨rfl, by first | omega | (simp only [zuI_1, zuI_2, zuJ_1, zuJ_2, zuJ_3, zuP_1, zuP_2, zuP_3, zuC_1, zuC_2, reduceIte, Nat.reduceEqDiff, false_and, and_false, true_and, and_true, and_self, or_true, true_or, or_false, false_or]; omega)⟩
  · skip
    refine zs_aload_n (pc := 9) C dX5_hasBoth_9 rfl ?_
    refine zs_iconst (pc := 10) C dX5_hasBoth_10 (by decide) ?_
    refine zs_iload_n (pc := 11) C dX5_hasBoth_11 rfl ?_
    refine zVip2 (pc := 12) C dX5_hasBoth_12 v_X5_65 (c_X5_has hX (by omega)) (by decide) (by decide) ⟨Nat.zero_le _, Nat.zero_le _⟩ (Nat.le_of_ble_eq_true rfl) (fun x12 l12 u12 hp12 => ?_)
    have hq12 := hp12
    refine zs_if_eq (tgt := 22) (pc := 15) C dX5_hasBoth_15 (by decide) (fun h15 => ?_) (fun h15 => ?_)
    · skip
      refine zs_iconst (pc := 22) C dX5_hasBoth_22 (by decide) ?_
      exact zs_zret (pc := 23) C hr hlk dX5_hasBoth_23 (by omega) ⟨rfl, by first | omega | (simp only [zuI_1, zuI_2, zuJ_1, zuJ_2, zuJ_3, zuP_1, zuP_2, zuP_3, zuC_1, zuC_2, reduceIte, Nat.reduceEqDiff, false_and, and_false, true_and, and_true, and_self, or_true, true_or, or_false, false_or]; omega)⟩
    · skip
      refine zs_iconst (pc := 18) C dX5_hasBoth_18 (by decide) ?_
      refine zs_goto (tgt := 23) (pc := 19) C dX5_hasBoth_19 (by decide) ?_
      exact zs_zret (pc := 23) C hr hlk dX5_hasBoth_23 (by omega) ⟨rfl, by first | omega | (simp only [zuI_1, zuI_2, zuJ_1, zuJ_2, zuJ_3, zuP_1, zuP_2, zuP_3, zuC_1, zuC_2, reduceIte, Nat.reduceEqDiff, false_and, and_false, true_and, and_true, and_self, or_true, true_or, or_false, false_or]; omega)⟩

set_option maxHeartbeats 4000000 in
set_option maxRecDepth 100000 in
theorem c_X5_isFull {l : Launch} {Γ : zΓ} {G : zH} {w : Nat} {kd : Int} (hX : zXs Γ) (hk : 0 ≤ kd ∧ kd ≤ 3) : zMet l Γ yX5_isFull cX5_isFull 2 (some .boolean) 0 [zr 6 w, zi kd] G (zpi (fun x G' => G' = G ∧ ((x = 0 ∨ x = 1) ∧ (x = 0 → G.1 2037 (Γ.2.1 w 2) kd.toNat + 1 ≤ (zrg 2037 kd.toNat).2)))) := by
  refine zMet_of RX5 hX (by decide) rfl (Nat.le_of_ble_eq_true rfl) ?_
  intro p e s m args below meth c C hr hlk
  show Z p l e (zrm 0) s m args below meth c Γ 2 0 0 (MQ below (zQc Γ (zpi (fun x G' => G' = G ∧ ((x = 0 ∨ x = 1) ∧ (x = 0 → G.1 2037 (Γ.2.1 w 2) kd.toNat + 1 ≤ (zrg 2037 kd.toNat).2))))) args s 0 0 (zA Γ)) 0 [some (zr 6 w), some (zi kd)] [] G
  refine zs_loc 1 rfl (fun ha1 hb1 => ?_)
  refine zs_aload_n (pc := 0) C dX5_isFull_0 rfl ?_
  refine zs_getf (pc := 1) C dX5_isFull_1 w_X5_22 f_6_2 (by decide) ?_
  refine zs_iload_n (pc := 4) C dX5_isFull_4 rfl ?_
  refine zs_iald (r := 2037) (pc := 5) C dX5_isFull_5 a_37 (by decide) (by omega) rfl rfl (fun v5 e5 l5 u5 => ?_)
  refine zs_most (pc := 6) C dX5_isFull_6 q_X5_69 ?_
  refine zs_iload_n (pc := 9) C dX5_isFull_9 rfl ?_
  refine zs_xald (pc := 10) C 0 dX5_isFull_10 (by decide) rfl (by have := hX.1; have := hX.2.1; omega) (fun v10 e10 l10 u10 => ?_)
  have hm := hX.2.2.1 kd.toNat (by omega)
  have hm2 := zX0_2037 kd.toNat (by omega)
  refine zs_icmp_lt (tgt := 18) (pc := 11) C dX5_isFull_11 (by decide) (fun h11 => ?_) (fun h11 => ?_)
  · skip
    refine zs_iconst (pc := 18) C dX5_isFull_18 (by decide) ?_
    exact zs_zret (pc := 19) C hr hlk dX5_isFull_19 (by omega) ⟨rfl, by first | omega | (simp only [zuI_1, zuI_2, zuJ_1, zuJ_2, zuJ_3, zuP_1, zuP_2, zuP_3, zuC_1, zuC_2, reduceIte, Nat.reduceEqDiff, false_and, and_false, true_and, and_true, and_self, or_true, true_or, or_false, false_or]; omega)⟩
  · skip
    refine zs_iconst (pc := 14) C dX5_isFull_14 (by decide) ?_
    refine zs_goto (tgt := 19) (pc := 15) C dX5_isFull_15 (by decide) ?_
    exact zs_zret (pc := 19) C hr hlk dX5_isFull_19 (by omega) ⟨rfl, by first | omega | (simp only [zuI_1, zuI_2, zuJ_1, zuJ_2, zuJ_3, zuP_1, zuP_2, zuP_3, zuC_1, zuC_2, reduceIte, Nat.reduceEqDiff, false_and, and_false, true_and, and_true, and_self, or_true, true_or, or_false, false_or]; omega)⟩

set_option maxHeartbeats 4000000 in
set_option maxRecDepth 100000 in
theorem c_X5_find {l : Launch} {Γ : zΓ} {G : zH} {w : Nat} {kd k : Int} (hX : zXs Γ) (hk : 0 ≤ kd ∧ kd ≤ 3) : zMet l Γ yX5_find cX5_find 4 (some .int) 0 [zr 6 w, zi kd, zi k] G (zpi (fun x G' => G' = G ∧ (-1 ≤ x ∧ x < 5 ∧ (kd = 0 → x < 4) ∧ (kd = 3 → x < 3)))) := by
  refine zMet_of RX5 hX (by decide) rfl (Nat.le_of_ble_eq_true rfl) ?_
  intro p e s m args below meth c C hr hlk
  show Z p l e (zrm 0) s m args below meth c Γ 4 0 0 (MQ below (zQc Γ (zpi (fun x G' => G' = G ∧ (-1 ≤ x ∧ x < 5 ∧ (kd = 0 → x < 4) ∧ (kd = 3 → x < 3))))) args s 0 0 (zA Γ)) 0 [some (zr 6 w), some (zi kd), some (zi k), none] [] G
  refine zs_loc 1 rfl (fun ha1 hb1 => ?_)
  refine zs_loc 2 rfl (fun ha2 hb2 => ?_)
  refine zs_iconst (pc := 0) C dX5_find_0 (by decide) ?_
  refine zs_istore_n (pc := 1) C dX5_find_1 (by decide) ?_
  dsimp only [zset, zclr, znone]
  have L2 : ∀ (nn : Nat) (x3 : Int), (0 ≤ x3 ∧ x3 ≤ 5) → (5 - x3).toNat < nn → Z p l e (zrm 0) s m args below meth c Γ 4 0 0 (MQ below (zQc Γ (zpi (fun x G' => G' = G ∧ (-1 ≤ x ∧ x < 5 ∧ (kd = 0 → x < 4) ∧ (kd = 3 → x < 3))))) args s 0 0 (zA Γ)) 2 [some (zr 6 w), some (zi kd), some (zi k), some (zi x3)] [] G := by
    intro nn
    induction nn with
    | zero => intro x3 h2_0 hm; exact absurd hm (Nat.not_lt_zero _)
    | succ nn ih2 =>
      intro x3 h2_0 hm2
      refine zs_iload_n (pc := 2) C dX5_find_2 rfl ?_
      refine zs_aload_n (pc := 3) C dX5_find_3 rfl ?_
      refine zs_getf (pc := 4) C dX5_find_4 w_X5_22 f_6_2 (by decide) ?_
      refine zs_iload_n (pc := 7) C dX5_find_7 rfl ?_
      refine zs_iald (r := 2037) (pc := 8) C dX5_find_8 a_37 (by decide) (by omega) rfl rfl (fun v8 e8 l8 u8 => ?_)
      have hs := rs_2037 kd.toNat
      refine zs_icmp_ge (tgt := 34) (pc := 9) C dX5_find_9 (by decide) (fun h9 => ?_) (fun h9 => ?_)
      · skip
        refine zs_iconst (pc := 34) C dX5_find_34 (by decide) ?_
        exact zs_iret (pc := 35) C hr hlk dX5_find_35 ⟨rfl, by first | omega | (simp only [zuI_1, zuI_2, zuJ_1, zuJ_2, zuJ_3, zuP_1, zuP_2, zuP_3, zuC_1, zuC_2, reduceIte, Nat.reduceEqDiff, false_and, and_false, true_and, and_true, and_self, or_true, true_or, or_false, false_or]; omega)⟩
      · skip
        refine zs_aload_n (pc := 12) C dX5_find_12 rfl ?_
        refine zs_getf (pc := 13) C dX5_find_13 w_X5_18 f_6_1 (by decide) ?_
        refine zs_iload_n (pc := 16) C dX5_find_16 rfl ?_
        refine zs_iconst (pc := 17) C dX5_find_17 (by decide) ?_
        first | refine zs_imul (pc := 18) C dX5_find_18 (by omega) ?_ | refine zs_imulF (pc := 18) C dX5_find_18 (fun z18 hz181 hz182 => ?_)
        refine zs_iload_n (pc := 19) C dX5_find_19 rfl ?_
        first | refine zs_iadd (pc := 20) C dX5_find_20 (by omega) ?_ | refine zs_iaddF (pc := 20) C dX5_find_20 (fun z20 hz201 hz202 => ?_)
        refine zs_iald (r := 2036) (pc := 21) C dX5_find_21 a_36 (by decide) (by omega) rfl (r_2036 _) (fun v21 e21 l21 u21 => ?_)
        refine zs_iload_n (pc := 22) C dX5_find_22 rfl ?_
        refine zs_icmp_ne (tgt := 28) (pc := 23) C dX5_find_23 (by decide) (fun h23 => ?_) (fun h23 => ?_)
        · skip
          first | refine zs_iinc (pc := 28) C dX5_find_28 rfl (by decide) (by omega) ?_ | refine zs_iincF (pc := 28) C dX5_find_28 rfl (by decide) (fun z28 hz281 hz282 => ?_)
          dsimp only [zset, zclr, znone]
          refine zs_goto (tgt := 2) (pc := 31) C dX5_find_31 (by decide) ?_
          exact zs_wk (ih2 _ (by first | omega | (simp only [zuI_1, zuI_2, zuJ_1, zuJ_2, zuJ_3, zuP_1, zuP_2, zuP_3, zuC_1, zuC_2, reduceIte, Nat.reduceEqDiff, false_and, and_false, true_and, and_true, and_self, or_true, true_or, or_false, false_or]; omega)) (by first | omega | (simp only [zuI_1, zuI_2, zuJ_1, zuJ_2, zuJ_3, zuP_1, zuP_2, zuP_3, zuC_1, zuC_2, reduceIte, Nat.reduceEqDiff, false_and, and_false, true_and, and_true, and_self, or_true, true_or, or_false, false_or]; omega))) (zwk_s rfl (zwk_s rfl (zwk_s rfl (zwk_s rfl zwk_0))))
        · skip
          refine zs_iload_n (pc := 26) C dX5_find_26 rfl ?_
          exact zs_iret (pc := 27) C hr hlk dX5_find_27 ⟨rfl, by first | omega | (simp only [zuI_1, zuI_2, zuJ_1, zuJ_2, zuJ_3, zuP_1, zuP_2, zuP_3, zuC_1, zuC_2, reduceIte, Nat.reduceEqDiff, false_and, and_false, true_and, and_true, and_self, or_true, true_or, or_false, false_or]; omega)⟩
  exact zs_wk (L2 _ _ (by first | omega | (simp only [zuI_1, zuI_2, zuJ_1, zuJ_2, zuJ_3, zuP_1, zuP_2, zuP_3, zuC_1, zuC_2, reduceIte, Nat.reduceEqDiff, false_and, and_false, true_and, and_true, and_self, or_true, true_or, or_false, false_or]; omega)) (Nat.lt_succ_self _)) (zwk_s rfl (zwk_s rfl (zwk_s rfl (zwk_s rfl zwk_0))))

set_option maxHeartbeats 4000000 in
set_option maxRecDepth 100000 in
theorem c_X5_add {l : Launch} {Γ : zΓ} {G : zH} {w : Nat} {kd k : Int} (hX : zXs Γ) (hk : 0 ≤ kd ∧ kd ≤ 3) : zMet l Γ yX5_add cX5_add 3 none 1 [zr 6 w, zi kd, zi k] G (zpv (fun G' => zsm [2036, 2037] G G' ∧ True)) := by
  refine zMet_of RX5 hX (by decide) rfl (Nat.le_of_ble_eq_true rfl) ?_
  intro p e s m args below meth c C hr hlk
  show Z p l e (zrm 1) s m args below meth c Γ 3 0 0 (MQ below (zQc Γ (zpv (fun G' => zsm [2036, 2037] G G' ∧ True))) args s 0 0 (zA Γ)) 0 [some (zr 6 w), some (zi kd), some (zi k)] [] G
  refine zs_loc 1 rfl (fun ha1 hb1 => ?_)
  refine zs_loc 2 rfl (fun ha2 hb2 => ?_)
  refine zs_aload_n (pc := 0) C dX5_add_0 rfl ?_
  refine zs_iload_n (pc := 1) C dX5_add_1 rfl ?_
  refine zVip1 (pc := 2) C dX5_add_2 v_X5_72 (c_X5_isFull hX (by omega)) (by decide) (by decide) ⟨Nat.zero_le _, Nat.zero_le _⟩ (Nat.le_of_ble_eq_true rfl) (fun x2 l2 u2 hp2 => ?_)
  have hq2 := hp2
  have hs := rs_2037 kd.toNat
  refine zs_if_ne (tgt := 34) (pc := 5) C dX5_add_5 (by decide) (fun h5 => ?_) (fun h5 => ?_)
  · skip
    exact zs_vret (pc := 34) C hr hlk dX5_add_34 ⟨by repeat (first | exact zsm_rf | assumption | refine zsm_C (by decide) ?_ | refine zsm_I (by decide) ?_ | refine zsm_J ?_ | refine zsm_c (by assumption) (by decide) ?_), trivial⟩
  · skip
    refine zs_aload_n (pc := 8) C dX5_add_8 rfl ?_
    refine zs_getf (pc := 9) C dX5_add_9 w_X5_18 f_6_1 (by decide) ?_
    refine zs_iload_n (pc := 12) C dX5_add_12 rfl ?_
    refine zs_iconst (pc := 13) C dX5_add_13 (by decide) ?_
    first | refine zs_imul (pc := 14) C dX5_add_14 (by omega) ?_ | refine zs_imulF (pc := 14) C dX5_add_14 (fun z14 hz141 hz142 => ?_)
    refine zs_aload_n (pc := 15) C dX5_add_15 rfl ?_
    refine zs_getf (pc := 16) C dX5_add_16 w_X5_22 f_6_2 (by decide) ?_
    refine zs_iload_n (pc := 19) C dX5_add_19 rfl ?_
    refine zs_iald (r := 2037) (pc := 20) C dX5_add_20 a_37 (by decide) (by omega) rfl rfl (fun v20 e20 l20 u20 => ?_)
    first | refine zs_iadd (pc := 21) C dX5_add_21 (by omega) ?_ | refine zs_iaddF (pc := 21) C dX5_add_21 (fun z21 hz211 hz212 => ?_)
    refine zs_iload_n (pc := 22) C dX5_add_22 rfl ?_
    refine zs_iast (r := 2036) (pc := 23) C dX5_add_23 a_36 (by decide) (by omega) rfl (r_2036 _) (by omega) ?_
    refine zs_aload_n (pc := 24) C dX5_add_24 rfl ?_
    refine zs_getf (pc := 25) C dX5_add_25 w_X5_22 f_6_2 (by decide) ?_
    refine zs_iload_n (pc := 28) C dX5_add_28 rfl ?_
    refine zs_dup2 (pc := 29) C dX5_add_29 ?_
    refine zs_iald (r := 2037) (pc := 30) C dX5_add_30 a_37 (by decide) (by omega) rfl rfl (fun v30 e30 l30 u30 => ?_)
    try simp only [zuI_1, zuI_2, zuJ_1, zuJ_2, zuJ_3, zuP_1, zuP_2, zuP_3, zuC_1, zuC_2, reduceIte, Nat.reduceEqDiff, false_and, and_false, true_and, and_true, and_self, or_true, true_or, or_false, false_or] at e30
    refine zs_iconst (pc := 31) C dX5_add_31 (by decide) ?_
    first | refine zs_iadd (pc := 32) C dX5_add_32 (by omega) ?_ | refine zs_iaddF (pc := 32) C dX5_add_32 (fun z32 hz321 hz322 => ?_)
    refine zs_iast (r := 2037) (pc := 33) C dX5_add_33 a_37 (by decide) (by omega) rfl rfl (by omega) ?_
    exact zs_vret (pc := 34) C hr hlk dX5_add_34 ⟨by repeat (first | exact zsm_rf | assumption | refine zsm_C (by decide) ?_ | refine zsm_I (by decide) ?_ | refine zsm_J ?_ | refine zsm_c (by assumption) (by decide) ?_), trivial⟩

set_option maxHeartbeats 4000000 in
set_option maxRecDepth 100000 in
theorem c_X5_fineness {l : Launch} {Γ : zΓ} {G : zH} {w : Nat} {k s0 : Int} (hX : zXs Γ) (hs : 0 ≤ s0 ∧ s0 ≤ 3) : zMet l Γ yX5_fineness cX5_fineness 5 (some .int) 2 [zr 6 w, zi k, zi s0] G (zpi (fun x G' => zsm [] G G' ∧ True)) := by
  refine zMet_of RX5 hX (by decide) rfl (Nat.le_of_ble_eq_true rfl) ?_
  intro p e s m args below meth c C hr hlk
  show Z p l e (zrm 2) s m args below meth c Γ 5 0 0 (MQ below (zQc Γ (zpi (fun x G' => zsm [] G G' ∧ True))) args s 0 0 (zA Γ)) 0 [some (zr 6 w), some (zi k), some (zi s0), none, none] [] G
  refine zs_loc 1 rfl (fun ha1 hb1 => ?_)
  refine zs_loc 2 rfl (fun ha2 hb2 => ?_)
  refine zs_aload_n (pc := 0) C dX5_fineness_0 rfl ?_
  refine zs_getf (pc := 1) C dX5_fineness_1 w_X5_12 f_6_0 (by decide) ?_
  refine zs_iload_n (pc := 4) C dX5_fineness_4 rfl ?_
  refine zVj1 (pc := 5) C dX5_fineness_5 v_X5_76 (c_X1_value hX ) (by decide) (by decide) ⟨Nat.zero_le _, Nat.zero_le _⟩ (Nat.le_of_ble_eq_true rfl) (fun x5 G5 l5 u5 hp5 => ?_)
  obtain ⟨hz5, hq5⟩ := hp5
  refine zs_lstore_n (pc := 8) C dX5_fineness_8 (by decide) ?_
  dsimp only [zset, zclr, znone]
  refine zs_lload_n (pc := 9) C dX5_fineness_9 rfl ?_
  refine zs_ldc2 (n := -9223372036854775808) (pc := 10) C dX5_fineness_10 q_X5_80 (by decide) (by decide) ?_
  refine zs_lcmp (pc := 13) C dX5_fineness_13 (fun z13 hz13 => ?_)
  refine zs_if_ne (tgt := 26) (pc := 14) C dX5_fineness_14 (by decide) (fun h14 => ?_) (fun h14 => ?_)
  · skip
    refine zs_lconst (n := 0) (pc := 26) C dX5_fineness_26 rfl (by decide) ?_
    refine zs_ldc2 (n := 999) (pc := 27) C dX5_fineness_27 q_X5_82 (by decide) (by decide) ?_
    refine zs_lload_n (pc := 30) C dX5_fineness_30 rfl ?_
    refine zs_minL (pc := 31) C dX5_fineness_31 s_X5_84 (by decide) (Nat.le_of_ble_eq_true rfl) ⟨Nat.zero_le _, Nat.zero_le _⟩ (fun z31 hz31 => ?_)
    refine zs_maxL (pc := 34) C dX5_fineness_34 s_X5_90 (by decide) (Nat.le_of_ble_eq_true rfl) ⟨Nat.zero_le _, Nat.zero_le _⟩ (fun z34 hz34 => ?_)
    first | refine zs_l2i (pc := 37) C dX5_fineness_37 (by omega) ?_ | refine zs_l2iF (pc := 37) C dX5_fineness_37 (fun z37 hz371 hz372 => ?_)
    exact zs_iret (pc := 38) C hr hlk dX5_fineness_38 ⟨by repeat (first | exact zsm_rf | assumption | refine zsm_C (by decide) ?_ | refine zsm_I (by decide) ?_ | refine zsm_J ?_ | refine zsm_c (by assumption) (by decide) ?_), trivial⟩
  · skip
    refine zs_aload_n (pc := 17) C dX5_fineness_17 rfl ?_
    refine zs_getf (pc := 18) C dX5_fineness_18 w_X5_25 f_6_3 (by decide) ?_
    refine zs_iload_n (pc := 21) C dX5_fineness_21 rfl ?_
    refine zs_iald (r := 2038) (pc := 22) C dX5_fineness_22 a_38 (by decide) (by omega) rfl (r_2038 _) (fun v22 e22 l22 u22 => ?_)
    refine zs_goto (tgt := 38) (pc := 23) C dX5_fineness_23 (by decide) ?_
    exact zs_iret (pc := 38) C hr hlk dX5_fineness_38 ⟨by repeat (first | exact zsm_rf | assumption | refine zsm_C (by decide) ?_ | refine zsm_I (by decide) ?_ | refine zsm_J ?_ | refine zsm_c (by assumption) (by decide) ?_), trivial⟩
