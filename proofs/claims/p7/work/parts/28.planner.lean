set_option maxHeartbeats 4000000 in
set_option maxRecDepth 100000 in
theorem c_X2_forget {l : Launch} {Γ : zΓ} {G : zH} {w : Nat} (hX : zXs Γ)  : zMet l Γ yX2_forget cX2_forget 1 none 1 [zr 3 w] G (zpv (fun G' => zsm [2020] G G' ∧ True)) := by
  refine zMet_of RX2 hX (by decide) rfl (Nat.le_of_ble_eq_true rfl) ?_
  intro p e s m args below meth c C hr hlk
  show Z p l e (zrm 1) s m args below meth c Γ 1 0 0 (MQ below (zQc Γ (zpv (fun G' => zsm [2020] G G' ∧ True))) args s 0 0 (zA Γ)) 0 [some (zr 3 w)] [] G
  refine zs_aload_n (pc := 0) C dX2_forget_0 rfl ?_
  refine zs_getf (pc := 1) C dX2_forget_1 w_X2_9 f_3_1 (by decide) ?_
  refine zs_iconst (pc := 4) C dX2_forget_4 (by decide) ?_
  refine zSv2 (pc := 5) C dX2_forget_5 s_X2_31 (c_J7_fill_53178 hX a_20 (by decide) (by decide) (fun i => by rw [r_2020]; decide)) (by decide) ⟨Nat.zero_le _, Nat.zero_le _⟩ (Nat.le_of_ble_eq_true rfl) (fun G5 hp5 => ?_)
  obtain ⟨hz5, hq5⟩ := hp5
  exact zs_vret (pc := 8) C hr hlk dX2_forget_8 ⟨by repeat (first | exact zsm_rf | assumption | refine zsm_C (by decide) ?_ | refine zsm_I (by decide) ?_ | refine zsm_J ?_ | refine zsm_c (by assumption) (by decide) ?_), trivial⟩

set_option maxHeartbeats 4000000 in
set_option maxRecDepth 100000 in
theorem c_X2_isThere {l : Launch} {Γ : zΓ} {G : zH} {w : Nat} {k : Int} (hX : zXs Γ) (hc : 0 ≤ k ∧ k ≤ 4) : zMet l Γ yX2_isThere cX2_isThere 2 (some .boolean) 0 [zr 3 w, zi k] G (zpi (fun x G' => G' = G ∧ (x = 0 ∨ x = 1))) := by
  refine zMet_of RX2 hX (by decide) rfl (Nat.le_of_ble_eq_true rfl) ?_
  intro p e s m args below meth c C hr hlk
  show Z p l e (zrm 0) s m args below meth c Γ 2 0 0 (MQ below (zQc Γ (zpi (fun x G' => G' = G ∧ (x = 0 ∨ x = 1)))) args s 0 0 (zA Γ)) 0 [some (zr 3 w), some (zi k)] [] G
  refine zs_loc 1 rfl (fun ha1 hb1 => ?_)
  refine zs_aload_n (pc := 0) C dX2_isThere_0 rfl ?_
  refine zs_getf (pc := 1) C dX2_isThere_1 w_X2_15 f_3_2 (by decide) ?_
  refine zs_iload_n (pc := 4) C dX2_isThere_4 rfl ?_
  refine zs_iald (r := 2021) (pc := 5) C dX2_isThere_5 a_21 (by decide) (by omega) rfl (r_2021 _) (fun v5 e5 l5 u5 => ?_)
  refine zs_iconst (pc := 6) C dX2_isThere_6 (by decide) ?_
  refine zs_icmp_ge (tgt := 14) (pc := 7) C dX2_isThere_7 (by decide) (fun h7 => ?_) (fun h7 => ?_)
  · skip
    refine zs_iconst (pc := 14) C dX2_isThere_14 (by decide) ?_
    exact zs_zret (pc := 15) C hr hlk dX2_isThere_15 (by omega) ⟨rfl, by first | omega | (simp only [zuI_1, zuI_2, zuJ_1, zuJ_2, zuJ_3, zuP_1, zuP_2, zuP_3, zuC_1, zuC_2, reduceIte, Nat.reduceEqDiff, false_and, and_false, true_and, and_true, and_self, or_true, true_or, or_false, false_or]; omega)⟩
  · skip
    refine zs_iconst (pc := 10) C dX2_isThere_10 (by decide) ?_
    refine zs_goto (tgt := 15) (pc := 11) C dX2_isThere_11 (by decide) ?_
    exact zs_zret (pc := 15) C hr hlk dX2_isThere_15 (by omega) ⟨rfl, by first | omega | (simp only [zuI_1, zuI_2, zuJ_1, zuJ_2, zuJ_3, zuP_1, zuP_2, zuP_3, zuC_1, zuC_2, reduceIte, Nat.reduceEqDiff, false_and, and_false, true_and, and_true, and_self, or_true, true_or, or_false, false_or]; omega)⟩

set_option maxHeartbeats 4000000 in
set_option maxRecDepth 100000 in
theorem c_X2_stepOf {l : Launch} {Γ : zΓ} {G : zH} {w : Nat} {k i0 : Int} (hX : zXs Γ) (hc : 0 ≤ k ∧ k ≤ 4) : zMet l Γ yX2_stepOf cX2_stepOf 3 (some .int) 0 [zr 3 w, zi k, zi i0] G (zpi (fun x G' => G' = G ∧ True)) := by
  refine zMet_of RX2 hX (by decide) rfl (Nat.le_of_ble_eq_true rfl) ?_
  intro p e s m args below meth c C hr hlk
  show Z p l e (zrm 0) s m args below meth c Γ 3 0 0 (MQ below (zQc Γ (zpi (fun x G' => G' = G ∧ True))) args s 0 0 (zA Γ)) 0 [some (zr 3 w), some (zi k), some (zi i0)] [] G
  refine zs_loc 1 rfl (fun ha1 hb1 => ?_)
  refine zs_loc 2 rfl (fun ha2 hb2 => ?_)
  refine zs_iload_n (pc := 0) C dX2_stepOf_0 rfl ?_
  refine zs_if_lt (tgt := 22) (pc := 1) C dX2_stepOf_1 (by decide) (fun h1 => ?_) (fun h1 => ?_)
  · skip
    refine zs_iconst (pc := 22) C dX2_stepOf_22 (by decide) ?_
    exact zs_iret (pc := 23) C hr hlk dX2_stepOf_23 ⟨rfl, trivial⟩
  · skip
    refine zs_iload_n (pc := 4) C dX2_stepOf_4 rfl ?_
    refine zs_iconst (pc := 5) C dX2_stepOf_5 (by decide) ?_
    refine zs_icmp_ge (tgt := 22) (pc := 6) C dX2_stepOf_6 (by decide) (fun h6 => ?_) (fun h6 => ?_)
    · skip
      refine zs_iconst (pc := 22) C dX2_stepOf_22 (by decide) ?_
      exact zs_iret (pc := 23) C hr hlk dX2_stepOf_23 ⟨rfl, trivial⟩
    · skip
      refine zs_aload_n (pc := 9) C dX2_stepOf_9 rfl ?_
      refine zs_getf (pc := 10) C dX2_stepOf_10 w_X2_21 f_3_4 (by decide) ?_
      refine zs_iload_n (pc := 13) C dX2_stepOf_13 rfl ?_
      refine zs_iconst (pc := 14) C dX2_stepOf_14 (by decide) ?_
      first | refine zs_imul (pc := 15) C dX2_stepOf_15 (by omega) ?_ | refine zs_imulF (pc := 15) C dX2_stepOf_15 (fun z15 hz151 hz152 => ?_)
      refine zs_iload_n (pc := 16) C dX2_stepOf_16 rfl ?_
      first | refine zs_iadd (pc := 17) C dX2_stepOf_17 (by omega) ?_ | refine zs_iaddF (pc := 17) C dX2_stepOf_17 (fun z17 hz171 hz172 => ?_)
      refine zs_iald (r := 2023) (pc := 18) C dX2_stepOf_18 a_23 (by decide) (by omega) rfl (r_2023 _) (fun v18 e18 l18 u18 => ?_)
      refine zs_goto (tgt := 23) (pc := 19) C dX2_stepOf_19 (by decide) ?_
      exact zs_iret (pc := 23) C hr hlk dX2_stepOf_23 ⟨rfl, trivial⟩

set_option maxHeartbeats 4000000 in
set_option maxRecDepth 100000 in
theorem c_X2_isBetter {l : Launch} {Γ : zΓ} {G : zH} {w : Nat} {a b : Int} (hX : zXs Γ)  : zMet l Γ yX2_isBetter cX2_isBetter 3 (some .boolean) 0 [zr 3 w, zi a, zi b] G (zpi (fun x G' => G' = G ∧ (x = 0 ∨ x = 1))) := by
  refine zMet_of RX2 hX (by decide) rfl (Nat.le_of_ble_eq_true rfl) ?_
  intro p e s m args below meth c C hr hlk
  show Z p l e (zrm 0) s m args below meth c Γ 3 0 0 (MQ below (zQc Γ (zpi (fun x G' => G' = G ∧ (x = 0 ∨ x = 1)))) args s 0 0 (zA Γ)) 0 [some (zr 3 w), some (zi a), some (zi b)] [] G
  refine zs_loc 1 rfl (fun ha1 hb1 => ?_)
  refine zs_loc 2 rfl (fun ha2 hb2 => ?_)
  refine zs_iload_n (pc := 0) C dX2_isBetter_0 rfl ?_
  refine zs_aload_n (pc := 1) C dX2_isBetter_1 rfl ?_
  refine zs_getf (pc := 2) C dX2_isBetter_2 w_X2_15 f_3_2 (by decide) ?_
  refine zs_aload_n (pc := 5) C dX2_isBetter_5 rfl ?_
  refine zs_geti (r := 306) (pc := 6) C dX2_isBetter_6 w_X2_37 f_3_6 rfl (r_306 0) (fun v6 e6 l6 u6 => ?_)
  refine zs_iald (r := 2021) (pc := 9) C dX2_isBetter_9 a_21 (by decide) (by omega) rfl (r_2021 _) (fun v9 e9 l9 u9 => ?_)
  refine zs_icmp_lt (tgt := 39) (pc := 10) C dX2_isBetter_10 (by decide) (fun h10 => ?_) (fun h10 => ?_)
  · skip
    refine zs_iconst (pc := 39) C dX2_isBetter_39 (by decide) ?_
    refine zs_goto (tgt := 44) (pc := 40) C dX2_isBetter_40 (by decide) ?_
    exact zs_zret (pc := 44) C hr hlk dX2_isBetter_44 (by omega) ⟨rfl, by first | omega | (simp only [zuI_1, zuI_2, zuJ_1, zuJ_2, zuJ_3, zuP_1, zuP_2, zuP_3, zuC_1, zuC_2, reduceIte, Nat.reduceEqDiff, false_and, and_false, true_and, and_true, and_self, or_true, true_or, or_false, false_or]; omega)⟩
  · skip
    refine zs_iload_n (pc := 13) C dX2_isBetter_13 rfl ?_
    refine zs_aload_n (pc := 14) C dX2_isBetter_14 rfl ?_
    refine zs_getf (pc := 15) C dX2_isBetter_15 w_X2_15 f_3_2 (by decide) ?_
    refine zs_aload_n (pc := 18) C dX2_isBetter_18 rfl ?_
    refine zs_geti (r := 306) (pc := 19) C dX2_isBetter_19 w_X2_37 f_3_6 rfl (r_306 0) (fun v19 e19 l19 u19 => ?_)
    refine zs_iald (r := 2021) (pc := 22) C dX2_isBetter_22 a_21 (by decide) (by omega) rfl (r_2021 _) (fun v22 e22 l22 u22 => ?_)
    refine zs_icmp_ne (tgt := 43) (pc := 23) C dX2_isBetter_23 (by decide) (fun h23 => ?_) (fun h23 => ?_)
    · skip
      refine zs_iconst (pc := 43) C dX2_isBetter_43 (by decide) ?_
      exact zs_zret (pc := 44) C hr hlk dX2_isBetter_44 (by omega) ⟨rfl, by first | omega | (simp only [zuI_1, zuI_2, zuJ_1, zuJ_2, zuJ_3, zuP_1, zuP_2, zuP_3, zuC_1, zuC_2, reduceIte, Nat.reduceEqDiff, false_and, and_false, true_and, and_true, and_self, or_true, true_or, or_false, false_or]; omega)⟩
    · skip
      refine zs_iload_n (pc := 26) C dX2_isBetter_26 rfl ?_
      refine zs_aload_n (pc := 27) C dX2_isBetter_27 rfl ?_
      refine zs_getf (pc := 28) C dX2_isBetter_28 w_X2_18 f_3_3 (by decide) ?_
      refine zs_aload_n (pc := 31) C dX2_isBetter_31 rfl ?_
      refine zs_geti (r := 306) (pc := 32) C dX2_isBetter_32 w_X2_37 f_3_6 rfl (r_306 0) (fun v32 e32 l32 u32 => ?_)
      refine zs_iald (r := 2022) (pc := 35) C dX2_isBetter_35 a_22 (by decide) (by omega) rfl (r_2022 _) (fun v35 e35 l35 u35 => ?_)
      refine zs_icmp_ge (tgt := 43) (pc := 36) C dX2_isBetter_36 (by decide) (fun h36 => ?_) (fun h36 => ?_)
      · skip
        refine zs_iconst (pc := 43) C dX2_isBetter_43 (by decide) ?_
        exact zs_zret (pc := 44) C hr hlk dX2_isBetter_44 (by omega) ⟨rfl, by first | omega | (simp only [zuI_1, zuI_2, zuJ_1, zuJ_2, zuJ_3, zuP_1, zuP_2, zuP_3, zuC_1, zuC_2, reduceIte, Nat.reduceEqDiff, false_and, and_false, true_and, and_true, and_self, or_true, true_or, or_false, false_or]; omega)⟩
      · skip
        refine zs_iconst (pc := 39) C dX2_isBetter_39 (by decide) ?_
        refine zs_goto (tgt := 44) (pc := 40) C dX2_isBetter_40 (by decide) ?_
        exact zs_zret (pc := 44) C hr hlk dX2_isBetter_44 (by omega) ⟨rfl, by first | omega | (simp only [zuI_1, zuI_2, zuJ_1, zuJ_2, zuJ_3, zuP_1, zuP_2, zuP_3, zuC_1, zuC_2, reduceIte, Nat.reduceEqDiff, false_and, and_false, true_and, and_true, and_self, or_true, true_or, or_false, false_or]; omega)⟩

set_option maxHeartbeats 4000000 in
set_option maxRecDepth 100000 in
theorem c_X2_isHopeful {l : Launch} {Γ : zΓ} {G : zH} {w : Nat} {a b q : Int} (hX : zXs Γ)  : zMet l Γ yX2_isHopeful cX2_isHopeful 6 (some .boolean) 1 [zr 3 w, zi a, zi b, zi q] G (zpi (fun x G' => G' = G ∧ (x = 0 ∨ x = 1))) := by
  refine zMet_of RX2 hX (by decide) rfl (Nat.le_of_ble_eq_true rfl) ?_
  intro p e s m args below meth c C hr hlk
  show Z p l e (zrm 1) s m args below meth c Γ 6 0 0 (MQ below (zQc Γ (zpi (fun x G' => G' = G ∧ (x = 0 ∨ x = 1)))) args s 0 0 (zA Γ)) 0 [some (zr 3 w), some (zi a), some (zi b), some (zi q), none, none] [] G
  refine zs_loc 1 rfl (fun ha1 hb1 => ?_)
  refine zs_loc 2 rfl (fun ha2 hb2 => ?_)
  refine zs_loc 3 rfl (fun ha3 hb3 => ?_)
  refine zs_iconst (pc := 0) C dX2_isHopeful_0 (by decide) ?_
  refine zs_aload_n (pc := 1) C dX2_isHopeful_1 rfl ?_
  refine zs_getf (pc := 2) C dX2_isHopeful_2 w_X2_27 f_3_0 (by decide) ?_
  refine zs_getd (r := 800) (pc := 5) C dX2_isHopeful_5 w_X2_47 f_8_0 (by decide) rfl (fun v5 e5 t5 => ?_)
  subst e5
  refine zs_geti (r := 610) (pc := 8) C dX2_isHopeful_8 w_X2_128 f_6_10 rfl (r_610 0) (fun v8 e8 l8 u8 => ?_)
  refine zs_maxI (pc := 11) C dX2_isHopeful_11 s_X2_131 (by decide) (Nat.le_of_ble_eq_true rfl) ⟨Nat.zero_le _, Nat.zero_le _⟩ (fun z11 hz11 => ?_)
  refine zs_istore (pc := 14) C dX2_isHopeful_14 (by decide) ?_
  dsimp only [zset, zclr, znone]
  refine zs_iload_n (pc := 16) C dX2_isHopeful_16 rfl ?_
  refine zs_iload_n (pc := 17) C dX2_isHopeful_17 rfl ?_
  refine zs_iload (pc := 18) C dX2_isHopeful_18 rfl ?_
  first | refine zs_iadd (pc := 20) C dX2_isHopeful_20 (by omega) ?_ | refine zs_iaddF (pc := 20) C dX2_isHopeful_20 (fun z20 hz201 hz202 => ?_)
  refine zs_iconst (pc := 21) C dX2_isHopeful_21 (by decide) ?_
  first | refine zs_isub (pc := 22) C dX2_isHopeful_22 (by omega) ?_ | refine zs_isubF (pc := 22) C dX2_isHopeful_22 (fun z22 hz221 hz222 => ?_)
  refine zs_iload (pc := 23) C dX2_isHopeful_23 rfl ?_
  first | refine zs_idiv (pc := 25) C dX2_isHopeful_25 (by omega) (by omega) (fun hz251 hz252 => ?_) | refine zs_idivF (pc := 25) C dX2_isHopeful_25 (by omega) (fun z25 hz251 hz252 => ?_)
  first | refine zs_iadd (pc := 26) C dX2_isHopeful_26 (by omega) ?_ | refine zs_iaddF (pc := 26) C dX2_isHopeful_26 (fun z26 hz261 hz262 => ?_)
  refine zs_istore (pc := 27) C dX2_isHopeful_27 (by decide) ?_
  dsimp only [zset, zclr, znone]
  refine zs_iload (pc := 29) C dX2_isHopeful_29 rfl ?_
  refine zs_iconst (pc := 31) C dX2_isHopeful_31 (by decide) ?_
  refine zs_icmp_gt (tgt := 49) (pc := 32) C dX2_isHopeful_32 (by decide) (fun h32 => ?_) (fun h32 => ?_)
  · skip
    refine zs_iconst (pc := 49) C dX2_isHopeful_49 (by decide) ?_
    exact zs_zret (pc := 50) C hr hlk dX2_isHopeful_50 (by omega) ⟨rfl, by first | omega | (simp only [zuI_1, zuI_2, zuJ_1, zuJ_2, zuJ_3, zuP_1, zuP_2, zuP_3, zuC_1, zuC_2, reduceIte, Nat.reduceEqDiff, false_and, and_false, true_and, and_true, and_self, or_true, true_or, or_false, false_or]; omega)⟩
  · skip
    refine zs_aload_n (pc := 35) C dX2_isHopeful_35 rfl ?_
    refine zs_iload_n (pc := 36) C dX2_isHopeful_36 rfl ?_
    refine zs_iload (pc := 37) C dX2_isHopeful_37 rfl ?_
    refine zVip2 (pc := 39) C dX2_isHopeful_39 v_X2_98 (c_X2_isBetter hX ) (by decide) (by decide) ⟨Nat.zero_le _, Nat.zero_le _⟩ (Nat.le_of_ble_eq_true rfl) (fun x39 l39 u39 hp39 => ?_)
    have hq39 := hp39
    refine zs_if_eq (tgt := 49) (pc := 42) C dX2_isHopeful_42 (by decide) (fun h42 => ?_) (fun h42 => ?_)
    · skip
      refine zs_iconst (pc := 49) C dX2_isHopeful_49 (by decide) ?_
      exact zs_zret (pc := 50) C hr hlk dX2_isHopeful_50 (by omega) ⟨rfl, by first | omega | (simp only [zuI_1, zuI_2, zuJ_1, zuJ_2, zuJ_3, zuP_1, zuP_2, zuP_3, zuC_1, zuC_2, reduceIte, Nat.reduceEqDiff, false_and, and_false, true_and, and_true, and_self, or_true, true_or, or_false, false_or]; omega)⟩
    · skip
      refine zs_iconst (pc := 45) C dX2_isHopeful_45 (by decide) ?_
      refine zs_goto (tgt := 50) (pc := 46) C dX2_isHopeful_46 (by decide) ?_
      exact zs_zret (pc := 50) C hr hlk dX2_isHopeful_50 (by omega) ⟨rfl, by first | omega | (simp only [zuI_1, zuI_2, zuJ_1, zuJ_2, zuJ_3, zuP_1, zuP_2, zuP_3, zuC_1, zuC_2, reduceIte, Nat.reduceEqDiff, false_and, and_false, true_and, and_true, and_self, or_true, true_or, or_false, false_or]; omega)⟩

set_option maxHeartbeats 4000000 in
set_option maxRecDepth 100000 in
theorem c_X2_take {l : Launch} {Γ : zΓ} {G : zH} {w : Nat} {a b : Int} (hX : zXs Γ)  : zMet l Γ yX2_take cX2_take 3 none 1 [zr 3 w, zi a, zi b] G (zpv (fun G' => zsm [2021, 2022, 2023] G G' ∧ True)) := by
  refine zMet_of RX2 hX (by decide) rfl (Nat.le_of_ble_eq_true rfl) ?_
  intro p e s m args below meth c C hr hlk
  show Z p l e (zrm 1) s m args below meth c Γ 3 0 0 (MQ below (zQc Γ (zpv (fun G' => zsm [2021, 2022, 2023] G G' ∧ True))) args s 0 0 (zA Γ)) 0 [some (zr 3 w), some (zi a), some (zi b)] [] G
  refine zs_loc 1 rfl (fun ha1 hb1 => ?_)
  refine zs_loc 2 rfl (fun ha2 hb2 => ?_)
  refine zs_aload_n (pc := 0) C dX2_take_0 rfl ?_
  refine zs_getf (pc := 1) C dX2_take_1 w_X2_15 f_3_2 (by decide) ?_
  refine zs_aload_n (pc := 4) C dX2_take_4 rfl ?_
  refine zs_geti (r := 306) (pc := 5) C dX2_take_5 w_X2_37 f_3_6 rfl (r_306 0) (fun v5 e5 l5 u5 => ?_)
  refine zs_iload_n (pc := 8) C dX2_take_8 rfl ?_
  refine zs_iast (r := 2021) (pc := 9) C dX2_take_9 a_21 (by decide) (by omega) rfl (r_2021 _) (by omega) ?_
  refine zs_aload_n (pc := 10) C dX2_take_10 rfl ?_
  refine zs_getf (pc := 11) C dX2_take_11 w_X2_18 f_3_3 (by decide) ?_
  refine zs_aload_n (pc := 14) C dX2_take_14 rfl ?_
  refine zs_geti (r := 306) (pc := 15) C dX2_take_15 w_X2_37 f_3_6 rfl (r_306 0) (fun v15 e15 l15 u15 => ?_)
  try simp only [zuI_1, zuI_2, zuJ_1, zuJ_2, zuJ_3, zuP_1, zuP_2, zuP_3, zuC_1, zuC_2, reduceIte, Nat.reduceEqDiff, false_and, and_false, true_and, and_true, and_self, or_true, true_or, or_false, false_or] at e15
  refine zs_iload_n (pc := 18) C dX2_take_18 rfl ?_
  refine zs_iast (r := 2022) (pc := 19) C dX2_take_19 a_22 (by decide) (by omega) rfl (r_2022 _) (by omega) ?_
  refine zs_aload_n (pc := 20) C dX2_take_20 rfl ?_
  refine zs_getf (pc := 21) C dX2_take_21 w_X2_24 f_3_5 (by decide) ?_
  refine zs_iconst (pc := 24) C dX2_take_24 (by decide) ?_
  refine zs_aload_n (pc := 25) C dX2_take_25 rfl ?_
  refine zs_getf (pc := 26) C dX2_take_26 w_X2_21 f_3_4 (by decide) ?_
  refine zs_aload_n (pc := 29) C dX2_take_29 rfl ?_
  refine zs_geti (r := 306) (pc := 30) C dX2_take_30 w_X2_37 f_3_6 rfl (r_306 0) (fun v30 e30 l30 u30 => ?_)
  try simp only [zuI_1, zuI_2, zuJ_1, zuJ_2, zuJ_3, zuP_1, zuP_2, zuP_3, zuC_1, zuC_2, reduceIte, Nat.reduceEqDiff, false_and, and_false, true_and, and_true, and_self, or_true, true_or, or_false, false_or] at e30
  refine zs_iconst (pc := 33) C dX2_take_33 (by decide) ?_
  first | refine zs_imul (pc := 34) C dX2_take_34 (by omega) ?_ | refine zs_imulF (pc := 34) C dX2_take_34 (fun z34 hz341 hz342 => ?_)
  refine zs_iconst (pc := 35) C dX2_take_35 (by decide) ?_
  refine zs_acopy (r0 := 2024) (r1 := 2023) (pc := 36) C dX2_take_36 ac_X2_136 a_24 a_23 (by decide) (by decide) (by omega) (by omega) (by omega) (by omega) (by omega) rfl rfl (fun i j => Or.inl (by rw [r_2024, r_2023]; decide)) (by decide) (Nat.le_of_ble_eq_true rfl) ?_
  exact zs_vret (pc := 39) C hr hlk dX2_take_39 ⟨by repeat (first | exact zsm_rf | assumption | refine zsm_C (by decide) ?_ | refine zsm_I (by decide) ?_ | refine zsm_J ?_ | refine zsm_c (by assumption) (by decide) ?_), trivial⟩

set_option maxHeartbeats 4000000 in
set_option maxRecDepth 100000 in
theorem c_X2_step_s {l : Launch} {Γ : zΓ} {G : zH} {w : Nat} {a b q : Int} (d : Nat) (hX : zXs Γ) (hih : ∀ {G : zH} {w : Nat} {a b q : Int}, (0 ≤ a ∧ a ≤ 4 ∧ 4 < a + d) → zMet l Γ yX2_seek cX2_seek 6 none (7 + 2 * d) [zr 3 w, zi a, zi b, zi q] G (zpv (fun G' => zsm [510, 810, 811, 2021, 2022, 2023, 2024, 2026, 2027, 2028, 2029, 2030, 2031, 2032, 2033, 2034, 2035, 2048, 2049, 2050, 2051, 2052] G G' ∧ True))) (hp : 0 ≤ a ∧ a ≤ 3 ∧ 3 < a + d) : zMet l Γ yX2_step cX2_step 8 none (7 + 2 * d + 1) [zr 3 w, zi a, zi b, zi q] G (zpv (fun G' => zsm [510, 810, 811, 2021, 2022, 2023, 2024, 2026, 2027, 2028, 2029, 2030, 2031, 2032, 2033, 2034, 2035, 2048, 2049, 2050, 2051, 2052] G G' ∧ True)) := by
  refine zMet_of RX2 hX (by decide) rfl (Nat.le_of_ble_eq_true rfl) ?_
  intro p e s m args below meth c C hr hlk
  show Z p l e (zrm (7 + 2 * d + 1)) s m args below meth c Γ 8 0 0 (MQ below (zQc Γ (zpv (fun G' => zsm [510, 810, 811, 2021, 2022, 2023, 2024, 2026, 2027, 2028, 2029, 2030, 2031, 2032, 2033, 2034, 2035, 2048, 2049, 2050, 2051, 2052] G G' ∧ True))) args s 0 0 (zA Γ)) 0 [some (zr 3 w), some (zi a), some (zi b), some (zi q), none, none, none, none] [] G
  refine zs_loc 1 rfl (fun ha1 hb1 => ?_)
  refine zs_loc 2 rfl (fun ha2 hb2 => ?_)
  refine zs_loc 3 rfl (fun ha3 hb3 => ?_)
  refine zs_aload_n (pc := 0) C dX2_step_0 rfl ?_
  refine zs_getf (pc := 1) C dX2_step_1 w_X2_24 f_3_5 (by decide) ?_
  refine zs_iload_n (pc := 4) C dX2_step_4 rfl ?_
  refine zs_iald (r := 2024) (pc := 5) C dX2_step_5 a_24 (by decide) (by omega) rfl (r_2024 _) (fun v5 e5 l5 u5 => ?_)
  refine zs_iconst (pc := 6) C dX2_step_6 (by decide) ?_
  first | refine zs_idiv (pc := 7) C dX2_step_7 (by omega) (by omega) (fun hz71 hz72 => ?_) | refine zs_idivF (pc := 7) C dX2_step_7 (by omega) (fun z7 hz71 hz72 => ?_)
  refine zs_istore (pc := 8) C dX2_step_8 (by decide) ?_
  dsimp only [zset, zclr, znone]
  refine zs_aload_n (pc := 10) C dX2_step_10 rfl ?_
  refine zs_getf (pc := 11) C dX2_step_11 w_X2_24 f_3_5 (by decide) ?_
  refine zs_iload_n (pc := 14) C dX2_step_14 rfl ?_
  refine zs_iald (r := 2024) (pc := 15) C dX2_step_15 a_24 (by decide) (by omega) rfl (r_2024 _) (fun v15 e15 l15 u15 => ?_)
  refine zs_iconst (pc := 16) C dX2_step_16 (by decide) ?_
  first | refine zs_irem (pc := 17) C dX2_step_17 (by omega) (by omega) (fun hz171 hz172 => ?_) | refine zs_iremF (pc := 17) C dX2_step_17 (by omega) (fun z17 hz171 hz172 => ?_)
  refine zs_istore (pc := 18) C dX2_step_18 (by decide) ?_
  dsimp only [zset, zclr, znone]
  refine zs_aload_n (pc := 20) C dX2_step_20 rfl ?_
  refine zs_getf (pc := 21) C dX2_step_21 w_X2_27 f_3_0 (by decide) ?_
  refine zVip0 (pc := 24) C dX2_step_24 v_X2_107 (c_X7_portion hX ) (by decide) (by simp only [zrm]; omega) ⟨Nat.zero_le _, Nat.zero_le _⟩ (Nat.le_of_ble_eq_true rfl) (fun x24 l24 u24 hp24 => ?_)
  have hq24 := hp24
  refine zs_istore (pc := 27) C dX2_step_27 (by decide) ?_
  dsimp only [zset, zclr, znone]
  refine zs_aload_n (pc := 29) C dX2_step_29 rfl ?_
  refine zs_getf (pc := 30) C dX2_step_30 w_X2_27 f_3_0 (by decide) ?_
  refine zVip0 (pc := 33) C dX2_step_33 v_X2_111 (c_X7_canGrind hX ) (by decide) (by simp only [zrm]; omega) ⟨Nat.zero_le _, Nat.zero_le _⟩ (Nat.le_of_ble_eq_true rfl) (fun x33 l33 u33 hp33 => ?_)
  have hq33 := hp33
  refine zs_if_eq (tgt := 50) (pc := 36) C dX2_step_36 (by decide) (fun h36 => ?_) (fun h36 => ?_)
  · skip
    exact zs_vret (pc := 50) C hr hlk dX2_step_50 ⟨by repeat (first | exact zsm_rf | assumption | refine zsm_C (by decide) ?_ | refine zsm_I (by decide) ?_ | refine zsm_J ?_ | refine zsm_c (by assumption) (by decide) ?_), trivial⟩
  · skip
    refine zs_aload_n (pc := 39) C dX2_step_39 rfl ?_
    refine zs_iload_n (pc := 40) C dX2_step_40 rfl ?_
    refine zs_iload_n (pc := 41) C dX2_step_41 rfl ?_
    refine zs_iconst (pc := 42) C dX2_step_42 (by decide) ?_
    first | refine zs_iadd (pc := 43) C dX2_step_43 (by omega) ?_ | refine zs_iaddF (pc := 43) C dX2_step_43 (fun z43 hz431 hz432 => ?_)
    refine zVip2 (pc := 44) C dX2_step_44 v_X2_98 (c_X2_isBetter hX ) (by decide) (by simp only [zrm]; omega) ⟨Nat.zero_le _, Nat.zero_le _⟩ (Nat.le_of_ble_eq_true rfl) (fun x44 l44 u44 hp44 => ?_)
    have hq44 := hp44
    refine zs_if_ne (tgt := 51) (pc := 47) C dX2_step_47 (by decide) (fun h47 => ?_) (fun h47 => ?_)
    · skip
      refine zs_aload_n (pc := 51) C dX2_step_51 rfl ?_
      refine zs_getf (pc := 52) C dX2_step_52 w_X2_27 f_3_0 (by decide) ?_
      refine zs_iload (pc := 55) C dX2_step_55 rfl ?_
      refine zs_iload (pc := 57) C dX2_step_57 rfl ?_
      refine zVi2 (pc := 59) C dX2_step_59 v_X2_115 (c_X7_fineOf hX (by omega) (by omega)) (by decide) (by simp only [zrm]; omega) ⟨Nat.zero_le _, Nat.zero_le _⟩ (Nat.le_of_ble_eq_true rfl) (fun x59 G59 l59 u59 hp59 => ?_)
      obtain ⟨hz59, hq59⟩ := hp59
      refine zs_aload_n (pc := 62) C dX2_step_62 rfl ?_
      refine zs_geti (r := 307) (pc := 63) C dX2_step_63 w_X2_56 f_3_7 rfl (r_307 0) (fun v63 e63 l63 u63 => ?_)
      refine zs_icmp_lt (tgt := 76) (pc := 66) C dX2_step_66 (by decide) (fun h66 => ?_) (fun h66 => ?_)
      · skip
        refine zs_iload_n (pc := 76) C dX2_step_76 rfl ?_
        refine zs_istore (pc := 77) C dX2_step_77 (by decide) ?_
        dsimp only [zset, zclr, znone]
        refine zs_iload (pc := 79) C dX2_step_79 rfl ?_
        refine zs_if_gt (tgt := 95) (pc := 81) C dX2_step_81 (by decide) (fun h81 => ?_) (fun h81 => ?_)
        · skip
          refine zs_aload_n (pc := 95) C dX2_step_95 rfl ?_
          refine zs_getf (pc := 96) C dX2_step_96 w_X2_27 f_3_0 (by decide) ?_
          refine zs_geti (r := 810) (pc := 99) C dX2_step_99 w_X2_118 f_8_10 rfl (r_810 0) (fun v99 e99 l99 u99 => ?_)
          refine zs_iload (pc := 102) C dX2_step_102 rfl ?_
          first | refine zs_isub (pc := 104) C dX2_step_104 (by omega) ?_ | refine zs_isubF (pc := 104) C dX2_step_104 (fun z104 hz1041 hz1042 => ?_)
          refine zs_iload (pc := 105) C dX2_step_105 rfl ?_
          refine zs_icmp_lt (tgt := 152) (pc := 107) C dX2_step_107 (by decide) (fun h107 => ?_) (fun h107 => ?_)
          · skip
            exact zs_vret (pc := 152) C hr hlk dX2_step_152 ⟨by repeat (first | exact zsm_rf | assumption | refine zsm_C (by decide) ?_ | refine zsm_I (by decide) ?_ | refine zsm_J ?_ | refine zsm_c (by assumption) (by decide) ?_), trivial⟩
          · skip
            refine zs_aload_n (pc := 110) C dX2_step_110 rfl ?_
            refine zs_iload_n (pc := 111) C dX2_step_111 rfl ?_
            refine zs_iconst (pc := 112) C dX2_step_112 (by decide) ?_
            first | refine zs_iadd (pc := 113) C dX2_step_113 (by omega) ?_ | refine zs_iaddF (pc := 113) C dX2_step_113 (fun z113 hz1131 hz1132 => ?_)
            refine zs_iload_n (pc := 114) C dX2_step_114 rfl ?_
            refine zs_iload (pc := 115) C dX2_step_115 rfl ?_
            refine zVip3 (pc := 117) C dX2_step_117 v_X2_76 (c_X2_isHopeful hX ) (by decide) (by simp only [zrm]; omega) ⟨Nat.zero_le _, Nat.zero_le _⟩ (Nat.le_of_ble_eq_true rfl) (fun x117 l117 u117 hp117 => ?_)
            have hq117 := hp117
            refine zs_if_eq (tgt := 152) (pc := 120) C dX2_step_120 (by decide) (fun h120 => ?_) (fun h120 => ?_)
            · skip
              exact zs_vret (pc := 152) C hr hlk dX2_step_152 ⟨by repeat (first | exact zsm_rf | assumption | refine zsm_C (by decide) ?_ | refine zsm_I (by decide) ?_ | refine zsm_J ?_ | refine zsm_c (by assumption) (by decide) ?_), trivial⟩
            · skip
              refine zs_aload_n (pc := 123) C dX2_step_123 rfl ?_
              refine zs_getf (pc := 124) C dX2_step_124 w_X2_27 f_3_0 (by decide) ?_
              refine zs_iload (pc := 127) C dX2_step_127 rfl ?_
              refine zs_iload (pc := 129) C dX2_step_129 rfl ?_
              refine zs_iconst (pc := 131) C dX2_step_131 (by decide) ?_
              refine zVv3 (pc := 132) C dX2_step_132 v_X2_121 (c_X7_grindOne hX (by omega) (by omega)) (by decide) (by simp only [zrm]; omega) ⟨Nat.zero_le _, Nat.zero_le _⟩ (Nat.le_of_ble_eq_true rfl) (fun G132 hp132 => ?_)
              obtain ⟨hz132, hq132⟩ := hp132
              refine zs_aload_n (pc := 135) C dX2_step_135 rfl ?_
              refine zs_iload_n (pc := 136) C dX2_step_136 rfl ?_
              refine zs_iconst (pc := 137) C dX2_step_137 (by decide) ?_
              first | refine zs_iadd (pc := 138) C dX2_step_138 (by omega) ?_ | refine zs_iaddF (pc := 138) C dX2_step_138 (fun z138 hz1381 hz1382 => ?_)
              refine zs_iload_n (pc := 139) C dX2_step_139 rfl ?_
              refine zs_iload (pc := 140) C dX2_step_140 rfl ?_
              refine zVv3 (pc := 142) C dX2_step_142 v_X2_80 (hih (by omega)) (by decide) (by simp only [zrm]; omega) ⟨Nat.zero_le _, Nat.zero_le _⟩ (Nat.le_of_ble_eq_true rfl) (fun G142 hp142 => ?_)
              obtain ⟨hz142, hq142⟩ := hp142
              refine zs_aload_n (pc := 145) C dX2_step_145 rfl ?_
              refine zs_getf (pc := 146) C dX2_step_146 w_X2_27 f_3_0 (by decide) ?_
              refine zVv0 (pc := 149) C dX2_step_149 v_X2_125 (c_X7_ungrind hX ) (by decide) (by simp only [zrm]; omega) ⟨Nat.zero_le _, Nat.zero_le _⟩ (Nat.le_of_ble_eq_true rfl) (fun G149 hp149 => ?_)
              obtain ⟨hz149, hq149⟩ := hp149
              exact zs_vret (pc := 152) C hr hlk dX2_step_152 ⟨by repeat (first | exact zsm_rf | assumption | refine zsm_C (by decide) ?_ | refine zsm_I (by decide) ?_ | refine zsm_J ?_ | refine zsm_c (by assumption) (by decide) ?_), trivial⟩
        · skip
          refine zs_aload_n (pc := 84) C dX2_step_84 rfl ?_
          refine zs_iload_n (pc := 85) C dX2_step_85 rfl ?_
          refine zs_iconst (pc := 86) C dX2_step_86 (by decide) ?_
          first | refine zs_iadd (pc := 87) C dX2_step_87 (by omega) ?_ | refine zs_iaddF (pc := 87) C dX2_step_87 (fun z87 hz871 hz872 => ?_)
          refine zs_iload_n (pc := 88) C dX2_step_88 rfl ?_
          refine zVv2 (pc := 89) C dX2_step_89 v_X2_72 (c_X2_take hX ) (by decide) (by simp only [zrm]; omega) ⟨Nat.zero_le _, Nat.zero_le _⟩ (Nat.le_of_ble_eq_true rfl) (fun G89 hp89 => ?_)
          obtain ⟨hz89, hq89⟩ := hp89
          refine zs_goto (tgt := 152) (pc := 92) C dX2_step_92 (by decide) ?_
          exact zs_vret (pc := 152) C hr hlk dX2_step_152 ⟨by repeat (first | exact zsm_rf | assumption | refine zsm_C (by decide) ?_ | refine zsm_I (by decide) ?_ | refine zsm_J ?_ | refine zsm_c (by assumption) (by decide) ?_), trivial⟩
      · skip
        refine zs_iload_n (pc := 69) C dX2_step_69 rfl ?_
        refine zs_iload (pc := 70) C dX2_step_70 rfl ?_
        first | refine zs_isub (pc := 72) C dX2_step_72 (by omega) ?_ | refine zs_isubF (pc := 72) C dX2_step_72 (fun z72 hz721 hz722 => ?_)
        refine zs_goto (tgt := 77) (pc := 73) C dX2_step_73 (by decide) ?_
        refine zs_istore (pc := 77) C dX2_step_77 (by decide) ?_
        dsimp only [zset, zclr, znone]
        refine zs_iload (pc := 79) C dX2_step_79 rfl ?_
        refine zs_if_gt (tgt := 95) (pc := 81) C dX2_step_81 (by decide) (fun h81 => ?_) (fun h81 => ?_)
        · skip
          refine zs_aload_n (pc := 95) C dX2_step_95 rfl ?_
          refine zs_getf (pc := 96) C dX2_step_96 w_X2_27 f_3_0 (by decide) ?_
          refine zs_geti (r := 810) (pc := 99) C dX2_step_99 w_X2_118 f_8_10 rfl (r_810 0) (fun v99 e99 l99 u99 => ?_)
          refine zs_iload (pc := 102) C dX2_step_102 rfl ?_
          first | refine zs_isub (pc := 104) C dX2_step_104 (by omega) ?_ | refine zs_isubF (pc := 104) C dX2_step_104 (fun z104 hz1041 hz1042 => ?_)
          refine zs_iload (pc := 105) C dX2_step_105 rfl ?_
          refine zs_icmp_lt (tgt := 152) (pc := 107) C dX2_step_107 (by decide) (fun h107 => ?_) (fun h107 => ?_)
          · skip
            exact zs_vret (pc := 152) C hr hlk dX2_step_152 ⟨by repeat (first | exact zsm_rf | assumption | refine zsm_C (by decide) ?_ | refine zsm_I (by decide) ?_ | refine zsm_J ?_ | refine zsm_c (by assumption) (by decide) ?_), trivial⟩
          · skip
            refine zs_aload_n (pc := 110) C dX2_step_110 rfl ?_
            refine zs_iload_n (pc := 111) C dX2_step_111 rfl ?_
            refine zs_iconst (pc := 112) C dX2_step_112 (by decide) ?_
            first | refine zs_iadd (pc := 113) C dX2_step_113 (by omega) ?_ | refine zs_iaddF (pc := 113) C dX2_step_113 (fun z113 hz1131 hz1132 => ?_)
            refine zs_iload_n (pc := 114) C dX2_step_114 rfl ?_
            refine zs_iload (pc := 115) C dX2_step_115 rfl ?_
            refine zVip3 (pc := 117) C dX2_step_117 v_X2_76 (c_X2_isHopeful hX ) (by decide) (by simp only [zrm]; omega) ⟨Nat.zero_le _, Nat.zero_le _⟩ (Nat.le_of_ble_eq_true rfl) (fun x117 l117 u117 hp117 => ?_)
            have hq117 := hp117
            refine zs_if_eq (tgt := 152) (pc := 120) C dX2_step_120 (by decide) (fun h120 => ?_) (fun h120 => ?_)
            · skip
              exact zs_vret (pc := 152) C hr hlk dX2_step_152 ⟨by repeat (first | exact zsm_rf | assumption | refine zsm_C (by decide) ?_ | refine zsm_I (by decide) ?_ | refine zsm_J ?_ | refine zsm_c (by assumption) (by decide) ?_), trivial⟩
            · skip
              refine zs_aload_n (pc := 123) C dX2_step_123 rfl ?_
              refine zs_getf (pc := 124) C dX2_step_124 w_X2_27 f_3_0 (by decide) ?_
              refine zs_iload (pc := 127) C dX2_step_127 rfl ?_
              refine zs_iload (pc := 129) C dX2_step_129 rfl ?_
              refine zs_iconst (pc := 131) C dX2_step_131 (by decide) ?_
              refine zVv3 (pc := 132) C dX2_step_132 v_X2_121 (c_X7_grindOne hX (by omega) (by omega)) (by decide) (by simp only [zrm]; omega) ⟨Nat.zero_le _, Nat.zero_le _⟩ (Nat.le_of_ble_eq_true rfl) (fun G132 hp132 => ?_)
              obtain ⟨hz132, hq132⟩ := hp132
              refine zs_aload_n (pc := 135) C dX2_step_135 rfl ?_
              refine zs_iload_n (pc := 136) C dX2_step_136 rfl ?_
              refine zs_iconst (pc := 137) C dX2_step_137 (by decide) ?_
              first | refine zs_iadd (pc := 138) C dX2_step_138 (by omega) ?_ | refine zs_iaddF (pc := 138) C dX2_step_138 (fun z138 hz1381 hz1382 => ?_)
              refine zs_iload_n (pc := 139) C dX2_step_139 rfl ?_
              refine zs_iload (pc := 140) C dX2_step_140 rfl ?_
              refine zVv3 (pc := 142) C dX2_step_142 v_X2_80 (hih (by omega)) (by decide) (by simp only [zrm]; omega) ⟨Nat.zero_le _, Nat.zero_le _⟩ (Nat.le_of_ble_eq_true rfl) (fun G142 hp142 => ?_)
              obtain ⟨hz142, hq142⟩ := hp142
              refine zs_aload_n (pc := 145) C dX2_step_145 rfl ?_
              refine zs_getf (pc := 146) C dX2_step_146 w_X2_27 f_3_0 (by decide) ?_
              refine zVv0 (pc := 149) C dX2_step_149 v_X2_125 (c_X7_ungrind hX ) (by decide) (by simp only [zrm]; omega) ⟨Nat.zero_le _, Nat.zero_le _⟩ (Nat.le_of_ble_eq_true rfl) (fun G149 hp149 => ?_)
              obtain ⟨hz149, hq149⟩ := hp149
              exact zs_vret (pc := 152) C hr hlk dX2_step_152 ⟨by repeat (first | exact zsm_rf | assumption | refine zsm_C (by decide) ?_ | refine zsm_I (by decide) ?_ | refine zsm_J ?_ | refine zsm_c (by assumption) (by decide) ?_), trivial⟩
        · skip
          refine zs_aload_n (pc := 84) C dX2_step_84 rfl ?_
          refine zs_iload_n (pc := 85) C dX2_step_85 rfl ?_
          refine zs_iconst (pc := 86) C dX2_step_86 (by decide) ?_
          first | refine zs_iadd (pc := 87) C dX2_step_87 (by omega) ?_ | refine zs_iaddF (pc := 87) C dX2_step_87 (fun z87 hz871 hz872 => ?_)
          refine zs_iload_n (pc := 88) C dX2_step_88 rfl ?_
          refine zVv2 (pc := 89) C dX2_step_89 v_X2_72 (c_X2_take hX ) (by decide) (by simp only [zrm]; omega) ⟨Nat.zero_le _, Nat.zero_le _⟩ (Nat.le_of_ble_eq_true rfl) (fun G89 hp89 => ?_)
          obtain ⟨hz89, hq89⟩ := hp89
          refine zs_goto (tgt := 152) (pc := 92) C dX2_step_92 (by decide) ?_
          exact zs_vret (pc := 152) C hr hlk dX2_step_152 ⟨by repeat (first | exact zsm_rf | assumption | refine zsm_C (by decide) ?_ | refine zsm_I (by decide) ?_ | refine zsm_J ?_ | refine zsm_c (by assumption) (by decide) ?_), trivial⟩
    · skip
      exact zs_vret (pc := 50) C hr hlk dX2_step_50 ⟨by repeat (first | exact zsm_rf | assumption | refine zsm_C (by decide) ?_ | refine zsm_I (by decide) ?_ | refine zsm_J ?_ | refine zsm_c (by assumption) (by decide) ?_), trivial⟩

set_option maxHeartbeats 4000000 in
set_option maxRecDepth 100000 in
theorem c_X2_seek_s {l : Launch} {Γ : zΓ} {G : zH} {w : Nat} {a b q : Int} (d : Nat) (hX : zXs Γ) (hih : ∀ {G : zH} {w : Nat} {a b q : Int}, (0 ≤ a ∧ a ≤ 3 ∧ 3 < a + d) → zMet l Γ yX2_step cX2_step 8 none (7 + 2 * d + 1) [zr 3 w, zi a, zi b, zi q] G (zpv (fun G' => zsm [510, 810, 811, 2021, 2022, 2023, 2024, 2026, 2027, 2028, 2029, 2030, 2031, 2032, 2033, 2034, 2035, 2048, 2049, 2050, 2051, 2052] G G' ∧ True))) (hp : 0 ≤ a ∧ a ≤ 4 ∧ 4 < a + (d + 1)) : zMet l Γ yX2_seek cX2_seek 6 none (7 + 2 * (d + 1)) [zr 3 w, zi a, zi b, zi q] G (zpv (fun G' => zsm [510, 810, 811, 2021, 2022, 2023, 2024, 2026, 2027, 2028, 2029, 2030, 2031, 2032, 2033, 2034, 2035, 2048, 2049, 2050, 2051, 2052] G G' ∧ True)) := by
  refine zMet_of RX2 hX (by decide) rfl (Nat.le_of_ble_eq_true rfl) ?_
  intro p e s m args below meth c C hr hlk
  show Z p l e (zrm (7 + 2 * (d + 1))) s m args below meth c Γ 6 0 0 (MQ below (zQc Γ (zpv (fun G' => zsm [510, 810, 811, 2021, 2022, 2023, 2024, 2026, 2027, 2028, 2029, 2030, 2031, 2032, 2033, 2034, 2035, 2048, 2049, 2050, 2051, 2052] G G' ∧ True))) args s 0 0 (zA Γ)) 0 [some (zr 3 w), some (zi a), some (zi b), some (zi q), none, none] [] G
  refine zs_loc 1 rfl (fun ha1 hb1 => ?_)
  refine zs_loc 2 rfl (fun ha2 hb2 => ?_)
  refine zs_loc 3 rfl (fun ha3 hb3 => ?_)
  refine zs_iload_n (pc := 0) C dX2_seek_0 rfl ?_
  refine zs_iconst (pc := 1) C dX2_seek_1 (by decide) ?_
  refine zs_icmp_lt (tgt := 6) (pc := 2) C dX2_seek_2 (by decide) (fun h2 => ?_) (fun h2 => ?_)
  · skip
    refine zs_iconst (pc := 6) C dX2_seek_6 (by decide) ?_
    refine zs_istore (pc := 7) C dX2_seek_7 (by decide) ?_
    dsimp only [zset, zclr, znone]
    have L9 : ∀ (nn : Nat) (x4 : Int) (G1 : zH), (0 ≤ x4 ∧ x4 ≤ 5) → (zsm [510, 810, 811, 2021, 2022, 2023, 2024, 2026, 2027, 2028, 2029, 2030, 2031, 2032, 2033, 2034, 2035, 2048, 2049, 2050, 2051, 2052] G G1) → (5 - x4).toNat < nn → Z p l e (zrm (7 + 2 * (d + 1))) s m args below meth c Γ 6 0 0 (MQ below (zQc Γ (zpv (fun G' => zsm [510, 810, 811, 2021, 2022, 2023, 2024, 2026, 2027, 2028, 2029, 2030, 2031, 2032, 2033, 2034, 2035, 2048, 2049, 2050, 2051, 2052] G G' ∧ True))) args s 0 0 (zA Γ)) 9 [some (zr 3 w), some (zi a), some (zi b), some (zi q), some (zi x4), none] [] G1 := by
      intro nn
      induction nn with
      | zero => intro x4 G1 h9_0 h9_1 hm; exact absurd hm (Nat.not_lt_zero _)
      | succ nn ih9 =>
        intro x4 G1 h9_0 h9_1 hm9
        refine zs_iload (pc := 9) C dX2_seek_9 rfl ?_
        refine zs_aload_n (pc := 11) C dX2_seek_11 rfl ?_
        refine zs_getf (pc := 12) C dX2_seek_12 w_X2_27 f_3_0 (by decide) ?_
        refine zs_getd (r := 800) (pc := 15) C dX2_seek_15 w_X2_47 f_8_0 (by decide) rfl (fun v15 e15 t15 => ?_)
        try simp only [h9_1.2, zuI_1, zuI_2, zuJ_1, zuJ_2, zuJ_3, zuP_1, zuP_2, zuP_3, zuC_1, zuC_2, reduceIte, Nat.reduceEqDiff, false_and, and_false, true_and, and_true, and_self, or_true, true_or, or_false, false_or] at e15
        subst e15
        refine zs_getf (pc := 18) C dX2_seek_18 w_X2_84 f_6_2 (by decide) ?_
        refine zs_iconst (pc := 21) C dX2_seek_21 (by decide) ?_
        refine zs_iald (r := 2037) (pc := 22) C dX2_seek_22 a_37 (by decide) (by omega) rfl rfl (fun v22 e22 l22 u22 => ?_)
        have hsz := rs_2037 (1 : Int).toNat
        refine zs_icmp_ge (tgt := 153) (pc := 23) C dX2_seek_23 (by decide) (fun h23 => ?_) (fun h23 => ?_)
        · skip
          exact zs_vret (pc := 153) C hr hlk dX2_seek_153 ⟨by repeat (first | exact zsm_rf | assumption | refine zsm_C (by decide) ?_ | refine zsm_I (by decide) ?_ | refine zsm_J ?_ | refine zsm_c (by assumption) (by decide) ?_), trivial⟩
        · skip
          refine zs_iconst (pc := 26) C dX2_seek_26 (by decide) ?_
          refine zs_istore (pc := 27) C dX2_seek_27 (by decide) ?_
          dsimp only [zset, zclr, znone]
          have L29 : ∀ (nn : Nat) (x5 : Int) (G2 : zH), (0 ≤ x5 ∧ x5 ≤ 4) → (zsm [510, 810, 811, 2021, 2022, 2023, 2024, 2026, 2027, 2028, 2029, 2030, 2031, 2032, 2033, 2034, 2035, 2048, 2049, 2050, 2051, 2052] G G2) → (4 - x5).toNat < nn → Z p l e (zrm (7 + 2 * (d + 1))) s m args below meth c Γ 6 0 0 (MQ below (zQc Γ (zpv (fun G' => zsm [510, 810, 811, 2021, 2022, 2023, 2024, 2026, 2027, 2028, 2029, 2030, 2031, 2032, 2033, 2034, 2035, 2048, 2049, 2050, 2051, 2052] G G' ∧ True))) args s 0 0 (zA Γ)) 29 [some (zr 3 w), some (zi a), some (zi b), some (zi q), some (zi x4), some (zi x5)] [] G2 := by
            intro nn
            induction nn with
            | zero => intro x5 G2 h29_0 h29_1 hm; exact absurd hm (Nat.not_lt_zero _)
            | succ nn ih29 =>
              intro x5 G2 h29_0 h29_1 hm29
              refine zs_iload (pc := 29) C dX2_seek_29 rfl ?_
              refine zs_aload_n (pc := 31) C dX2_seek_31 rfl ?_
              refine zs_getf (pc := 32) C dX2_seek_32 w_X2_27 f_3_0 (by decide) ?_
              refine zs_getd (r := 800) (pc := 35) C dX2_seek_35 w_X2_47 f_8_0 (by decide) rfl (fun v35 e35 t35 => ?_)
              try simp only [h29_1.2, zuI_1, zuI_2, zuJ_1, zuJ_2, zuJ_3, zuP_1, zuP_2, zuP_3, zuC_1, zuC_2, reduceIte, Nat.reduceEqDiff, false_and, and_false, true_and, and_true, and_self, or_true, true_or, or_false, false_or] at e35
              subst e35
              refine zs_getf (pc := 38) C dX2_seek_38 w_X2_84 f_6_2 (by decide) ?_
              refine zs_iconst (pc := 41) C dX2_seek_41 (by decide) ?_
              refine zs_iald (r := 2037) (pc := 42) C dX2_seek_42 a_37 (by decide) (by omega) rfl rfl (fun v42 e42 l42 u42 => ?_)
              have hsz := rs_2037 (0 : Int).toNat
              refine zs_icmp_ge (tgt := 147) (pc := 43) C dX2_seek_43 (by decide) (fun h43 => ?_) (fun h43 => ?_)
              · skip
                first | refine zs_iinc (pc := 147) C dX2_seek_147 rfl (by decide) (by omega) ?_ | refine zs_iincF (pc := 147) C dX2_seek_147 rfl (by decide) (fun z147 hz1471 hz1472 => ?_)
                dsimp only [zset, zclr, znone]
                refine zs_goto (tgt := 9) (pc := 150) C dX2_seek_150 (by decide) ?_
                exact zs_wk (ih9 _ _ (by first | omega | (simp only [zuI_1, zuI_2, zuJ_1, zuJ_2, zuJ_3, zuP_1, zuP_2, zuP_3, zuC_1, zuC_2, reduceIte, Nat.reduceEqDiff, false_and, and_false, true_and, and_true, and_self, or_true, true_or, or_false, false_or]; omega)) (by repeat (first | exact zsm_rf | assumption | refine zsm_C (by decide) ?_ | refine zsm_I (by decide) ?_ | refine zsm_J ?_ | refine zsm_c (by assumption) (by decide) ?_)) (by first | omega | (simp only [zuI_1, zuI_2, zuJ_1, zuJ_2, zuJ_3, zuP_1, zuP_2, zuP_3, zuC_1, zuC_2, reduceIte, Nat.reduceEqDiff, false_and, and_false, true_and, and_true, and_self, or_true, true_or, or_false, false_or]; omega))) (zwk_s rfl (zwk_s rfl (zwk_s rfl (zwk_s rfl (zwk_s rfl (zwk_n zwk_0))))))
              · skip
                refine zs_aload_n (pc := 46) C dX2_seek_46 rfl ?_
                refine zs_getf (pc := 47) C dX2_seek_47 w_X2_24 f_3_5 (by decide) ?_
                refine zs_iload_n (pc := 50) C dX2_seek_50 rfl ?_
                refine zs_iload (pc := 51) C dX2_seek_51 rfl ?_
                refine zs_iconst (pc := 53) C dX2_seek_53 (by decide) ?_
                first | refine zs_imul (pc := 54) C dX2_seek_54 (by omega) ?_ | refine zs_imulF (pc := 54) C dX2_seek_54 (fun z54 hz541 hz542 => ?_)
                refine zs_iload (pc := 55) C dX2_seek_55 rfl ?_
                first | refine zs_iadd (pc := 57) C dX2_seek_57 (by omega) ?_ | refine zs_iaddF (pc := 57) C dX2_seek_57 (fun z57 hz571 hz572 => ?_)
                refine zs_iast (r := 2024) (pc := 58) C dX2_seek_58 a_24 (by decide) (by omega) rfl (r_2024 _) (by omega) ?_
                refine zs_aload_n (pc := 59) C dX2_seek_59 rfl ?_
                refine zs_getf (pc := 60) C dX2_seek_60 w_X2_27 f_3_0 (by decide) ?_
                refine zs_iload (pc := 63) C dX2_seek_63 rfl ?_
                refine zs_iload (pc := 65) C dX2_seek_65 rfl ?_
                refine zVip2 (pc := 67) C dX2_seek_67 v_X2_87 (c_X7_leftOf hX (by first | omega | (simp only [zuI_1, zuI_2, zuJ_1, zuJ_2, zuJ_3, zuP_1, zuP_2, zuP_3, zuC_1, zuC_2, reduceIte, Nat.reduceEqDiff, false_and, and_false, true_and, and_true, and_self, or_true, true_or, or_false, false_or]; omega)) (by first | omega | (simp only [zuI_1, zuI_2, zuJ_1, zuJ_2, zuJ_3, zuP_1, zuP_2, zuP_3, zuC_1, zuC_2, reduceIte, Nat.reduceEqDiff, false_and, and_false, true_and, and_true, and_self, or_true, true_or, or_false, false_or]; omega))) (by decide) (by simp only [zrm]; omega) ⟨Nat.zero_le _, Nat.zero_le _⟩ (Nat.le_of_ble_eq_true rfl) (fun x67 l67 u67 hp67 => ?_)
                have hq67 := hp67
                try simp only [zuI_1, zuI_2, zuJ_1, zuJ_2, zuJ_3, zuP_1, zuP_2, zuP_3, zuC_1, zuC_2, reduceIte, Nat.reduceEqDiff, false_and, and_false, true_and, and_true, and_self, or_true, true_or, or_false, false_or] at hq67
                refine zs_if_le (tgt := 83) (pc := 70) C dX2_seek_70 (by decide) (fun h70 => ?_) (fun h70 => ?_)
                · skip
                  refine zs_aload_n (pc := 83) C dX2_seek_83 rfl ?_
                  refine zs_getf (pc := 84) C dX2_seek_84 w_X2_27 f_3_0 (by decide) ?_
                  refine zs_iload (pc := 87) C dX2_seek_87 rfl ?_
                  refine zs_iload (pc := 89) C dX2_seek_89 rfl ?_
                  refine zVip2 (pc := 91) C dX2_seek_91 v_X2_94 (c_X7_canFall hX (by first | omega | (simp only [zuI_1, zuI_2, zuJ_1, zuJ_2, zuJ_3, zuP_1, zuP_2, zuP_3, zuC_1, zuC_2, reduceIte, Nat.reduceEqDiff, false_and, and_false, true_and, and_true, and_self, or_true, true_or, or_false, false_or]; omega)) (by first | omega | (simp only [zuI_1, zuI_2, zuJ_1, zuJ_2, zuJ_3, zuP_1, zuP_2, zuP_3, zuC_1, zuC_2, reduceIte, Nat.reduceEqDiff, false_and, and_false, true_and, and_true, and_self, or_true, true_or, or_false, false_or]; omega))) (by decide) (by simp only [zrm]; omega) ⟨Nat.zero_le _, Nat.zero_le _⟩ (Nat.le_of_ble_eq_true rfl) (fun x91 l91 u91 hp91 => ?_)
                  have hq91 := hp91
                  try simp only [zuI_1, zuI_2, zuJ_1, zuJ_2, zuJ_3, zuP_1, zuP_2, zuP_3, zuC_1, zuC_2, reduceIte, Nat.reduceEqDiff, false_and, and_false, true_and, and_true, and_self, or_true, true_or, or_false, false_or] at hq91
                  refine zs_if_eq (tgt := 141) (pc := 94) C dX2_seek_94 (by decide) (fun h94 => ?_) (fun h94 => ?_)
                  · skip
                    first | refine zs_iinc (pc := 141) C dX2_seek_141 rfl (by decide) (by omega) ?_ | refine zs_iincF (pc := 141) C dX2_seek_141 rfl (by decide) (fun z141 hz1411 hz1412 => ?_)
                    dsimp only [zset, zclr, znone]
                    refine zs_goto (tgt := 29) (pc := 144) C dX2_seek_144 (by decide) ?_
                    exact zs_wk (ih29 _ _ (by first | omega | (simp only [zuI_1, zuI_2, zuJ_1, zuJ_2, zuJ_3, zuP_1, zuP_2, zuP_3, zuC_1, zuC_2, reduceIte, Nat.reduceEqDiff, false_and, and_false, true_and, and_true, and_self, or_true, true_or, or_false, false_or]; omega)) (by repeat (first | exact zsm_rf | assumption | refine zsm_C (by decide) ?_ | refine zsm_I (by decide) ?_ | refine zsm_J ?_ | refine zsm_c (by assumption) (by decide) ?_)) (by first | omega | (simp only [zuI_1, zuI_2, zuJ_1, zuJ_2, zuJ_3, zuP_1, zuP_2, zuP_3, zuC_1, zuC_2, reduceIte, Nat.reduceEqDiff, false_and, and_false, true_and, and_true, and_self, or_true, true_or, or_false, false_or]; omega))) (zwk_s rfl (zwk_s rfl (zwk_s rfl (zwk_s rfl (zwk_s rfl (zwk_s rfl zwk_0))))))
                  · skip
                    refine zs_aload_n (pc := 97) C dX2_seek_97 rfl ?_
                    refine zs_iload_n (pc := 98) C dX2_seek_98 rfl ?_
                    refine zs_iconst (pc := 99) C dX2_seek_99 (by decide) ?_
                    first | refine zs_iadd (pc := 100) C dX2_seek_100 (by omega) ?_ | refine zs_iaddF (pc := 100) C dX2_seek_100 (fun z100 hz1001 hz1002 => ?_)
                    refine zs_iload_n (pc := 101) C dX2_seek_101 rfl ?_
                    refine zs_iconst (pc := 102) C dX2_seek_102 (by decide) ?_
                    first | refine zs_iadd (pc := 103) C dX2_seek_103 (by omega) ?_ | refine zs_iaddF (pc := 103) C dX2_seek_103 (fun z103 hz1031 hz1032 => ?_)
                    refine zVip2 (pc := 104) C dX2_seek_104 v_X2_98 (c_X2_isBetter hX ) (by decide) (by simp only [zrm]; omega) ⟨Nat.zero_le _, Nat.zero_le _⟩ (Nat.le_of_ble_eq_true rfl) (fun x104 l104 u104 hp104 => ?_)
                    have hq104 := hp104
                    try simp only [zuI_1, zuI_2, zuJ_1, zuJ_2, zuJ_3, zuP_1, zuP_2, zuP_3, zuC_1, zuC_2, reduceIte, Nat.reduceEqDiff, false_and, and_false, true_and, and_true, and_self, or_true, true_or, or_false, false_or] at hq104
                    refine zs_if_eq (tgt := 141) (pc := 107) C dX2_seek_107 (by decide) (fun h107 => ?_) (fun h107 => ?_)
                    · skip
                      first | refine zs_iinc (pc := 141) C dX2_seek_141 rfl (by decide) (by omega) ?_ | refine zs_iincF (pc := 141) C dX2_seek_141 rfl (by decide) (fun z141 hz1411 hz1412 => ?_)
                      dsimp only [zset, zclr, znone]
                      refine zs_goto (tgt := 29) (pc := 144) C dX2_seek_144 (by decide) ?_
                      exact zs_wk (ih29 _ _ (by first | omega | (simp only [zuI_1, zuI_2, zuJ_1, zuJ_2, zuJ_3, zuP_1, zuP_2, zuP_3, zuC_1, zuC_2, reduceIte, Nat.reduceEqDiff, false_and, and_false, true_and, and_true, and_self, or_true, true_or, or_false, false_or]; omega)) (by repeat (first | exact zsm_rf | assumption | refine zsm_C (by decide) ?_ | refine zsm_I (by decide) ?_ | refine zsm_J ?_ | refine zsm_c (by assumption) (by decide) ?_)) (by first | omega | (simp only [zuI_1, zuI_2, zuJ_1, zuJ_2, zuJ_3, zuP_1, zuP_2, zuP_3, zuC_1, zuC_2, reduceIte, Nat.reduceEqDiff, false_and, and_false, true_and, and_true, and_self, or_true, true_or, or_false, false_or]; omega))) (zwk_s rfl (zwk_s rfl (zwk_s rfl (zwk_s rfl (zwk_s rfl (zwk_s rfl zwk_0))))))
                    · skip
                      refine zs_aload_n (pc := 110) C dX2_seek_110 rfl ?_
                      refine zs_getf (pc := 111) C dX2_seek_111 w_X2_27 f_3_0 (by decide) ?_
                      refine zs_iload (pc := 114) C dX2_seek_114 rfl ?_
                      refine zs_iload (pc := 116) C dX2_seek_116 rfl ?_
                      refine zVv2 (pc := 118) C dX2_seek_118 v_X2_101 (c_X7_fallOnce hX (by first | omega | (simp only [zuI_1, zuI_2, zuJ_1, zuJ_2, zuJ_3, zuP_1, zuP_2, zuP_3, zuC_1, zuC_2, reduceIte, Nat.reduceEqDiff, false_and, and_false, true_and, and_true, and_self, or_true, true_or, or_false, false_or]; omega)) (by first | omega | (simp only [zuI_1, zuI_2, zuJ_1, zuJ_2, zuJ_3, zuP_1, zuP_2, zuP_3, zuC_1, zuC_2, reduceIte, Nat.reduceEqDiff, false_and, and_false, true_and, and_true, and_self, or_true, true_or, or_false, false_or]; omega))) (by decide) (by simp only [zrm]; omega) ⟨Nat.zero_le _, Nat.zero_le _⟩ (Nat.le_of_ble_eq_true rfl) (fun G118 hp118 => ?_)
                      obtain ⟨hz118, hq118⟩ := hp118
                      try simp only [zuI_1, zuI_2, zuJ_1, zuJ_2, zuJ_3, zuP_1, zuP_2, zuP_3, zuC_1, zuC_2, reduceIte, Nat.reduceEqDiff, false_and, and_false, true_and, and_true, and_self, or_true, true_or, or_false, false_or] at hq118
                      refine zs_aload_n (pc := 121) C dX2_seek_121 rfl ?_
                      refine zs_iload_n (pc := 122) C dX2_seek_122 rfl ?_
                      refine zs_iload_n (pc := 123) C dX2_seek_123 rfl ?_
                      refine zs_iconst (pc := 124) C dX2_seek_124 (by decide) ?_
                      first | refine zs_iadd (pc := 125) C dX2_seek_125 (by omega) ?_ | refine zs_iaddF (pc := 125) C dX2_seek_125 (fun z125 hz1251 hz1252 => ?_)
                      refine zs_iload_n (pc := 126) C dX2_seek_126 rfl ?_
                      refine zVv3 (pc := 127) C dX2_seek_127 v_X2_91 (hih (by omega)) (by decide) (by simp only [zrm]; omega) ⟨Nat.zero_le _, Nat.zero_le _⟩ (Nat.le_of_ble_eq_true rfl) (fun G127 hp127 => ?_)
                      obtain ⟨hz127, hq127⟩ := hp127
                      refine zs_aload_n (pc := 130) C dX2_seek_130 rfl ?_
                      refine zs_getf (pc := 131) C dX2_seek_131 w_X2_27 f_3_0 (by decide) ?_
                      refine zs_iload (pc := 134) C dX2_seek_134 rfl ?_
                      refine zs_iload (pc := 136) C dX2_seek_136 rfl ?_
                      refine zVv2 (pc := 138) C dX2_seek_138 v_X2_104 (c_X7_unfall hX (by omega) (by omega)) (by decide) (by simp only [zrm]; omega) ⟨Nat.zero_le _, Nat.zero_le _⟩ (Nat.le_of_ble_eq_true rfl) (fun G138 hp138 => ?_)
                      obtain ⟨hz138, hq138⟩ := hp138
                      first | refine zs_iinc (pc := 141) C dX2_seek_141 rfl (by decide) (by omega) ?_ | refine zs_iincF (pc := 141) C dX2_seek_141 rfl (by decide) (fun z141 hz1411 hz1412 => ?_)
                      dsimp only [zset, zclr, znone]
                      refine zs_goto (tgt := 29) (pc := 144) C dX2_seek_144 (by decide) ?_
                      exact zs_wk (ih29 _ _ (by first | omega | (simp only [zuI_1, zuI_2, zuJ_1, zuJ_2, zuJ_3, zuP_1, zuP_2, zuP_3, zuC_1, zuC_2, reduceIte, Nat.reduceEqDiff, false_and, and_false, true_and, and_true, and_self, or_true, true_or, or_false, false_or]; omega)) (by repeat (first | exact zsm_rf | assumption | refine zsm_C (by decide) ?_ | refine zsm_I (by decide) ?_ | refine zsm_J ?_ | refine zsm_c (by assumption) (by decide) ?_)) (by first | omega | (simp only [zuI_1, zuI_2, zuJ_1, zuJ_2, zuJ_3, zuP_1, zuP_2, zuP_3, zuC_1, zuC_2, reduceIte, Nat.reduceEqDiff, false_and, and_false, true_and, and_true, and_self, or_true, true_or, or_false, false_or]; omega))) (zwk_s rfl (zwk_s rfl (zwk_s rfl (zwk_s rfl (zwk_s rfl (zwk_s rfl zwk_0))))))
                · skip
                  refine zs_aload_n (pc := 73) C dX2_seek_73 rfl ?_
                  refine zs_iload_n (pc := 74) C dX2_seek_74 rfl ?_
                  refine zs_iload_n (pc := 75) C dX2_seek_75 rfl ?_
                  refine zs_iload_n (pc := 76) C dX2_seek_76 rfl ?_
                  refine zVv3 (pc := 77) C dX2_seek_77 v_X2_91 (hih (by omega)) (by decide) (by simp only [zrm]; omega) ⟨Nat.zero_le _, Nat.zero_le _⟩ (Nat.le_of_ble_eq_true rfl) (fun G77 hp77 => ?_)
                  obtain ⟨hz77, hq77⟩ := hp77
                  try simp only [zuI_1, zuI_2, zuJ_1, zuJ_2, zuJ_3, zuP_1, zuP_2, zuP_3, zuC_1, zuC_2, reduceIte, Nat.reduceEqDiff, false_and, and_false, true_and, and_true, and_self, or_true, true_or, or_false, false_or] at hq77
                  refine zs_goto (tgt := 141) (pc := 80) C dX2_seek_80 (by decide) ?_
                  first | refine zs_iinc (pc := 141) C dX2_seek_141 rfl (by decide) (by omega) ?_ | refine zs_iincF (pc := 141) C dX2_seek_141 rfl (by decide) (fun z141 hz1411 hz1412 => ?_)
                  dsimp only [zset, zclr, znone]
                  refine zs_goto (tgt := 29) (pc := 144) C dX2_seek_144 (by decide) ?_
                  exact zs_wk (ih29 _ _ (by first | omega | (simp only [zuI_1, zuI_2, zuJ_1, zuJ_2, zuJ_3, zuP_1, zuP_2, zuP_3, zuC_1, zuC_2, reduceIte, Nat.reduceEqDiff, false_and, and_false, true_and, and_true, and_self, or_true, true_or, or_false, false_or]; omega)) (by repeat (first | exact zsm_rf | assumption | refine zsm_C (by decide) ?_ | refine zsm_I (by decide) ?_ | refine zsm_J ?_ | refine zsm_c (by assumption) (by decide) ?_)) (by first | omega | (simp only [zuI_1, zuI_2, zuJ_1, zuJ_2, zuJ_3, zuP_1, zuP_2, zuP_3, zuC_1, zuC_2, reduceIte, Nat.reduceEqDiff, false_and, and_false, true_and, and_true, and_self, or_true, true_or, or_false, false_or]; omega))) (zwk_s rfl (zwk_s rfl (zwk_s rfl (zwk_s rfl (zwk_s rfl (zwk_s rfl zwk_0))))))
          exact zs_wk (L29 _ _ _ (by first | omega | (simp only [zuI_1, zuI_2, zuJ_1, zuJ_2, zuJ_3, zuP_1, zuP_2, zuP_3, zuC_1, zuC_2, reduceIte, Nat.reduceEqDiff, false_and, and_false, true_and, and_true, and_self, or_true, true_or, or_false, false_or]; omega)) (by repeat (first | exact zsm_rf | assumption | refine zsm_C (by decide) ?_ | refine zsm_I (by decide) ?_ | refine zsm_J ?_ | refine zsm_c (by assumption) (by decide) ?_)) (Nat.lt_succ_self _)) (zwk_s rfl (zwk_s rfl (zwk_s rfl (zwk_s rfl (zwk_s rfl (zwk_s rfl zwk_0))))))
    exact zs_wk (L9 _ _ _ (by first | omega | (simp only [zuI_1, zuI_2, zuJ_1, zuJ_2, zuJ_3, zuP_1, zuP_2, zuP_3, zuC_1, zuC_2, reduceIte, Nat.reduceEqDiff, false_and, and_false, true_and, and_true, and_self, or_true, true_or, or_false, false_or]; omega)) (by repeat (first | exact zsm_rf | assumption | refine zsm_C (by decide) ?_ | refine zsm_I (by decide) ?_ | refine zsm_J ?_ | refine zsm_c (by assumption) (by decide) ?_)) (Nat.lt_succ_self _)) (zwk_s rfl (zwk_s rfl (zwk_s rfl (zwk_s rfl (zwk_s rfl (zwk_n zwk_0))))))
  · skip
    exact zs_vret (pc := 5) C hr hlk dX2_seek_5 ⟨by repeat (first | exact zsm_rf | assumption | refine zsm_C (by decide) ?_ | refine zsm_I (by decide) ?_ | refine zsm_J ?_ | refine zsm_c (by assumption) (by decide) ?_), trivial⟩

theorem c_X2_seek_all {l : Launch} {Γ : zΓ} (hX : zXs Γ) : ∀ (d : Nat) {G : zH} {w : Nat} {a b q : Int}, (0 ≤ a ∧ a ≤ 4 ∧ 4 < a + d) → zMet l Γ yX2_seek cX2_seek 6 none (7 + 2 * d) [zr 3 w, zi a, zi b, zi q] G (zpv (fun G' => zsm [510, 810, 811, 2021, 2022, 2023, 2024, 2026, 2027, 2028, 2029, 2030, 2031, 2032, 2033, 2034, 2035, 2048, 2049, 2050, 2051, 2052] G G' ∧ True))
  | 0, G, w, a, b, q, h => absurd h (by omega)
  | d + 1, G, w, a, b, q, h => c_X2_seek_s d hX (fun h2 => c_X2_step_s d hX (fun h => c_X2_seek_all hX d h) h2) (by omega)
theorem c_X2_seek {l : Launch} {Γ : zΓ} {G : zH} {w : Nat} {a b q : Int} (hX : zXs Γ) (h : 0 ≤ a ∧ a ≤ 4) : zMet l Γ yX2_seek cX2_seek 6 none 17 [zr 3 w, zi a, zi b, zi q] G (zpv (fun G' => zsm [510, 810, 811, 2021, 2022, 2023, 2024, 2026, 2027, 2028, 2029, 2030, 2031, 2032, 2033, 2034, 2035, 2048, 2049, 2050, 2051, 2052] G G' ∧ True)) := c_X2_seek_all hX 5 (by omega)

